/-! What the class answers: X3_isKind. -/
set_option maxRecDepth 100000 in
set_option maxHeartbeats 4000000 in
theorem f_X3_isKind (G : GT) (P : PH) (o0 : Nat) (a1 : Int) (k_o0 : kx o0 29) (h_a1 : (-2147483648) ≤ a1 ∧ a1 ≤ 2147483647) (hB : BdX P) (Q : Option PV → PH → Prop) (hQ : ∀ (r : Int) (_ : 0 ≤ r ∧ r ≤ 1) (_ : r = 0 ∨ (0 ≤ a1 ∧ a1 < P o0 9)) (_ : (r = 1 ∧ 0 ≤ a1 ∧ a1 < P o0 9) ∨ (r = 0 ∧ (a1 < 0 ∨ P o0 9 ≤ a1))), Q (some (vI r)) P) : Ct WSX G 1 iX3_isKind [vR o0, vI a1] P Q := by
  refine Ct.of (by decide) (l0 := [(0, vR o0), (1, vI a1)]) rfl (Nat.le_of_ble_eq_true rfl) ?_
  refine g_iload_n dX3_isKind_0 rfl ?_
  refine g_if_lt (tgt := 16) dX3_isKind_1 (by decide) ⟨by omega, by omega⟩ (fun k1 => ?_) (fun k1 => ?_)
  · refine g_iconst dX3_isKind_16 ?_
    exact g_retZ dX3_isKind_17 rfl (by decide) (hQ 0 (by decide) (by omega) (by omega))
  · refine g_iload_n dX3_isKind_4 rfl ?_
    refine g_aload_n dX3_isKind_5 rfl ?_
    refine x_g29_9 (z := (P o0 9)) k_o0 ffX3_39 dX3_isKind_6 rfl ?_
    have f2 := bx_29_9 (o := o0) hB k_o0
    refine g_icmp_ge (tgt := 16) dX3_isKind_9 (by decide) ⟨by omega, by omega⟩ ⟨by have q0 := bx_29_9 (o := o0) hB k_o0; omega, by have q0 := bx_29_9 (o := o0) hB k_o0; omega⟩ (fun k3 => ?_) (fun k3 => ?_)
    · refine g_iconst dX3_isKind_16 ?_
      exact g_retZ dX3_isKind_17 rfl (by decide) (hQ 0 (by decide) (by omega) (by omega))
    · refine g_iconst dX3_isKind_12 ?_
      refine g_goto (tgt := 17) dX3_isKind_13 (by decide) ?_
      exact g_retZ dX3_isKind_17 rfl (by decide) (hQ 1 (by decide) (by omega) (by omega))
/-! What the class answers: X3_sizeOf. -/
set_option maxRecDepth 100000 in
set_option maxHeartbeats 4000000 in
theorem f_X3_sizeOf (G : GT) (P : PH) (K : PH) (o0 : Nat) (a1 : Int) (k_o0 : kx o0 29) (h_a1 : (-2147483648) ≤ a1 ∧ a1 ≤ 2147483647) (hB : BdX P) (p_kb : -1 ≤ a1 ∧ a1 < K 0 0) (z0 : XK K o0 P) (Q : Option PV → PH → Prop) (hQ : ∀ (r : Int) (_ : (-2147483648) ≤ r ∧ r ≤ 2147483647) (_ : r = sz K a1), Q (some (vI r)) P) : Ct WSX G 1 iX3_sizeOf [vR o0, vI a1] P Q := by
  refine Ct.of (by decide) (l0 := [(0, vR o0), (1, vI a1)]) rfl (Nat.le_of_ble_eq_true rfl) ?_
  have hb := z0.b
  have hk : 0 ≤ a1 → P (crX o0 3) a1 = K 2 a1 := fun h => (z0.k h p_kb.2).2.2.2
  have hsz := sz_s K a1
  refine g_iload_n dX3_sizeOf_0 rfl ?_
  refine g_iconst dX3_sizeOf_1 ?_
  refine g_icmp_ne (tgt := 8) dX3_sizeOf_2 (by decide) ⟨by (clear hb hk hsz; omega), by (clear hb hk hsz; omega)⟩ (by decide) (fun k1 => ?_) (fun k1 => ?_)
  · skip
    refine g_iload_n dX3_sizeOf_8 rfl ?_
    refine g_if_lt (tgt := 29) dX3_sizeOf_9 (by decide) ⟨by (clear hb hk hsz k1; omega), by (clear hb hk hsz k1; omega)⟩ (fun k2 => ?_) (fun k2 => ?_)
    · have r_hsz := (hsz.resolve_right (by (clear hb hk hsz k1; omega)))
      refine g_iconst dX3_sizeOf_29 ?_
      exact g_retI dX3_sizeOf_30 rfl (hQ 0 (by decide) (by (clear hb hk hsz; omega)))
    · have r_hsz := (hsz.resolve_left (by (clear hb hk hsz k1; omega)))
      refine g_iload_n dX3_sizeOf_12 rfl ?_
      refine g_aload_n dX3_sizeOf_13 rfl ?_
      refine x_g29_9 (z := (P o0 9)) k_o0 ffX3_39 dX3_sizeOf_14 rfl ?_
      have f3 := bx_29_9 (o := o0) hB k_o0
      refine g_icmp_ge (tgt := 29) dX3_sizeOf_17 (by decide) ⟨by (clear hb hk hsz k1; omega), by (clear hb hk hsz k1; omega)⟩ ⟨by have q0 := bx_29_9 (o := o0) hB k_o0; (clear hb hk hsz k1; omega), by have q0 := bx_29_9 (o := o0) hB k_o0; (clear hb hk hsz k1; omega)⟩ (fun k4 => ?_) (fun k4 => ?_)
      · skip
        refine g_iconst dX3_sizeOf_29 ?_
        exact g_retI dX3_sizeOf_30 rfl (hQ 0 (by decide) (by (clear hk hsz k1; omega)))
      · skip
        refine g_aload_n dX3_sizeOf_20 rfl ?_
        refine x_g29_3 (n := (crX o0 3)) k_o0 ffX3_21 dX3_sizeOf_21 rfl ?_
        refine g_iload_n dX3_sizeOf_24 rfl ?_
        refine x_l33 (z := (P (crX o0 3) a1)) (ck_29_3 k_o0) dX3_sizeOf_25 ⟨by (clear hb hk hsz k1; omega), by (clear hb hk hsz k1; omega)⟩ rfl ?_
        refine g_goto (tgt := 30) dX3_sizeOf_26 (by decide) ?_
        exact g_retI dX3_sizeOf_30 rfl (hQ (P (crX o0 3) a1) ⟨by have q0 := bx_33 (o := (crX o0 3)) (k := a1) hB (ck_29_3 k_o0); (clear hb hk hsz k1; omega), by have q0 := bx_33 (o := (crX o0 3)) (k := a1) hB (ck_29_3 k_o0); (clear hb hk hsz k1; omega)⟩ (by have q0 := bx_33 (o := (crX o0 3)) (k := a1) hB (ck_29_3 k_o0); (clear hb hsz k1; omega)))
  · skip
    refine g_bipush dX3_sizeOf_5 (by decide) ?_
    exact g_retI dX3_sizeOf_7 rfl (hQ 20 (by decide) (by (clear hb hk; omega)))
/-! What the class answers: X3_consOf. -/
set_option maxRecDepth 100000 in
set_option maxHeartbeats 4000000 in
theorem f_X3_consOf (G : GT) (P : PH) (K : PH) (o0 : Nat) (a1 : Int) (k_o0 : kx o0 29) (h_a1 : (-2147483648) ≤ a1 ∧ a1 ≤ 2147483647) (hB : BdX P) (z0 : XK K o0 P) (Q : Option PV → PH → Prop) (hQ : ∀ (r : Int) (_ : (-2147483648) ≤ r ∧ r ≤ 2147483647) (_ : (0 ≤ a1 ∧ a1 < K 0 0 ∧ r = K 3 a1) ∨ ((a1 < 0 ∨ K 0 0 ≤ a1) ∧ r = 0)), Q (some (vI r)) P) : Ct WSX G 2 iX3_consOf [vR o0, vI a1] P Q := by
  refine Ct.of (by decide) (l0 := [(0, vR o0), (1, vI a1)]) rfl (Nat.le_of_ble_eq_true rfl) ?_
  have hb := z0.b
  have hk : 0 ≤ a1 → a1 < K 0 0 → P (crX o0 2) a1 = K 3 a1 := fun h h1 => (z0.k h h1).2.2.1
  refine g_aload_n dX3_consOf_0 rfl ?_
  refine g_iload_n dX3_consOf_1 rfl ?_
  refine g_vI (av := [vI a1]) (o := o0) (st := []) (f_X3_isKind G P o0 a1 k_o0 ⟨by (clear hb hk; omega), by (clear hb hk; omega)⟩ hB  _ (fun rc1 hc1 gc1_k gc1_f => ⟨rc1, rfl, ?_⟩)) cf_X3_isKind t_760 rfl (show kx o0 29 from k_o0).1 ((show kx o0 29 from k_o0).sh rfl) rfl rfl (Nat.le_of_ble_eq_true rfl) (by decide) rfl dX3_consOf_2
  have f2 := bx_29_9 (o := o0) hB k_o0
  refine g_if_eq (tgt := 17) dX3_consOf_5 (by decide) ⟨by (clear hb hk gc1_k gc1_f; omega), by (clear hb hk gc1_k gc1_f; omega)⟩ (fun k3 => ?_) (fun k3 => ?_)
  · have r_gc1_f := (gc1_f.resolve_left (by (clear hb hk gc1_k gc1_f; omega)))
    have r_gc1_k := (gc1_k.resolve_right (by (clear hb hk gc1_k gc1_f; omega)))
    refine g_iconst dX3_consOf_17 ?_
    exact g_retI dX3_consOf_18 rfl (hQ 0 (by decide) (by (clear hk gc1_k gc1_f; omega)))
  · have k3n : 1 ≤ rc1 := by (clear hb hk gc1_k gc1_f; omega)
    clear k3
    have r_gc1_f := (gc1_f.resolve_right (by (clear hb hk gc1_k gc1_f; omega)))
    have r_gc1_k := (gc1_k.resolve_left (by (clear hb hk gc1_k gc1_f; omega)))
    refine g_aload_n dX3_consOf_8 rfl ?_
    refine x_g29_2 (n := (crX o0 2)) k_o0 ffX3_18 dX3_consOf_9 rfl ?_
    refine g_iload_n dX3_consOf_12 rfl ?_
    refine x_l32 (z := (P (crX o0 2) a1)) (ck_29_2 k_o0) dX3_consOf_13 ⟨by (clear hb hk gc1_k gc1_f; omega), by (clear hb hk gc1_k gc1_f; omega)⟩ rfl ?_
    refine g_goto (tgt := 18) dX3_consOf_14 (by decide) ?_
    exact g_retI dX3_consOf_18 rfl (hQ (P (crX o0 2) a1) ⟨by have q0 := bx_32 (o := (crX o0 2)) (k := a1) hB (ck_29_2 k_o0); (clear hb hk gc1_k gc1_f; omega), by have q0 := bx_32 (o := (crX o0 2)) (k := a1) hB (ck_29_2 k_o0); (clear hb hk gc1_k gc1_f; omega)⟩ (by have q0 := bx_32 (o := (crX o0 2)) (k := a1) hB (ck_29_2 k_o0); (omega)))
/-! What the class answers: X3_kindNamed. -/
set_option maxRecDepth 100000 in
set_option maxHeartbeats 4000000 in
theorem f_X3_kindNamed (G : GT) (P : PH) (K : PH) (o0 : Nat) (a1 : Int) (k_o0 : kx o0 29) (h_a1 : (-2147483648) ≤ a1 ∧ a1 ≤ 2147483647) (hB : BdX P) (z0 : XK K o0 P) (Q : Option PV → PH → Prop) (hQ : ∀ (r : Int) (_ : (-1) ≤ r ∧ r ≤ 3) (_ : r = kNm K a1), Q (some (vI r)) P) : Ct WSX G 1 iX3_kindNamed [vR o0, vI a1] P Q := by
  refine Ct.of (by decide) (l0 := [(0, vR o0), (1, vI a1)]) rfl (Nat.le_of_ble_eq_true rfl) ?_
  refine g_iconst dX3_kindNamed_0 ?_
  refine g_istore_n (l1 := [(2, vI 0), (0, vR o0), (1, vI a1)]) dX3_kindNamed_1 (by decide) rfl ?_
  have L2_0 : ∀ (n2_0 : Nat) (x2_2_0 : Int) (h_x2_2_0 : 0 ≤ x2_2_0 ∧ x2_2_0 ≤ 4) (i2_0_0 : ∀ q : Int, 0 ≤ q → q < x2_2_0 → P (crX o0 0) q ≠ a1) (hm2_0 : ((5 - x2_2_0) : Int).toNat < n2_0), Go WSX G 1 iX3_kindNamed 2 [(0, vR o0), (1, vI a1), (2, vI x2_2_0)] [] P Q := by
    intro n2_0
    induction n2_0 with
    | zero => intro x2_2_0 h_x2_2_0 i2_0_0 hm2_0; exact absurd hm2_0 (Nat.not_lt_zero _)
    | succ n2_0 ih2_0 =>
    intro x2_2_0 h_x2_2_0 i2_0_0 hm2_0
    refine g_iload_n dX3_kindNamed_2 rfl ?_
    refine g_aload_n dX3_kindNamed_3 rfl ?_
    refine x_g29_9 (z := (P o0 9)) k_o0 ffX3_39 dX3_kindNamed_4 rfl ?_
    have f30 := bx_29_9 (o := o0) hB k_o0
    refine g_icmp_ge (tgt := 28) dX3_kindNamed_7 (by decide) ⟨by omega, by omega⟩ ⟨by have q0 := bx_29_9 (o := o0) hB k_o0; omega, by have q0 := bx_29_9 (o := o0) hB k_o0; omega⟩ (fun k31 => ?_) (fun k31 => ?_)
    · refine g_iconst dX3_kindNamed_28 ?_
      exact g_retI dX3_kindNamed_29 rfl (hQ (-1) (by decide) ((fxi_none (g := fun i => P (crX o0 0) i) _ (fun q q0 q1 => i2_0_0 q q0 (by omega))).symm.trans (z0.kn a1)))
    · refine g_aload_n dX3_kindNamed_10 rfl ?_
      refine x_g29_0 (n := (crX o0 0)) k_o0 ffX3_9 dX3_kindNamed_11 rfl ?_
      refine g_iload_n dX3_kindNamed_14 rfl ?_
      refine x_l30 (z := (P (crX o0 0) x2_2_0)) (ck_29_0 k_o0) dX3_kindNamed_15 ⟨by omega, by omega⟩ rfl ?_
      refine g_iload_n dX3_kindNamed_16 rfl ?_
      have f32 := bx_30 (o := (crX o0 0)) (k := x2_2_0) hB (ck_29_0 k_o0)
      refine g_icmp_ne (tgt := 22) dX3_kindNamed_17 (by decide) ⟨by have q0 := bx_30 (o := (crX o0 0)) (k := x2_2_0) hB (ck_29_0 k_o0); omega, by have q0 := bx_30 (o := (crX o0 0)) (k := x2_2_0) hB (ck_29_0 k_o0); omega⟩ ⟨by omega, by omega⟩ (fun k33 => ?_) (fun k33 => ?_)
      · have hnx : ∀ q : Int, 0 ≤ q → q < x2_2_0 + 1 → P (crX o0 0) q ≠ a1 := by
          intro q q0 q1
          by_cases e : q = x2_2_0
          · rw [e]; (omega)
          · exact i2_0_0 q q0 (by (clear k33; omega))
        refine g_iinc (l1 := [(2, vI (x2_2_0 + 1)), (0, vR o0), (1, vI a1)]) dX3_kindNamed_22 rfl (by decide) rfl ?_
        refine g_goto (tgt := 2) dX3_kindNamed_25 (by decide) ?_
        refine g_forget (l1 := [(0, vR o0), (1, vI a1), (2, vI (x2_2_0 + 1))]) (by intro q hq; simp only [List.mem_cons, List.not_mem_nil, or_false] at hq ⊢; rcases hq with rfl | rfl | rfl <;> simp) ?_
        exact ih2_0 (x2_2_0 + 1) ⟨by (clear k33; omega), by (clear k33; omega)⟩ (by first | exact hnx | (intro q q0 q1; exfalso; (first | (clear k33; omega) | omega))) (by (clear k33; omega))
      · refine g_iload_n dX3_kindNamed_20 rfl ?_
        exact g_retI dX3_kindNamed_21 rfl (hQ x2_2_0 ⟨by (clear k33; omega), by (clear k33; omega)⟩ ((fxi_some (g := fun i => P (crX o0 0) i) (by (clear k33; omega)) (by show P (crX o0 0) _ = a1; (omega)) (fun q q0 q1 => i2_0_0 q q0 q1) _ (by (clear k33; omega))).symm.trans (z0.kn a1)))
  refine g_forget (l1 := [(0, vR o0), (1, vI a1), (2, vI 0)]) (by intro q hq; simp only [List.mem_cons, List.not_mem_nil, or_false] at hq ⊢; rcases hq with rfl | rfl | rfl <;> simp) ?_
  exact L2_0 _ 0 (by decide) (by first | exact hnx | (intro q q0 q1; exfalso; omega)) (Nat.lt_succ_self _)
/-! What the class answers: X3_conNamed. -/
set_option maxRecDepth 100000 in
set_option maxHeartbeats 4000000 in
theorem f_X3_conNamed (G : GT) (P : PH) (K : PH) (o0 : Nat) (a1 : Int) (k_o0 : kx o0 29) (h_a1 : (-2147483648) ≤ a1 ∧ a1 ≤ 2147483647) (hB : BdX P) (z0 : XK K o0 P) (Q : Option PV → PH → Prop) (hQ : ∀ (r : Int) (_ : (-1) ≤ r ∧ r ≤ 23) (_ : r = cNm K a1), Q (some (vI r)) P) : Ct WSX G 1 iX3_conNamed [vR o0, vI a1] P Q := by
  refine Ct.of (by decide) (l0 := [(0, vR o0), (1, vI a1)]) rfl (Nat.le_of_ble_eq_true rfl) ?_
  refine g_iconst dX3_conNamed_0 ?_
  refine g_istore_n (l1 := [(2, vI 0), (0, vR o0), (1, vI a1)]) dX3_conNamed_1 (by decide) rfl ?_
  have L2_0 : ∀ (n2_0 : Nat) (x2_2_0 : Int) (h_x2_2_0 : 0 ≤ x2_2_0 ∧ x2_2_0 ≤ 24) (i2_0_0 : ∀ q : Int, 0 ≤ q → q < x2_2_0 → P (crX o0 4) q ≠ a1) (hm2_0 : ((25 - x2_2_0) : Int).toNat < n2_0), Go WSX G 1 iX3_conNamed 2 [(0, vR o0), (1, vI a1), (2, vI x2_2_0)] [] P Q := by
    intro n2_0
    induction n2_0 with
    | zero => intro x2_2_0 h_x2_2_0 i2_0_0 hm2_0; exact absurd hm2_0 (Nat.not_lt_zero _)
    | succ n2_0 ih2_0 =>
    intro x2_2_0 h_x2_2_0 i2_0_0 hm2_0
    refine g_iload_n dX3_conNamed_2 rfl ?_
    refine g_aload_n dX3_conNamed_3 rfl ?_
    refine x_g29_10 (z := (P o0 10)) k_o0 ffX3_43 dX3_conNamed_4 rfl ?_
    have f42 := bx_29_10 (o := o0) hB k_o0
    refine g_icmp_ge (tgt := 28) dX3_conNamed_7 (by decide) ⟨by omega, by omega⟩ ⟨by have q0 := bx_29_10 (o := o0) hB k_o0; omega, by have q0 := bx_29_10 (o := o0) hB k_o0; omega⟩ (fun k43 => ?_) (fun k43 => ?_)
    · refine g_iconst dX3_conNamed_28 ?_
      exact g_retI dX3_conNamed_29 rfl (hQ (-1) (by decide) ((fxi_none (g := fun i => P (crX o0 4) i) _ (fun q q0 q1 => i2_0_0 q q0 (by omega))).symm.trans (z0.cn a1)))
    · refine g_aload_n dX3_conNamed_10 rfl ?_
      refine x_g29_4 (n := (crX o0 4)) k_o0 ffX3_24 dX3_conNamed_11 rfl ?_
      refine g_iload_n dX3_conNamed_14 rfl ?_
      refine x_l34 (z := (P (crX o0 4) x2_2_0)) (ck_29_4 k_o0) dX3_conNamed_15 ⟨by omega, by omega⟩ rfl ?_
      refine g_iload_n dX3_conNamed_16 rfl ?_
      have f44 := bx_34 (o := (crX o0 4)) (k := x2_2_0) hB (ck_29_4 k_o0)
      refine g_icmp_ne (tgt := 22) dX3_conNamed_17 (by decide) ⟨by have q0 := bx_34 (o := (crX o0 4)) (k := x2_2_0) hB (ck_29_4 k_o0); omega, by have q0 := bx_34 (o := (crX o0 4)) (k := x2_2_0) hB (ck_29_4 k_o0); omega⟩ ⟨by omega, by omega⟩ (fun k45 => ?_) (fun k45 => ?_)
      · have hnx : ∀ q : Int, 0 ≤ q → q < x2_2_0 + 1 → P (crX o0 4) q ≠ a1 := by
          intro q q0 q1
          by_cases e : q = x2_2_0
          · rw [e]; (omega)
          · exact i2_0_0 q q0 (by (clear k45; omega))
        refine g_iinc (l1 := [(2, vI (x2_2_0 + 1)), (0, vR o0), (1, vI a1)]) dX3_conNamed_22 rfl (by decide) rfl ?_
        refine g_goto (tgt := 2) dX3_conNamed_25 (by decide) ?_
        refine g_forget (l1 := [(0, vR o0), (1, vI a1), (2, vI (x2_2_0 + 1))]) (by intro q hq; simp only [List.mem_cons, List.not_mem_nil, or_false] at hq ⊢; rcases hq with rfl | rfl | rfl <;> simp) ?_
        exact ih2_0 (x2_2_0 + 1) ⟨by (clear k45; omega), by (clear k45; omega)⟩ (by first | exact hnx | (intro q q0 q1; exfalso; (first | (clear k45; omega) | omega))) (by (clear k45; omega))
      · refine g_iload_n dX3_conNamed_20 rfl ?_
        exact g_retI dX3_conNamed_21 rfl (hQ x2_2_0 ⟨by (clear k45; omega), by (clear k45; omega)⟩ ((fxi_some (g := fun i => P (crX o0 4) i) (by (clear k45; omega)) (by show P (crX o0 4) _ = a1; (omega)) (fun q q0 q1 => i2_0_0 q q0 q1) _ (by (clear k45; omega))).symm.trans (z0.cn a1)))
  refine g_forget (l1 := [(0, vR o0), (1, vI a1), (2, vI 0)]) (by intro q hq; simp only [List.mem_cons, List.not_mem_nil, or_false] at hq ⊢; rcases hq with rfl | rfl | rfl <;> simp) ?_
  exact L2_0 _ 0 (by decide) (by first | exact hnx | (intro q q0 q1; exfalso; omega)) (Nat.lt_succ_self _)
/-! What the class answers: X3_conNamedOf. -/
set_option maxRecDepth 100000 in
set_option maxHeartbeats 4000000 in
theorem f_X3_conNamedOf (G : GT) (P : PH) (K : PH) (o0 : Nat) (a1 : Int) (a2 : Int) (k_o0 : kx o0 29) (h_a1 : (-2147483648) ≤ a1 ∧ a1 ≤ 2147483647) (h_a2 : (-2147483648) ≤ a2 ∧ a2 ≤ 2147483647) (hB : BdX P) (p_aw : AW K) (p_kb : 0 ≤ a1 ∧ a1 < K 0 0) (z0 : XK K o0 P) (Q : Option PV → PH → Prop) (hQ : ∀ (r : Int) (_ : (-1) ≤ r ∧ r ≤ 23) (_ : (r = -1 ∧ (cNm K a2 = -1 ∨ K 5 (cNm K a2) ≠ a1)) ∨ (r = cNm K a2 ∧ 0 ≤ r ∧ r < K 0 1 ∧ K 5 (cNm K a2) = a1)), Q (some (vI r)) P) : Ct WSX G 2 iX3_conNamedOf [vR o0, vI a1, vI a2] P Q := by
  refine Ct.of (by decide) (l0 := [(0, vR o0), (1, vI a1), (2, vI a2)]) rfl (Nat.le_of_ble_eq_true rfl) ?_
  have hb := z0.b
  have hb9 := p_aw.2.1 a1 p_kb.1 p_kb.2
  have hk0 := p_aw.1
  have hk := z0.k p_kb.1 p_kb.2
  have hcb := cNm_b p_aw a2
  have hif := p_aw.2.2.2 (cNm K a2) a1
  have hif2 : cNm K a2 = -1 ∨ (K 5 (cNm K a2) = a1 ∧ K 9 a1 ≤ cNm K a2 ∧ cNm K a2 < K 9 a1 + K 3 a1) ∨ (K 5 (cNm K a2) ≠ a1 ∧ ¬ (K 9 a1 ≤ cNm K a2 ∧ cNm K a2 < K 9 a1 + K 3 a1)) := by
    by_cases z : cNm K a2 = -1
    · exact Or.inl z
    · have q := hif (by (clear hb; omega)) (by (clear hb; omega)) p_kb.1 p_kb.2
      by_cases w : K 5 (cNm K a2) = a1
      · exact Or.inr (Or.inl ⟨w, q.mp w⟩)
      · exact Or.inr (Or.inr ⟨w, fun u => w (q.mpr u)⟩)
  clear hif
  refine g_aload_n dX3_conNamedOf_0 rfl ?_
  refine g_iload_n dX3_conNamedOf_1 rfl ?_
  refine g_vI (av := [vI a2]) (o := o0) (st := []) (f_X3_conNamed G P K o0 a2 k_o0 ⟨by (clear hb hif2; omega), by (clear hb hif2; omega)⟩ hB (z0) _ (fun rc1 hc1 gc1_fx => ⟨rc1, rfl, ?_⟩)) cf_X3_conNamed t_831 rfl (show kx o0 29 from k_o0).1 ((show kx o0 29 from k_o0).sh rfl) rfl rfl (Nat.le_of_ble_eq_true rfl) (by decide) rfl dX3_conNamedOf_2
  refine g_istore_n (l1 := [(3, vI rc1), (0, vR o0), (1, vI a1), (2, vI a2)]) dX3_conNamedOf_5 (by decide) rfl ?_
  refine g_iload_n dX3_conNamedOf_6 rfl ?_
  refine g_iconst dX3_conNamedOf_7 ?_
  refine g_icmp_eq (tgt := 19) dX3_conNamedOf_8 (by decide) ⟨by (clear hb hif2; omega), by (clear hb hif2; omega)⟩ (by decide) (fun k2 => ?_) (fun k2 => ?_)
  · skip
    refine g_iconst dX3_conNamedOf_19 ?_
    exact g_retI dX3_conNamedOf_20 rfl (hQ (-1) (by decide) (by (clear hb hif2; omega)))
  · have k2n : 0 ≤ rc1 := by (clear hb hif2; omega)
    clear k2
    skip
    refine g_aload_n dX3_conNamedOf_11 rfl ?_
    refine g_iload_n dX3_conNamedOf_12 rfl ?_
    refine g_vI (av := [vI a1]) (o := o0) (st := []) (f_X3_isKind G P o0 a1 k_o0 ⟨by (clear hb hif2; omega), by (clear hb hif2; omega)⟩ hB  _ (fun rc3 hc3 gc3_k gc3_f => ⟨rc3, rfl, ?_⟩)) cf_X3_isKind t_760 rfl (show kx o0 29 from k_o0).1 ((show kx o0 29 from k_o0).sh rfl) rfl rfl (Nat.le_of_ble_eq_true rfl) (by decide) rfl dX3_conNamedOf_13
    have f4 := bx_29_9 (o := o0) hB k_o0
    refine g_if_ne (tgt := 21) dX3_conNamedOf_16 (by decide) ⟨by (clear hb hif2 gc3_k gc3_f; omega), by (clear hb hif2 gc3_k gc3_f; omega)⟩ (fun k5 => ?_) (fun k5 => ?_)
    · have k5n : 1 ≤ rc3 := by (clear hb hif2 gc3_k gc3_f; omega)
      clear k5
      have r_gc3_f := (gc3_f.resolve_right (by (clear hb hif2 gc3_k gc3_f; omega)))
      have r_gc3_k := (gc3_k.resolve_left (by (clear hb hif2 gc3_k gc3_f; omega)))
      skip
      refine g_aload_n dX3_conNamedOf_21 rfl ?_
      refine x_g29_1 (n := (crX o0 1)) k_o0 ffX3_15 dX3_conNamedOf_22 rfl ?_
      refine g_iload_n dX3_conNamedOf_25 rfl ?_
      refine x_l31 (z := (P (crX o0 1) a1)) (ck_29_1 k_o0) dX3_conNamedOf_26 ⟨by (clear hb hif2 gc3_k gc3_f; omega), by (clear hb hif2 gc3_k gc3_f; omega)⟩ rfl ?_
      refine g_istore (l1 := [(4, vI (P (crX o0 1) a1)), (3, vI rc1), (0, vR o0), (1, vI a1), (2, vI a2)]) dX3_conNamedOf_27 (by decide) rfl ?_
      refine g_iload_n dX3_conNamedOf_29 rfl ?_
      refine g_iload dX3_conNamedOf_30 rfl ?_
      have f6 := bx_31 (o := (crX o0 1)) (k := a1) hB (ck_29_1 k_o0)
      refine g_icmp_lt (tgt := 52) dX3_conNamedOf_32 (by decide) ⟨by (clear hb hif2 gc3_k gc3_f; omega), by (clear hb hif2 gc3_k gc3_f; omega)⟩ ⟨by have q0 := bx_31 (o := (crX o0 1)) (k := a1) hB (ck_29_1 k_o0); (clear hb hif2 gc3_k gc3_f; omega), by have q0 := bx_31 (o := (crX o0 1)) (k := a1) hB (ck_29_1 k_o0); (clear hb hif2 gc3_k gc3_f; omega)⟩ (fun k7 => ?_) (fun k7 => ?_)
      · skip
        skip
        have r_hif2 := ((hif2.resolve_left (by (clear hb hif2 gc3_k gc3_f; omega))).resolve_left (by (clear hb hif2 gc3_k gc3_f; omega)))
        refine g_iconst dX3_conNamedOf_52 ?_
        exact g_retI dX3_conNamedOf_53 rfl (hQ (-1) (by decide) (by (clear hb hif2 gc3_k gc3_f; omega)))
      · skip
        skip
        skip
        refine g_iload_n dX3_conNamedOf_35 rfl ?_
        refine g_iload dX3_conNamedOf_36 rfl ?_
        refine g_aload_n dX3_conNamedOf_38 rfl ?_
        refine x_g29_2 (n := (crX o0 2)) k_o0 ffX3_18 dX3_conNamedOf_39 rfl ?_
        refine g_iload_n dX3_conNamedOf_42 rfl ?_
        refine x_l32 (z := (P (crX o0 2) a1)) (ck_29_2 k_o0) dX3_conNamedOf_43 ⟨by (clear hb hif2 gc3_k gc3_f; omega), by (clear hb hif2 gc3_k gc3_f; omega)⟩ rfl ?_
        refine g_iadd dX3_conNamedOf_44 ?_
        have f8 := bx_32 (o := (crX o0 2)) (k := a1) hB (ck_29_2 k_o0)
        refine g_icmp_ge (tgt := 52) dX3_conNamedOf_45 (by decide) ⟨by (clear hb hif2 gc3_k gc3_f; omega), by (clear hb hif2 gc3_k gc3_f; omega)⟩ ⟨by have q0 := bx_31 (o := (crX o0 1)) (k := a1) hB (ck_29_1 k_o0); have q1 := bx_32 (o := (crX o0 2)) (k := a1) hB (ck_29_2 k_o0); (clear hb hif2 gc3_k gc3_f; omega), by have q0 := bx_31 (o := (crX o0 1)) (k := a1) hB (ck_29_1 k_o0); have q1 := bx_32 (o := (crX o0 2)) (k := a1) hB (ck_29_2 k_o0); (clear hb hif2 gc3_k gc3_f; omega)⟩ (fun k9 => ?_) (fun k9 => ?_)
        · skip
          skip
          skip
          refine g_iconst dX3_conNamedOf_52 ?_
          exact g_retI dX3_conNamedOf_53 rfl (hQ (-1) (by decide) (by (clear hb; omega)))
        · skip
          skip
          skip
          refine g_iload_n dX3_conNamedOf_48 rfl ?_
          refine g_goto (tgt := 53) dX3_conNamedOf_49 (by decide) ?_
          exact g_retI dX3_conNamedOf_53 rfl (hQ rc1 ⟨by (clear hb hif2 gc3_k gc3_f k9; omega), by (clear hb hif2 gc3_k gc3_f k9; omega)⟩ (by (clear hb; omega)))
    · skip
      skip
      skip
      refine g_iconst dX3_conNamedOf_19 ?_
      exact g_retI dX3_conNamedOf_20 rfl (hQ (-1) (by decide) (by (omega)))
/-! What the class answers: X3_clear. -/
set_option maxRecDepth 100000 in
set_option maxHeartbeats 4000000 in
theorem f_X3_clear (G : GT) (P : PH) (o0 : Nat) (k_o0 : kx o0 29) (hB : BdX P) (Q : Option PV → PH → Prop) (hQ : ∀ (P1 : PH) (_ : BdX P1) (_ : FrX ([(29, 9), (29, 10)], []) P P1) (_ : XK K0 o0 P1) (_ : KT (tbX o0) P P1), Q none P1) : Ct WSX G 1 iX3_clear [vR o0] P Q := by
  refine Ct.of (by decide) (l0 := [(0, vR o0)]) rfl (Nat.le_of_ble_eq_true rfl) ?_
  have kt0 : KT (tbX o0) P P := KT.rf
  refine g_aload_n dX3_clear_0 rfl ?_
  refine g_iconst dX3_clear_1 ?_
  refine x_p29_9 k_o0 pfX3_39 dX3_clear_2 ?_
  have hB1 := by_29_9 (z := 0) hB k_o0 (by decide)
  have kt2 : KT (tbX o0) P (up P o0 9 0) := KT.w kt0 (Or.inl rfl)
  refine g_aload_n dX3_clear_5 rfl ?_
  refine g_iconst dX3_clear_6 ?_
  refine x_p29_10 k_o0 pfX3_43 dX3_clear_7 ?_
  have hB3 := by_29_10 (z := 0) hB1 k_o0 (by decide)
  have kt4 : KT (tbX o0) P (up (up P o0 9 0) o0 10 0) := KT.w kt2 (Or.inl rfl)
  exact g_retV dX3_clear_10 rfl (hQ _ hB3 (FrX.s (FrX.s FrX.rf k_o0 rfl) k_o0 rfl) (XK.zero k_o0 ((up_k (by decide)).trans up_same) up_same) (kt4))
/-! What the class answers: X3_addKind. -/
set_option maxRecDepth 100000 in
set_option maxHeartbeats 4000000 in
theorem f_X3_addKind (G : GT) (P : PH) (K : PH) (o0 : Nat) (a1 : Int) (k_o0 : kx o0 29) (h_a1 : (-2147483648) ≤ a1 ∧ a1 ≤ 2147483647) (hB : BdX P) (p_k3 : 0 ≤ K 0 0 ∧ K 0 0 ≤ 3) (z0 : XK K o0 P) (Q : Option PV → PH → Prop) (hQ : ∀ (P1 : PH) (_ : BdX P1) (_ : FrX ([(29, 9)], [30, 31, 32, 33]) P P1) (_ : XK (kNew K a1) o0 P1) (_ : KT (tbX o0) P P1), Q none P1) : Ct WSX G 1 iX3_addKind [vR o0, vI a1] P Q := by
  refine Ct.of (by decide) (l0 := [(0, vR o0), (1, vI a1)]) rfl (Nat.le_of_ble_eq_true rfl) ?_
  have kt0 : KT (tbX o0) P P := KT.rf
  have hb := z0.b
  refine g_aload_n dX3_addKind_0 rfl ?_
  refine x_g29_9 (z := (P o0 9)) k_o0 ffX3_39 dX3_addKind_1 rfl ?_
  refine g_iconst dX3_addKind_4 ?_
  have f1 := bx_29_9 (o := o0) hB k_o0
  refine g_icmp_ge (tgt := 61) dX3_addKind_5 (by decide) ⟨by have q0 := bx_29_9 (o := o0) hB k_o0; (clear hb; omega), by have q0 := bx_29_9 (o := o0) hB k_o0; (clear hb; omega)⟩ (by decide) (fun k2 => ?_) (fun k2 => ?_)
  · exact g_retV dX3_addKind_61 rfl (hQ _ hB FrX.rf (by first | exact z0.kind rfl rfl rfl (fun j hj => rfl) rfl (fun j hj => rfl) rfl (fun j hj => rfl) rfl (fun j hj => rfl) (fun j => rfl) (fun j => rfl) (fun j => rfl) (fun j => rfl) (fun j => rfl) | (exfalso; (omega))) (kt0))
  · refine g_aload_n dX3_addKind_8 rfl ?_
    refine x_g29_0 (n := (crX o0 0)) k_o0 ffX3_9 dX3_addKind_9 rfl ?_
    refine g_aload_n dX3_addKind_12 rfl ?_
    refine x_g29_9 (z := (P o0 9)) k_o0 ffX3_39 dX3_addKind_13 rfl ?_
    refine g_iload_n dX3_addKind_16 rfl ?_
    refine x_s30 (ck_29_0 k_o0) dX3_addKind_17 ⟨by have q0 := bx_29_9 (o := o0) hB k_o0; (clear hb; omega), by have q0 := bx_29_9 (o := o0) hB k_o0; (clear hb; omega)⟩ ?_
    have hB3 := by_30 (z := a1) (k := (P o0 9)) hB (ck_29_0 k_o0) ⟨by (clear hb; omega), by (clear hb; omega)⟩
    have kt4 : KT (tbX o0) P (up P (crX o0 0) (P o0 9) a1) := KT.w kt0 (TB.c (Or.inl rfl) (k_o0).1 (by decide))
    refine g_aload_n dX3_addKind_18 rfl ?_
    refine x_g29_1 (n := (crX o0 1)) k_o0 ffX3_15 dX3_addKind_19 rfl ?_
    refine g_aload_n dX3_addKind_22 rfl ?_
    refine x_g29_9 (z := (P o0 9)) k_o0 ffX3_39 dX3_addKind_23 ((up_o (kx.ne k_o0 (ck_29_0 k_o0) rfl)).trans rfl) ?_
    refine g_aload_n dX3_addKind_26 rfl ?_
    refine x_g29_10 (z := (P o0 10)) k_o0 ffX3_43 dX3_addKind_27 ((up_o (kx.ne k_o0 (ck_29_0 k_o0) rfl)).trans rfl) ?_
    refine x_s31 (ck_29_1 k_o0) dX3_addKind_30 ⟨by have q0 := bx_29_9 (o := o0) hB k_o0; (clear hb; omega), by have q0 := bx_29_9 (o := o0) hB k_o0; (clear hb; omega)⟩ ?_
    have hB5 := by_31 (z := (P o0 10)) (k := (P o0 9)) hB3 (ck_29_1 k_o0) ⟨by have q0 := bx_29_10 (o := o0) hB k_o0; (clear hb; omega), by have q0 := bx_29_10 (o := o0) hB k_o0; (clear hb; omega)⟩
    have kt6 : KT (tbX o0) P (up (up P (crX o0 0) (P o0 9) a1) (crX o0 1) (P o0 9) (P o0 10)) := KT.w kt4 (TB.c (Or.inl rfl) (k_o0).1 (by decide))
    refine g_aload_n dX3_addKind_31 rfl ?_
    refine x_g29_2 (n := (crX o0 2)) k_o0 ffX3_18 dX3_addKind_32 rfl ?_
    refine g_aload_n dX3_addKind_35 rfl ?_
    refine x_g29_9 (z := (P o0 9)) k_o0 ffX3_39 dX3_addKind_36 ((up_o (kx.ne k_o0 (ck_29_1 k_o0) rfl)).trans ((up_o (kx.ne k_o0 (ck_29_0 k_o0) rfl)).trans rfl)) ?_
    refine g_iconst dX3_addKind_39 ?_
    refine x_s32 (ck_29_2 k_o0) dX3_addKind_40 ⟨by have q0 := bx_29_9 (o := o0) hB k_o0; (clear hb; omega), by have q0 := bx_29_9 (o := o0) hB k_o0; (clear hb; omega)⟩ ?_
    have hB7 := by_32 (z := 0) (k := (P o0 9)) hB5 (ck_29_2 k_o0) (by decide)
    have kt8 : KT (tbX o0) P (up (up (up P (crX o0 0) (P o0 9) a1) (crX o0 1) (P o0 9) (P o0 10)) (crX o0 2) (P o0 9) 0) := KT.w kt6 (TB.c (Or.inl rfl) (k_o0).1 (by decide))
    refine g_aload_n dX3_addKind_41 rfl ?_
    refine x_g29_3 (n := (crX o0 3)) k_o0 ffX3_21 dX3_addKind_42 rfl ?_
    refine g_aload_n dX3_addKind_45 rfl ?_
    refine x_g29_9 (z := (P o0 9)) k_o0 ffX3_39 dX3_addKind_46 ((up_o (kx.ne k_o0 (ck_29_2 k_o0) rfl)).trans ((up_o (kx.ne k_o0 (ck_29_1 k_o0) rfl)).trans ((up_o (kx.ne k_o0 (ck_29_0 k_o0) rfl)).trans rfl))) ?_
    refine g_iconst dX3_addKind_49 ?_
    refine x_s33 (ck_29_3 k_o0) dX3_addKind_50 ⟨by have q0 := bx_29_9 (o := o0) hB k_o0; (clear hb; omega), by have q0 := bx_29_9 (o := o0) hB k_o0; (clear hb; omega)⟩ ?_
    have hB9 := by_33 (z := 0) (k := (P o0 9)) hB7 (ck_29_3 k_o0) (by decide)
    have kt10 : KT (tbX o0) P (up (up (up (up P (crX o0 0) (P o0 9) a1) (crX o0 1) (P o0 9) (P o0 10)) (crX o0 2) (P o0 9) 0) (crX o0 3) (P o0 9) 0) := KT.w kt8 (TB.c (Or.inl rfl) (k_o0).1 (by decide))
    refine g_aload_n dX3_addKind_51 rfl ?_
    refine g_dup dX3_addKind_52 rfl ?_
    refine x_g29_9 (z := (P o0 9)) k_o0 ffX3_39 dX3_addKind_53 ((up_o (kx.ne k_o0 (ck_29_3 k_o0) rfl)).trans ((up_o (kx.ne k_o0 (ck_29_2 k_o0) rfl)).trans ((up_o (kx.ne k_o0 (ck_29_1 k_o0) rfl)).trans ((up_o (kx.ne k_o0 (ck_29_0 k_o0) rfl)).trans rfl)))) ?_
    refine g_iconst dX3_addKind_56 ?_
    refine g_iadd dX3_addKind_57 ?_
    refine x_p29_9 k_o0 pfX3_39 dX3_addKind_58 ?_
    have hB11 := by_29_9 (z := ((P o0 9) + 1)) hB9 k_o0 ⟨by have q0 := bx_29_9 (o := o0) hB k_o0; (clear hb; omega), by have q0 := bx_29_9 (o := o0) hB k_o0; (clear hb; omega)⟩
    have kt12 : KT (tbX o0) P (up (up (up (up (up P (crX o0 0) (P o0 9) a1) (crX o0 1) (P o0 9) (P o0 10)) (crX o0 2) (P o0 9) 0) (crX o0 3) (P o0 9) 0) o0 9 ((P o0 9) + 1)) := KT.w kt10 (Or.inl rfl)
    exact g_retV dX3_addKind_61 rfl (hQ _ hB11 (FrX.s (FrX.s (FrX.s (FrX.s (FrX.s FrX.rf (ck_29_0 k_o0) rfl) (ck_29_1 k_o0) rfl) (ck_29_2 k_o0) rfl) (ck_29_3 k_o0) rfl) k_o0 rfl) (by first | exact z0.kind up_same ((up_k (by decide)).trans ((up_o (kx.ne k_o0 (ck_29_3 k_o0) rfl)).trans ((up_o (kx.ne k_o0 (ck_29_2 k_o0) rfl)).trans ((up_o (kx.ne k_o0 (ck_29_1 k_o0) rfl)).trans ((up_o (kx.ne k_o0 (ck_29_0 k_o0) rfl)).trans rfl))))) ((up_o (kx.ne (ck_29_0 k_o0) k_o0 rfl)).trans ((up_o (kx.ne (ck_29_0 k_o0) (ck_29_3 k_o0) rfl)).trans ((up_o (kx.ne (ck_29_0 k_o0) (ck_29_2 k_o0) rfl)).trans ((up_o (kx.ne (ck_29_0 k_o0) (ck_29_1 k_o0) rfl)).trans up_same)))) (fun j hj => ((up_o (kx.ne (ck_29_0 k_o0) k_o0 rfl)).trans ((up_o (kx.ne (ck_29_0 k_o0) (ck_29_3 k_o0) rfl)).trans ((up_o (kx.ne (ck_29_0 k_o0) (ck_29_2 k_o0) rfl)).trans ((up_o (kx.ne (ck_29_0 k_o0) (ck_29_1 k_o0) rfl)).trans ((up_k hj).trans rfl)))))) ((up_o (kx.ne (ck_29_1 k_o0) k_o0 rfl)).trans ((up_o (kx.ne (ck_29_1 k_o0) (ck_29_3 k_o0) rfl)).trans ((up_o (kx.ne (ck_29_1 k_o0) (ck_29_2 k_o0) rfl)).trans up_same))) (fun j hj => ((up_o (kx.ne (ck_29_1 k_o0) k_o0 rfl)).trans ((up_o (kx.ne (ck_29_1 k_o0) (ck_29_3 k_o0) rfl)).trans ((up_o (kx.ne (ck_29_1 k_o0) (ck_29_2 k_o0) rfl)).trans ((up_k hj).trans ((up_o (kx.ne (ck_29_1 k_o0) (ck_29_0 k_o0) rfl)).trans rfl)))))) ((up_o (kx.ne (ck_29_2 k_o0) k_o0 rfl)).trans ((up_o (kx.ne (ck_29_2 k_o0) (ck_29_3 k_o0) rfl)).trans up_same)) (fun j hj => ((up_o (kx.ne (ck_29_2 k_o0) k_o0 rfl)).trans ((up_o (kx.ne (ck_29_2 k_o0) (ck_29_3 k_o0) rfl)).trans ((up_k hj).trans ((up_o (kx.ne (ck_29_2 k_o0) (ck_29_1 k_o0) rfl)).trans ((up_o (kx.ne (ck_29_2 k_o0) (ck_29_0 k_o0) rfl)).trans rfl)))))) ((up_o (kx.ne (ck_29_3 k_o0) k_o0 rfl)).trans up_same) (fun j hj => ((up_o (kx.ne (ck_29_3 k_o0) k_o0 rfl)).trans ((up_k hj).trans ((up_o (kx.ne (ck_29_3 k_o0) (ck_29_2 k_o0) rfl)).trans ((up_o (kx.ne (ck_29_3 k_o0) (ck_29_1 k_o0) rfl)).trans ((up_o (kx.ne (ck_29_3 k_o0) (ck_29_0 k_o0) rfl)).trans rfl)))))) (fun j => ((up_o (kx.ne (ck_29_4 k_o0) k_o0 rfl)).trans ((up_o (kx.ne (ck_29_4 k_o0) (ck_29_3 k_o0) rfl)).trans ((up_o (kx.ne (ck_29_4 k_o0) (ck_29_2 k_o0) rfl)).trans ((up_o (kx.ne (ck_29_4 k_o0) (ck_29_1 k_o0) rfl)).trans ((up_o (kx.ne (ck_29_4 k_o0) (ck_29_0 k_o0) rfl)).trans rfl)))))) (fun j => ((up_o (kx.ne (ck_29_5 k_o0) k_o0 rfl)).trans ((up_o (kx.ne (ck_29_5 k_o0) (ck_29_3 k_o0) rfl)).trans ((up_o (kx.ne (ck_29_5 k_o0) (ck_29_2 k_o0) rfl)).trans ((up_o (kx.ne (ck_29_5 k_o0) (ck_29_1 k_o0) rfl)).trans ((up_o (kx.ne (ck_29_5 k_o0) (ck_29_0 k_o0) rfl)).trans rfl)))))) (fun j => ((up_o (kx.ne (ck_29_6 k_o0) k_o0 rfl)).trans ((up_o (kx.ne (ck_29_6 k_o0) (ck_29_3 k_o0) rfl)).trans ((up_o (kx.ne (ck_29_6 k_o0) (ck_29_2 k_o0) rfl)).trans ((up_o (kx.ne (ck_29_6 k_o0) (ck_29_1 k_o0) rfl)).trans ((up_o (kx.ne (ck_29_6 k_o0) (ck_29_0 k_o0) rfl)).trans rfl)))))) (fun j => ((up_o (kx.ne (ck_29_7 k_o0) k_o0 rfl)).trans ((up_o (kx.ne (ck_29_7 k_o0) (ck_29_3 k_o0) rfl)).trans ((up_o (kx.ne (ck_29_7 k_o0) (ck_29_2 k_o0) rfl)).trans ((up_o (kx.ne (ck_29_7 k_o0) (ck_29_1 k_o0) rfl)).trans ((up_o (kx.ne (ck_29_7 k_o0) (ck_29_0 k_o0) rfl)).trans rfl)))))) (fun j => ((up_o (kx.ne (ck_29_8 k_o0) k_o0 rfl)).trans ((up_o (kx.ne (ck_29_8 k_o0) (ck_29_3 k_o0) rfl)).trans ((up_o (kx.ne (ck_29_8 k_o0) (ck_29_2 k_o0) rfl)).trans ((up_o (kx.ne (ck_29_8 k_o0) (ck_29_1 k_o0) rfl)).trans ((up_o (kx.ne (ck_29_8 k_o0) (ck_29_0 k_o0) rfl)).trans rfl)))))) | (exfalso; (first | (clear hb; omega) | omega))) (kt12))
/-! What the class answers: X3_addCon. -/
set_option maxRecDepth 100000 in
set_option maxHeartbeats 4000000 in
theorem f_X3_addCon (G : GT) (P : PH) (K : PH) (o0 : Nat) (a1 : Int) (a2 : Int) (a3 : Int) (a4 : Int) (a5 : Int) (k_o0 : kx o0 29) (h_a1 : (-2147483648) ≤ a1 ∧ a1 ≤ 2147483647) (h_a2 : (-2147483648) ≤ a2 ∧ a2 ≤ 2147483647) (h_a3 : (-2147483648) ≤ a3 ∧ a3 ≤ 2147483647) (h_a4 : (-2147483648) ≤ a4 ∧ a4 ≤ 2147483647) (h_a5 : (-2147483648) ≤ a5 ∧ a5 ≤ 2147483647) (hB : BdX P) (p_aw : AW K) (p_l5 : 1 ≤ K 0 0 ∧ K 3 (K 0 0 - 1) ≤ 5) (p_ib : 1 ≤ a5 ∧ a5 ≤ 4012000) (z0 : XK K o0 P) (Q : Option PV → PH → Prop) (hQ : ∀ (P1 : PH) (_ : BdX P1) (_ : FrX ([(29, 10)], [32, 33, 34, 35, 36, 37, 38]) P P1) (_ : XK (cNew K a1 a2 a3 a4 a5) o0 P1) (_ : KT (tbX o0) P P1), Q none P1) : Ct WSX G 2 iX3_addCon [vR o0, vI a1, vI a2, vI a3, vI a4, vI a5] P Q := by
  refine Ct.of (by decide) (l0 := [(0, vR o0), (1, vI a1), (2, vI a2), (3, vI a3), (4, vI a4), (5, vI a5)]) rfl (Nat.le_of_ble_eq_true rfl) ?_
  have kt0 : KT (tbX o0) P P := KT.rf
  have hb := z0.b
  have hk3 : P (crX o0 3) ((P o0 9) - 1) = K 2 (K 0 0 - 1) := by
    have q := (z0.k (k := P o0 9 - 1) (by (omega)) (by (omega))).2.2.2
    rw [show K 2 (P o0 9 - 1) = K 2 (K 0 0 - 1) by rw [hb.1]] at q
    exact q
  have hk := (z0.k (k := P o0 9 - 1) (by (omega)) (by (omega))).2.2.1
  rw [show K 3 (P o0 9 - 1) = K 3 (K 0 0 - 1) by rw [hb.1]] at hk
  have ha := p_aw.1
  have ha1 := p_aw.2.1 (K 0 0 - 1) (by (clear hb; omega)) (by (clear hb; omega))
  refine g_aload_n dX3_addCon_0 rfl ?_
  refine x_g29_9 (z := (P o0 9)) k_o0 ffX3_39 dX3_addCon_1 rfl ?_
  refine g_iconst dX3_addCon_4 ?_
  refine g_isub dX3_addCon_5 ?_
  refine g_istore (l1 := [(6, vI ((P o0 9) - 1)), (0, vR o0), (1, vI a1), (2, vI a2), (3, vI a3), (4, vI a4), (5, vI a5)]) dX3_addCon_6 (by decide) rfl ?_
  refine g_aload_n dX3_addCon_8 rfl ?_
  refine g_iload dX3_addCon_9 rfl ?_
  have f1 := bx_29_9 (o := o0) hB k_o0
  refine g_vI (av := [vI ((P o0 9) - 1)]) (o := o0) (st := []) (f_X3_isKind G P o0 ((P o0 9) - 1) k_o0 ⟨by have q0 := bx_29_9 (o := o0) hB k_o0; (clear hb; omega), by have q0 := bx_29_9 (o := o0) hB k_o0; (clear hb; omega)⟩ hB  _ (fun rc2 hc2 gc2_k gc2_f => ⟨rc2, rfl, ?_⟩)) cf_X3_isKind t_760 rfl (show kx o0 29 from k_o0).1 ((show kx o0 29 from k_o0).sh rfl) rfl rfl (Nat.le_of_ble_eq_true rfl) (by decide) rfl dX3_addCon_11
  refine g_if_eq (tgt := 131) dX3_addCon_14 (by decide) ⟨by (clear hb gc2_k gc2_f; omega), by (clear hb gc2_k gc2_f; omega)⟩ (fun k3 => ?_) (fun k3 => ?_)
  · exact g_retV dX3_addCon_131 rfl (hQ _ hB FrX.rf (by first | exact z0.con rfl rfl rfl (fun j hj => rfl) rfl (fun j hj => rfl) rfl (fun j hj => rfl) rfl (fun j hj => rfl) rfl (fun j hj => rfl) rfl (fun j hj => rfl) rfl (fun j hj => rfl) (fun j => rfl) (fun j => rfl) (by (clear hb gc2_k gc2_f; omega)) | (exfalso; (omega))) (kt0))
  · have k3n : 1 ≤ rc2 := by (clear hb gc2_k gc2_f; omega)
    clear k3
    have r_gc2_f := (gc2_f.resolve_right (by (clear hb gc2_k gc2_f; omega)))
    have r_gc2_k := (gc2_k.resolve_left (by (clear hb gc2_k gc2_f; omega)))
    refine g_aload_n dX3_addCon_17 rfl ?_
    refine x_g29_2 (n := (crX o0 2)) k_o0 ffX3_18 dX3_addCon_18 rfl ?_
    refine g_iload dX3_addCon_21 rfl ?_
    refine x_l32 (z := (P (crX o0 2) ((P o0 9) - 1))) (ck_29_2 k_o0) dX3_addCon_23 ⟨by have q0 := bx_29_9 (o := o0) hB k_o0; (clear hb gc2_k gc2_f; omega), by have q0 := bx_29_9 (o := o0) hB k_o0; (clear hb gc2_k gc2_f; omega)⟩ rfl ?_
    refine g_bipush dX3_addCon_24 (by decide) ?_
    have f4 := bx_32 (o := (crX o0 2)) (k := ((P o0 9) - 1)) hB (ck_29_2 k_o0)
    refine g_icmp_ge (tgt := 131) dX3_addCon_26 (by decide) ⟨by have q0 := bx_32 (o := (crX o0 2)) (k := ((P o0 9) - 1)) hB (ck_29_2 k_o0); (clear hb gc2_k gc2_f; omega), by have q0 := bx_32 (o := (crX o0 2)) (k := ((P o0 9) - 1)) hB (ck_29_2 k_o0); (clear hb gc2_k gc2_f; omega)⟩ (by decide) (fun k5 => ?_) (fun k5 => ?_)
    · exact g_retV dX3_addCon_131 rfl (hQ _ hB FrX.rf (by first | exact z0.con rfl rfl rfl (fun j hj => rfl) rfl (fun j hj => rfl) rfl (fun j hj => rfl) rfl (fun j hj => rfl) rfl (fun j hj => rfl) rfl (fun j hj => rfl) rfl (fun j hj => rfl) (fun j => rfl) (fun j => rfl) (by (clear hb gc2_k gc2_f k5; omega)) | (exfalso; (clear hb gc2_k gc2_f; omega))) (kt0))
    · skip
      skip
      refine g_aload_n dX3_addCon_29 rfl ?_
      refine x_g29_10 (z := (P o0 10)) k_o0 ffX3_43 dX3_addCon_30 rfl ?_
      refine g_aload_n dX3_addCon_33 rfl ?_
      refine x_g29_4 (n := (crX o0 4)) k_o0 ffX3_24 dX3_addCon_34 rfl ?_
      refine x_n34 (ck_29_4 k_o0) dX3_addCon_37 ?_
      have f6 := bx_29_10 (o := o0) hB k_o0
      refine g_icmp_ge (tgt := 131) dX3_addCon_38 (by decide) ⟨by have q0 := bx_29_10 (o := o0) hB k_o0; (clear hb gc2_k gc2_f k5; omega), by have q0 := bx_29_10 (o := o0) hB k_o0; (clear hb gc2_k gc2_f k5; omega)⟩ (by decide) (fun k7 => ?_) (fun k7 => ?_)
      · exact g_retV dX3_addCon_131 rfl (hQ _ hB FrX.rf (by first | exact z0.con rfl rfl rfl (fun j hj => rfl) rfl (fun j hj => rfl) rfl (fun j hj => rfl) rfl (fun j hj => rfl) rfl (fun j hj => rfl) rfl (fun j hj => rfl) rfl (fun j hj => rfl) (fun j => rfl) (fun j => rfl) (by (clear hb gc2_k gc2_f k5; omega)) | (exfalso; (clear gc2_k gc2_f k5; omega))) (kt0))
      · skip
        skip
        refine g_aload_n dX3_addCon_41 rfl ?_
        refine x_g29_4 (n := (crX o0 4)) k_o0 ffX3_24 dX3_addCon_42 rfl ?_
        refine g_aload_n dX3_addCon_45 rfl ?_
        refine x_g29_10 (z := (P o0 10)) k_o0 ffX3_43 dX3_addCon_46 rfl ?_
        refine g_iload_n dX3_addCon_49 rfl ?_
        refine x_s34 (ck_29_4 k_o0) dX3_addCon_50 ⟨by have q0 := bx_29_10 (o := o0) hB k_o0; (clear hb gc2_k gc2_f k5; omega), by have q0 := bx_29_10 (o := o0) hB k_o0; (clear hb gc2_k gc2_f k5; omega)⟩ ?_
        have hB8 := by_34 (z := a1) (k := (P o0 10)) hB (ck_29_4 k_o0) ⟨by (clear hb gc2_k gc2_f k5; omega), by (clear hb gc2_k gc2_f k5; omega)⟩
        have kt9 : KT (tbX o0) P (up P (crX o0 4) (P o0 10) a1) := KT.w kt0 (TB.c (Or.inl rfl) (k_o0).1 (by decide))
        refine g_aload_n dX3_addCon_51 rfl ?_
        refine x_g29_5 (n := (crX o0 5)) k_o0 ffX3_27 dX3_addCon_52 rfl ?_
        refine g_aload_n dX3_addCon_55 rfl ?_
        refine x_g29_10 (z := (P o0 10)) k_o0 ffX3_43 dX3_addCon_56 ((up_o (kx.ne k_o0 (ck_29_4 k_o0) rfl)).trans rfl) ?_
        refine g_aload_n dX3_addCon_59 rfl ?_
        refine x_g29_3 (n := (crX o0 3)) k_o0 ffX3_21 dX3_addCon_60 rfl ?_
        refine g_iload dX3_addCon_63 rfl ?_
        refine x_l33 (z := (P (crX o0 3) ((P o0 9) - 1))) (ck_29_3 k_o0) dX3_addCon_65 ⟨by have q0 := bx_29_9 (o := o0) hB k_o0; (clear hb gc2_k gc2_f k5; omega), by have q0 := bx_29_9 (o := o0) hB k_o0; (clear hb gc2_k gc2_f k5; omega)⟩ ((up_o (kx.ne (ck_29_3 k_o0) (ck_29_4 k_o0) rfl)).trans rfl) ?_
        refine x_s35 (ck_29_5 k_o0) dX3_addCon_66 ⟨by have q0 := bx_29_10 (o := o0) hB k_o0; (clear hb gc2_k gc2_f k5; omega), by have q0 := bx_29_10 (o := o0) hB k_o0; (clear hb gc2_k gc2_f k5; omega)⟩ ?_
        have hB10 := by_35 (z := (P (crX o0 3) ((P o0 9) - 1))) (k := (P o0 10)) hB8 (ck_29_5 k_o0) ⟨by have q0 := bx_33 (o := (crX o0 3)) (k := ((P o0 9) - 1)) hB (ck_29_3 k_o0); (clear hb gc2_k gc2_f k5; omega), by have q0 := bx_33 (o := (crX o0 3)) (k := ((P o0 9) - 1)) hB (ck_29_3 k_o0); (clear hb gc2_k gc2_f k5; omega)⟩
        have kt11 : KT (tbX o0) P (up (up P (crX o0 4) (P o0 10) a1) (crX o0 5) (P o0 10) (P (crX o0 3) ((P o0 9) - 1))) := KT.w kt9 (TB.c (Or.inl rfl) (k_o0).1 (by decide))
        refine g_aload_n dX3_addCon_67 rfl ?_
        refine x_g29_6 (n := (crX o0 6)) k_o0 ffX3_30 dX3_addCon_68 rfl ?_
        refine g_aload_n dX3_addCon_71 rfl ?_
        refine x_g29_10 (z := (P o0 10)) k_o0 ffX3_43 dX3_addCon_72 ((up_o (kx.ne k_o0 (ck_29_5 k_o0) rfl)).trans ((up_o (kx.ne k_o0 (ck_29_4 k_o0) rfl)).trans rfl)) ?_
        refine g_iload_n dX3_addCon_75 rfl ?_
        refine x_s36 (ck_29_6 k_o0) dX3_addCon_76 ⟨by have q0 := bx_29_10 (o := o0) hB k_o0; (clear hb gc2_k gc2_f k5; omega), by have q0 := bx_29_10 (o := o0) hB k_o0; (clear hb gc2_k gc2_f k5; omega)⟩ ?_
        have hB12 := by_36 (z := a2) (k := (P o0 10)) hB10 (ck_29_6 k_o0) ⟨by (clear hb gc2_k gc2_f k5; omega), by (clear hb gc2_k gc2_f k5; omega)⟩
        have kt13 : KT (tbX o0) P (up (up (up P (crX o0 4) (P o0 10) a1) (crX o0 5) (P o0 10) (P (crX o0 3) ((P o0 9) - 1))) (crX o0 6) (P o0 10) a2) := KT.w kt11 (TB.c (Or.inl rfl) (k_o0).1 (by decide))
        refine g_aload_n dX3_addCon_77 rfl ?_
        refine x_g29_7 (n := (crX o0 7)) k_o0 ffX3_33 dX3_addCon_78 rfl ?_
        refine g_aload_n dX3_addCon_81 rfl ?_
        refine x_g29_10 (z := (P o0 10)) k_o0 ffX3_43 dX3_addCon_82 ((up_o (kx.ne k_o0 (ck_29_6 k_o0) rfl)).trans ((up_o (kx.ne k_o0 (ck_29_5 k_o0) rfl)).trans ((up_o (kx.ne k_o0 (ck_29_4 k_o0) rfl)).trans rfl))) ?_
        refine g_iload_n dX3_addCon_85 rfl ?_
        refine x_s37 (ck_29_7 k_o0) dX3_addCon_86 ⟨by have q0 := bx_29_10 (o := o0) hB k_o0; (clear hb gc2_k gc2_f k5; omega), by have q0 := bx_29_10 (o := o0) hB k_o0; (clear hb gc2_k gc2_f k5; omega)⟩ ?_
        have hB14 := by_37 (z := a3) (k := (P o0 10)) hB12 (ck_29_7 k_o0) ⟨by (clear hb gc2_k gc2_f k5; omega), by (clear hb gc2_k gc2_f k5; omega)⟩
        have kt15 : KT (tbX o0) P (up (up (up (up P (crX o0 4) (P o0 10) a1) (crX o0 5) (P o0 10) (P (crX o0 3) ((P o0 9) - 1))) (crX o0 6) (P o0 10) a2) (crX o0 7) (P o0 10) a3) := KT.w kt13 (TB.c (Or.inl rfl) (k_o0).1 (by decide))
        refine g_aload_n dX3_addCon_87 rfl ?_
        refine x_g29_8 (n := (crX o0 8)) k_o0 ffX3_36 dX3_addCon_88 rfl ?_
        refine g_aload_n dX3_addCon_91 rfl ?_
        refine x_g29_10 (z := (P o0 10)) k_o0 ffX3_43 dX3_addCon_92 ((up_o (kx.ne k_o0 (ck_29_7 k_o0) rfl)).trans ((up_o (kx.ne k_o0 (ck_29_6 k_o0) rfl)).trans ((up_o (kx.ne k_o0 (ck_29_5 k_o0) rfl)).trans ((up_o (kx.ne k_o0 (ck_29_4 k_o0) rfl)).trans rfl)))) ?_
        refine g_iload dX3_addCon_95 rfl ?_
        refine x_s38 (ck_29_8 k_o0) dX3_addCon_97 ⟨by have q0 := bx_29_10 (o := o0) hB k_o0; (clear hb gc2_k gc2_f k5; omega), by have q0 := bx_29_10 (o := o0) hB k_o0; (clear hb gc2_k gc2_f k5; omega)⟩ ?_
        have hB16 := by_38 (z := a4) (k := (P o0 10)) hB14 (ck_29_8 k_o0) ⟨by (clear hb gc2_k gc2_f k5; omega), by (clear hb gc2_k gc2_f k5; omega)⟩
        have kt17 : KT (tbX o0) P (up (up (up (up (up P (crX o0 4) (P o0 10) a1) (crX o0 5) (P o0 10) (P (crX o0 3) ((P o0 9) - 1))) (crX o0 6) (P o0 10) a2) (crX o0 7) (P o0 10) a3) (crX o0 8) (P o0 10) a4) := KT.w kt15 (TB.c (Or.inl rfl) (k_o0).1 (by decide))
        refine g_aload_n dX3_addCon_98 rfl ?_
        refine g_dup dX3_addCon_99 rfl ?_
        refine x_g29_10 (z := (P o0 10)) k_o0 ffX3_43 dX3_addCon_100 ((up_o (kx.ne k_o0 (ck_29_8 k_o0) rfl)).trans ((up_o (kx.ne k_o0 (ck_29_7 k_o0) rfl)).trans ((up_o (kx.ne k_o0 (ck_29_6 k_o0) rfl)).trans ((up_o (kx.ne k_o0 (ck_29_5 k_o0) rfl)).trans ((up_o (kx.ne k_o0 (ck_29_4 k_o0) rfl)).trans rfl))))) ?_
        refine g_iconst dX3_addCon_103 ?_
        refine g_iadd dX3_addCon_104 ?_
        refine x_p29_10 k_o0 pfX3_43 dX3_addCon_105 ?_
        have hB18 := by_29_10 (z := ((P o0 10) + 1)) hB16 k_o0 ⟨by have q0 := bx_29_10 (o := o0) hB k_o0; (clear hb gc2_k gc2_f k5; omega), by have q0 := bx_29_10 (o := o0) hB k_o0; (clear hb gc2_k gc2_f k5; omega)⟩
        have kt19 : KT (tbX o0) P (up (up (up (up (up (up P (crX o0 4) (P o0 10) a1) (crX o0 5) (P o0 10) (P (crX o0 3) ((P o0 9) - 1))) (crX o0 6) (P o0 10) a2) (crX o0 7) (P o0 10) a3) (crX o0 8) (P o0 10) a4) o0 10 ((P o0 10) + 1)) := KT.w kt17 (Or.inl rfl)
        refine g_aload_n dX3_addCon_108 rfl ?_
        refine x_g29_2 (n := (crX o0 2)) k_o0 ffX3_18 dX3_addCon_109 rfl ?_
        refine g_iload dX3_addCon_112 rfl ?_
        refine g_dup2 dX3_addCon_114 rfl rfl ?_
        refine x_l32 (z := (P (crX o0 2) ((P o0 9) - 1))) (ck_29_2 k_o0) dX3_addCon_115 ⟨by have q0 := bx_29_9 (o := o0) hB k_o0; (clear hb gc2_k gc2_f k5; omega), by have q0 := bx_29_9 (o := o0) hB k_o0; (clear hb gc2_k gc2_f k5; omega)⟩ ((up_o (kx.ne (ck_29_2 k_o0) k_o0 rfl)).trans ((up_o (kx.ne (ck_29_2 k_o0) (ck_29_8 k_o0) rfl)).trans ((up_o (kx.ne (ck_29_2 k_o0) (ck_29_7 k_o0) rfl)).trans ((up_o (kx.ne (ck_29_2 k_o0) (ck_29_6 k_o0) rfl)).trans ((up_o (kx.ne (ck_29_2 k_o0) (ck_29_5 k_o0) rfl)).trans ((up_o (kx.ne (ck_29_2 k_o0) (ck_29_4 k_o0) rfl)).trans rfl)))))) ?_
        refine g_iconst dX3_addCon_116 ?_
        refine g_iadd dX3_addCon_117 ?_
        refine x_s32 (ck_29_2 k_o0) dX3_addCon_118 ⟨by have q0 := bx_29_9 (o := o0) hB k_o0; (clear hb gc2_k gc2_f k5; omega), by have q0 := bx_29_9 (o := o0) hB k_o0; (clear hb gc2_k gc2_f k5; omega)⟩ ?_
        have hB20 := by_32 (z := ((P (crX o0 2) ((P o0 9) - 1)) + 1)) (k := ((P o0 9) - 1)) hB18 (ck_29_2 k_o0) ⟨by have q0 := bx_32 (o := (crX o0 2)) (k := ((P o0 9) - 1)) hB (ck_29_2 k_o0); (clear hb gc2_k gc2_f k5; omega), by have q0 := bx_32 (o := (crX o0 2)) (k := ((P o0 9) - 1)) hB (ck_29_2 k_o0); (clear hb gc2_k gc2_f k5; omega)⟩
        have kt21 : KT (tbX o0) P (up (up (up (up (up (up (up P (crX o0 4) (P o0 10) a1) (crX o0 5) (P o0 10) (P (crX o0 3) ((P o0 9) - 1))) (crX o0 6) (P o0 10) a2) (crX o0 7) (P o0 10) a3) (crX o0 8) (P o0 10) a4) o0 10 ((P o0 10) + 1)) (crX o0 2) ((P o0 9) - 1) ((P (crX o0 2) ((P o0 9) - 1)) + 1)) := KT.w kt19 (TB.c (Or.inl rfl) (k_o0).1 (by decide))
        refine g_aload_n dX3_addCon_119 rfl ?_
        refine x_g29_3 (n := (crX o0 3)) k_o0 ffX3_21 dX3_addCon_120 rfl ?_
        refine g_iload dX3_addCon_123 rfl ?_
        refine g_dup2 dX3_addCon_125 rfl rfl ?_
        refine x_l33 (z := (P (crX o0 3) ((P o0 9) - 1))) (ck_29_3 k_o0) dX3_addCon_126 ⟨by have q0 := bx_29_9 (o := o0) hB k_o0; (clear hb gc2_k gc2_f k5; omega), by have q0 := bx_29_9 (o := o0) hB k_o0; (clear hb gc2_k gc2_f k5; omega)⟩ ((up_o (kx.ne (ck_29_3 k_o0) (ck_29_2 k_o0) rfl)).trans ((up_o (kx.ne (ck_29_3 k_o0) k_o0 rfl)).trans ((up_o (kx.ne (ck_29_3 k_o0) (ck_29_8 k_o0) rfl)).trans ((up_o (kx.ne (ck_29_3 k_o0) (ck_29_7 k_o0) rfl)).trans ((up_o (kx.ne (ck_29_3 k_o0) (ck_29_6 k_o0) rfl)).trans ((up_o (kx.ne (ck_29_3 k_o0) (ck_29_5 k_o0) rfl)).trans ((up_o (kx.ne (ck_29_3 k_o0) (ck_29_4 k_o0) rfl)).trans rfl))))))) ?_
        refine g_iload dX3_addCon_127 rfl ?_
        refine g_iadd dX3_addCon_129 ?_
        refine x_s33 (ck_29_3 k_o0) dX3_addCon_130 ⟨by have q0 := bx_29_9 (o := o0) hB k_o0; (clear hb gc2_k gc2_f k5; omega), by have q0 := bx_29_9 (o := o0) hB k_o0; (clear hb gc2_k gc2_f k5; omega)⟩ ?_
        have hB22 := by_33 (z := ((P (crX o0 3) ((P o0 9) - 1)) + a5)) (k := ((P o0 9) - 1)) hB20 (ck_29_3 k_o0) ⟨by have q0 := bx_33 (o := (crX o0 3)) (k := ((P o0 9) - 1)) hB (ck_29_3 k_o0); (clear hb gc2_k gc2_f k5; omega), by have q0 := bx_33 (o := (crX o0 3)) (k := ((P o0 9) - 1)) hB (ck_29_3 k_o0); (clear hb gc2_k gc2_f k5; omega)⟩
        have kt23 : KT (tbX o0) P (up (up (up (up (up (up (up (up P (crX o0 4) (P o0 10) a1) (crX o0 5) (P o0 10) (P (crX o0 3) ((P o0 9) - 1))) (crX o0 6) (P o0 10) a2) (crX o0 7) (P o0 10) a3) (crX o0 8) (P o0 10) a4) o0 10 ((P o0 10) + 1)) (crX o0 2) ((P o0 9) - 1) ((P (crX o0 2) ((P o0 9) - 1)) + 1)) (crX o0 3) ((P o0 9) - 1) ((P (crX o0 3) ((P o0 9) - 1)) + a5)) := KT.w kt21 (TB.c (Or.inl rfl) (k_o0).1 (by decide))
        exact g_retV dX3_addCon_131 rfl (hQ _ hB22 (FrX.s (FrX.s (FrX.s (FrX.s (FrX.s (FrX.s (FrX.s (FrX.s FrX.rf (ck_29_4 k_o0) rfl) (ck_29_5 k_o0) rfl) (ck_29_6 k_o0) rfl) (ck_29_7 k_o0) rfl) (ck_29_8 k_o0) rfl) k_o0 rfl) (ck_29_2 k_o0) rfl) (ck_29_3 k_o0) rfl) (by first | exact z0.con ((up_o (kx.ne k_o0 (ck_29_3 k_o0) rfl)).trans ((up_o (kx.ne k_o0 (ck_29_2 k_o0) rfl)).trans ((up_k (by decide)).trans ((up_o (kx.ne k_o0 (ck_29_8 k_o0) rfl)).trans ((up_o (kx.ne k_o0 (ck_29_7 k_o0) rfl)).trans ((up_o (kx.ne k_o0 (ck_29_6 k_o0) rfl)).trans ((up_o (kx.ne k_o0 (ck_29_5 k_o0) rfl)).trans ((up_o (kx.ne k_o0 (ck_29_4 k_o0) rfl)).trans rfl)))))))) ((up_o (kx.ne k_o0 (ck_29_3 k_o0) rfl)).trans ((up_o (kx.ne k_o0 (ck_29_2 k_o0) rfl)).trans up_same)) ((up_o (kx.ne (ck_29_4 k_o0) (ck_29_3 k_o0) rfl)).trans ((up_o (kx.ne (ck_29_4 k_o0) (ck_29_2 k_o0) rfl)).trans ((up_o (kx.ne (ck_29_4 k_o0) k_o0 rfl)).trans ((up_o (kx.ne (ck_29_4 k_o0) (ck_29_8 k_o0) rfl)).trans ((up_o (kx.ne (ck_29_4 k_o0) (ck_29_7 k_o0) rfl)).trans ((up_o (kx.ne (ck_29_4 k_o0) (ck_29_6 k_o0) rfl)).trans ((up_o (kx.ne (ck_29_4 k_o0) (ck_29_5 k_o0) rfl)).trans up_same))))))) (fun j hj => ((up_o (kx.ne (ck_29_4 k_o0) (ck_29_3 k_o0) rfl)).trans ((up_o (kx.ne (ck_29_4 k_o0) (ck_29_2 k_o0) rfl)).trans ((up_o (kx.ne (ck_29_4 k_o0) k_o0 rfl)).trans ((up_o (kx.ne (ck_29_4 k_o0) (ck_29_8 k_o0) rfl)).trans ((up_o (kx.ne (ck_29_4 k_o0) (ck_29_7 k_o0) rfl)).trans ((up_o (kx.ne (ck_29_4 k_o0) (ck_29_6 k_o0) rfl)).trans ((up_o (kx.ne (ck_29_4 k_o0) (ck_29_5 k_o0) rfl)).trans ((up_k hj).trans rfl))))))))) ((up_o (kx.ne (ck_29_5 k_o0) (ck_29_3 k_o0) rfl)).trans ((up_o (kx.ne (ck_29_5 k_o0) (ck_29_2 k_o0) rfl)).trans ((up_o (kx.ne (ck_29_5 k_o0) k_o0 rfl)).trans ((up_o (kx.ne (ck_29_5 k_o0) (ck_29_8 k_o0) rfl)).trans ((up_o (kx.ne (ck_29_5 k_o0) (ck_29_7 k_o0) rfl)).trans ((up_o (kx.ne (ck_29_5 k_o0) (ck_29_6 k_o0) rfl)).trans up_same)))))) (fun j hj => ((up_o (kx.ne (ck_29_5 k_o0) (ck_29_3 k_o0) rfl)).trans ((up_o (kx.ne (ck_29_5 k_o0) (ck_29_2 k_o0) rfl)).trans ((up_o (kx.ne (ck_29_5 k_o0) k_o0 rfl)).trans ((up_o (kx.ne (ck_29_5 k_o0) (ck_29_8 k_o0) rfl)).trans ((up_o (kx.ne (ck_29_5 k_o0) (ck_29_7 k_o0) rfl)).trans ((up_o (kx.ne (ck_29_5 k_o0) (ck_29_6 k_o0) rfl)).trans ((up_k hj).trans ((up_o (kx.ne (ck_29_5 k_o0) (ck_29_4 k_o0) rfl)).trans rfl))))))))) ((up_o (kx.ne (ck_29_6 k_o0) (ck_29_3 k_o0) rfl)).trans ((up_o (kx.ne (ck_29_6 k_o0) (ck_29_2 k_o0) rfl)).trans ((up_o (kx.ne (ck_29_6 k_o0) k_o0 rfl)).trans ((up_o (kx.ne (ck_29_6 k_o0) (ck_29_8 k_o0) rfl)).trans ((up_o (kx.ne (ck_29_6 k_o0) (ck_29_7 k_o0) rfl)).trans up_same))))) (fun j hj => ((up_o (kx.ne (ck_29_6 k_o0) (ck_29_3 k_o0) rfl)).trans ((up_o (kx.ne (ck_29_6 k_o0) (ck_29_2 k_o0) rfl)).trans ((up_o (kx.ne (ck_29_6 k_o0) k_o0 rfl)).trans ((up_o (kx.ne (ck_29_6 k_o0) (ck_29_8 k_o0) rfl)).trans ((up_o (kx.ne (ck_29_6 k_o0) (ck_29_7 k_o0) rfl)).trans ((up_k hj).trans ((up_o (kx.ne (ck_29_6 k_o0) (ck_29_5 k_o0) rfl)).trans ((up_o (kx.ne (ck_29_6 k_o0) (ck_29_4 k_o0) rfl)).trans rfl))))))))) ((up_o (kx.ne (ck_29_7 k_o0) (ck_29_3 k_o0) rfl)).trans ((up_o (kx.ne (ck_29_7 k_o0) (ck_29_2 k_o0) rfl)).trans ((up_o (kx.ne (ck_29_7 k_o0) k_o0 rfl)).trans ((up_o (kx.ne (ck_29_7 k_o0) (ck_29_8 k_o0) rfl)).trans up_same)))) (fun j hj => ((up_o (kx.ne (ck_29_7 k_o0) (ck_29_3 k_o0) rfl)).trans ((up_o (kx.ne (ck_29_7 k_o0) (ck_29_2 k_o0) rfl)).trans ((up_o (kx.ne (ck_29_7 k_o0) k_o0 rfl)).trans ((up_o (kx.ne (ck_29_7 k_o0) (ck_29_8 k_o0) rfl)).trans ((up_k hj).trans ((up_o (kx.ne (ck_29_7 k_o0) (ck_29_6 k_o0) rfl)).trans ((up_o (kx.ne (ck_29_7 k_o0) (ck_29_5 k_o0) rfl)).trans ((up_o (kx.ne (ck_29_7 k_o0) (ck_29_4 k_o0) rfl)).trans rfl))))))))) ((up_o (kx.ne (ck_29_8 k_o0) (ck_29_3 k_o0) rfl)).trans ((up_o (kx.ne (ck_29_8 k_o0) (ck_29_2 k_o0) rfl)).trans ((up_o (kx.ne (ck_29_8 k_o0) k_o0 rfl)).trans up_same))) (fun j hj => ((up_o (kx.ne (ck_29_8 k_o0) (ck_29_3 k_o0) rfl)).trans ((up_o (kx.ne (ck_29_8 k_o0) (ck_29_2 k_o0) rfl)).trans ((up_o (kx.ne (ck_29_8 k_o0) k_o0 rfl)).trans ((up_k hj).trans ((up_o (kx.ne (ck_29_8 k_o0) (ck_29_7 k_o0) rfl)).trans ((up_o (kx.ne (ck_29_8 k_o0) (ck_29_6 k_o0) rfl)).trans ((up_o (kx.ne (ck_29_8 k_o0) (ck_29_5 k_o0) rfl)).trans ((up_o (kx.ne (ck_29_8 k_o0) (ck_29_4 k_o0) rfl)).trans rfl))))))))) ((up_o (kx.ne (ck_29_2 k_o0) (ck_29_3 k_o0) rfl)).trans up_same) (fun j hj => ((up_o (kx.ne (ck_29_2 k_o0) (ck_29_3 k_o0) rfl)).trans ((up_k hj).trans ((up_o (kx.ne (ck_29_2 k_o0) k_o0 rfl)).trans ((up_o (kx.ne (ck_29_2 k_o0) (ck_29_8 k_o0) rfl)).trans ((up_o (kx.ne (ck_29_2 k_o0) (ck_29_7 k_o0) rfl)).trans ((up_o (kx.ne (ck_29_2 k_o0) (ck_29_6 k_o0) rfl)).trans ((up_o (kx.ne (ck_29_2 k_o0) (ck_29_5 k_o0) rfl)).trans ((up_o (kx.ne (ck_29_2 k_o0) (ck_29_4 k_o0) rfl)).trans rfl))))))))) up_same (fun j hj => ((up_k hj).trans ((up_o (kx.ne (ck_29_3 k_o0) (ck_29_2 k_o0) rfl)).trans ((up_o (kx.ne (ck_29_3 k_o0) k_o0 rfl)).trans ((up_o (kx.ne (ck_29_3 k_o0) (ck_29_8 k_o0) rfl)).trans ((up_o (kx.ne (ck_29_3 k_o0) (ck_29_7 k_o0) rfl)).trans ((up_o (kx.ne (ck_29_3 k_o0) (ck_29_6 k_o0) rfl)).trans ((up_o (kx.ne (ck_29_3 k_o0) (ck_29_5 k_o0) rfl)).trans ((up_o (kx.ne (ck_29_3 k_o0) (ck_29_4 k_o0) rfl)).trans rfl))))))))) (fun j => ((up_o (kx.ne (ck_29_0 k_o0) (ck_29_3 k_o0) rfl)).trans ((up_o (kx.ne (ck_29_0 k_o0) (ck_29_2 k_o0) rfl)).trans ((up_o (kx.ne (ck_29_0 k_o0) k_o0 rfl)).trans ((up_o (kx.ne (ck_29_0 k_o0) (ck_29_8 k_o0) rfl)).trans ((up_o (kx.ne (ck_29_0 k_o0) (ck_29_7 k_o0) rfl)).trans ((up_o (kx.ne (ck_29_0 k_o0) (ck_29_6 k_o0) rfl)).trans ((up_o (kx.ne (ck_29_0 k_o0) (ck_29_5 k_o0) rfl)).trans ((up_o (kx.ne (ck_29_0 k_o0) (ck_29_4 k_o0) rfl)).trans rfl))))))))) (fun j => ((up_o (kx.ne (ck_29_1 k_o0) (ck_29_3 k_o0) rfl)).trans ((up_o (kx.ne (ck_29_1 k_o0) (ck_29_2 k_o0) rfl)).trans ((up_o (kx.ne (ck_29_1 k_o0) k_o0 rfl)).trans ((up_o (kx.ne (ck_29_1 k_o0) (ck_29_8 k_o0) rfl)).trans ((up_o (kx.ne (ck_29_1 k_o0) (ck_29_7 k_o0) rfl)).trans ((up_o (kx.ne (ck_29_1 k_o0) (ck_29_6 k_o0) rfl)).trans ((up_o (kx.ne (ck_29_1 k_o0) (ck_29_5 k_o0) rfl)).trans ((up_o (kx.ne (ck_29_1 k_o0) (ck_29_4 k_o0) rfl)).trans rfl))))))))) (by (clear hb gc2_k gc2_f k5; omega)) | (exfalso; (first | (clear hb gc2_k gc2_f k5; omega) | (clear hb gc2_k gc2_f; omega) | (clear hb gc2_k k5; omega) | (clear hb gc2_f k5; omega) | (clear gc2_k gc2_f k5; omega) | (clear hb gc2_k; omega) | omega))) (kt23))
/-! What the class answers: X9_clear. -/
set_option maxRecDepth 100000 in
set_option maxHeartbeats 4000000 in
theorem f_X9_clear (G : GT) (P : PH) (o0 : Nat) (k_o0 : kx o0 28) (hB : BdX P) (Q : Option PV → PH → Prop) (hQ : ∀ (P1 : PH) (_ : BdX P1) (_ : FrX ([(28, 6), (28, 7), (28, 8), (28, 9), (28, 10), (29, 9), (29, 10)], []) P P1) (_ : XK K0 (crX o0 0) P1) (_ : XM M0 o0 P1) (_ : KT (tbX o0) P P1), Q none P1) : Ct WSX G 2 iX9_clear [vR o0] P Q := by
  refine Ct.of (by decide) (l0 := [(0, vR o0)]) rfl (Nat.le_of_ble_eq_true rfl) ?_
  have kt0 : KT (tbX o0) P P := KT.rf
  refine g_aload_n dX9_clear_0 rfl ?_
  refine x_g28_0 (n := (crX o0 0)) k_o0 ffX9_12 dX9_clear_1 rfl ?_
  refine g_vV (av := []) (o := (crX o0 0)) (st := []) (f_X3_clear G P (crX o0 0) (ck_28_0 k_o0) hB  _ (fun Pc1 hBc1 hFc1 ec1_0 ec1_1 => ⟨rfl, ?_⟩)) cf_X3_clear t_691 rfl (show kx (crX o0 0) 29 from (ck_28_0 k_o0)).1 ((show kx (crX o0 0) 29 from (ck_28_0 k_o0)).sh rfl) rfl rfl (Nat.le_of_ble_eq_true rfl) (by decide) rfl dX9_clear_4
  have kt2 : KT (tbX o0) P Pc1 := KT.t kt0 (KT.e ec1_1 (tb28_0 k_o0))
  refine g_aload_n dX9_clear_7 rfl ?_
  refine g_iconst dX9_clear_8 ?_
  refine x_p28_6 k_o0 pfX9_39 dX9_clear_9 ?_
  have hB3 := by_28_6 (z := 0) hBc1 k_o0 (by decide)
  have kt4 : KT (tbX o0) P (up Pc1 o0 6 0) := KT.w kt2 (Or.inl rfl)
  refine g_aload_n dX9_clear_12 rfl ?_
  refine g_iconst dX9_clear_13 ?_
  refine x_p28_7 k_o0 pfX9_43 dX9_clear_14 ?_
  have hB5 := by_28_7 (z := 0) hB3 k_o0 (by decide)
  have kt6 : KT (tbX o0) P (up (up Pc1 o0 6 0) o0 7 0) := KT.w kt4 (Or.inl rfl)
  refine g_aload_n dX9_clear_17 rfl ?_
  refine g_iconst dX9_clear_18 ?_
  refine x_p28_8 k_o0 pfX9_46 dX9_clear_19 ?_
  have hB7 := by_28_8 (z := 0) hB5 k_o0 (by decide)
  have kt8 : KT (tbX o0) P (up (up (up Pc1 o0 6 0) o0 7 0) o0 8 0) := KT.w kt6 (Or.inl rfl)
  refine g_aload_n dX9_clear_22 rfl ?_
  refine g_iconst dX9_clear_23 ?_
  refine x_p28_9 k_o0 pfX9_49 dX9_clear_24 ?_
  have hB9 := by_28_9 (z := 0) hB7 k_o0 (by decide)
  have kt10 : KT (tbX o0) P (up (up (up (up Pc1 o0 6 0) o0 7 0) o0 8 0) o0 9 0) := KT.w kt8 (Or.inl rfl)
  refine g_aload_n dX9_clear_27 rfl ?_
  refine g_sipush dX9_clear_28 (by decide) ?_
  refine x_p28_10 k_o0 pfX9_52 dX9_clear_31 ?_
  have hB11 := by_28_10 (z := 300) hB9 k_o0 (by decide)
  have kt12 : KT (tbX o0) P (up (up (up (up (up Pc1 o0 6 0) o0 7 0) o0 8 0) o0 9 0) o0 10 300) := KT.w kt10 (Or.inl rfl)
  exact g_retV dX9_clear_34 rfl (hQ _ hB11 (FrX.s (FrX.s (FrX.s (FrX.s (FrX.s (FrX.c FrX.rf hFc1 rfl) k_o0 rfl) k_o0 rfl) k_o0 rfl) k_o0 rfl) k_o0 rfl) ((XK.fr (F := ([(28, 6), (28, 7), (28, 8), (28, 9), (28, 10)], [])) ec1_0 (FrX.s (FrX.s (FrX.s (FrX.s (FrX.s FrX.rf k_o0 rfl) k_o0 rfl) k_o0 rfl) k_o0 rfl) k_o0 rfl) rfl)) (XM.zero k_o0 ((up_k (by decide)).trans ((up_k (by decide)).trans ((up_k (by decide)).trans ((up_k (by decide)).trans up_same)))) ((up_k (by decide)).trans ((up_k (by decide)).trans ((up_k (by decide)).trans up_same))) ((up_k (by decide)).trans ((up_k (by decide)).trans up_same)) ((up_k (by decide)).trans up_same) up_same) (kt12))
/-! What the class answers: X9_addArm. -/
set_option maxRecDepth 100000 in
set_option maxHeartbeats 4000000 in
theorem f_X9_addArm (G : GT) (P : PH) (M : PH) (o0 : Nat) (a1 : Int) (k_o0 : kx o0 28) (h_a1 : (-2147483648) ≤ a1 ∧ a1 ≤ 2147483647) (hB : BdX P) (p_a11 : M 0 2 ≤ 11) (z0 : XM M o0 P) (Q : Option PV → PH → Prop) (hQ : ∀ (P1 : PH) (_ : BdX P1) (_ : FrX ([(28, 8)], [42]) P P1) (_ : XM (aNew M a1) o0 P1) (_ : KT (tbX o0) P P1), Q none P1) : Ct WSX G 1 iX9_addArm [vR o0, vI a1] P Q := by
  refine Ct.of (by decide) (l0 := [(0, vR o0), (1, vI a1)]) rfl (Nat.le_of_ble_eq_true rfl) ?_
  have kt0 : KT (tbX o0) P P := KT.rf
  have hb := z0.b
  refine g_aload_n dX9_addArm_0 rfl ?_
  refine x_g28_8 (z := (P o0 8)) k_o0 ffX9_46 dX9_addArm_1 rfl ?_
  refine g_bipush dX9_addArm_4 (by decide) ?_
  have f1 := bx_28_8 (o := o0) hB k_o0
  refine g_icmp_ge (tgt := 29) dX9_addArm_6 (by decide) ⟨by have q0 := bx_28_8 (o := o0) hB k_o0; (clear hb; omega), by have q0 := bx_28_8 (o := o0) hB k_o0; (clear hb; omega)⟩ (by decide) (fun k2 => ?_) (fun k2 => ?_)
  · exact g_retV dX9_addArm_29 rfl (hQ _ hB FrX.rf (by first | exact z0.arm rfl rfl rfl rfl rfl (fun j => rfl) rfl (fun j hj => rfl) | (exfalso; (omega))) (kt0))
  · refine g_aload_n dX9_addArm_9 rfl ?_
    refine x_g28_4 (n := (crX o0 4)) k_o0 ffX9_28 dX9_addArm_10 rfl ?_
    refine g_aload_n dX9_addArm_13 rfl ?_
    refine x_g28_8 (z := (P o0 8)) k_o0 ffX9_46 dX9_addArm_14 rfl ?_
    refine g_iload_n dX9_addArm_17 rfl ?_
    refine x_s42 (ck_28_4 k_o0) dX9_addArm_18 ⟨by have q0 := bx_28_8 (o := o0) hB k_o0; (clear hb; omega), by have q0 := bx_28_8 (o := o0) hB k_o0; (clear hb; omega)⟩ ?_
    have hB3 := by_42 (z := a1) (k := (P o0 8)) hB (ck_28_4 k_o0) ⟨by (clear hb; omega), by (clear hb; omega)⟩
    have kt4 : KT (tbX o0) P (up P (crX o0 4) (P o0 8) a1) := KT.w kt0 (TB.c (Or.inl rfl) (k_o0).1 (by decide))
    refine g_aload_n dX9_addArm_19 rfl ?_
    refine g_dup dX9_addArm_20 rfl ?_
    refine x_g28_8 (z := (P o0 8)) k_o0 ffX9_46 dX9_addArm_21 ((up_o (kx.ne k_o0 (ck_28_4 k_o0) rfl)).trans rfl) ?_
    refine g_iconst dX9_addArm_24 ?_
    refine g_iadd dX9_addArm_25 ?_
    refine x_p28_8 k_o0 pfX9_46 dX9_addArm_26 ?_
    have hB5 := by_28_8 (z := ((P o0 8) + 1)) hB3 k_o0 ⟨by have q0 := bx_28_8 (o := o0) hB k_o0; (clear hb; omega), by have q0 := bx_28_8 (o := o0) hB k_o0; (clear hb; omega)⟩
    have kt6 : KT (tbX o0) P (up (up P (crX o0 4) (P o0 8) a1) o0 8 ((P o0 8) + 1)) := KT.w kt4 (Or.inl rfl)
    exact g_retV dX9_addArm_29 rfl (hQ _ hB5 (FrX.s (FrX.s FrX.rf (ck_28_4 k_o0) rfl) k_o0 rfl) (by first | exact z0.arm ((up_k (by decide)).trans ((up_o (kx.ne k_o0 (ck_28_4 k_o0) rfl)).trans rfl)) ((up_k (by decide)).trans ((up_o (kx.ne k_o0 (ck_28_4 k_o0) rfl)).trans rfl)) up_same ((up_k (by decide)).trans ((up_o (kx.ne k_o0 (ck_28_4 k_o0) rfl)).trans rfl)) ((up_k (by decide)).trans ((up_o (kx.ne k_o0 (ck_28_4 k_o0) rfl)).trans rfl)) (fun j => ((up_o (kx.ne (ck_28_1 k_o0) k_o0 rfl)).trans ((up_o (kx.ne (ck_28_1 k_o0) (ck_28_4 k_o0) rfl)).trans rfl))) ((up_o (kx.ne (ck_28_4 k_o0) k_o0 rfl)).trans up_same) (fun j hj => ((up_o (kx.ne (ck_28_4 k_o0) k_o0 rfl)).trans ((up_k hj).trans rfl))) | (exfalso; (first | (clear hb; omega) | omega))) (kt6))
/-! What the class answers: X7_isName. -/
set_option maxRecDepth 100000 in
set_option maxHeartbeats 4000000 in
theorem f_X7_isName (G : GT) (P : PH) (T : TT) (p : Int) (hB : BdX P) (z0 : XS T p P) (Q : Option PV → PH → Prop) (hQ : ∀ (r : Int) (_ : 0 ≤ r ∧ r ≤ 1) (_ : (r = 1 ∧ tK T p = 1 ∧ tO T p = -1) ∨ (r = 0 ∧ (tK T p ≠ 1 ∨ tO T p ≠ -1))), Q (some (vI r)) P) : Ct WSX G 1 iX7_isName [vR 111] P Q := by
  refine Ct.of (by decide) (l0 := [(0, vR 111)]) rfl (Nat.le_of_ble_eq_true rfl) ?_
  have hb := z0.b
  refine g_aload_n dX7_isName_0 rfl ?_
  refine x_g46_4 (z := (P 111 4)) (⟨by decide, rfl⟩ : kx 111 46) ffX7_75 dX7_isName_1 rfl ?_
  refine g_iconst dX7_isName_4 ?_
  have f1 := bx_46_4 (o := 111) hB (⟨by decide, rfl⟩ : kx 111 46)
  refine g_icmp_ne (tgt := 20) dX7_isName_5 (by decide) ⟨by have q0 := bx_46_4 (o := 111) hB (⟨by decide, rfl⟩ : kx 111 46); (clear hb; omega), by have q0 := bx_46_4 (o := 111) hB (⟨by decide, rfl⟩ : kx 111 46); (clear hb; omega)⟩ (by decide) (fun k2 => ?_) (fun k2 => ?_)
  · refine g_iconst dX7_isName_20 ?_
    exact g_retZ dX7_isName_21 rfl (by decide) (hQ 0 (by decide) (by (omega)))
  · refine g_aload_n dX7_isName_8 rfl ?_
    refine x_g46_8 (z := (P 111 8)) (⟨by decide, rfl⟩ : kx 111 46) ffX7_87 dX7_isName_9 rfl ?_
    refine g_iconst dX7_isName_12 ?_
    have f3 := bx_46_8 (o := 111) hB (⟨by decide, rfl⟩ : kx 111 46)
    refine g_icmp_ne (tgt := 20) dX7_isName_13 (by decide) ⟨by have q0 := bx_46_8 (o := 111) hB (⟨by decide, rfl⟩ : kx 111 46); (clear hb k2; omega), by have q0 := bx_46_8 (o := 111) hB (⟨by decide, rfl⟩ : kx 111 46); (clear hb k2; omega)⟩ (by decide) (fun k4 => ?_) (fun k4 => ?_)
    · refine g_iconst dX7_isName_20 ?_
      exact g_retZ dX7_isName_21 rfl (by decide) (hQ 0 (by decide) (by (omega)))
    · refine g_iconst dX7_isName_16 ?_
      refine g_goto (tgt := 21) dX7_isName_17 (by decide) ?_
      exact g_retZ dX7_isName_21 rfl (by decide) (hQ 1 (by decide) (by (omega)))
/-! What the class answers: X7_isSign. -/
set_option maxRecDepth 100000 in
set_option maxHeartbeats 4000000 in
theorem f_X7_isSign (G : GT) (P : PH) (T : TT) (p : Int) (a1 : Int) (h_a1 : (-2147483648) ≤ a1 ∧ a1 ≤ 2147483647) (hB : BdX P) (z0 : XS T p P) (Q : Option PV → PH → Prop) (hQ : ∀ (r : Int) (_ : 0 ≤ r ∧ r ≤ 1) (_ : (r = 1 ∧ tK T p = 3 ∧ tV T p = a1) ∨ (r = 0 ∧ (tK T p ≠ 3 ∨ tV T p ≠ a1))), Q (some (vI r)) P) : Ct WSX G 1 iX7_isSign [vR 111, vI a1] P Q := by
  refine Ct.of (by decide) (l0 := [(0, vR 111), (1, vI a1)]) rfl (Nat.le_of_ble_eq_true rfl) ?_
  have hb := z0.b
  have ht : tK T p = 3 → P 111 7 = tV T p := fun h => (z0.tok (by (clear hb; omega))).2
  refine g_aload_n dX7_isSign_0 rfl ?_
  refine x_g46_4 (z := (P 111 4)) (⟨by decide, rfl⟩ : kx 111 46) ffX7_75 dX7_isSign_1 rfl ?_
  refine g_iconst dX7_isSign_4 ?_
  have f1 := bx_46_4 (o := 111) hB (⟨by decide, rfl⟩ : kx 111 46)
  refine g_icmp_ne (tgt := 20) dX7_isSign_5 (by decide) ⟨by have q0 := bx_46_4 (o := 111) hB (⟨by decide, rfl⟩ : kx 111 46); (clear hb ht; omega), by have q0 := bx_46_4 (o := 111) hB (⟨by decide, rfl⟩ : kx 111 46); (clear hb ht; omega)⟩ (by decide) (fun k2 => ?_) (fun k2 => ?_)
  · refine g_iconst dX7_isSign_20 ?_
    exact g_retZ dX7_isSign_21 rfl (by decide) (hQ 0 (by decide) (by (omega)))
  · refine g_aload_n dX7_isSign_8 rfl ?_
    refine x_g46_7 (z := (P 111 7)) (⟨by decide, rfl⟩ : kx 111 46) ffX7_90 dX7_isSign_9 rfl ?_
    refine g_iload_n dX7_isSign_12 rfl ?_
    have f3 := bx_46_7 (o := 111) hB (⟨by decide, rfl⟩ : kx 111 46)
    refine g_icmp_ne (tgt := 20) dX7_isSign_13 (by decide) ⟨by have q0 := bx_46_7 (o := 111) hB (⟨by decide, rfl⟩ : kx 111 46); (clear hb ht k2; omega), by have q0 := bx_46_7 (o := 111) hB (⟨by decide, rfl⟩ : kx 111 46); (clear hb ht k2; omega)⟩ ⟨by (clear hb ht k2; omega), by (clear hb ht k2; omega)⟩ (fun k4 => ?_) (fun k4 => ?_)
    · refine g_iconst dX7_isSign_20 ?_
      exact g_retZ dX7_isSign_21 rfl (by decide) (hQ 0 (by decide) (by (omega)))
    · refine g_iconst dX7_isSign_16 ?_
      refine g_goto (tgt := 21) dX7_isSign_17 (by decide) ?_
      exact g_retZ dX7_isSign_21 rfl (by decide) (hQ 1 (by decide) (by (omega)))
/-! What the class answers: X7_stepNumber. -/
set_option maxRecDepth 100000 in
set_option maxHeartbeats 4000000 in
theorem f_X7_stepNumber (G : GT) (P : PH) (T : TT) (p : Int) (hB : BdX P) (p_st : P 111 3 = tA T p ∧ P 111 5 = tA T p ∧ P 111 7 = 0 ∧ P 111 8 = -1) (p_nn : 0 ≤ p ∧ p ≤ T.2 ∧ tA T p < T.2 ∧ 48 ≤ T.1 (tA T p) ∧ T.1 (tA T p) ≤ 57 ∧ tJn T p = 0) (v_TX : TX P) (z0 : XT T P) (Q : Option PV → PH → Prop) (hQ : ∀ (P1 : PH) (_ : BdX P1) (_ : FrX ([(46, 3), (46, 4), (46, 6), (46, 7)], []) P P1) (_ : XS T p P1), Q none P1) : Ct WSX G 1 iX7_stepNumber [vR 111] P Q := by
  refine Ct.of (by decide) (l0 := [(0, vR 111)]) rfl (Nat.le_of_ble_eq_true rfl) ?_
  have hln := z0.1
  refine g_aload_n dX7_stepNumber_0 rfl ?_
  refine g_iconst dX7_stepNumber_1 ?_
  refine x_p46_4 (⟨by decide, rfl⟩ : kx 111 46) pfX7_75 dX7_stepNumber_2 ?_
  have hB1 := by_46_4 (z := 2) hB (⟨by decide, rfl⟩ : kx 111 46) (by decide)
  refine g_iconst dX7_stepNumber_5 ?_
  refine g_istore_n (l1 := [(1, vI 0), (0, vR 111)]) dX7_stepNumber_6 (by decide) rfl ?_
  have L7_1 : ∀ (n7_1 : Nat) (x7_1_1 : Int) (h_x7_1_1 : 0 ≤ x7_1_1 ∧ x7_1_1 ≤ 4) (H7_1 : PH) (hB7_1 : BdX H7_1) (hE7_1 : FrX ([(46, 3), (46, 7)], []) (up P 111 4 2) H7_1) (i7_0_1 : H7_1 111 3 = tA T p + x7_1_1) (i7_1_1 : rE bN T (tA T p) = rE bN T (tA T p + x7_1_1) ∧ tA T p + x7_1_1 ≤ rE bN T (tA T p)) (i7_2_1 : H7_1 111 7 = e10 (tD T (tA T p)) (x7_1_1).toNat) (hm7_1 : (1601 - H7_1 111 3 : Int).toNat < n7_1), Go WSX G 1 iX7_stepNumber 7 [(0, vR 111), (1, vI x7_1_1)] [] H7_1 Q := by
    intro n7_1
    induction n7_1 with
    | zero => intro x7_1_1 h_x7_1_1 H7_1 hB7_1 hE7_1 i7_0_1 i7_1_1 i7_2_1 hm7_1; exact absurd hm7_1 (Nat.not_lt_zero _)
    | succ n7_1 ih7_1 =>
    intro x7_1_1 h_x7_1_1 H7_1 hB7_1 hE7_1 i7_0_1 i7_1_1 i7_2_1 hm7_1
    have hT : tA T p + x7_1_1 < T.2 → P 2 ((H7_1 111 3)) = T.1 (tA T p + x7_1_1) := fun h => by rw [show ((H7_1 111 3) : Int) = tA T p + x7_1_1 by omega]; exact z0.2 (tA T p + x7_1_1) (by have q := tA_ge T p; omega) h
    have hgn := rE_ge bN T (tA T p)
    refine g_aload_n dX7_stepNumber_7 rfl ?_
    refine x_g46_3 (z := (H7_1 111 3)) (⟨by decide, rfl⟩ : kx 111 46) ffX7_72 dX7_stepNumber_8 rfl ?_
    have f49 := bx_46_3 (o := 111) hB7_1 (⟨by decide, rfl⟩ : kx 111 46)
    refine g_if_lt (tgt := 112) dX7_stepNumber_11 (by decide) ⟨by have q0 := bx_46_3 (o := 111) hB7_1 (⟨by decide, rfl⟩ : kx 111 46); (clear hT; omega), by have q0 := bx_46_3 (o := 111) hB7_1 (⟨by decide, rfl⟩ : kx 111 46); (clear hT; omega)⟩ (fun k50 => by exfalso; have q0 := bx_46_3 (o := 111) hB7_1 (⟨by decide, rfl⟩ : kx 111 46); (clear hT; omega)) (fun k50 => ?_)
    refine g_aload_n dX7_stepNumber_14 rfl ?_
    refine x_g46_3 (z := (H7_1 111 3)) (⟨by decide, rfl⟩ : kx 111 46) ffX7_72 dX7_stepNumber_15 rfl ?_
    refine g_aload_n dX7_stepNumber_18 rfl ?_
    refine x_g46_2 (z := (P 111 2)) (⟨by decide, rfl⟩ : kx 111 46) ffX7_71 dX7_stepNumber_19 ((FrX.g hE7_1 (⟨by decide, rfl⟩ : kx 111 46) rfl).trans ((up_k (by decide)).trans rfl)) ?_
    have f51 := bx_46_2 (o := 111) hB (⟨by decide, rfl⟩ : kx 111 46)
    refine g_icmp_ge (tgt := 112) dX7_stepNumber_22 (by decide) ⟨by have q0 := bx_46_3 (o := 111) hB7_1 (⟨by decide, rfl⟩ : kx 111 46); (clear hT; omega), by have q0 := bx_46_3 (o := 111) hB7_1 (⟨by decide, rfl⟩ : kx 111 46); (clear hT; omega)⟩ ⟨by have q0 := bx_46_2 (o := 111) hB (⟨by decide, rfl⟩ : kx 111 46); (clear hT; omega), by have q0 := bx_46_2 (o := 111) hB (⟨by decide, rfl⟩ : kx 111 46); (clear hT; omega)⟩ (fun k52 => ?_) (fun k52 => ?_)
    · have hrs := i7_1_1.1.trans (rE_st (f := bN) (T := T) (p := tA T p + x7_1_1) (fun h => by have q := bN_t.mp h.2; (clear hT; omega)))
      exact g_retV dX7_stepNumber_112 rfl (hQ _ hB7_1 (FrX.c (FrX.s FrX.rf (⟨by decide, rfl⟩ : kx 111 46) rfl) hE7_1 rfl) (by have q3 := (rfl : H7_1 111 3 = (H7_1 111 3)); have q4 := (((FrX.g hE7_1 (⟨by decide, rfl⟩ : kx 111 46) rfl).trans up_same) : H7_1 111 4 = 2); have q5 := (((FrX.g hE7_1 (⟨by decide, rfl⟩ : kx 111 46) rfl).trans ((up_k (by decide)).trans rfl)) : H7_1 111 5 = (P 111 5)); have q6 := (((FrX.g hE7_1 (⟨by decide, rfl⟩ : kx 111 46) rfl).trans ((up_k (by decide)).trans rfl)) : H7_1 111 6 = (P 111 6)); have q7 := (rfl : H7_1 111 7 = (H7_1 111 7)); have q8 := (((FrX.g hE7_1 (⟨by decide, rfl⟩ : kx 111 46) rfl).trans ((up_k (by decide)).trans rfl)) : H7_1 111 8 = (P 111 8)); exact XS.nu ⟨by (clear hT; omega), by (clear hT; omega)⟩ (by (clear hT; omega)) (by (clear hT; omega)) (by (clear hT; omega)) (by (clear hT; omega)) (by (clear hT; omega)) (by rw [show (rE bN T (tA T p) - tA T p).toNat = (x7_1_1).toNat by (clear hT; omega)]; (clear hT; omega)) (by (clear hT; omega)) (by (clear hT; omega)) (by (clear hT; omega))))
    · refine g_aload_n dX7_stepNumber_25 rfl ?_
      refine x_g46_1 (n := 2) (⟨by decide, rfl⟩ : kx 111 46) ffX7_41 dX7_stepNumber_26 (TX.fr (F := ([(46, 3), (46, 4), (46, 7)], [])) v_TX (FrX.c (FrX.s FrX.rf (⟨by decide, rfl⟩ : kx 111 46) rfl) hE7_1 rfl) rfl) ?_
      refine g_aload_n dX7_stepNumber_29 rfl ?_
      refine x_g46_3 (z := (H7_1 111 3)) (⟨by decide, rfl⟩ : kx 111 46) ffX7_72 dX7_stepNumber_30 rfl ?_
      refine x_l2 (z := (P 2 (H7_1 111 3))) (⟨by decide, rfl⟩ : kx 2 2) dX7_stepNumber_33 ⟨by have q0 := bx_46_3 (o := 111) hB7_1 (⟨by decide, rfl⟩ : kx 111 46); (clear hT; omega), by have q0 := bx_46_3 (o := 111) hB7_1 (⟨by decide, rfl⟩ : kx 111 46); (clear hT; omega)⟩ ((FrX.g hE7_1 (⟨by decide, rfl⟩ : kx 2 2) rfl).trans ((up_o (kx.ne (⟨by decide, rfl⟩ : kx 2 2) (⟨by decide, rfl⟩ : kx 111 46) rfl)).trans rfl)) ?_
      refine g_bipush dX7_stepNumber_34 (by decide) ?_
      have f53 := bx_2 (o := 2) (k := (H7_1 111 3)) hB (⟨by decide, rfl⟩ : kx 2 2)
      refine g_icmp_lt (tgt := 112) dX7_stepNumber_36 (by decide) ⟨by have q0 := bx_2 (o := 2) (k := (H7_1 111 3)) hB (⟨by decide, rfl⟩ : kx 2 2); (clear hT; omega), by have q0 := bx_2 (o := 2) (k := (H7_1 111 3)) hB (⟨by decide, rfl⟩ : kx 2 2); (clear hT; omega)⟩ (by decide) (fun k54 => ?_) (fun k54 => ?_)
      · have hrs := i7_1_1.1.trans (rE_st (f := bN) (T := T) (p := tA T p + x7_1_1) (fun h => by have q := bN_t.mp h.2; (omega)))
        exact g_retV dX7_stepNumber_112 rfl (hQ _ hB7_1 (FrX.c (FrX.s FrX.rf (⟨by decide, rfl⟩ : kx 111 46) rfl) hE7_1 rfl) (by have q3 := (rfl : H7_1 111 3 = (H7_1 111 3)); have q4 := (((FrX.g hE7_1 (⟨by decide, rfl⟩ : kx 111 46) rfl).trans up_same) : H7_1 111 4 = 2); have q5 := (((FrX.g hE7_1 (⟨by decide, rfl⟩ : kx 111 46) rfl).trans ((up_k (by decide)).trans rfl)) : H7_1 111 5 = (P 111 5)); have q6 := (((FrX.g hE7_1 (⟨by decide, rfl⟩ : kx 111 46) rfl).trans ((up_k (by decide)).trans rfl)) : H7_1 111 6 = (P 111 6)); have q7 := (rfl : H7_1 111 7 = (H7_1 111 7)); have q8 := (((FrX.g hE7_1 (⟨by decide, rfl⟩ : kx 111 46) rfl).trans ((up_k (by decide)).trans rfl)) : H7_1 111 8 = (P 111 8)); exact XS.nu ⟨by (clear hT; omega), by (clear hT; omega)⟩ (by (clear hT; omega)) (by (clear hT; omega)) (by (clear hT; omega)) (by (clear hT; omega)) (by (clear hT; omega)) (by rw [show (rE bN T (tA T p) - tA T p).toNat = (x7_1_1).toNat by (clear hT; omega)]; (clear hT; omega)) (by (clear hT; omega)) (by (clear hT; omega)) (by (clear hT; omega))))
      · refine g_aload_n dX7_stepNumber_39 rfl ?_
        refine x_g46_1 (n := 2) (⟨by decide, rfl⟩ : kx 111 46) ffX7_41 dX7_stepNumber_40 (TX.fr (F := ([(46, 3), (46, 4), (46, 7)], [])) v_TX (FrX.c (FrX.s FrX.rf (⟨by decide, rfl⟩ : kx 111 46) rfl) hE7_1 rfl) rfl) ?_
        refine g_aload_n dX7_stepNumber_43 rfl ?_
        refine x_g46_3 (z := (H7_1 111 3)) (⟨by decide, rfl⟩ : kx 111 46) ffX7_72 dX7_stepNumber_44 rfl ?_
        refine x_l2 (z := (P 2 (H7_1 111 3))) (⟨by decide, rfl⟩ : kx 2 2) dX7_stepNumber_47 ⟨by have q0 := bx_46_3 (o := 111) hB7_1 (⟨by decide, rfl⟩ : kx 111 46); (clear hT; omega), by have q0 := bx_46_3 (o := 111) hB7_1 (⟨by decide, rfl⟩ : kx 111 46); (clear hT; omega)⟩ ((FrX.g hE7_1 (⟨by decide, rfl⟩ : kx 2 2) rfl).trans ((up_o (kx.ne (⟨by decide, rfl⟩ : kx 2 2) (⟨by decide, rfl⟩ : kx 111 46) rfl)).trans rfl)) ?_
        refine g_bipush dX7_stepNumber_48 (by decide) ?_
        refine g_icmp_gt (tgt := 112) dX7_stepNumber_50 (by decide) ⟨by have q0 := bx_2 (o := 2) (k := (H7_1 111 3)) hB (⟨by decide, rfl⟩ : kx 2 2); (clear hT; omega), by have q0 := bx_2 (o := 2) (k := (H7_1 111 3)) hB (⟨by decide, rfl⟩ : kx 2 2); (clear hT; omega)⟩ (by decide) (fun k55 => ?_) (fun k55 => ?_)
        · have hrs := i7_1_1.1.trans (rE_st (f := bN) (T := T) (p := tA T p + x7_1_1) (fun h => by have q := bN_t.mp h.2; (omega)))
          exact g_retV dX7_stepNumber_112 rfl (hQ _ hB7_1 (FrX.c (FrX.s FrX.rf (⟨by decide, rfl⟩ : kx 111 46) rfl) hE7_1 rfl) (by have q3 := (rfl : H7_1 111 3 = (H7_1 111 3)); have q4 := (((FrX.g hE7_1 (⟨by decide, rfl⟩ : kx 111 46) rfl).trans up_same) : H7_1 111 4 = 2); have q5 := (((FrX.g hE7_1 (⟨by decide, rfl⟩ : kx 111 46) rfl).trans ((up_k (by decide)).trans rfl)) : H7_1 111 5 = (P 111 5)); have q6 := (((FrX.g hE7_1 (⟨by decide, rfl⟩ : kx 111 46) rfl).trans ((up_k (by decide)).trans rfl)) : H7_1 111 6 = (P 111 6)); have q7 := (rfl : H7_1 111 7 = (H7_1 111 7)); have q8 := (((FrX.g hE7_1 (⟨by decide, rfl⟩ : kx 111 46) rfl).trans ((up_k (by decide)).trans rfl)) : H7_1 111 8 = (P 111 8)); exact XS.nu ⟨by (clear hT; omega), by (clear hT; omega)⟩ (by (clear hT; omega)) (by (clear hT; omega)) (by (clear hT; omega)) (by (clear hT; omega)) (by (clear hT; omega)) (by rw [show (rE bN T (tA T p) - tA T p).toNat = (x7_1_1).toNat by (clear hT; omega)]; (clear hT; omega)) (by (clear hT; omega)) (by (clear hT; omega)) (by (clear hT; omega))))
        · have hgo := rE_go (f := bN) (T := T) (p := tA T p + x7_1_1) (by (clear hT; omega)) (bN_t.mpr (by (omega)))
          have hge := rE_ge bN T (tA T p + x7_1_1 + 1)
          refine g_iload_n dX7_stepNumber_53 rfl ?_
          refine g_iconst dX7_stepNumber_54 ?_
          refine g_icmp_ne (tgt := 72) dX7_stepNumber_55 (by decide) ⟨by (clear hT; omega), by (clear hT; omega)⟩ (by decide) (fun k56 => ?_) (fun k56 => ?_)
          · have k56n : x7_1_1 ≤ 3 := by (clear hT; omega)
            clear k56
            have hvb := e10_b (T := T) (a := tA T p) (x7_1_1).toNat (by (clear hT; omega)) (fun i hi => run_d (T := T) (a := tA T p) (b := tA T p + x7_1_1) (by (clear hT; omega)) (by (clear hT; omega)) i (by (clear hT; omega)))
            refine g_aload_n dX7_stepNumber_72 rfl ?_
            refine g_aload_n dX7_stepNumber_73 rfl ?_
            refine x_g46_7 (z := (H7_1 111 7)) (⟨by decide, rfl⟩ : kx 111 46) ffX7_90 dX7_stepNumber_74 rfl ?_
            refine g_bipush dX7_stepNumber_77 (by decide) ?_
            refine g_imul dX7_stepNumber_79 ?_
            refine g_aload_n dX7_stepNumber_80 rfl ?_
            refine x_g46_1 (n := 2) (⟨by decide, rfl⟩ : kx 111 46) ffX7_41 dX7_stepNumber_81 (TX.fr (F := ([(46, 3), (46, 4), (46, 7)], [])) v_TX (FrX.c (FrX.s FrX.rf (⟨by decide, rfl⟩ : kx 111 46) rfl) hE7_1 rfl) rfl) ?_
            refine g_aload_n dX7_stepNumber_84 rfl ?_
            refine x_g46_3 (z := (H7_1 111 3)) (⟨by decide, rfl⟩ : kx 111 46) ffX7_72 dX7_stepNumber_85 rfl ?_
            refine x_l2 (z := (P 2 (H7_1 111 3))) (⟨by decide, rfl⟩ : kx 2 2) dX7_stepNumber_88 ⟨by have q0 := bx_46_3 (o := 111) hB7_1 (⟨by decide, rfl⟩ : kx 111 46); (clear hT; omega), by have q0 := bx_46_3 (o := 111) hB7_1 (⟨by decide, rfl⟩ : kx 111 46); (clear hT; omega)⟩ ((FrX.g hE7_1 (⟨by decide, rfl⟩ : kx 2 2) rfl).trans ((up_o (kx.ne (⟨by decide, rfl⟩ : kx 2 2) (⟨by decide, rfl⟩ : kx 111 46) rfl)).trans rfl)) ?_
            refine g_iadd dX7_stepNumber_89 ?_
            refine g_bipush dX7_stepNumber_90 (by decide) ?_
            refine g_isub dX7_stepNumber_92 ?_
            have hv9 : ((((H7_1 111 7) * 10) + (P 2 (H7_1 111 3))) - 48) = e10 (tD T (tA T p)) (x7_1_1 + 1).toNat := by
              rw [show (x7_1_1 + 1).toNat = (x7_1_1).toNat + 1 by (clear hT; omega)]
              show _ = e10 (tD T (tA T p)) (x7_1_1).toNat * 10 + (T.1 (tA T p + ((x7_1_1).toNat : Int)) - 48)
              rw [show tA T p + ((x7_1_1).toNat : Int) = tA T p + x7_1_1 by (clear hT; omega)]
              (omega)
            refine x_p46_7 (⟨by decide, rfl⟩ : kx 111 46) pfX7_90 dX7_stepNumber_93 ?_
            have hB57 := by_46_7 (z := ((((H7_1 111 7) * 10) + (P 2 (H7_1 111 3))) - 48)) hB7_1 (⟨by decide, rfl⟩ : kx 111 46) ⟨by have q0 := bx_46_7 (o := 111) hB7_1 (⟨by decide, rfl⟩ : kx 111 46); have q1 := bx_2 (o := 2) (k := (H7_1 111 3)) hB (⟨by decide, rfl⟩ : kx 2 2); (clear hT; omega), by have q0 := bx_46_7 (o := 111) hB7_1 (⟨by decide, rfl⟩ : kx 111 46); have q1 := bx_2 (o := 2) (k := (H7_1 111 3)) hB (⟨by decide, rfl⟩ : kx 2 2); (clear hT; omega)⟩
            refine g_iinc (l1 := [(1, vI (x7_1_1 + 1)), (0, vR 111)]) dX7_stepNumber_96 rfl (by decide) rfl ?_
            refine g_aload_n dX7_stepNumber_99 rfl ?_
            refine g_dup dX7_stepNumber_100 rfl ?_
            refine x_g46_3 (z := (H7_1 111 3)) (⟨by decide, rfl⟩ : kx 111 46) ffX7_72 dX7_stepNumber_101 ((up_k (by decide)).trans rfl) ?_
            refine g_iconst dX7_stepNumber_104 ?_
            refine g_iadd dX7_stepNumber_105 ?_
            refine x_p46_3 (⟨by decide, rfl⟩ : kx 111 46) pfX7_72 dX7_stepNumber_106 ?_
            have hB58 := by_46_3 (z := ((H7_1 111 3) + 1)) hB57 (⟨by decide, rfl⟩ : kx 111 46) ⟨by have q0 := bx_46_3 (o := 111) hB7_1 (⟨by decide, rfl⟩ : kx 111 46); (clear hT; omega), by have q0 := bx_46_3 (o := 111) hB7_1 (⟨by decide, rfl⟩ : kx 111 46); (clear hT; omega)⟩
            refine g_goto (tgt := 7) dX7_stepNumber_109 (by decide) ?_
            refine g_forget (l1 := [(0, vR 111), (1, vI (x7_1_1 + 1))]) (by intro q hq; simp only [List.mem_cons, List.not_mem_nil, or_false] at hq ⊢; rcases hq with rfl | rfl <;> simp) ?_
            exact ih7_1 (x7_1_1 + 1) ⟨by (clear hT; omega), by (clear hT; omega)⟩ _ hB58 (FrX.s (FrX.s (FrX.c FrX.rf hE7_1 rfl) (⟨by decide, rfl⟩ : kx 111 46) rfl) (⟨by decide, rfl⟩ : kx 111 46) rfl) (by have q0 := (up_same : (up (up H7_1 111 7 ((((H7_1 111 7) * 10) + (P 2 (H7_1 111 3))) - 48)) 111 3 ((H7_1 111 3) + 1)) 111 3 = ((H7_1 111 3) + 1)); have q1 := bx_46_3 (o := 111) hB7_1 (⟨by decide, rfl⟩ : kx 111 46); (clear hT; omega)) (by first | (rw [Int.add_zero]; exact ⟨rfl, rE_ge _ _ _⟩) | (rw [show ∀ z : Int, tA T p + (z + 1) = tA T p + z + 1 from fun z => by (clear hT; omega)]; (clear hT; omega))) (by first | (have q7 := (((up_k (by decide)).trans up_same) : (up (up H7_1 111 7 ((((H7_1 111 7) * 10) + (P 2 (H7_1 111 3))) - 48)) 111 3 ((H7_1 111 3) + 1)) 111 7 = ((((H7_1 111 7) * 10) + (P 2 (H7_1 111 3))) - 48)); (clear hT; omega)) | exact (((up_k (by decide)).trans up_same)).trans (p_st.2.2.1.trans rfl)) (by have q0 := (up_same : (up (up H7_1 111 7 ((((H7_1 111 7) * 10) + (P 2 (H7_1 111 3))) - 48)) 111 3 ((H7_1 111 3) + 1)) 111 3 = ((H7_1 111 3) + 1)); have q1 := bx_46_3 (o := 111) hB7_1 (⟨by decide, rfl⟩ : kx 111 46); (clear hT; omega))
          · refine g_aload_n dX7_stepNumber_58 rfl ?_
            refine g_iconst dX7_stepNumber_59 ?_
            refine x_p46_4 (⟨by decide, rfl⟩ : kx 111 46) pfX7_75 dX7_stepNumber_60 ?_
            have hB59 := by_46_4 (z := 4) hB7_1 (⟨by decide, rfl⟩ : kx 111 46) (by decide)
            refine g_aload_n dX7_stepNumber_63 rfl ?_
            refine g_aload_n dX7_stepNumber_64 rfl ?_
            refine x_g46_3 (z := (H7_1 111 3)) (⟨by decide, rfl⟩ : kx 111 46) ffX7_72 dX7_stepNumber_65 ((up_k (by decide)).trans rfl) ?_
            refine x_p46_6 (⟨by decide, rfl⟩ : kx 111 46) pfX7_84 dX7_stepNumber_68 ?_
            have hB60 := by_46_6 (z := (H7_1 111 3)) hB59 (⟨by decide, rfl⟩ : kx 111 46) ⟨by have q0 := bx_46_3 (o := 111) hB7_1 (⟨by decide, rfl⟩ : kx 111 46); (clear hT; omega), by have q0 := bx_46_3 (o := 111) hB7_1 (⟨by decide, rfl⟩ : kx 111 46); (clear hT; omega)⟩
            exact g_retV dX7_stepNumber_71 rfl (hQ _ hB60 (FrX.s (FrX.s (FrX.c (FrX.s FrX.rf (⟨by decide, rfl⟩ : kx 111 46) rfl) hE7_1 rfl) (⟨by decide, rfl⟩ : kx 111 46) rfl) (⟨by decide, rfl⟩ : kx 111 46) rfl) (by have q3 := (((up_k (by decide)).trans ((up_k (by decide)).trans rfl)) : (up (up H7_1 111 4 4) 111 6 (H7_1 111 3)) 111 3 = (H7_1 111 3)); have q4 := (((up_k (by decide)).trans up_same) : (up (up H7_1 111 4 4) 111 6 (H7_1 111 3)) 111 4 = 4); have q5 := (((up_k (by decide)).trans ((up_k (by decide)).trans ((FrX.g hE7_1 (⟨by decide, rfl⟩ : kx 111 46) rfl).trans ((up_k (by decide)).trans rfl)))) : (up (up H7_1 111 4 4) 111 6 (H7_1 111 3)) 111 5 = (P 111 5)); have q6 := (up_same : (up (up H7_1 111 4 4) 111 6 (H7_1 111 3)) 111 6 = (H7_1 111 3)); have q7 := (((up_k (by decide)).trans ((up_k (by decide)).trans rfl)) : (up (up H7_1 111 4 4) 111 6 (H7_1 111 3)) 111 7 = (H7_1 111 7)); have q8 := (((up_k (by decide)).trans ((up_k (by decide)).trans ((FrX.g hE7_1 (⟨by decide, rfl⟩ : kx 111 46) rfl).trans ((up_k (by decide)).trans rfl)))) : (up (up H7_1 111 4 4) 111 6 (H7_1 111 3)) 111 8 = (P 111 8)); exact XS.nub ⟨by (clear hT; omega), by (clear hT; omega)⟩ (by (clear hT; omega)) (by (clear hT; omega)) (by (clear hT; omega)) (by (clear hT; omega)) (by (clear hT; omega)) (by (clear hT; omega)) (by (clear hT; omega)) (by (clear hT; omega))))
  refine g_forget (l1 := [(0, vR 111), (1, vI 0)]) (by intro q hq; simp only [List.mem_cons, List.not_mem_nil, or_false] at hq ⊢; rcases hq with rfl | rfl <;> simp) ?_
  exact L7_1 _ 0 (by decide) _ hB1 FrX.rf (by have q0 := (((up_k (by decide)).trans rfl) : (up P 111 4 2) 111 3 = (P 111 3)); have q1 := bx_46_3 (o := 111) hB (⟨by decide, rfl⟩ : kx 111 46); omega) (by first | (rw [Int.add_zero]; exact ⟨rfl, rE_ge _ _ _⟩) | (rw [show ∀ z : Int, tA T p + (z + 1) = tA T p + z + 1 from fun z => by omega]; omega)) (by first | (have q7 := (((up_k (by decide)).trans rfl) : (up P 111 4 2) 111 7 = (P 111 7)); omega) | exact (((up_k (by decide)).trans rfl)).trans (p_st.2.2.1.trans rfl)) (Nat.lt_succ_self _)
/-! What the class answers: X7_stepWord. -/
set_option maxRecDepth 100000 in
set_option maxHeartbeats 4000000 in
theorem f_X7_stepWord (G : GT) (P : PH) (T : TT) (p : Int) (hB : BdX P) (p_st : P 111 3 = tA T p ∧ P 111 5 = tA T p ∧ P 111 7 = 0 ∧ P 111 8 = -1) (p_nn : 0 ≤ p ∧ p ≤ T.2 ∧ tA T p < T.2 ∧ 97 ≤ T.1 (tA T p) ∧ T.1 (tA T p) ≤ 122 ∧ tJn T p = 0) (v_TX : TX P) (v_OWN : OWN P) (z0 : XT T P) (Q : Option PV → PH → Prop) (hQ : ∀ (P1 : PH) (_ : BdX P1) (_ : FrX ([(46, 3), (46, 4), (46, 6), (46, 7), (46, 8)], []) P P1) (_ : XS T p P1), Q none P1) : Ct WSX G 1 iX7_stepWord [vR 111] P Q := by
  refine Ct.of (by decide) (l0 := [(0, vR 111)]) rfl (Nat.le_of_ble_eq_true rfl) ?_
  have hln := z0.1
  refine g_aload_n dX7_stepWord_0 rfl ?_
  refine g_iconst dX7_stepWord_1 ?_
  refine x_p46_4 (⟨by decide, rfl⟩ : kx 111 46) pfX7_75 dX7_stepWord_2 ?_
  have hB1 := by_46_4 (z := 1) hB (⟨by decide, rfl⟩ : kx 111 46) (by decide)
  refine g_iconst dX7_stepWord_5 ?_
  refine g_istore_n (l1 := [(1, vI 0), (0, vR 111)]) dX7_stepWord_6 (by decide) rfl ?_
  have L7_1 : ∀ (n7_1 : Nat) (x7_1_1 : Int) (h_x7_1_1 : 0 ≤ x7_1_1 ∧ x7_1_1 ≤ 6) (H7_1 : PH) (hB7_1 : BdX H7_1) (hE7_1 : FrX ([(46, 3), (46, 7)], []) (up P 111 4 1) H7_1) (i7_0_1 : H7_1 111 3 = tA T p + x7_1_1) (i7_1_1 : rE bL T (tA T p) = rE bL T (tA T p + x7_1_1) ∧ tA T p + x7_1_1 ≤ rE bL T (tA T p)) (i7_2_1 : H7_1 111 7 = e27 (tL T (tA T p)) (x7_1_1).toNat) (hm7_1 : (1601 - H7_1 111 3 : Int).toNat < n7_1), Go WSX G 1 iX7_stepWord 7 [(0, vR 111), (1, vI x7_1_1)] [] H7_1 Q := by
    intro n7_1
    induction n7_1 with
    | zero => intro x7_1_1 h_x7_1_1 H7_1 hB7_1 hE7_1 i7_0_1 i7_1_1 i7_2_1 hm7_1; exact absurd hm7_1 (Nat.not_lt_zero _)
    | succ n7_1 ih7_1 =>
    intro x7_1_1 h_x7_1_1 H7_1 hB7_1 hE7_1 i7_0_1 i7_1_1 i7_2_1 hm7_1
    have hT : tA T p + x7_1_1 < T.2 → P 2 ((H7_1 111 3)) = T.1 (tA T p + x7_1_1) := fun h => by rw [show ((H7_1 111 3) : Int) = tA T p + x7_1_1 by omega]; exact z0.2 (tA T p + x7_1_1) (by have q := tA_ge T p; omega) h
    have hgn := rE_ge bL T (tA T p)
    refine g_aload_n dX7_stepWord_7 rfl ?_
    refine x_g46_3 (z := (H7_1 111 3)) (⟨by decide, rfl⟩ : kx 111 46) ffX7_72 dX7_stepWord_8 rfl ?_
    have f3885 := bx_46_3 (o := 111) hB7_1 (⟨by decide, rfl⟩ : kx 111 46)
    have J115_4392 : ∀ (i115_0_4392 : rE bL T (tA T p) = tA T p + x7_1_1), Go WSX G 1 iX7_stepWord 115 [(0, vR 111), (1, vI x7_1_1)] [] H7_1 Q := by
      intro i115_0_4392
      obtain ⟨n1, hn1⟩ : ∃ z : Int, z = x7_1_1 := ⟨_, rfl⟩
      have hrl : ∀ i : Nat, i < (n1).toNat → 1 ≤ tL T (tA T p) i ∧ tL T (tA T p) i ≤ 26 := fun i hi => run_l (T := T) (a := tA T p) (b := tA T p + x7_1_1) (by (clear hT; omega)) (by (clear hT; omega)) (by (clear hT; omega)) i (by (clear hT; omega))
      have hp0 := pad_0 (g := tL T (tA T p)) (L := (n1).toNat)
      refine g_iload_n dX7_stepWord_115 rfl ?_
      refine g_istore_n (l1 := [(2, vI x7_1_1), (0, vR 111), (1, vI x7_1_1)]) dX7_stepWord_116 (by decide) rfl ?_
      have L117_4393 : ∀ (n117_4393 : Nat) (x117_2_4393 : Int) (h_x117_2_4393 : 0 ≤ x117_2_4393 ∧ x117_2_4393 ≤ 6) (H117_4393 : PH) (hB117_4393 : BdX H117_4393) (hE117_4393 : FrX ([(46, 7)], []) H7_1 H117_4393) (i117_0_4393 : n1 ≤ x117_2_4393) (i117_1_4393 : H117_4393 111 7 = e27 (tPad (tL T (tA T p)) (n1).toNat) (x117_2_4393).toNat) (hm117_4393 : ((7 - x117_2_4393) : Int).toNat < n117_4393), Go WSX G 1 iX7_stepWord 117 [(0, vR 111), (2, vI x117_2_4393)] [] H117_4393 Q := by
        intro n117_4393
        induction n117_4393 with
        | zero => intro x117_2_4393 h_x117_2_4393 H117_4393 hB117_4393 hE117_4393 i117_0_4393 i117_1_4393 hm117_4393; exact absurd hm117_4393 (Nat.not_lt_zero _)
        | succ n117_4393 ih117_4393 =>
        intro x117_2_4393 h_x117_2_4393 H117_4393 hB117_4393 hE117_4393 i117_0_4393 i117_1_4393 hm117_4393
        refine g_iload_n dX7_stepWord_117 rfl ?_
        refine g_bipush dX7_stepWord_118 (by decide) ?_
        refine g_icmp_ge (tgt := 140) dX7_stepWord_120 (by decide) ⟨by (clear hT; omega), by (clear hT; omega)⟩ (by decide) (fun k4791 => ?_) (fun k4791 => ?_)
        · have hi6 : H117_4393 111 7 = e27 (tPad (tL T (tA T p)) (n1).toNat) 6 := by
            have q := i117_1_4393
            rw [show (x117_2_4393).toNat = 6 by (clear hT; omega)] at q
            exact q
          refine g_iconst dX7_stepWord_140 ?_
          refine g_istore_n (l1 := [(2, vI 0), (0, vR 111)]) dX7_stepWord_141 (by decide) rfl ?_
          have L142_4791 : ∀ (n142_4791 : Nat) (x142_2_4791 : Int) (h_x142_2_4791 : 0 ≤ x142_2_4791 ∧ x142_2_4791 ≤ 11) (H142_4791 : PH) (hB142_4791 : BdX H142_4791) (hE142_4791 : FrX ([(46, 8)], []) H117_4393 H142_4791) (i142_0_4791 : H142_4791 111 8 = oWF (H142_4791 111 7) (x142_2_4791).toNat) (hm142_4791 : ((12 - x142_2_4791) : Int).toNat < n142_4791), Go WSX G 1 iX7_stepWord 142 [(0, vR 111), (2, vI x142_2_4791)] [] H142_4791 Q := by
            intro n142_4791
            induction n142_4791 with
            | zero => intro x142_2_4791 h_x142_2_4791 H142_4791 hB142_4791 hE142_4791 i142_0_4791 hm142_4791; exact absurd hm142_4791 (Nat.not_lt_zero _)
            | succ n142_4791 ih142_4791 =>
            intro x142_2_4791 h_x142_2_4791 H142_4791 hB142_4791 hE142_4791 i142_0_4791 hm142_4791
            refine g_iload_n dX7_stepWord_142 rfl ?_
            refine g_aload_n dX7_stepWord_143 rfl ?_
            refine x_g46_0 (n := 112) (⟨by decide, rfl⟩ : kx 111 46) ffX7_37 dX7_stepWord_144 rfl ?_
            refine x_n47 (⟨by decide, rfl⟩ : kx 112 47) dX7_stepWord_147 ?_
            refine g_icmp_ge (tgt := 175) dX7_stepWord_148 (by decide) ⟨by (clear hT; omega), by (clear hT; omega)⟩ (by decide) (fun k4881 => ?_) (fun k4881 => ?_)
            · exact g_retV dX7_stepWord_175 rfl (hQ _ hB142_4791 (FrX.c (FrX.c (FrX.c (FrX.s FrX.rf (⟨by decide, rfl⟩ : kx 111 46) rfl) hE7_1 rfl) hE117_4393 rfl) hE142_4791 rfl) (by have q3 := (((FrX.g hE142_4791 (⟨by decide, rfl⟩ : kx 111 46) rfl).trans ((FrX.g hE117_4393 (⟨by decide, rfl⟩ : kx 111 46) rfl).trans rfl)) : H142_4791 111 3 = (H7_1 111 3)); have q4 := (((FrX.g hE142_4791 (⟨by decide, rfl⟩ : kx 111 46) rfl).trans ((FrX.g hE117_4393 (⟨by decide, rfl⟩ : kx 111 46) rfl).trans ((FrX.g hE7_1 (⟨by decide, rfl⟩ : kx 111 46) rfl).trans up_same))) : H142_4791 111 4 = 1); have q5 := (((FrX.g hE142_4791 (⟨by decide, rfl⟩ : kx 111 46) rfl).trans ((FrX.g hE117_4393 (⟨by decide, rfl⟩ : kx 111 46) rfl).trans ((FrX.g hE7_1 (⟨by decide, rfl⟩ : kx 111 46) rfl).trans ((up_k (by decide)).trans rfl)))) : H142_4791 111 5 = (P 111 5)); have q6 := (((FrX.g hE142_4791 (⟨by decide, rfl⟩ : kx 111 46) rfl).trans ((FrX.g hE117_4393 (⟨by decide, rfl⟩ : kx 111 46) rfl).trans ((FrX.g hE7_1 (⟨by decide, rfl⟩ : kx 111 46) rfl).trans ((up_k (by decide)).trans rfl)))) : H142_4791 111 6 = (P 111 6)); have q7 := (((FrX.g hE142_4791 (⟨by decide, rfl⟩ : kx 111 46) rfl).trans rfl) : H142_4791 111 7 = (H117_4393 111 7)); have q8 := (rfl : H142_4791 111 8 = (H142_4791 111 8)); exact XS.wo ⟨by (clear hT; omega), by (clear hT; omega)⟩ (by (clear hT; omega)) (by (clear hT; omega)) (by rw [show (11 : Nat) = (x142_2_4791).toNat by (clear hT; omega)]; exact i142_0_4791) (by (clear hT; omega)) (by (clear hT; omega)) (by rw [show (rE bL T (tA T p) - tA T p).toNat = (n1).toNat by (clear hT; omega)]; (clear hT; omega)) (by (clear hT; omega)) (by (clear hT; omega)) (by (clear hT; omega))))
            · have hq112 : H142_4791 112 x142_2_4791 = P 112 x142_2_4791 := ((FrX.g hE142_4791 (⟨by decide, rfl⟩ : kx 112 47) rfl).trans ((FrX.g hE117_4393 (⟨by decide, rfl⟩ : kx 112 47) rfl).trans ((FrX.g hE7_1 (⟨by decide, rfl⟩ : kx 112 47) rfl).trans ((up_o (kx.ne (⟨by decide, rfl⟩ : kx 112 47) (⟨by decide, rfl⟩ : kx 111 46) rfl)).trans rfl))))
              have hq142 : H142_4791 111 8 = oWF ((H117_4393 111 7)) (x142_2_4791).toNat := by
                have q := i142_0_4791
                rw [show H142_4791 111 7 = (H117_4393 111 7) from ((FrX.g hE142_4791 (⟨by decide, rfl⟩ : kx 111 46) rfl).trans rfl)] at q
                exact q
              have hw9 := oWF_s (v := (H117_4393 111 7)) (n := (x142_2_4791).toNat) (((OWN.fr (F := ([(46, 3), (46, 4), (46, 7), (46, 8)], [])) v_OWN (FrX.c (FrX.c (FrX.c (FrX.s FrX.rf (⟨by decide, rfl⟩ : kx 111 46) rfl) hE7_1 rfl) hE117_4393 rfl) hE142_4791 rfl) rfl)) (x142_2_4791).toNat (by (clear hT; omega)))
              rw [show (((x142_2_4791).toNat : Nat) : Int) = x142_2_4791 by (clear hT hw9; omega)] at hw9
              refine g_aload_n dX7_stepWord_151 rfl ?_
              refine x_g46_0 (n := 112) (⟨by decide, rfl⟩ : kx 111 46) ffX7_37 dX7_stepWord_152 rfl ?_
              refine g_iload_n dX7_stepWord_155 rfl ?_
              refine x_l47 (z := (P 112 x142_2_4791)) (⟨by decide, rfl⟩ : kx 112 47) dX7_stepWord_156 ⟨by (clear hT hw9; omega), by (clear hT hw9; omega)⟩ ((FrX.g hE142_4791 (⟨by decide, rfl⟩ : kx 112 47) rfl).trans ((FrX.g hE117_4393 (⟨by decide, rfl⟩ : kx 112 47) rfl).trans ((FrX.g hE7_1 (⟨by decide, rfl⟩ : kx 112 47) rfl).trans ((up_o (kx.ne (⟨by decide, rfl⟩ : kx 112 47) (⟨by decide, rfl⟩ : kx 111 46) rfl)).trans rfl)))) ?_
              refine g_aload_n dX7_stepWord_157 rfl ?_
              refine x_g46_7 (z := (H117_4393 111 7)) (⟨by decide, rfl⟩ : kx 111 46) ffX7_90 dX7_stepWord_158 ((FrX.g hE142_4791 (⟨by decide, rfl⟩ : kx 111 46) rfl).trans rfl) ?_
              have f4882 := bx_47 (o := 112) (k := x142_2_4791) hB (⟨by decide, rfl⟩ : kx 112 47)
              have f4883 := bx_46_7 (o := 111) hB117_4393 (⟨by decide, rfl⟩ : kx 111 46)
              have J169_4885 : ∀ (H169_4885 : PH) (hB169_4885 : BdX H169_4885) (hE169_4885 : FrX ([(46, 8)], []) H142_4791 H169_4885) (i169_0_4885 : H169_4885 111 8 = oWF (H169_4885 111 7) (x142_2_4791 + 1).toNat), Go WSX G 1 iX7_stepWord 169 [(0, vR 111), (2, vI x142_2_4791)] [] H169_4885 Q := by
                intro H169_4885 hB169_4885 hE169_4885 i169_0_4885
                have hnx142 := i169_0_4885
                refine g_iinc (l1 := [(2, vI (x142_2_4791 + 1)), (0, vR 111)]) dX7_stepWord_169 rfl (by decide) rfl ?_
                refine g_goto (tgt := 142) dX7_stepWord_172 (by decide) ?_
                refine g_forget (l1 := [(0, vR 111), (2, vI (x142_2_4791 + 1))]) (by intro q hq; simp only [List.mem_cons, List.not_mem_nil, or_false] at hq ⊢; rcases hq with rfl | rfl <;> simp) ?_
                exact ih142_4791 (x142_2_4791 + 1) ⟨by (clear hT hw9; omega), by (clear hT hw9; omega)⟩ _ hB169_4885 (FrX.c (FrX.c FrX.rf hE142_4791 rfl) hE169_4885 rfl) (by first | exact hnx142 | (have q7 := (((FrX.g hE169_4885 (⟨by decide, rfl⟩ : kx 111 46) rfl).trans ((FrX.g hE142_4791 (⟨by decide, rfl⟩ : kx 111 46) rfl).trans rfl)) : H169_4885 111 7 = (H117_4393 111 7)); have q8 := (rfl : H169_4885 111 8 = (H169_4885 111 8)); rw [q7]; (first | (clear hT hw9; omega) | (clear hT; omega) | (clear hw9; omega) | omega)) | exact (rfl).trans (by first | (first | (clear hT hw9; omega) | (clear hT; omega) | (clear hw9; omega) | omega) | exact (p_st.2.2.2).trans rfl)) (by (clear hT hw9; omega))
              refine g_icmp_ne (tgt := 169) dX7_stepWord_161 (by decide) ⟨by have q0 := bx_47 (o := 112) (k := x142_2_4791) hB (⟨by decide, rfl⟩ : kx 112 47); (clear hT hw9; omega), by have q0 := bx_47 (o := 112) (k := x142_2_4791) hB (⟨by decide, rfl⟩ : kx 112 47); (clear hT hw9; omega)⟩ ⟨by have q0 := bx_46_7 (o := 111) hB117_4393 (⟨by decide, rfl⟩ : kx 111 46); (clear hT hw9; omega), by have q0 := bx_46_7 (o := 111) hB117_4393 (⟨by decide, rfl⟩ : kx 111 46); (clear hT hw9; omega)⟩ (fun k4887 => ?_) (fun k4887 => ?_)
              · skip
                refine g_forget (l1 := [(0, vR 111), (2, vI x142_2_4791)]) (by intro q hq; simp only [List.mem_cons, List.not_mem_nil, or_false] at hq ⊢; rcases hq with rfl | rfl <;> simp) ?_
                exact J169_4885 _ hB142_4791 FrX.rf (by rw [show H142_4791 111 7 = (H117_4393 111 7) from ((FrX.g hE142_4791 (⟨by decide, rfl⟩ : kx 111 46) rfl).trans rfl), show (x142_2_4791 + 1).toNat = (x142_2_4791).toNat + 1 by (clear hT hw9 k4887; omega)]; have q8 := (rfl : H142_4791 111 8 = (H142_4791 111 8)); (clear hT; omega))
              · skip
                refine g_aload_n dX7_stepWord_164 rfl ?_
                refine g_iload_n dX7_stepWord_165 rfl ?_
                refine x_p46_8 (⟨by decide, rfl⟩ : kx 111 46) pfX7_87 dX7_stepWord_166 ?_
                have hB4888 := by_46_8 (z := x142_2_4791) hB142_4791 (⟨by decide, rfl⟩ : kx 111 46) ⟨by (clear hT hw9 k4887; omega), by (clear hT hw9 k4887; omega)⟩
                refine g_forget (l1 := [(0, vR 111), (2, vI x142_2_4791)]) (by intro q hq; simp only [List.mem_cons, List.not_mem_nil, or_false] at hq ⊢; rcases hq with rfl | rfl <;> simp) ?_
                exact J169_4885 _ hB4888 (FrX.s FrX.rf (⟨by decide, rfl⟩ : kx 111 46) rfl) (by rw [show (up H142_4791 111 8 x142_2_4791) 111 7 = (H117_4393 111 7) from ((up_k (by decide)).trans ((FrX.g hE142_4791 (⟨by decide, rfl⟩ : kx 111 46) rfl).trans rfl)), show (x142_2_4791 + 1).toNat = (x142_2_4791).toNat + 1 by (clear hT hw9 k4887; omega)]; have q8 := (up_same : (up H142_4791 111 8 x142_2_4791) 111 8 = x142_2_4791); (clear hT; omega))
          refine g_forget (l1 := [(0, vR 111), (2, vI 0)]) (by intro q hq; simp only [List.mem_cons, List.not_mem_nil, or_false] at hq ⊢; rcases hq with rfl | rfl <;> simp) ?_
          exact L142_4791 _ 0 (by decide) _ hB117_4393 FrX.rf (by first | exact hnx142 | (have q7 := (rfl : H117_4393 111 7 = (H117_4393 111 7)); have q8 := (((FrX.g hE117_4393 (⟨by decide, rfl⟩ : kx 111 46) rfl).trans ((FrX.g hE7_1 (⟨by decide, rfl⟩ : kx 111 46) rfl).trans ((up_k (by decide)).trans rfl))) : H117_4393 111 8 = (P 111 8)); rw [q7]; (first | (clear hT; omega) | omega)) | exact (((FrX.g hE117_4393 (⟨by decide, rfl⟩ : kx 111 46) rfl).trans ((FrX.g hE7_1 (⟨by decide, rfl⟩ : kx 111 46) rfl).trans ((up_k (by decide)).trans rfl)))).trans (by first | (first | (clear hT; omega) | omega) | exact (p_st.2.2.2).trans rfl)) (Nat.lt_succ_self _)
        · have hpb := pad_lt (g := tL T (tA T p)) (L := (n1).toNat) (k := (x117_2_4393).toNat) (by (clear hT; omega)) hrl
          have hp1 := pad_one (g := tL T (tA T p)) (L := (n1).toNat) (k := (x117_2_4393).toNat) (by (clear hT; omega))
          have hnx9 : (H117_4393 111 7) * 27 = e27 (tPad (tL T (tA T p)) (n1).toNat) (x117_2_4393 + 1).toNat := by rw [show (x117_2_4393 + 1).toNat = (x117_2_4393).toNat + 1 by (clear hT; omega), hp1, ← i117_1_4393]
          refine g_aload_n dX7_stepWord_123 rfl ?_
          refine g_dup dX7_stepWord_124 rfl ?_
          refine x_g46_7 (z := (H117_4393 111 7)) (⟨by decide, rfl⟩ : kx 111 46) ffX7_90 dX7_stepWord_125 rfl ?_
          refine g_bipush dX7_stepWord_128 (by decide) ?_
          refine g_imul dX7_stepWord_130 ?_
          refine x_p46_7 (⟨by decide, rfl⟩ : kx 111 46) pfX7_90 dX7_stepWord_131 ?_
          have hB4889 := by_46_7 (z := ((H117_4393 111 7) * 27)) hB117_4393 (⟨by decide, rfl⟩ : kx 111 46) ⟨by have q0 := bx_46_7 (o := 111) hB117_4393 (⟨by decide, rfl⟩ : kx 111 46); (clear hT; omega), by have q0 := bx_46_7 (o := 111) hB117_4393 (⟨by decide, rfl⟩ : kx 111 46); (clear hT; omega)⟩
          refine g_iinc (l1 := [(2, vI (x117_2_4393 + 1)), (0, vR 111)]) dX7_stepWord_134 rfl (by decide) rfl ?_
          refine g_goto (tgt := 117) dX7_stepWord_137 (by decide) ?_
          refine g_forget (l1 := [(0, vR 111), (2, vI (x117_2_4393 + 1))]) (by intro q hq; simp only [List.mem_cons, List.not_mem_nil, or_false] at hq ⊢; rcases hq with rfl | rfl <;> simp) ?_
          exact ih117_4393 (x117_2_4393 + 1) ⟨by (clear hT; omega), by (clear hT; omega)⟩ _ hB4889 (FrX.s (FrX.c FrX.rf hE117_4393 rfl) (⟨by decide, rfl⟩ : kx 111 46) rfl) (by (clear hT; omega)) (by first | exact (up_same).trans hnx9 | exact (up_same).trans (i7_2_1.trans (by rw [← hn1]; exact hp0.symm))) (by (clear hT; omega))
      refine g_forget (l1 := [(0, vR 111), (2, vI x7_1_1)]) (by intro q hq; simp only [List.mem_cons, List.not_mem_nil, or_false] at hq ⊢; rcases hq with rfl | rfl <;> simp) ?_
      exact L117_4393 _ x7_1_1 ⟨by (clear hT; omega), by (clear hT; omega)⟩ _ hB7_1 FrX.rf (by (clear hT; omega)) (by first | exact (rfl).trans hnx9 | exact (rfl).trans (i7_2_1.trans (by rw [← hn1]; exact hp0.symm))) (Nat.lt_succ_self _)
    refine g_if_lt (tgt := 115) dX7_stepWord_11 (by decide) ⟨by have q0 := bx_46_3 (o := 111) hB7_1 (⟨by decide, rfl⟩ : kx 111 46); (clear hT; omega), by have q0 := bx_46_3 (o := 111) hB7_1 (⟨by decide, rfl⟩ : kx 111 46); (clear hT; omega)⟩ (fun k4890 => by exfalso; have q0 := bx_46_3 (o := 111) hB7_1 (⟨by decide, rfl⟩ : kx 111 46); (clear hT; omega)) (fun k4890 => ?_)
    refine g_aload_n dX7_stepWord_14 rfl ?_
    refine x_g46_3 (z := (H7_1 111 3)) (⟨by decide, rfl⟩ : kx 111 46) ffX7_72 dX7_stepWord_15 rfl ?_
    refine g_aload_n dX7_stepWord_18 rfl ?_
    refine x_g46_2 (z := (P 111 2)) (⟨by decide, rfl⟩ : kx 111 46) ffX7_71 dX7_stepWord_19 ((FrX.g hE7_1 (⟨by decide, rfl⟩ : kx 111 46) rfl).trans ((up_k (by decide)).trans rfl)) ?_
    have f4891 := bx_46_2 (o := 111) hB (⟨by decide, rfl⟩ : kx 111 46)
    refine g_icmp_ge (tgt := 115) dX7_stepWord_22 (by decide) ⟨by have q0 := bx_46_3 (o := 111) hB7_1 (⟨by decide, rfl⟩ : kx 111 46); (clear hT; omega), by have q0 := bx_46_3 (o := 111) hB7_1 (⟨by decide, rfl⟩ : kx 111 46); (clear hT; omega)⟩ ⟨by have q0 := bx_46_2 (o := 111) hB (⟨by decide, rfl⟩ : kx 111 46); (clear hT; omega), by have q0 := bx_46_2 (o := 111) hB (⟨by decide, rfl⟩ : kx 111 46); (clear hT; omega)⟩ (fun k4892 => ?_) (fun k4892 => ?_)
    · refine g_forget (l1 := [(0, vR 111), (1, vI x7_1_1)]) (by intro q hq; simp only [List.mem_cons, List.not_mem_nil, or_false] at hq ⊢; rcases hq with rfl | rfl <;> simp) ?_
      exact J115_4392 (i7_1_1.1.trans (rE_st (f := bL) (T := T) (p := tA T p + x7_1_1) (fun h => by have q := bL_t.mp h.2; (clear hT; omega))))
    · refine g_aload_n dX7_stepWord_25 rfl ?_
      refine x_g46_1 (n := 2) (⟨by decide, rfl⟩ : kx 111 46) ffX7_41 dX7_stepWord_26 (TX.fr (F := ([(46, 3), (46, 4), (46, 7)], [])) v_TX (FrX.c (FrX.s FrX.rf (⟨by decide, rfl⟩ : kx 111 46) rfl) hE7_1 rfl) rfl) ?_
      refine g_aload_n dX7_stepWord_29 rfl ?_
      refine x_g46_3 (z := (H7_1 111 3)) (⟨by decide, rfl⟩ : kx 111 46) ffX7_72 dX7_stepWord_30 rfl ?_
      refine x_l2 (z := (P 2 (H7_1 111 3))) (⟨by decide, rfl⟩ : kx 2 2) dX7_stepWord_33 ⟨by have q0 := bx_46_3 (o := 111) hB7_1 (⟨by decide, rfl⟩ : kx 111 46); (clear hT; omega), by have q0 := bx_46_3 (o := 111) hB7_1 (⟨by decide, rfl⟩ : kx 111 46); (clear hT; omega)⟩ ((FrX.g hE7_1 (⟨by decide, rfl⟩ : kx 2 2) rfl).trans ((up_o (kx.ne (⟨by decide, rfl⟩ : kx 2 2) (⟨by decide, rfl⟩ : kx 111 46) rfl)).trans rfl)) ?_
      refine g_bipush dX7_stepWord_34 (by decide) ?_
      have f4893 := bx_2 (o := 2) (k := (H7_1 111 3)) hB (⟨by decide, rfl⟩ : kx 2 2)
      refine g_icmp_lt (tgt := 115) dX7_stepWord_36 (by decide) ⟨by have q0 := bx_2 (o := 2) (k := (H7_1 111 3)) hB (⟨by decide, rfl⟩ : kx 2 2); (clear hT; omega), by have q0 := bx_2 (o := 2) (k := (H7_1 111 3)) hB (⟨by decide, rfl⟩ : kx 2 2); (clear hT; omega)⟩ (by decide) (fun k4894 => ?_) (fun k4894 => ?_)
      · refine g_forget (l1 := [(0, vR 111), (1, vI x7_1_1)]) (by intro q hq; simp only [List.mem_cons, List.not_mem_nil, or_false] at hq ⊢; rcases hq with rfl | rfl <;> simp) ?_
        exact J115_4392 (i7_1_1.1.trans (rE_st (f := bL) (T := T) (p := tA T p + x7_1_1) (fun h => by have q := bL_t.mp h.2; (omega))))
      · refine g_aload_n dX7_stepWord_39 rfl ?_
        refine x_g46_1 (n := 2) (⟨by decide, rfl⟩ : kx 111 46) ffX7_41 dX7_stepWord_40 (TX.fr (F := ([(46, 3), (46, 4), (46, 7)], [])) v_TX (FrX.c (FrX.s FrX.rf (⟨by decide, rfl⟩ : kx 111 46) rfl) hE7_1 rfl) rfl) ?_
        refine g_aload_n dX7_stepWord_43 rfl ?_
        refine x_g46_3 (z := (H7_1 111 3)) (⟨by decide, rfl⟩ : kx 111 46) ffX7_72 dX7_stepWord_44 rfl ?_
        refine x_l2 (z := (P 2 (H7_1 111 3))) (⟨by decide, rfl⟩ : kx 2 2) dX7_stepWord_47 ⟨by have q0 := bx_46_3 (o := 111) hB7_1 (⟨by decide, rfl⟩ : kx 111 46); (clear hT; omega), by have q0 := bx_46_3 (o := 111) hB7_1 (⟨by decide, rfl⟩ : kx 111 46); (clear hT; omega)⟩ ((FrX.g hE7_1 (⟨by decide, rfl⟩ : kx 2 2) rfl).trans ((up_o (kx.ne (⟨by decide, rfl⟩ : kx 2 2) (⟨by decide, rfl⟩ : kx 111 46) rfl)).trans rfl)) ?_
        refine g_bipush dX7_stepWord_48 (by decide) ?_
        refine g_icmp_gt (tgt := 115) dX7_stepWord_50 (by decide) ⟨by have q0 := bx_2 (o := 2) (k := (H7_1 111 3)) hB (⟨by decide, rfl⟩ : kx 2 2); (clear hT; omega), by have q0 := bx_2 (o := 2) (k := (H7_1 111 3)) hB (⟨by decide, rfl⟩ : kx 2 2); (clear hT; omega)⟩ (by decide) (fun k4895 => ?_) (fun k4895 => ?_)
        · refine g_forget (l1 := [(0, vR 111), (1, vI x7_1_1)]) (by intro q hq; simp only [List.mem_cons, List.not_mem_nil, or_false] at hq ⊢; rcases hq with rfl | rfl <;> simp) ?_
          exact J115_4392 (i7_1_1.1.trans (rE_st (f := bL) (T := T) (p := tA T p + x7_1_1) (fun h => by have q := bL_t.mp h.2; (omega))))
        · have hgo := rE_go (f := bL) (T := T) (p := tA T p + x7_1_1) (by (clear hT; omega)) (bL_t.mpr (by (omega)))
          have hge := rE_ge bL T (tA T p + x7_1_1 + 1)
          refine g_iload_n dX7_stepWord_53 rfl ?_
          refine g_bipush dX7_stepWord_54 (by decide) ?_
          refine g_icmp_ne (tgt := 73) dX7_stepWord_56 (by decide) ⟨by (clear hT; omega), by (clear hT; omega)⟩ (by decide) (fun k4896 => ?_) (fun k4896 => ?_)
          · have k4896n : x7_1_1 ≤ 5 := by (clear hT; omega)
            clear k4896
            have hrl : ∀ i : Nat, i < (x7_1_1).toNat → 1 ≤ tL T (tA T p) i ∧ tL T (tA T p) i ≤ 26 := fun i hi => run_l (T := T) (a := tA T p) (b := tA T p + x7_1_1) (by (clear hT; omega)) (by (clear hT; omega)) (by (clear hT; omega)) i (by (clear hT; omega))
            have hvb := e27_lt (T := T) (a := tA T p) (n := (x7_1_1).toNat) (by (clear hT; omega)) hrl
            refine g_aload_n dX7_stepWord_73 rfl ?_
            refine g_aload_n dX7_stepWord_74 rfl ?_
            refine x_g46_7 (z := (H7_1 111 7)) (⟨by decide, rfl⟩ : kx 111 46) ffX7_90 dX7_stepWord_75 rfl ?_
            refine g_bipush dX7_stepWord_78 (by decide) ?_
            refine g_imul dX7_stepWord_80 ?_
            refine g_aload_n dX7_stepWord_81 rfl ?_
            refine x_g46_1 (n := 2) (⟨by decide, rfl⟩ : kx 111 46) ffX7_41 dX7_stepWord_82 (TX.fr (F := ([(46, 3), (46, 4), (46, 7)], [])) v_TX (FrX.c (FrX.s FrX.rf (⟨by decide, rfl⟩ : kx 111 46) rfl) hE7_1 rfl) rfl) ?_
            refine g_aload_n dX7_stepWord_85 rfl ?_
            refine x_g46_3 (z := (H7_1 111 3)) (⟨by decide, rfl⟩ : kx 111 46) ffX7_72 dX7_stepWord_86 rfl ?_
            refine x_l2 (z := (P 2 (H7_1 111 3))) (⟨by decide, rfl⟩ : kx 2 2) dX7_stepWord_89 ⟨by have q0 := bx_46_3 (o := 111) hB7_1 (⟨by decide, rfl⟩ : kx 111 46); (clear hT; omega), by have q0 := bx_46_3 (o := 111) hB7_1 (⟨by decide, rfl⟩ : kx 111 46); (clear hT; omega)⟩ ((FrX.g hE7_1 (⟨by decide, rfl⟩ : kx 2 2) rfl).trans ((up_o (kx.ne (⟨by decide, rfl⟩ : kx 2 2) (⟨by decide, rfl⟩ : kx 111 46) rfl)).trans rfl)) ?_
            refine g_iadd dX7_stepWord_90 ?_
            refine g_bipush dX7_stepWord_91 (by decide) ?_
            refine g_isub dX7_stepWord_93 ?_
            refine g_iconst dX7_stepWord_94 ?_
            refine g_iadd dX7_stepWord_95 ?_
            have hv9 : (((((H7_1 111 7) * 27) + (P 2 (H7_1 111 3))) - 97) + 1) = e27 (tL T (tA T p)) (x7_1_1 + 1).toNat := by
              rw [show (x7_1_1 + 1).toNat = (x7_1_1).toNat + 1 by (clear hT; omega)]
              exact e27_one (by (clear hT; omega)) (by rw [show tA T p + ((x7_1_1).toNat : Int) = tA T p + x7_1_1 by (clear hT; omega)]; (omega))
            refine x_p46_7 (⟨by decide, rfl⟩ : kx 111 46) pfX7_90 dX7_stepWord_96 ?_
            have hB4897 := by_46_7 (z := (((((H7_1 111 7) * 27) + (P 2 (H7_1 111 3))) - 97) + 1)) hB7_1 (⟨by decide, rfl⟩ : kx 111 46) ⟨by have q0 := bx_46_7 (o := 111) hB7_1 (⟨by decide, rfl⟩ : kx 111 46); have q1 := bx_2 (o := 2) (k := (H7_1 111 3)) hB (⟨by decide, rfl⟩ : kx 2 2); (clear hT; omega), by have q0 := bx_46_7 (o := 111) hB7_1 (⟨by decide, rfl⟩ : kx 111 46); have q1 := bx_2 (o := 2) (k := (H7_1 111 3)) hB (⟨by decide, rfl⟩ : kx 2 2); (clear hT; omega)⟩
            refine g_iinc (l1 := [(1, vI (x7_1_1 + 1)), (0, vR 111)]) dX7_stepWord_99 rfl (by decide) rfl ?_
            refine g_aload_n dX7_stepWord_102 rfl ?_
            refine g_dup dX7_stepWord_103 rfl ?_
            refine x_g46_3 (z := (H7_1 111 3)) (⟨by decide, rfl⟩ : kx 111 46) ffX7_72 dX7_stepWord_104 ((up_k (by decide)).trans rfl) ?_
            refine g_iconst dX7_stepWord_107 ?_
            refine g_iadd dX7_stepWord_108 ?_
            refine x_p46_3 (⟨by decide, rfl⟩ : kx 111 46) pfX7_72 dX7_stepWord_109 ?_
            have hB4898 := by_46_3 (z := ((H7_1 111 3) + 1)) hB4897 (⟨by decide, rfl⟩ : kx 111 46) ⟨by have q0 := bx_46_3 (o := 111) hB7_1 (⟨by decide, rfl⟩ : kx 111 46); (clear hT; omega), by have q0 := bx_46_3 (o := 111) hB7_1 (⟨by decide, rfl⟩ : kx 111 46); (clear hT; omega)⟩
            refine g_goto (tgt := 7) dX7_stepWord_112 (by decide) ?_
            refine g_forget (l1 := [(0, vR 111), (1, vI (x7_1_1 + 1))]) (by intro q hq; simp only [List.mem_cons, List.not_mem_nil, or_false] at hq ⊢; rcases hq with rfl | rfl <;> simp) ?_
            exact ih7_1 (x7_1_1 + 1) ⟨by (clear hT; omega), by (clear hT; omega)⟩ _ hB4898 (FrX.s (FrX.s (FrX.c FrX.rf hE7_1 rfl) (⟨by decide, rfl⟩ : kx 111 46) rfl) (⟨by decide, rfl⟩ : kx 111 46) rfl) (by have q0 := (up_same : (up (up H7_1 111 7 (((((H7_1 111 7) * 27) + (P 2 (H7_1 111 3))) - 97) + 1)) 111 3 ((H7_1 111 3) + 1)) 111 3 = ((H7_1 111 3) + 1)); have q1 := bx_46_3 (o := 111) hB7_1 (⟨by decide, rfl⟩ : kx 111 46); (clear hT; omega)) (by first | (rw [Int.add_zero]; exact ⟨rfl, rE_ge _ _ _⟩) | (rw [show ∀ z : Int, tA T p + (z + 1) = tA T p + z + 1 from fun z => by (clear hT; omega)]; (clear hT; omega))) (by first | (have q7 := (((up_k (by decide)).trans up_same) : (up (up H7_1 111 7 (((((H7_1 111 7) * 27) + (P 2 (H7_1 111 3))) - 97) + 1)) 111 3 ((H7_1 111 3) + 1)) 111 7 = (((((H7_1 111 7) * 27) + (P 2 (H7_1 111 3))) - 97) + 1)); (clear hT; omega)) | exact (((up_k (by decide)).trans up_same)).trans (p_st.2.2.1.trans rfl)) (by have q0 := (up_same : (up (up H7_1 111 7 (((((H7_1 111 7) * 27) + (P 2 (H7_1 111 3))) - 97) + 1)) 111 3 ((H7_1 111 3) + 1)) 111 3 = ((H7_1 111 3) + 1)); have q1 := bx_46_3 (o := 111) hB7_1 (⟨by decide, rfl⟩ : kx 111 46); (clear hT; omega))
          · refine g_aload_n dX7_stepWord_59 rfl ?_
            refine g_iconst dX7_stepWord_60 ?_
            refine x_p46_4 (⟨by decide, rfl⟩ : kx 111 46) pfX7_75 dX7_stepWord_61 ?_
            have hB4899 := by_46_4 (z := 4) hB7_1 (⟨by decide, rfl⟩ : kx 111 46) (by decide)
            refine g_aload_n dX7_stepWord_64 rfl ?_
            refine g_aload_n dX7_stepWord_65 rfl ?_
            refine x_g46_3 (z := (H7_1 111 3)) (⟨by decide, rfl⟩ : kx 111 46) ffX7_72 dX7_stepWord_66 ((up_k (by decide)).trans rfl) ?_
            refine x_p46_6 (⟨by decide, rfl⟩ : kx 111 46) pfX7_84 dX7_stepWord_69 ?_
            have hB4900 := by_46_6 (z := (H7_1 111 3)) hB4899 (⟨by decide, rfl⟩ : kx 111 46) ⟨by have q0 := bx_46_3 (o := 111) hB7_1 (⟨by decide, rfl⟩ : kx 111 46); (clear hT; omega), by have q0 := bx_46_3 (o := 111) hB7_1 (⟨by decide, rfl⟩ : kx 111 46); (clear hT; omega)⟩
            exact g_retV dX7_stepWord_72 rfl (hQ _ hB4900 (FrX.s (FrX.s (FrX.c (FrX.s FrX.rf (⟨by decide, rfl⟩ : kx 111 46) rfl) hE7_1 rfl) (⟨by decide, rfl⟩ : kx 111 46) rfl) (⟨by decide, rfl⟩ : kx 111 46) rfl) (by have q3 := (((up_k (by decide)).trans ((up_k (by decide)).trans rfl)) : (up (up H7_1 111 4 4) 111 6 (H7_1 111 3)) 111 3 = (H7_1 111 3)); have q4 := (((up_k (by decide)).trans up_same) : (up (up H7_1 111 4 4) 111 6 (H7_1 111 3)) 111 4 = 4); have q5 := (((up_k (by decide)).trans ((up_k (by decide)).trans ((FrX.g hE7_1 (⟨by decide, rfl⟩ : kx 111 46) rfl).trans ((up_k (by decide)).trans rfl)))) : (up (up H7_1 111 4 4) 111 6 (H7_1 111 3)) 111 5 = (P 111 5)); have q6 := (up_same : (up (up H7_1 111 4 4) 111 6 (H7_1 111 3)) 111 6 = (H7_1 111 3)); have q7 := (((up_k (by decide)).trans ((up_k (by decide)).trans rfl)) : (up (up H7_1 111 4 4) 111 6 (H7_1 111 3)) 111 7 = (H7_1 111 7)); have q8 := (((up_k (by decide)).trans ((up_k (by decide)).trans ((FrX.g hE7_1 (⟨by decide, rfl⟩ : kx 111 46) rfl).trans ((up_k (by decide)).trans rfl)))) : (up (up H7_1 111 4 4) 111 6 (H7_1 111 3)) 111 8 = (P 111 8)); exact XS.wob ⟨by (clear hT; omega), by (clear hT; omega)⟩ (by (clear hT; omega)) (by (clear hT; omega)) (by (clear hT; omega)) (by (clear hT; omega)) (by (clear hT; omega)) (by (clear hT; omega)) (by (clear hT; omega)) (by (clear hT; omega))))
  refine g_forget (l1 := [(0, vR 111), (1, vI 0)]) (by intro q hq; simp only [List.mem_cons, List.not_mem_nil, or_false] at hq ⊢; rcases hq with rfl | rfl <;> simp) ?_
  exact L7_1 _ 0 (by decide) _ hB1 FrX.rf (by have q0 := (((up_k (by decide)).trans rfl) : (up P 111 4 1) 111 3 = (P 111 3)); have q1 := bx_46_3 (o := 111) hB (⟨by decide, rfl⟩ : kx 111 46); omega) (by first | (rw [Int.add_zero]; exact ⟨rfl, rE_ge _ _ _⟩) | (rw [show ∀ z : Int, tA T p + (z + 1) = tA T p + z + 1 from fun z => by omega]; omega)) (by first | (have q7 := (((up_k (by decide)).trans rfl) : (up P 111 4 1) 111 7 = (P 111 7)); omega) | exact (((up_k (by decide)).trans rfl)).trans (p_st.2.2.1.trans rfl)) (Nat.lt_succ_self _)
/-! What the class answers: X7_step. -/
set_option maxRecDepth 100000 in
set_option maxHeartbeats 4000000 in
theorem f_X7_step (G : GT) (P : PH) (T : TT) (q : Int) (hB : BdX P) (p_q : P 111 3 = q ∧ 0 ≤ q ∧ q ≤ T.2) (p_bw : ((P 111 4 = 1 ∨ P 111 4 = 2) ∧ jn T q = 1) ∨ (P 111 4 ≠ 1 ∧ P 111 4 ≠ 2 ∧ jn T q = 0)) (v_TX : TX P) (v_OWN : OWN P) (z0 : XT T P) (Q : Option PV → PH → Prop) (hQ : ∀ (P1 : PH) (_ : BdX P1) (_ : FrX ([(46, 3), (46, 4), (46, 5), (46, 6), (46, 7), (46, 8)], []) P P1) (_ : XS T q P1), Q none P1) : Ct WSX G 2 iX7_step [vR 111] P Q := by
  refine Ct.of (by decide) (l0 := [(0, vR 111)]) rfl (Nat.le_of_ble_eq_true rfl) ?_
  have hln := z0.1
  have hta := tA_ge T q
  have htl := tA_le (T := T) p_q.2.2
  have hta9 : tA T q = rE bW T q := rfl
  have hjs := tJ_s T q
  refine g_aload_n dX7_step_0 rfl ?_
  refine x_g46_4 (z := (P 111 4)) (⟨by decide, rfl⟩ : kx 111 46) ffX7_75 dX7_step_1 rfl ?_
  refine g_iconst dX7_step_4 ?_
  have f1 := bx_46_4 (o := 111) hB (⟨by decide, rfl⟩ : kx 111 46)
  have J16_5421 : ∀ (i16_0_5421 : P 111 4 = 1 ∨ P 111 4 = 2), Go WSX G 2 iX7_step 16 [(0, vR 111)] [] P Q := by
    intro i16_0_5421
    refine g_iconst dX7_step_16 ?_
    refine g_goto (tgt := 21) dX7_step_17 (by decide) ?_
    refine g_istore_n (l1 := [(1, vI 1), (0, vR 111)]) dX7_step_21 (by decide) rfl ?_
    refine g_aload_n dX7_step_22 rfl ?_
    refine x_g46_3 (z := (P 111 3)) (⟨by decide, rfl⟩ : kx 111 46) ffX7_72 dX7_step_23 rfl ?_
    refine g_istore_n (l1 := [(2, vI (P 111 3)), (1, vI 1), (0, vR 111)]) dX7_step_26 (by decide) rfl ?_
    have L27_5422 : ∀ (n27_5422 : Nat) (H27_5422 : PH) (hB27_5422 : BdX H27_5422) (hE27_5422 : FrX ([(46, 3)], []) P H27_5422) (i27_0_5422 : rE bW T q = rE bW T (H27_5422 111 3)) (i27_1_5422 : 0 ≤ H27_5422 111 3) (hm27_5422 : (1601 - H27_5422 111 3 : Int).toNat < n27_5422), Go WSX G 2 iX7_step 27 [(0, vR 111), (1, vI 1), (2, vI (P 111 3))] [] H27_5422 Q := by
      intro n27_5422
      induction n27_5422 with
      | zero => intro H27_5422 hB27_5422 hE27_5422 i27_0_5422 i27_1_5422 hm27_5422; exact absurd hm27_5422 (Nat.not_lt_zero _)
      | succ n27_5422 ih27_5422 =>
      intro H27_5422 hB27_5422 hE27_5422 i27_0_5422 i27_1_5422 hm27_5422
      have hT := z0.2 ((H27_5422 111 3))
      refine g_aload_n dX7_step_27 rfl ?_
      refine x_g46_3 (z := (H27_5422 111 3)) (⟨by decide, rfl⟩ : kx 111 46) ffX7_72 dX7_step_28 rfl ?_
      have f7936 := bx_46_3 (o := 111) hB27_5422 (⟨by decide, rfl⟩ : kx 111 46)
      have J86_8257 : ∀ (i86_0_8257 : H27_5422 111 3 = tA T q), Go WSX G 2 iX7_step 86 [(0, vR 111), (1, vI 1), (2, vI (P 111 3))] [] H27_5422 Q := by
        intro i86_0_8257
        refine g_aload_n dX7_step_86 rfl ?_
        refine g_aload_n dX7_step_87 rfl ?_
        refine x_g46_3 (z := (H27_5422 111 3)) (⟨by decide, rfl⟩ : kx 111 46) ffX7_72 dX7_step_88 rfl ?_
        refine x_p46_5 (⟨by decide, rfl⟩ : kx 111 46) pfX7_81 dX7_step_91 ?_
        have hB8259 := by_46_5 (z := (H27_5422 111 3)) hB27_5422 (⟨by decide, rfl⟩ : kx 111 46) ⟨by have q0 := bx_46_3 (o := 111) hB27_5422 (⟨by decide, rfl⟩ : kx 111 46); (clear p_bw hjs i16_0_5421; omega), by have q0 := bx_46_3 (o := 111) hB27_5422 (⟨by decide, rfl⟩ : kx 111 46); (clear p_bw hjs i16_0_5421; omega)⟩
        refine g_aload_n dX7_step_94 rfl ?_
        refine g_aload_n dX7_step_95 rfl ?_
        refine x_g46_3 (z := (H27_5422 111 3)) (⟨by decide, rfl⟩ : kx 111 46) ffX7_72 dX7_step_96 ((up_k (by decide)).trans rfl) ?_
        refine x_p46_6 (⟨by decide, rfl⟩ : kx 111 46) pfX7_84 dX7_step_99 ?_
        have hB8260 := by_46_6 (z := (H27_5422 111 3)) hB8259 (⟨by decide, rfl⟩ : kx 111 46) ⟨by have q0 := bx_46_3 (o := 111) hB27_5422 (⟨by decide, rfl⟩ : kx 111 46); (clear p_bw hjs i16_0_5421; omega), by have q0 := bx_46_3 (o := 111) hB27_5422 (⟨by decide, rfl⟩ : kx 111 46); (clear p_bw hjs i16_0_5421; omega)⟩
        refine g_aload_n dX7_step_102 rfl ?_
        refine g_iconst dX7_step_103 ?_
        refine x_p46_8 (⟨by decide, rfl⟩ : kx 111 46) pfX7_87 dX7_step_104 ?_
        have hB8261 := by_46_8 (z := (-1)) hB8260 (⟨by decide, rfl⟩ : kx 111 46) (by decide)
        refine g_aload_n dX7_step_107 rfl ?_
        refine g_iconst dX7_step_108 ?_
        refine x_p46_7 (⟨by decide, rfl⟩ : kx 111 46) pfX7_90 dX7_step_109 ?_
        have hB8262 := by_46_7 (z := 0) hB8261 (⟨by decide, rfl⟩ : kx 111 46) (by decide)
        refine g_aload_n dX7_step_112 rfl ?_
        refine x_g46_3 (z := (H27_5422 111 3)) (⟨by decide, rfl⟩ : kx 111 46) ffX7_72 dX7_step_113 ((up_k (by decide)).trans ((up_k (by decide)).trans ((up_k (by decide)).trans ((up_k (by decide)).trans rfl)))) ?_
        refine g_if_lt (tgt := 130) dX7_step_116 (by decide) ⟨by have q0 := bx_46_3 (o := 111) hB27_5422 (⟨by decide, rfl⟩ : kx 111 46); (clear p_bw hjs i16_0_5421; omega), by have q0 := bx_46_3 (o := 111) hB27_5422 (⟨by decide, rfl⟩ : kx 111 46); (clear p_bw hjs i16_0_5421; omega)⟩ (fun k8263 => by exfalso; have q0 := bx_46_3 (o := 111) hB27_5422 (⟨by decide, rfl⟩ : kx 111 46); (clear p_bw hjs i16_0_5421; omega)) (fun k8263 => ?_)
        skip
        skip
        skip
        refine g_aload_n dX7_step_119 rfl ?_
        refine x_g46_3 (z := (H27_5422 111 3)) (⟨by decide, rfl⟩ : kx 111 46) ffX7_72 dX7_step_120 ((up_k (by decide)).trans ((up_k (by decide)).trans ((up_k (by decide)).trans ((up_k (by decide)).trans rfl)))) ?_
        refine g_aload_n dX7_step_123 rfl ?_
        refine x_g46_2 (z := (P 111 2)) (⟨by decide, rfl⟩ : kx 111 46) ffX7_71 dX7_step_124 ((up_k (by decide)).trans ((up_k (by decide)).trans ((up_k (by decide)).trans ((up_k (by decide)).trans ((FrX.g hE27_5422 (⟨by decide, rfl⟩ : kx 111 46) rfl).trans rfl))))) ?_
        have f8264 := bx_46_2 (o := 111) hB (⟨by decide, rfl⟩ : kx 111 46)
        refine g_icmp_lt (tgt := 136) dX7_step_127 (by decide) ⟨by have q0 := bx_46_3 (o := 111) hB27_5422 (⟨by decide, rfl⟩ : kx 111 46); (clear p_bw hjs i16_0_5421; omega), by have q0 := bx_46_3 (o := 111) hB27_5422 (⟨by decide, rfl⟩ : kx 111 46); (clear p_bw hjs i16_0_5421; omega)⟩ ⟨by have q0 := bx_46_2 (o := 111) hB (⟨by decide, rfl⟩ : kx 111 46); (clear p_bw hjs i16_0_5421; omega), by have q0 := bx_46_2 (o := 111) hB (⟨by decide, rfl⟩ : kx 111 46); (clear p_bw hjs i16_0_5421; omega)⟩ (fun k8265 => ?_) (fun k8265 => ?_)
        · skip
          skip
          skip
          have hTq : P 2 ((H27_5422 111 3)) = T.1 (tA T q) := by rw [show ((H27_5422 111 3) : Int) = tA T q by (clear p_bw hjs i16_0_5421; omega)]; exact z0.2 _ (by (clear p_bw hjs i16_0_5421; omega)) (by (clear p_bw hjs i16_0_5421; omega))
          refine g_aload_n dX7_step_136 rfl ?_
          refine x_g46_1 (n := 2) (⟨by decide, rfl⟩ : kx 111 46) ffX7_41 dX7_step_137 (TX.fr (F := ([(46, 3), (46, 5), (46, 6), (46, 7), (46, 8)], [])) v_TX (FrX.s (FrX.s (FrX.s (FrX.s (FrX.c FrX.rf hE27_5422 rfl) (⟨by decide, rfl⟩ : kx 111 46) rfl) (⟨by decide, rfl⟩ : kx 111 46) rfl) (⟨by decide, rfl⟩ : kx 111 46) rfl) (⟨by decide, rfl⟩ : kx 111 46) rfl) rfl) ?_
          refine g_aload_n dX7_step_140 rfl ?_
          refine x_g46_3 (z := (H27_5422 111 3)) (⟨by decide, rfl⟩ : kx 111 46) ffX7_72 dX7_step_141 ((up_k (by decide)).trans ((up_k (by decide)).trans ((up_k (by decide)).trans ((up_k (by decide)).trans rfl)))) ?_
          refine x_l2 (z := (P 2 (H27_5422 111 3))) (⟨by decide, rfl⟩ : kx 2 2) dX7_step_144 ⟨by have q0 := bx_46_3 (o := 111) hB27_5422 (⟨by decide, rfl⟩ : kx 111 46); (clear p_bw hjs i16_0_5421; omega), by have q0 := bx_46_3 (o := 111) hB27_5422 (⟨by decide, rfl⟩ : kx 111 46); (clear p_bw hjs i16_0_5421; omega)⟩ ((up_o (kx.ne (⟨by decide, rfl⟩ : kx 2 2) (⟨by decide, rfl⟩ : kx 111 46) rfl)).trans ((up_o (kx.ne (⟨by decide, rfl⟩ : kx 2 2) (⟨by decide, rfl⟩ : kx 111 46) rfl)).trans ((up_o (kx.ne (⟨by decide, rfl⟩ : kx 2 2) (⟨by decide, rfl⟩ : kx 111 46) rfl)).trans ((up_o (kx.ne (⟨by decide, rfl⟩ : kx 2 2) (⟨by decide, rfl⟩ : kx 111 46) rfl)).trans ((FrX.g hE27_5422 (⟨by decide, rfl⟩ : kx 2 2) rfl).trans rfl))))) ?_
          refine g_istore_n (l1 := [(3, vI (P 2 (H27_5422 111 3))), (0, vR 111), (1, vI 1), (2, vI (P 111 3))]) dX7_step_145 (by decide) rfl ?_
          have hc3 : (P 2 (H27_5422 111 3)) = T.1 (tA T q) := by (clear p_bw hjs i16_0_5421; omega)
          refine g_iload_n dX7_step_146 rfl ?_
          refine g_bipush dX7_step_147 (by decide) ?_
          have f8266 := bx_2 (o := 2) (k := (H27_5422 111 3)) hB (⟨by decide, rfl⟩ : kx 2 2)
          have J162_8416 : ∀ (i162_0_8416 : (P 2 (H27_5422 111 3)) < 97 ∨ 122 < (P 2 (H27_5422 111 3))), Go WSX G 2 iX7_step 162 [(0, vR 111), (1, vI 1), (2, vI (P 111 3)), (3, vI (P 2 (H27_5422 111 3)))] [] (up (up (up (up H27_5422 111 5 (H27_5422 111 3)) 111 6 (H27_5422 111 3)) 111 8 (-1)) 111 7 0) Q := by
            intro i162_0_8416
            refine g_iconst dX7_step_162 ?_
            refine g_istore (l1 := [(4, vI 0), (0, vR 111), (1, vI 1), (2, vI (P 111 3)), (3, vI (P 2 (H27_5422 111 3)))]) dX7_step_163 (by decide) rfl ?_
            refine g_iload_n dX7_step_165 rfl ?_
            refine g_bipush dX7_step_166 (by decide) ?_
            have J181_8459 : ∀ (i181_0_8459 : (P 2 (H27_5422 111 3)) < 48 ∨ 57 < (P 2 (H27_5422 111 3))), Go WSX G 2 iX7_step 181 [(0, vR 111), (1, vI 1), (2, vI (P 111 3)), (3, vI (P 2 (H27_5422 111 3))), (4, vI 0)] [] (up (up (up (up H27_5422 111 5 (H27_5422 111 3)) 111 6 (H27_5422 111 3)) 111 8 (-1)) 111 7 0) Q := by
              intro i181_0_8459
              refine g_iconst dX7_step_181 ?_
              refine g_istore (l1 := [(5, vI 0), (0, vR 111), (1, vI 1), (2, vI (P 111 3)), (3, vI (P 2 (H27_5422 111 3))), (4, vI 0)]) dX7_step_182 (by decide) rfl ?_
              refine g_iload dX7_step_184 rfl ?_
              refine g_if_ne (tgt := 217) dX7_step_186 (by decide) (by decide) (fun k8465 => by exfalso; (clear p_bw hjs i16_0_5421 i162_0_8416 i181_0_8459; omega)) (fun k8465 => ?_)
              skip
              skip
              skip
              skip
              skip
              refine g_iload dX7_step_189 rfl ?_
              refine g_if_ne (tgt := 217) dX7_step_191 (by decide) (by decide) (fun k8466 => by exfalso; (clear p_bw hjs i16_0_5421 i162_0_8416 i181_0_8459; omega)) (fun k8466 => ?_)
              skip
              skip
              skip
              skip
              skip
              refine g_aload_n dX7_step_194 rfl ?_
              refine g_iconst dX7_step_195 ?_
              refine x_p46_4 (⟨by decide, rfl⟩ : kx 111 46) pfX7_75 dX7_step_196 ?_
              have hB8467 := by_46_4 (z := 3) hB8262 (⟨by decide, rfl⟩ : kx 111 46) (by decide)
              refine g_aload_n dX7_step_199 rfl ?_
              refine g_iload_n dX7_step_200 rfl ?_
              refine x_p46_7 (⟨by decide, rfl⟩ : kx 111 46) pfX7_90 dX7_step_201 ?_
              have hB8468 := by_46_7 (z := (P 2 (H27_5422 111 3))) hB8467 (⟨by decide, rfl⟩ : kx 111 46) ⟨by have q0 := bx_2 (o := 2) (k := (H27_5422 111 3)) hB (⟨by decide, rfl⟩ : kx 2 2); (clear p_bw hjs i16_0_5421 i162_0_8416 i181_0_8459; omega), by have q0 := bx_2 (o := 2) (k := (H27_5422 111 3)) hB (⟨by decide, rfl⟩ : kx 2 2); (clear p_bw hjs i16_0_5421 i162_0_8416 i181_0_8459; omega)⟩
              refine g_aload_n dX7_step_204 rfl ?_
              refine g_dup dX7_step_205 rfl ?_
              refine x_g46_3 (z := (H27_5422 111 3)) (⟨by decide, rfl⟩ : kx 111 46) ffX7_72 dX7_step_206 ((up_k (by decide)).trans ((up_k (by decide)).trans ((up_k (by decide)).trans ((up_k (by decide)).trans ((up_k (by decide)).trans ((up_k (by decide)).trans rfl)))))) ?_
              refine g_iconst dX7_step_209 ?_
              refine g_iadd dX7_step_210 ?_
              refine x_p46_3 (⟨by decide, rfl⟩ : kx 111 46) pfX7_72 dX7_step_211 ?_
              have hB8469 := by_46_3 (z := ((H27_5422 111 3) + 1)) hB8468 (⟨by decide, rfl⟩ : kx 111 46) ⟨by have q0 := bx_46_3 (o := 111) hB27_5422 (⟨by decide, rfl⟩ : kx 111 46); (clear p_bw hjs i16_0_5421 i162_0_8416 i181_0_8459; omega), by have q0 := bx_46_3 (o := 111) hB27_5422 (⟨by decide, rfl⟩ : kx 111 46); (clear p_bw hjs i16_0_5421 i162_0_8416 i181_0_8459; omega)⟩
              refine g_goto (tgt := 253) dX7_step_214 (by decide) ?_
              exact g_retV dX7_step_253 rfl (hQ _ hB8469 (FrX.s (FrX.s (FrX.s (FrX.s (FrX.s (FrX.s (FrX.s (FrX.c FrX.rf hE27_5422 rfl) (⟨by decide, rfl⟩ : kx 111 46) rfl) (⟨by decide, rfl⟩ : kx 111 46) rfl) (⟨by decide, rfl⟩ : kx 111 46) rfl) (⟨by decide, rfl⟩ : kx 111 46) rfl) (⟨by decide, rfl⟩ : kx 111 46) rfl) (⟨by decide, rfl⟩ : kx 111 46) rfl) (⟨by decide, rfl⟩ : kx 111 46) rfl) (by first | exact hNONE | (have q3 := (up_same : (up (up (up (up (up (up (up H27_5422 111 5 (H27_5422 111 3)) 111 6 (H27_5422 111 3)) 111 8 (-1)) 111 7 0) 111 4 3) 111 7 (P 2 (H27_5422 111 3))) 111 3 ((H27_5422 111 3) + 1)) 111 3 = ((H27_5422 111 3) + 1)); have q4 := (((up_k (by decide)).trans ((up_k (by decide)).trans up_same)) : (up (up (up (up (up (up (up H27_5422 111 5 (H27_5422 111 3)) 111 6 (H27_5422 111 3)) 111 8 (-1)) 111 7 0) 111 4 3) 111 7 (P 2 (H27_5422 111 3))) 111 3 ((H27_5422 111 3) + 1)) 111 4 = 3); have q5 := (((up_k (by decide)).trans ((up_k (by decide)).trans ((up_k (by decide)).trans ((up_k (by decide)).trans ((up_k (by decide)).trans ((up_k (by decide)).trans up_same)))))) : (up (up (up (up (up (up (up H27_5422 111 5 (H27_5422 111 3)) 111 6 (H27_5422 111 3)) 111 8 (-1)) 111 7 0) 111 4 3) 111 7 (P 2 (H27_5422 111 3))) 111 3 ((H27_5422 111 3) + 1)) 111 5 = (H27_5422 111 3)); have q6 := (((up_k (by decide)).trans ((up_k (by decide)).trans ((up_k (by decide)).trans ((up_k (by decide)).trans ((up_k (by decide)).trans up_same))))) : (up (up (up (up (up (up (up H27_5422 111 5 (H27_5422 111 3)) 111 6 (H27_5422 111 3)) 111 8 (-1)) 111 7 0) 111 4 3) 111 7 (P 2 (H27_5422 111 3))) 111 3 ((H27_5422 111 3) + 1)) 111 6 = (H27_5422 111 3)); have q7 := (((up_k (by decide)).trans up_same) : (up (up (up (up (up (up (up H27_5422 111 5 (H27_5422 111 3)) 111 6 (H27_5422 111 3)) 111 8 (-1)) 111 7 0) 111 4 3) 111 7 (P 2 (H27_5422 111 3))) 111 3 ((H27_5422 111 3) + 1)) 111 7 = (P 2 (H27_5422 111 3))); have q8 := (((up_k (by decide)).trans ((up_k (by decide)).trans ((up_k (by decide)).trans ((up_k (by decide)).trans up_same)))) : (up (up (up (up (up (up (up H27_5422 111 5 (H27_5422 111 3)) 111 6 (H27_5422 111 3)) 111 8 (-1)) 111 7 0) 111 4 3) 111 7 (P 2 (H27_5422 111 3))) 111 3 ((H27_5422 111 3) + 1)) 111 8 = (-1)); first | exact XS.sig ⟨by (clear p_bw hjs i16_0_5421 i162_0_8416 i181_0_8459; omega), by (clear p_bw hjs i16_0_5421 i162_0_8416 i181_0_8459; omega)⟩ (by (clear p_bw hjs i16_0_5421 i162_0_8416 i181_0_8459; omega)) (by (clear p_bw hjs i16_0_5421 i162_0_8416 i181_0_8459; omega)) (by (clear p_bw hjs i16_0_5421 i162_0_8416 i181_0_8459; omega)) (by (clear p_bw hjs i16_0_5421 i162_0_8416 i181_0_8459; omega)) (by (clear p_bw hjs i16_0_5421 i162_0_8416 i181_0_8459; omega)) (by (clear p_bw hjs i16_0_5421 i162_0_8416 i181_0_8459; omega)) (by (clear p_bw hjs i16_0_5421 i181_0_8459; omega)) (by (clear p_bw hjs i16_0_5421 i162_0_8416; omega)) | exact XS.badj ⟨by (first | (clear p_bw hjs i16_0_5421 i162_0_8416 i181_0_8459; omega) | (clear p_bw hjs i16_0_5421 i162_0_8416; omega) | (clear p_bw hjs i16_0_5421 i181_0_8459; omega) | (clear p_bw hjs i162_0_8416 i181_0_8459; omega) | (clear p_bw i16_0_5421 i162_0_8416 i181_0_8459; omega) | (clear hjs i16_0_5421 i162_0_8416 i181_0_8459; omega) | (clear p_bw hjs i16_0_5421; omega) | (clear p_bw; omega) | omega), by (first | (clear p_bw hjs i16_0_5421 i162_0_8416 i181_0_8459; omega) | (clear p_bw hjs i16_0_5421 i162_0_8416; omega) | (clear p_bw hjs i16_0_5421 i181_0_8459; omega) | (clear p_bw hjs i162_0_8416 i181_0_8459; omega) | (clear p_bw i16_0_5421 i162_0_8416 i181_0_8459; omega) | (clear hjs i16_0_5421 i162_0_8416 i181_0_8459; omega) | (clear p_bw hjs i16_0_5421; omega) | (clear p_bw; omega) | omega)⟩ (by (first | (clear p_bw hjs i16_0_5421 i162_0_8416 i181_0_8459; omega) | (clear p_bw hjs i16_0_5421 i162_0_8416; omega) | (clear p_bw hjs i16_0_5421 i181_0_8459; omega) | (clear p_bw hjs i162_0_8416 i181_0_8459; omega) | (clear p_bw i16_0_5421 i162_0_8416 i181_0_8459; omega) | (clear hjs i16_0_5421 i162_0_8416 i181_0_8459; omega) | (clear p_bw hjs i16_0_5421; omega) | (clear p_bw; omega) | omega)) (by (first | (clear p_bw hjs i16_0_5421 i162_0_8416 i181_0_8459; omega) | (clear p_bw hjs i16_0_5421 i162_0_8416; omega) | (clear p_bw hjs i16_0_5421 i181_0_8459; omega) | (clear p_bw hjs i162_0_8416 i181_0_8459; omega) | (clear p_bw i16_0_5421 i162_0_8416 i181_0_8459; omega) | (clear hjs i16_0_5421 i162_0_8416 i181_0_8459; omega) | (clear p_bw hjs i16_0_5421; omega) | (clear p_bw; omega) | omega)) (by (first | (clear p_bw hjs i16_0_5421 i162_0_8416 i181_0_8459; omega) | (clear p_bw hjs i16_0_5421 i162_0_8416; omega) | (clear p_bw hjs i16_0_5421 i181_0_8459; omega) | (clear p_bw hjs i162_0_8416 i181_0_8459; omega) | (clear p_bw i16_0_5421 i162_0_8416 i181_0_8459; omega) | (clear hjs i16_0_5421 i162_0_8416 i181_0_8459; omega) | (clear p_bw hjs i16_0_5421; omega) | (clear p_bw; omega) | omega)) (by (first | (clear p_bw hjs i16_0_5421 i162_0_8416 i181_0_8459; omega) | (clear p_bw hjs i16_0_5421 i162_0_8416; omega) | (clear p_bw hjs i16_0_5421 i181_0_8459; omega) | (clear p_bw hjs i162_0_8416 i181_0_8459; omega) | (clear p_bw i16_0_5421 i162_0_8416 i181_0_8459; omega) | (clear hjs i16_0_5421 i162_0_8416 i181_0_8459; omega) | (clear p_bw hjs i16_0_5421; omega) | (clear p_bw; omega) | omega)) (by (first | (clear p_bw hjs i16_0_5421 i162_0_8416 i181_0_8459; omega) | (clear p_bw hjs i16_0_5421 i162_0_8416; omega) | (clear p_bw hjs i16_0_5421 i181_0_8459; omega) | (clear p_bw hjs i162_0_8416 i181_0_8459; omega) | (clear p_bw i16_0_5421 i162_0_8416 i181_0_8459; omega) | (clear hjs i16_0_5421 i162_0_8416 i181_0_8459; omega) | (clear p_bw hjs i16_0_5421; omega) | (clear p_bw; omega) | omega)) (by (first | (clear p_bw hjs i16_0_5421 i162_0_8416 i181_0_8459; omega) | (clear p_bw hjs i16_0_5421 i162_0_8416; omega) | (clear p_bw hjs i16_0_5421 i181_0_8459; omega) | (clear p_bw hjs i162_0_8416 i181_0_8459; omega) | (clear p_bw i16_0_5421 i162_0_8416 i181_0_8459; omega) | (clear hjs i16_0_5421 i162_0_8416 i181_0_8459; omega) | (clear p_bw hjs i16_0_5421; omega) | (clear p_bw; omega) | omega)) (by (first | (clear p_bw hjs i16_0_5421 i162_0_8416 i181_0_8459; omega) | (clear p_bw hjs i16_0_5421 i162_0_8416; omega) | (clear p_bw hjs i16_0_5421 i181_0_8459; omega) | (clear p_bw hjs i162_0_8416 i181_0_8459; omega) | (clear p_bw i16_0_5421 i162_0_8416 i181_0_8459; omega) | (clear hjs i16_0_5421 i162_0_8416 i181_0_8459; omega) | (clear p_bw hjs i16_0_5421; omega) | (clear p_bw; omega) | omega)))))
            refine g_icmp_lt (tgt := 181) dX7_step_168 (by decide) ⟨by have q0 := bx_2 (o := 2) (k := (H27_5422 111 3)) hB (⟨by decide, rfl⟩ : kx 2 2); (clear p_bw hjs i16_0_5421 i162_0_8416; omega), by have q0 := bx_2 (o := 2) (k := (H27_5422 111 3)) hB (⟨by decide, rfl⟩ : kx 2 2); (clear p_bw hjs i16_0_5421 i162_0_8416; omega)⟩ (by decide) (fun k8470 => ?_) (fun k8470 => ?_)
            · have r_i162_0_8416 := (i162_0_8416.resolve_right (by (clear p_bw hjs i16_0_5421 i162_0_8416; omega)))
              skip
              skip
              skip
              refine g_forget (l1 := [(0, vR 111), (1, vI 1), (2, vI (P 111 3)), (3, vI (P 2 (H27_5422 111 3))), (4, vI 0)]) (by intro q hq; simp only [List.mem_cons, List.not_mem_nil, or_false] at hq ⊢; rcases hq with rfl | rfl | rfl | rfl | rfl <;> simp) ?_
              exact J181_8459 (by (clear p_bw hjs i16_0_5421 i162_0_8416; omega))
            · skip
              skip
              skip
              skip
              refine g_iload_n dX7_step_171 rfl ?_
              refine g_bipush dX7_step_172 (by decide) ?_
              refine g_icmp_gt (tgt := 181) dX7_step_174 (by decide) ⟨by have q0 := bx_2 (o := 2) (k := (H27_5422 111 3)) hB (⟨by decide, rfl⟩ : kx 2 2); (clear p_bw hjs i16_0_5421 i162_0_8416; omega), by have q0 := bx_2 (o := 2) (k := (H27_5422 111 3)) hB (⟨by decide, rfl⟩ : kx 2 2); (clear p_bw hjs i16_0_5421 i162_0_8416; omega)⟩ (by decide) (fun k8471 => ?_) (fun k8471 => ?_)
              · skip
                skip
                skip
                skip
                refine g_forget (l1 := [(0, vR 111), (1, vI 1), (2, vI (P 111 3)), (3, vI (P 2 (H27_5422 111 3))), (4, vI 0)]) (by intro q hq; simp only [List.mem_cons, List.not_mem_nil, or_false] at hq ⊢; rcases hq with rfl | rfl | rfl | rfl | rfl <;> simp) ?_
                exact J181_8459 (by (clear p_bw hjs i16_0_5421 i162_0_8416; omega))
              · have r_i162_0_8416 := (i162_0_8416.resolve_right (by (clear p_bw hjs i16_0_5421 i162_0_8416; omega)))
                skip
                skip
                skip
                refine g_iconst dX7_step_177 ?_
                refine g_goto (tgt := 182) dX7_step_178 (by decide) ?_
                refine g_istore (l1 := [(5, vI 1), (4, vI 0), (0, vR 111), (1, vI 1), (2, vI (P 111 3)), (3, vI (P 2 (H27_5422 111 3)))]) dX7_step_182 (by decide) rfl ?_
                refine g_iload dX7_step_184 rfl ?_
                have J217_8486 : ∀ (i217_0_8486 : (0 = 1 ∧ 97 ≤ T.1 (tA T q) ∧ T.1 (tA T q) ≤ 122) ∨ (0 = 0 ∧ 48 ≤ T.1 (tA T q) ∧ T.1 (tA T q) ≤ 57)), Go WSX G 2 iX7_step 217 [(0, vR 111), (1, vI 1), (2, vI (P 111 3)), (4, vI 0)] [] (up (up (up (up H27_5422 111 5 (H27_5422 111 3)) 111 6 (H27_5422 111 3)) 111 8 (-1)) 111 7 0) Q := by
                  intro i217_0_8486
                  refine g_iload_n dX7_step_217 rfl ?_
                  have J237_8493 : ∀ (i237_0_8493 : tJn T q = 0), Go WSX G 2 iX7_step 237 [(0, vR 111), (4, vI 0)] [] (up (up (up (up H27_5422 111 5 (H27_5422 111 3)) 111 6 (H27_5422 111 3)) 111 8 (-1)) 111 7 0) Q := by
                    intro i237_0_8493
                    refine g_iload dX7_step_237 rfl ?_
                    refine g_if_eq (tgt := 249) dX7_step_239 (by decide) (by decide) (fun k8495 => ?_) (fun k8495 => by exfalso; (clear p_bw hjs i16_0_5421 i162_0_8416 i217_0_8486; omega))
                    have r_i217_0_8486 := (i217_0_8486.resolve_left (by (clear p_bw hjs i16_0_5421 i162_0_8416 i217_0_8486; omega)))
                    skip
                    skip
                    have r_hjs := (hjs.resolve_left (by (clear p_bw hjs i16_0_5421 i162_0_8416 i217_0_8486; omega)))
                    skip
                    refine g_aload_n dX7_step_249 rfl ?_
                    refine g_vV (av := []) (o := 111) (st := []) (f_X7_stepNumber G (up (up (up (up H27_5422 111 5 (H27_5422 111 3)) 111 6 (H27_5422 111 3)) 111 8 (-1)) 111 7 0) T q  hB8262 (by have q0 := (((up_k (by decide)).trans ((up_k (by decide)).trans ((up_k (by decide)).trans ((up_k (by decide)).trans rfl)))) : (up (up (up (up H27_5422 111 5 (H27_5422 111 3)) 111 6 (H27_5422 111 3)) 111 8 (-1)) 111 7 0) 111 3 = (H27_5422 111 3)); have q1 := bx_46_3 (o := 111) hB27_5422 (⟨by decide, rfl⟩ : kx 111 46); have q2 := (((up_k (by decide)).trans ((up_k (by decide)).trans ((up_k (by decide)).trans up_same))) : (up (up (up (up H27_5422 111 5 (H27_5422 111 3)) 111 6 (H27_5422 111 3)) 111 8 (-1)) 111 7 0) 111 5 = (H27_5422 111 3)); have q3 := (up_same : (up (up (up (up H27_5422 111 5 (H27_5422 111 3)) 111 6 (H27_5422 111 3)) 111 8 (-1)) 111 7 0) 111 7 = 0); have q4 := (((up_k (by decide)).trans up_same) : (up (up (up (up H27_5422 111 5 (H27_5422 111 3)) 111 6 (H27_5422 111 3)) 111 8 (-1)) 111 7 0) 111 8 = (-1)); (clear p_bw hjs i16_0_5421 i162_0_8416 i217_0_8486; omega)) (by (clear p_bw hjs i16_0_5421 i162_0_8416 i217_0_8486; omega)) (TX.fr (F := ([(46, 3), (46, 5), (46, 6), (46, 7), (46, 8)], [])) v_TX (FrX.s (FrX.s (FrX.s (FrX.s (FrX.c FrX.rf hE27_5422 rfl) (⟨by decide, rfl⟩ : kx 111 46) rfl) (⟨by decide, rfl⟩ : kx 111 46) rfl) (⟨by decide, rfl⟩ : kx 111 46) rfl) (⟨by decide, rfl⟩ : kx 111 46) rfl) rfl) ((XT.fr (F := ([(46, 3), (46, 5), (46, 6), (46, 7), (46, 8)], [])) z0 (FrX.s (FrX.s (FrX.s (FrX.s (FrX.c FrX.rf hE27_5422 rfl) (⟨by decide, rfl⟩ : kx 111 46) rfl) (⟨by decide, rfl⟩ : kx 111 46) rfl) (⟨by decide, rfl⟩ : kx 111 46) rfl) (⟨by decide, rfl⟩ : kx 111 46) rfl) rfl)) _ (fun Pc8496 hBc8496 hFc8496 ec8496_0 => ⟨rfl, ?_⟩)) cf_X7_stepNumber t_715 rfl (show kx 111 46 from (⟨by decide, rfl⟩ : kx 111 46)).1 ((show kx 111 46 from (⟨by decide, rfl⟩ : kx 111 46)).sh rfl) rfl rfl (Nat.le_of_ble_eq_true rfl) (by decide) rfl dX7_step_250
                    exact g_retV dX7_step_253 rfl (hQ _ hBc8496 (FrX.c (FrX.s (FrX.s (FrX.s (FrX.s (FrX.c FrX.rf hE27_5422 rfl) (⟨by decide, rfl⟩ : kx 111 46) rfl) (⟨by decide, rfl⟩ : kx 111 46) rfl) (⟨by decide, rfl⟩ : kx 111 46) rfl) (⟨by decide, rfl⟩ : kx 111 46) rfl) hFc8496 rfl) (by first | exact ec8496_0 | (have q3 := (rfl : Pc8496 111 3 = (Pc8496 111 3)); have q4 := (rfl : Pc8496 111 4 = (Pc8496 111 4)); have q5 := (((FrX.g hFc8496 (⟨by decide, rfl⟩ : kx 111 46) rfl).trans ((up_k (by decide)).trans ((up_k (by decide)).trans ((up_k (by decide)).trans up_same)))) : Pc8496 111 5 = (H27_5422 111 3)); have q6 := (rfl : Pc8496 111 6 = (Pc8496 111 6)); have q7 := (rfl : Pc8496 111 7 = (Pc8496 111 7)); have q8 := (((FrX.g hFc8496 (⟨by decide, rfl⟩ : kx 111 46) rfl).trans ((up_k (by decide)).trans up_same)) : Pc8496 111 8 = (-1)); first | exact XS.sig ⟨by (first | (clear p_bw hjs i16_0_5421 i162_0_8416 i217_0_8486; omega) | (clear p_bw hjs i16_0_5421 i162_0_8416; omega) | (clear p_bw hjs i16_0_5421 i217_0_8486; omega) | (clear p_bw hjs i162_0_8416 i217_0_8486; omega) | (clear p_bw i16_0_5421 i162_0_8416 i217_0_8486; omega) | (clear hjs i16_0_5421 i162_0_8416 i217_0_8486; omega) | (clear p_bw hjs i16_0_5421; omega) | (clear p_bw; omega) | omega), by (first | (clear p_bw hjs i16_0_5421 i162_0_8416 i217_0_8486; omega) | (clear p_bw hjs i16_0_5421 i162_0_8416; omega) | (clear p_bw hjs i16_0_5421 i217_0_8486; omega) | (clear p_bw hjs i162_0_8416 i217_0_8486; omega) | (clear p_bw i16_0_5421 i162_0_8416 i217_0_8486; omega) | (clear hjs i16_0_5421 i162_0_8416 i217_0_8486; omega) | (clear p_bw hjs i16_0_5421; omega) | (clear p_bw; omega) | omega)⟩ (by (first | (clear p_bw hjs i16_0_5421 i162_0_8416 i217_0_8486; omega) | (clear p_bw hjs i16_0_5421 i162_0_8416; omega) | (clear p_bw hjs i16_0_5421 i217_0_8486; omega) | (clear p_bw hjs i162_0_8416 i217_0_8486; omega) | (clear p_bw i16_0_5421 i162_0_8416 i217_0_8486; omega) | (clear hjs i16_0_5421 i162_0_8416 i217_0_8486; omega) | (clear p_bw hjs i16_0_5421; omega) | (clear p_bw; omega) | omega)) (by (first | (clear p_bw hjs i16_0_5421 i162_0_8416 i217_0_8486; omega) | (clear p_bw hjs i16_0_5421 i162_0_8416; omega) | (clear p_bw hjs i16_0_5421 i217_0_8486; omega) | (clear p_bw hjs i162_0_8416 i217_0_8486; omega) | (clear p_bw i16_0_5421 i162_0_8416 i217_0_8486; omega) | (clear hjs i16_0_5421 i162_0_8416 i217_0_8486; omega) | (clear p_bw hjs i16_0_5421; omega) | (clear p_bw; omega) | omega)) (by (first | (clear p_bw hjs i16_0_5421 i162_0_8416 i217_0_8486; omega) | (clear p_bw hjs i16_0_5421 i162_0_8416; omega) | (clear p_bw hjs i16_0_5421 i217_0_8486; omega) | (clear p_bw hjs i162_0_8416 i217_0_8486; omega) | (clear p_bw i16_0_5421 i162_0_8416 i217_0_8486; omega) | (clear hjs i16_0_5421 i162_0_8416 i217_0_8486; omega) | (clear p_bw hjs i16_0_5421; omega) | (clear p_bw; omega) | omega)) (by (first | (clear p_bw hjs i16_0_5421 i162_0_8416 i217_0_8486; omega) | (clear p_bw hjs i16_0_5421 i162_0_8416; omega) | (clear p_bw hjs i16_0_5421 i217_0_8486; omega) | (clear p_bw hjs i162_0_8416 i217_0_8486; omega) | (clear p_bw i16_0_5421 i162_0_8416 i217_0_8486; omega) | (clear hjs i16_0_5421 i162_0_8416 i217_0_8486; omega) | (clear p_bw hjs i16_0_5421; omega) | (clear p_bw; omega) | omega)) (by (first | (clear p_bw hjs i16_0_5421 i162_0_8416 i217_0_8486; omega) | (clear p_bw hjs i16_0_5421 i162_0_8416; omega) | (clear p_bw hjs i16_0_5421 i217_0_8486; omega) | (clear p_bw hjs i162_0_8416 i217_0_8486; omega) | (clear p_bw i16_0_5421 i162_0_8416 i217_0_8486; omega) | (clear hjs i16_0_5421 i162_0_8416 i217_0_8486; omega) | (clear p_bw hjs i16_0_5421; omega) | (clear p_bw; omega) | omega)) (by (first | (clear p_bw hjs i16_0_5421 i162_0_8416 i217_0_8486; omega) | (clear p_bw hjs i16_0_5421 i162_0_8416; omega) | (clear p_bw hjs i16_0_5421 i217_0_8486; omega) | (clear p_bw hjs i162_0_8416 i217_0_8486; omega) | (clear p_bw i16_0_5421 i162_0_8416 i217_0_8486; omega) | (clear hjs i16_0_5421 i162_0_8416 i217_0_8486; omega) | (clear p_bw hjs i16_0_5421; omega) | (clear p_bw; omega) | omega)) (by (first | (clear p_bw hjs i16_0_5421 i162_0_8416 i217_0_8486; omega) | (clear p_bw hjs i16_0_5421 i162_0_8416; omega) | (clear p_bw hjs i16_0_5421 i217_0_8486; omega) | (clear p_bw hjs i162_0_8416 i217_0_8486; omega) | (clear p_bw i16_0_5421 i162_0_8416 i217_0_8486; omega) | (clear hjs i16_0_5421 i162_0_8416 i217_0_8486; omega) | (clear p_bw hjs i16_0_5421; omega) | (clear p_bw; omega) | omega)) (by (first | (clear p_bw hjs i16_0_5421 i162_0_8416 i217_0_8486; omega) | (clear p_bw hjs i16_0_5421 i162_0_8416; omega) | (clear p_bw hjs i16_0_5421 i217_0_8486; omega) | (clear p_bw hjs i162_0_8416 i217_0_8486; omega) | (clear p_bw i16_0_5421 i162_0_8416 i217_0_8486; omega) | (clear hjs i16_0_5421 i162_0_8416 i217_0_8486; omega) | (clear p_bw hjs i16_0_5421; omega) | (clear p_bw; omega) | omega)) | exact XS.badj ⟨by (first | (clear p_bw hjs i16_0_5421 i162_0_8416 i217_0_8486; omega) | (clear p_bw hjs i16_0_5421 i162_0_8416; omega) | (clear p_bw hjs i16_0_5421 i217_0_8486; omega) | (clear p_bw hjs i162_0_8416 i217_0_8486; omega) | (clear p_bw i16_0_5421 i162_0_8416 i217_0_8486; omega) | (clear hjs i16_0_5421 i162_0_8416 i217_0_8486; omega) | (clear p_bw hjs i16_0_5421; omega) | (clear p_bw; omega) | omega), by (first | (clear p_bw hjs i16_0_5421 i162_0_8416 i217_0_8486; omega) | (clear p_bw hjs i16_0_5421 i162_0_8416; omega) | (clear p_bw hjs i16_0_5421 i217_0_8486; omega) | (clear p_bw hjs i162_0_8416 i217_0_8486; omega) | (clear p_bw i16_0_5421 i162_0_8416 i217_0_8486; omega) | (clear hjs i16_0_5421 i162_0_8416 i217_0_8486; omega) | (clear p_bw hjs i16_0_5421; omega) | (clear p_bw; omega) | omega)⟩ (by (first | (clear p_bw hjs i16_0_5421 i162_0_8416 i217_0_8486; omega) | (clear p_bw hjs i16_0_5421 i162_0_8416; omega) | (clear p_bw hjs i16_0_5421 i217_0_8486; omega) | (clear p_bw hjs i162_0_8416 i217_0_8486; omega) | (clear p_bw i16_0_5421 i162_0_8416 i217_0_8486; omega) | (clear hjs i16_0_5421 i162_0_8416 i217_0_8486; omega) | (clear p_bw hjs i16_0_5421; omega) | (clear p_bw; omega) | omega)) (by (first | (clear p_bw hjs i16_0_5421 i162_0_8416 i217_0_8486; omega) | (clear p_bw hjs i16_0_5421 i162_0_8416; omega) | (clear p_bw hjs i16_0_5421 i217_0_8486; omega) | (clear p_bw hjs i162_0_8416 i217_0_8486; omega) | (clear p_bw i16_0_5421 i162_0_8416 i217_0_8486; omega) | (clear hjs i16_0_5421 i162_0_8416 i217_0_8486; omega) | (clear p_bw hjs i16_0_5421; omega) | (clear p_bw; omega) | omega)) (by (first | (clear p_bw hjs i16_0_5421 i162_0_8416 i217_0_8486; omega) | (clear p_bw hjs i16_0_5421 i162_0_8416; omega) | (clear p_bw hjs i16_0_5421 i217_0_8486; omega) | (clear p_bw hjs i162_0_8416 i217_0_8486; omega) | (clear p_bw i16_0_5421 i162_0_8416 i217_0_8486; omega) | (clear hjs i16_0_5421 i162_0_8416 i217_0_8486; omega) | (clear p_bw hjs i16_0_5421; omega) | (clear p_bw; omega) | omega)) (by (first | (clear p_bw hjs i16_0_5421 i162_0_8416 i217_0_8486; omega) | (clear p_bw hjs i16_0_5421 i162_0_8416; omega) | (clear p_bw hjs i16_0_5421 i217_0_8486; omega) | (clear p_bw hjs i162_0_8416 i217_0_8486; omega) | (clear p_bw i16_0_5421 i162_0_8416 i217_0_8486; omega) | (clear hjs i16_0_5421 i162_0_8416 i217_0_8486; omega) | (clear p_bw hjs i16_0_5421; omega) | (clear p_bw; omega) | omega)) (by (first | (clear p_bw hjs i16_0_5421 i162_0_8416 i217_0_8486; omega) | (clear p_bw hjs i16_0_5421 i162_0_8416; omega) | (clear p_bw hjs i16_0_5421 i217_0_8486; omega) | (clear p_bw hjs i162_0_8416 i217_0_8486; omega) | (clear p_bw i16_0_5421 i162_0_8416 i217_0_8486; omega) | (clear hjs i16_0_5421 i162_0_8416 i217_0_8486; omega) | (clear p_bw hjs i16_0_5421; omega) | (clear p_bw; omega) | omega)) (by (first | (clear p_bw hjs i16_0_5421 i162_0_8416 i217_0_8486; omega) | (clear p_bw hjs i16_0_5421 i162_0_8416; omega) | (clear p_bw hjs i16_0_5421 i217_0_8486; omega) | (clear p_bw hjs i162_0_8416 i217_0_8486; omega) | (clear p_bw i16_0_5421 i162_0_8416 i217_0_8486; omega) | (clear hjs i16_0_5421 i162_0_8416 i217_0_8486; omega) | (clear p_bw hjs i16_0_5421; omega) | (clear p_bw; omega) | omega)) (by (first | (clear p_bw hjs i16_0_5421 i162_0_8416 i217_0_8486; omega) | (clear p_bw hjs i16_0_5421 i162_0_8416; omega) | (clear p_bw hjs i16_0_5421 i217_0_8486; omega) | (clear p_bw hjs i162_0_8416 i217_0_8486; omega) | (clear p_bw i16_0_5421 i162_0_8416 i217_0_8486; omega) | (clear hjs i16_0_5421 i162_0_8416 i217_0_8486; omega) | (clear p_bw hjs i16_0_5421; omega) | (clear p_bw; omega) | omega)))))
                  refine g_if_eq (tgt := 237) dX7_step_218 (by decide) (by decide) (fun k8497 => by exfalso; (clear p_bw hjs i16_0_5421 i162_0_8416 i217_0_8486; omega)) (fun k8497 => ?_)
                  have r_i217_0_8486 := (i217_0_8486.resolve_left (by (clear p_bw hjs i16_0_5421 i162_0_8416 i217_0_8486 k8497; omega)))
                  skip
                  skip
                  skip
                  skip
                  refine g_iload_n dX7_step_221 rfl ?_
                  refine g_aload_n dX7_step_222 rfl ?_
                  refine x_g46_5 (z := (H27_5422 111 3)) (⟨by decide, rfl⟩ : kx 111 46) ffX7_81 dX7_step_223 ((up_k (by decide)).trans ((up_k (by decide)).trans ((up_k (by decide)).trans up_same))) ?_
                  have f8498 := bx_46_3 (o := 111) hB (⟨by decide, rfl⟩ : kx 111 46)
                  refine g_icmp_ne (tgt := 237) dX7_step_226 (by decide) ⟨by have q0 := bx_46_3 (o := 111) hB (⟨by decide, rfl⟩ : kx 111 46); (clear p_bw hjs i16_0_5421 i162_0_8416 i217_0_8486 k8497; omega), by have q0 := bx_46_3 (o := 111) hB (⟨by decide, rfl⟩ : kx 111 46); (clear p_bw hjs i16_0_5421 i162_0_8416 i217_0_8486 k8497; omega)⟩ ⟨by have q0 := bx_46_3 (o := 111) hB27_5422 (⟨by decide, rfl⟩ : kx 111 46); (clear p_bw hjs i16_0_5421 i162_0_8416 i217_0_8486 k8497; omega), by have q0 := bx_46_3 (o := 111) hB27_5422 (⟨by decide, rfl⟩ : kx 111 46); (clear p_bw hjs i16_0_5421 i162_0_8416 i217_0_8486 k8497; omega)⟩ (fun k8499 => ?_) (fun k8499 => ?_)
                  · skip
                    skip
                    skip
                    skip
                    skip
                    refine g_forget (l1 := [(0, vR 111), (4, vI 0)]) (by intro q hq; simp only [List.mem_cons, List.not_mem_nil, or_false] at hq ⊢; rcases hq with rfl | rfl <;> simp) ?_
                    exact J237_8493 (by (omega))
                  · skip
                    skip
                    skip
                    skip
                    skip
                    refine g_aload_n dX7_step_229 rfl ?_
                    refine g_iconst dX7_step_230 ?_
                    refine x_p46_4 (⟨by decide, rfl⟩ : kx 111 46) pfX7_75 dX7_step_231 ?_
                    have hB8500 := by_46_4 (z := 4) hB8262 (⟨by decide, rfl⟩ : kx 111 46) (by decide)
                    refine g_goto (tgt := 253) dX7_step_234 (by decide) ?_
                    exact g_retV dX7_step_253 rfl (hQ _ hB8500 (FrX.s (FrX.s (FrX.s (FrX.s (FrX.s (FrX.c FrX.rf hE27_5422 rfl) (⟨by decide, rfl⟩ : kx 111 46) rfl) (⟨by decide, rfl⟩ : kx 111 46) rfl) (⟨by decide, rfl⟩ : kx 111 46) rfl) (⟨by decide, rfl⟩ : kx 111 46) rfl) (⟨by decide, rfl⟩ : kx 111 46) rfl) (by first | exact hNONE | (have q3 := (((up_k (by decide)).trans ((up_k (by decide)).trans ((up_k (by decide)).trans ((up_k (by decide)).trans ((up_k (by decide)).trans rfl))))) : (up (up (up (up (up H27_5422 111 5 (H27_5422 111 3)) 111 6 (H27_5422 111 3)) 111 8 (-1)) 111 7 0) 111 4 4) 111 3 = (H27_5422 111 3)); have q4 := (up_same : (up (up (up (up (up H27_5422 111 5 (H27_5422 111 3)) 111 6 (H27_5422 111 3)) 111 8 (-1)) 111 7 0) 111 4 4) 111 4 = 4); have q5 := (((up_k (by decide)).trans ((up_k (by decide)).trans ((up_k (by decide)).trans ((up_k (by decide)).trans up_same)))) : (up (up (up (up (up H27_5422 111 5 (H27_5422 111 3)) 111 6 (H27_5422 111 3)) 111 8 (-1)) 111 7 0) 111 4 4) 111 5 = (H27_5422 111 3)); have q6 := (((up_k (by decide)).trans ((up_k (by decide)).trans ((up_k (by decide)).trans up_same))) : (up (up (up (up (up H27_5422 111 5 (H27_5422 111 3)) 111 6 (H27_5422 111 3)) 111 8 (-1)) 111 7 0) 111 4 4) 111 6 = (H27_5422 111 3)); have q7 := (((up_k (by decide)).trans up_same) : (up (up (up (up (up H27_5422 111 5 (H27_5422 111 3)) 111 6 (H27_5422 111 3)) 111 8 (-1)) 111 7 0) 111 4 4) 111 7 = 0); have q8 := (((up_k (by decide)).trans ((up_k (by decide)).trans up_same)) : (up (up (up (up (up H27_5422 111 5 (H27_5422 111 3)) 111 6 (H27_5422 111 3)) 111 8 (-1)) 111 7 0) 111 4 4) 111 8 = (-1)); first | exact XS.sig ⟨by (clear p_bw hjs i16_0_5421 i162_0_8416 i217_0_8486 k8497 k8499; omega), by (clear p_bw hjs i16_0_5421 i162_0_8416 i217_0_8486 k8497 k8499; omega)⟩ (by (first | (clear p_bw hjs i16_0_5421 i162_0_8416 i217_0_8486 k8497 k8499; omega) | (clear p_bw hjs i16_0_5421 i162_0_8416 i217_0_8486 k8497; omega) | (clear p_bw hjs i16_0_5421 i162_0_8416 i217_0_8486 k8499; omega) | (clear p_bw hjs i16_0_5421 i162_0_8416 k8497 k8499; omega) | (clear p_bw hjs i16_0_5421 i217_0_8486 k8497 k8499; omega) | (clear p_bw hjs i162_0_8416 i217_0_8486 k8497 k8499; omega) | (clear p_bw i16_0_5421 i162_0_8416 i217_0_8486 k8497 k8499; omega) | (clear hjs i16_0_5421 i162_0_8416 i217_0_8486 k8497 k8499; omega) | (clear p_bw hjs i16_0_5421 i162_0_8416 i217_0_8486; omega) | (clear i16_0_5421 hjs p_bw; omega) | omega)) (by (first | (clear p_bw hjs i16_0_5421 i162_0_8416 i217_0_8486 k8497 k8499; omega) | (clear p_bw hjs i16_0_5421 i162_0_8416 i217_0_8486 k8497; omega) | (clear p_bw hjs i16_0_5421 i162_0_8416 i217_0_8486 k8499; omega) | (clear p_bw hjs i16_0_5421 i162_0_8416 k8497 k8499; omega) | (clear p_bw hjs i16_0_5421 i217_0_8486 k8497 k8499; omega) | (clear p_bw hjs i162_0_8416 i217_0_8486 k8497 k8499; omega) | (clear p_bw i16_0_5421 i162_0_8416 i217_0_8486 k8497 k8499; omega) | (clear hjs i16_0_5421 i162_0_8416 i217_0_8486 k8497 k8499; omega) | (clear p_bw hjs i16_0_5421 i162_0_8416 i217_0_8486; omega) | (clear i16_0_5421 hjs p_bw; omega) | omega)) (by (first | (clear p_bw hjs i16_0_5421 i162_0_8416 i217_0_8486 k8497 k8499; omega) | (clear p_bw hjs i16_0_5421 i162_0_8416 i217_0_8486 k8497; omega) | (clear p_bw hjs i16_0_5421 i162_0_8416 i217_0_8486 k8499; omega) | (clear p_bw hjs i16_0_5421 i162_0_8416 k8497 k8499; omega) | (clear p_bw hjs i16_0_5421 i217_0_8486 k8497 k8499; omega) | (clear p_bw hjs i162_0_8416 i217_0_8486 k8497 k8499; omega) | (clear p_bw i16_0_5421 i162_0_8416 i217_0_8486 k8497 k8499; omega) | (clear hjs i16_0_5421 i162_0_8416 i217_0_8486 k8497 k8499; omega) | (clear p_bw hjs i16_0_5421 i162_0_8416 i217_0_8486; omega) | (clear i16_0_5421 hjs p_bw; omega) | omega)) (by (first | (clear p_bw hjs i16_0_5421 i162_0_8416 i217_0_8486 k8497 k8499; omega) | (clear p_bw hjs i16_0_5421 i162_0_8416 i217_0_8486 k8497; omega) | (clear p_bw hjs i16_0_5421 i162_0_8416 i217_0_8486 k8499; omega) | (clear p_bw hjs i16_0_5421 i162_0_8416 k8497 k8499; omega) | (clear p_bw hjs i16_0_5421 i217_0_8486 k8497 k8499; omega) | (clear p_bw hjs i162_0_8416 i217_0_8486 k8497 k8499; omega) | (clear p_bw i16_0_5421 i162_0_8416 i217_0_8486 k8497 k8499; omega) | (clear hjs i16_0_5421 i162_0_8416 i217_0_8486 k8497 k8499; omega) | (clear p_bw hjs i16_0_5421 i162_0_8416 i217_0_8486; omega) | (clear i16_0_5421 hjs p_bw; omega) | omega)) (by (first | (clear p_bw hjs i16_0_5421 i162_0_8416 i217_0_8486 k8497 k8499; omega) | (clear p_bw hjs i16_0_5421 i162_0_8416 i217_0_8486 k8497; omega) | (clear p_bw hjs i16_0_5421 i162_0_8416 i217_0_8486 k8499; omega) | (clear p_bw hjs i16_0_5421 i162_0_8416 k8497 k8499; omega) | (clear p_bw hjs i16_0_5421 i217_0_8486 k8497 k8499; omega) | (clear p_bw hjs i162_0_8416 i217_0_8486 k8497 k8499; omega) | (clear p_bw i16_0_5421 i162_0_8416 i217_0_8486 k8497 k8499; omega) | (clear hjs i16_0_5421 i162_0_8416 i217_0_8486 k8497 k8499; omega) | (clear p_bw hjs i16_0_5421 i162_0_8416 i217_0_8486; omega) | (clear i16_0_5421 hjs p_bw; omega) | omega)) (by (first | (clear p_bw hjs i16_0_5421 i162_0_8416 i217_0_8486 k8497 k8499; omega) | (clear p_bw hjs i16_0_5421 i162_0_8416 i217_0_8486 k8497; omega) | (clear p_bw hjs i16_0_5421 i162_0_8416 i217_0_8486 k8499; omega) | (clear p_bw hjs i16_0_5421 i162_0_8416 k8497 k8499; omega) | (clear p_bw hjs i16_0_5421 i217_0_8486 k8497 k8499; omega) | (clear p_bw hjs i162_0_8416 i217_0_8486 k8497 k8499; omega) | (clear p_bw i16_0_5421 i162_0_8416 i217_0_8486 k8497 k8499; omega) | (clear hjs i16_0_5421 i162_0_8416 i217_0_8486 k8497 k8499; omega) | (clear p_bw hjs i16_0_5421 i162_0_8416 i217_0_8486; omega) | (clear i16_0_5421 hjs p_bw; omega) | omega)) (by (first | (clear p_bw hjs i16_0_5421 i162_0_8416 i217_0_8486 k8497 k8499; omega) | (clear p_bw hjs i16_0_5421 i162_0_8416 i217_0_8486 k8497; omega) | (clear p_bw hjs i16_0_5421 i162_0_8416 i217_0_8486 k8499; omega) | (clear p_bw hjs i16_0_5421 i162_0_8416 k8497 k8499; omega) | (clear p_bw hjs i16_0_5421 i217_0_8486 k8497 k8499; omega) | (clear p_bw hjs i162_0_8416 i217_0_8486 k8497 k8499; omega) | (clear p_bw i16_0_5421 i162_0_8416 i217_0_8486 k8497 k8499; omega) | (clear hjs i16_0_5421 i162_0_8416 i217_0_8486 k8497 k8499; omega) | (clear p_bw hjs i16_0_5421 i162_0_8416 i217_0_8486; omega) | (clear i16_0_5421 hjs p_bw; omega) | omega)) (by (first | (clear p_bw hjs i16_0_5421 i162_0_8416 i217_0_8486 k8497 k8499; omega) | (clear p_bw hjs i16_0_5421 i162_0_8416 i217_0_8486 k8497; omega) | (clear p_bw hjs i16_0_5421 i162_0_8416 i217_0_8486 k8499; omega) | (clear p_bw hjs i16_0_5421 i162_0_8416 k8497 k8499; omega) | (clear p_bw hjs i16_0_5421 i217_0_8486 k8497 k8499; omega) | (clear p_bw hjs i162_0_8416 i217_0_8486 k8497 k8499; omega) | (clear p_bw i16_0_5421 i162_0_8416 i217_0_8486 k8497 k8499; omega) | (clear hjs i16_0_5421 i162_0_8416 i217_0_8486 k8497 k8499; omega) | (clear p_bw hjs i16_0_5421 i162_0_8416 i217_0_8486; omega) | (clear i16_0_5421 hjs p_bw; omega) | omega)) | exact XS.badj ⟨by (clear p_bw hjs i16_0_5421 i162_0_8416 i217_0_8486 k8497 k8499; omega), by (clear p_bw hjs i16_0_5421 i162_0_8416 i217_0_8486 k8497 k8499; omega)⟩ (by (clear p_bw hjs i16_0_5421 i162_0_8416 i217_0_8486 k8497 k8499; omega)) (by (clear p_bw hjs i16_0_5421 i162_0_8416 i217_0_8486 k8497 k8499; omega)) (by (clear p_bw hjs i16_0_5421 i162_0_8416 i217_0_8486 k8497 k8499; omega)) (by (clear p_bw hjs i16_0_5421 i162_0_8416 i217_0_8486 k8497 k8499; omega)) (by (clear p_bw hjs i16_0_5421 i162_0_8416 i217_0_8486 k8497 k8499; omega)) (by (clear p_bw hjs i16_0_5421 i162_0_8416 i217_0_8486 k8497 k8499; omega)) (by (omega)))))
                refine g_if_ne (tgt := 217) dX7_step_186 (by decide) (by decide) (fun k8501 => by exfalso; (clear p_bw hjs i16_0_5421 i162_0_8416; omega)) (fun k8501 => ?_)
                skip
                skip
                skip
                skip
                refine g_iload dX7_step_189 rfl ?_
                refine g_if_ne (tgt := 217) dX7_step_191 (by decide) (by decide) (fun k8502 => ?_) (fun k8502 => by exfalso; (clear p_bw hjs i16_0_5421 i162_0_8416; omega))
                skip
                skip
                skip
                skip
                refine g_forget (l1 := [(0, vR 111), (1, vI 1), (2, vI (P 111 3)), (4, vI 0)]) (by intro q hq; simp only [List.mem_cons, List.not_mem_nil, or_false] at hq ⊢; rcases hq with rfl | rfl | rfl | rfl <;> simp) ?_
                exact J217_8486 (by (clear p_bw hjs i16_0_5421 i162_0_8416 k8502; omega))
          refine g_icmp_lt (tgt := 162) dX7_step_149 (by decide) ⟨by have q0 := bx_2 (o := 2) (k := (H27_5422 111 3)) hB (⟨by decide, rfl⟩ : kx 2 2); (clear p_bw hjs i16_0_5421; omega), by have q0 := bx_2 (o := 2) (k := (H27_5422 111 3)) hB (⟨by decide, rfl⟩ : kx 2 2); (clear p_bw hjs i16_0_5421; omega)⟩ (by decide) (fun k8503 => ?_) (fun k8503 => ?_)
          · skip
            skip
            skip
            refine g_forget (l1 := [(0, vR 111), (1, vI 1), (2, vI (P 111 3)), (3, vI (P 2 (H27_5422 111 3)))]) (by intro q hq; simp only [List.mem_cons, List.not_mem_nil, or_false] at hq ⊢; rcases hq with rfl | rfl | rfl | rfl <;> simp) ?_
            exact J162_8416 (by (clear p_bw hjs i16_0_5421; omega))
          · skip
            skip
            skip
            refine g_iload_n dX7_step_152 rfl ?_
            refine g_bipush dX7_step_153 (by decide) ?_
            refine g_icmp_gt (tgt := 162) dX7_step_155 (by decide) ⟨by have q0 := bx_2 (o := 2) (k := (H27_5422 111 3)) hB (⟨by decide, rfl⟩ : kx 2 2); (clear p_bw hjs i16_0_5421; omega), by have q0 := bx_2 (o := 2) (k := (H27_5422 111 3)) hB (⟨by decide, rfl⟩ : kx 2 2); (clear p_bw hjs i16_0_5421; omega)⟩ (by decide) (fun k8504 => ?_) (fun k8504 => ?_)
            · skip
              skip
              skip
              refine g_forget (l1 := [(0, vR 111), (1, vI 1), (2, vI (P 111 3)), (3, vI (P 2 (H27_5422 111 3)))]) (by intro q hq; simp only [List.mem_cons, List.not_mem_nil, or_false] at hq ⊢; rcases hq with rfl | rfl | rfl | rfl <;> simp) ?_
              exact J162_8416 (by (clear p_bw hjs i16_0_5421; omega))
            · skip
              skip
              skip
              refine g_iconst dX7_step_158 ?_
              refine g_goto (tgt := 163) dX7_step_159 (by decide) ?_
              refine g_istore (l1 := [(4, vI 1), (3, vI (P 2 (H27_5422 111 3))), (0, vR 111), (1, vI 1), (2, vI (P 111 3))]) dX7_step_163 (by decide) rfl ?_
              refine g_iload_n dX7_step_165 rfl ?_
              refine g_bipush dX7_step_166 (by decide) ?_
              have J181_8535 : ∀ (i181_0_8535 : (P 2 (H27_5422 111 3)) < 48 ∨ 57 < (P 2 (H27_5422 111 3))), Go WSX G 2 iX7_step 181 [(0, vR 111), (1, vI 1), (2, vI (P 111 3)), (3, vI (P 2 (H27_5422 111 3))), (4, vI 1)] [] (up (up (up (up H27_5422 111 5 (H27_5422 111 3)) 111 6 (H27_5422 111 3)) 111 8 (-1)) 111 7 0) Q := by
                intro i181_0_8535
                refine g_iconst dX7_step_181 ?_
                refine g_istore (l1 := [(5, vI 0), (0, vR 111), (1, vI 1), (2, vI (P 111 3)), (3, vI (P 2 (H27_5422 111 3))), (4, vI 1)]) dX7_step_182 (by decide) rfl ?_
                refine g_iload dX7_step_184 rfl ?_
                have J217_8550 : ∀ (i217_0_8550 : (1 = 1 ∧ 97 ≤ T.1 (tA T q) ∧ T.1 (tA T q) ≤ 122) ∨ (1 = 0 ∧ 48 ≤ T.1 (tA T q) ∧ T.1 (tA T q) ≤ 57)), Go WSX G 2 iX7_step 217 [(0, vR 111), (1, vI 1), (2, vI (P 111 3)), (4, vI 1)] [] (up (up (up (up H27_5422 111 5 (H27_5422 111 3)) 111 6 (H27_5422 111 3)) 111 8 (-1)) 111 7 0) Q := by
                  intro i217_0_8550
                  refine g_iload_n dX7_step_217 rfl ?_
                  have J237_8557 : ∀ (i237_0_8557 : tJn T q = 0), Go WSX G 2 iX7_step 237 [(0, vR 111), (4, vI 1)] [] (up (up (up (up H27_5422 111 5 (H27_5422 111 3)) 111 6 (H27_5422 111 3)) 111 8 (-1)) 111 7 0) Q := by
                    intro i237_0_8557
                    refine g_iload dX7_step_237 rfl ?_
                    refine g_if_eq (tgt := 249) dX7_step_239 (by decide) (by decide) (fun k8559 => by exfalso; (clear p_bw hjs i16_0_5421 i181_0_8535 i217_0_8550; omega)) (fun k8559 => ?_)
                    have r_i217_0_8550 := (i217_0_8550.resolve_right (by (clear p_bw hjs i16_0_5421 i181_0_8535 i217_0_8550 k8559; omega)))
                    have r_i181_0_8535 := (i181_0_8535.resolve_left (by (clear p_bw hjs i16_0_5421 i181_0_8535 i217_0_8550 k8559; omega)))
                    skip
                    have r_hjs := (hjs.resolve_left (by (clear p_bw hjs i16_0_5421 i181_0_8535 i217_0_8550 k8559; omega)))
                    skip
                    refine g_aload_n dX7_step_242 rfl ?_
                    refine g_vV (av := []) (o := 111) (st := []) (f_X7_stepWord G (up (up (up (up H27_5422 111 5 (H27_5422 111 3)) 111 6 (H27_5422 111 3)) 111 8 (-1)) 111 7 0) T q  hB8262 (by have q0 := (((up_k (by decide)).trans ((up_k (by decide)).trans ((up_k (by decide)).trans ((up_k (by decide)).trans rfl)))) : (up (up (up (up H27_5422 111 5 (H27_5422 111 3)) 111 6 (H27_5422 111 3)) 111 8 (-1)) 111 7 0) 111 3 = (H27_5422 111 3)); have q1 := bx_46_3 (o := 111) hB27_5422 (⟨by decide, rfl⟩ : kx 111 46); have q2 := (((up_k (by decide)).trans ((up_k (by decide)).trans ((up_k (by decide)).trans up_same))) : (up (up (up (up H27_5422 111 5 (H27_5422 111 3)) 111 6 (H27_5422 111 3)) 111 8 (-1)) 111 7 0) 111 5 = (H27_5422 111 3)); have q3 := (up_same : (up (up (up (up H27_5422 111 5 (H27_5422 111 3)) 111 6 (H27_5422 111 3)) 111 8 (-1)) 111 7 0) 111 7 = 0); have q4 := (((up_k (by decide)).trans up_same) : (up (up (up (up H27_5422 111 5 (H27_5422 111 3)) 111 6 (H27_5422 111 3)) 111 8 (-1)) 111 7 0) 111 8 = (-1)); (clear p_bw hjs i16_0_5421 i181_0_8535 i217_0_8550 k8559; omega)) (by (clear p_bw hjs i16_0_5421 i181_0_8535 i217_0_8550 k8559; omega)) (TX.fr (F := ([(46, 3), (46, 5), (46, 6), (46, 7), (46, 8)], [])) v_TX (FrX.s (FrX.s (FrX.s (FrX.s (FrX.c FrX.rf hE27_5422 rfl) (⟨by decide, rfl⟩ : kx 111 46) rfl) (⟨by decide, rfl⟩ : kx 111 46) rfl) (⟨by decide, rfl⟩ : kx 111 46) rfl) (⟨by decide, rfl⟩ : kx 111 46) rfl) rfl) (OWN.fr (F := ([(46, 3), (46, 5), (46, 6), (46, 7), (46, 8)], [])) v_OWN (FrX.s (FrX.s (FrX.s (FrX.s (FrX.c FrX.rf hE27_5422 rfl) (⟨by decide, rfl⟩ : kx 111 46) rfl) (⟨by decide, rfl⟩ : kx 111 46) rfl) (⟨by decide, rfl⟩ : kx 111 46) rfl) (⟨by decide, rfl⟩ : kx 111 46) rfl) rfl) ((XT.fr (F := ([(46, 3), (46, 5), (46, 6), (46, 7), (46, 8)], [])) z0 (FrX.s (FrX.s (FrX.s (FrX.s (FrX.c FrX.rf hE27_5422 rfl) (⟨by decide, rfl⟩ : kx 111 46) rfl) (⟨by decide, rfl⟩ : kx 111 46) rfl) (⟨by decide, rfl⟩ : kx 111 46) rfl) (⟨by decide, rfl⟩ : kx 111 46) rfl) rfl)) _ (fun Pc8560 hBc8560 hFc8560 ec8560_0 => ⟨rfl, ?_⟩)) cf_X7_stepWord t_711 rfl (show kx 111 46 from (⟨by decide, rfl⟩ : kx 111 46)).1 ((show kx 111 46 from (⟨by decide, rfl⟩ : kx 111 46)).sh rfl) rfl rfl (Nat.le_of_ble_eq_true rfl) (by decide) rfl dX7_step_243
                    refine g_goto (tgt := 253) dX7_step_246 (by decide) ?_
                    exact g_retV dX7_step_253 rfl (hQ _ hBc8560 (FrX.c (FrX.s (FrX.s (FrX.s (FrX.s (FrX.c FrX.rf hE27_5422 rfl) (⟨by decide, rfl⟩ : kx 111 46) rfl) (⟨by decide, rfl⟩ : kx 111 46) rfl) (⟨by decide, rfl⟩ : kx 111 46) rfl) (⟨by decide, rfl⟩ : kx 111 46) rfl) hFc8560 rfl) (by first | exact ec8560_0 | (have q3 := (rfl : Pc8560 111 3 = (Pc8560 111 3)); have q4 := (rfl : Pc8560 111 4 = (Pc8560 111 4)); have q5 := (((FrX.g hFc8560 (⟨by decide, rfl⟩ : kx 111 46) rfl).trans ((up_k (by decide)).trans ((up_k (by decide)).trans ((up_k (by decide)).trans up_same)))) : Pc8560 111 5 = (H27_5422 111 3)); have q6 := (rfl : Pc8560 111 6 = (Pc8560 111 6)); have q7 := (rfl : Pc8560 111 7 = (Pc8560 111 7)); have q8 := (rfl : Pc8560 111 8 = (Pc8560 111 8)); first | exact XS.sig ⟨by (first | (clear p_bw hjs i16_0_5421 i181_0_8535 i217_0_8550 k8559; omega) | (clear p_bw hjs i16_0_5421 i181_0_8535 i217_0_8550; omega) | (clear p_bw hjs i16_0_5421 i181_0_8535 k8559; omega) | (clear p_bw hjs i16_0_5421 i217_0_8550 k8559; omega) | (clear p_bw hjs i181_0_8535 i217_0_8550 k8559; omega) | (clear p_bw i16_0_5421 i181_0_8535 i217_0_8550 k8559; omega) | (clear hjs i16_0_5421 i181_0_8535 i217_0_8550 k8559; omega) | (clear p_bw hjs i16_0_5421 i181_0_8535; omega) | (clear hjs p_bw; omega) | omega), by (first | (clear p_bw hjs i16_0_5421 i181_0_8535 i217_0_8550 k8559; omega) | (clear p_bw hjs i16_0_5421 i181_0_8535 i217_0_8550; omega) | (clear p_bw hjs i16_0_5421 i181_0_8535 k8559; omega) | (clear p_bw hjs i16_0_5421 i217_0_8550 k8559; omega) | (clear p_bw hjs i181_0_8535 i217_0_8550 k8559; omega) | (clear p_bw i16_0_5421 i181_0_8535 i217_0_8550 k8559; omega) | (clear hjs i16_0_5421 i181_0_8535 i217_0_8550 k8559; omega) | (clear p_bw hjs i16_0_5421 i181_0_8535; omega) | (clear hjs p_bw; omega) | omega)⟩ (by (first | (clear p_bw hjs i16_0_5421 i181_0_8535 i217_0_8550 k8559; omega) | (clear p_bw hjs i16_0_5421 i181_0_8535 i217_0_8550; omega) | (clear p_bw hjs i16_0_5421 i181_0_8535 k8559; omega) | (clear p_bw hjs i16_0_5421 i217_0_8550 k8559; omega) | (clear p_bw hjs i181_0_8535 i217_0_8550 k8559; omega) | (clear p_bw i16_0_5421 i181_0_8535 i217_0_8550 k8559; omega) | (clear hjs i16_0_5421 i181_0_8535 i217_0_8550 k8559; omega) | (clear p_bw hjs i16_0_5421 i181_0_8535; omega) | (clear hjs p_bw; omega) | omega)) (by (first | (clear p_bw hjs i16_0_5421 i181_0_8535 i217_0_8550 k8559; omega) | (clear p_bw hjs i16_0_5421 i181_0_8535 i217_0_8550; omega) | (clear p_bw hjs i16_0_5421 i181_0_8535 k8559; omega) | (clear p_bw hjs i16_0_5421 i217_0_8550 k8559; omega) | (clear p_bw hjs i181_0_8535 i217_0_8550 k8559; omega) | (clear p_bw i16_0_5421 i181_0_8535 i217_0_8550 k8559; omega) | (clear hjs i16_0_5421 i181_0_8535 i217_0_8550 k8559; omega) | (clear p_bw hjs i16_0_5421 i181_0_8535; omega) | (clear hjs p_bw; omega) | omega)) (by (first | (clear p_bw hjs i16_0_5421 i181_0_8535 i217_0_8550 k8559; omega) | (clear p_bw hjs i16_0_5421 i181_0_8535 i217_0_8550; omega) | (clear p_bw hjs i16_0_5421 i181_0_8535 k8559; omega) | (clear p_bw hjs i16_0_5421 i217_0_8550 k8559; omega) | (clear p_bw hjs i181_0_8535 i217_0_8550 k8559; omega) | (clear p_bw i16_0_5421 i181_0_8535 i217_0_8550 k8559; omega) | (clear hjs i16_0_5421 i181_0_8535 i217_0_8550 k8559; omega) | (clear p_bw hjs i16_0_5421 i181_0_8535; omega) | (clear hjs p_bw; omega) | omega)) (by (first | (clear p_bw hjs i16_0_5421 i181_0_8535 i217_0_8550 k8559; omega) | (clear p_bw hjs i16_0_5421 i181_0_8535 i217_0_8550; omega) | (clear p_bw hjs i16_0_5421 i181_0_8535 k8559; omega) | (clear p_bw hjs i16_0_5421 i217_0_8550 k8559; omega) | (clear p_bw hjs i181_0_8535 i217_0_8550 k8559; omega) | (clear p_bw i16_0_5421 i181_0_8535 i217_0_8550 k8559; omega) | (clear hjs i16_0_5421 i181_0_8535 i217_0_8550 k8559; omega) | (clear p_bw hjs i16_0_5421 i181_0_8535; omega) | (clear hjs p_bw; omega) | omega)) (by (first | (clear p_bw hjs i16_0_5421 i181_0_8535 i217_0_8550 k8559; omega) | (clear p_bw hjs i16_0_5421 i181_0_8535 i217_0_8550; omega) | (clear p_bw hjs i16_0_5421 i181_0_8535 k8559; omega) | (clear p_bw hjs i16_0_5421 i217_0_8550 k8559; omega) | (clear p_bw hjs i181_0_8535 i217_0_8550 k8559; omega) | (clear p_bw i16_0_5421 i181_0_8535 i217_0_8550 k8559; omega) | (clear hjs i16_0_5421 i181_0_8535 i217_0_8550 k8559; omega) | (clear p_bw hjs i16_0_5421 i181_0_8535; omega) | (clear hjs p_bw; omega) | omega)) (by (first | (clear p_bw hjs i16_0_5421 i181_0_8535 i217_0_8550 k8559; omega) | (clear p_bw hjs i16_0_5421 i181_0_8535 i217_0_8550; omega) | (clear p_bw hjs i16_0_5421 i181_0_8535 k8559; omega) | (clear p_bw hjs i16_0_5421 i217_0_8550 k8559; omega) | (clear p_bw hjs i181_0_8535 i217_0_8550 k8559; omega) | (clear p_bw i16_0_5421 i181_0_8535 i217_0_8550 k8559; omega) | (clear hjs i16_0_5421 i181_0_8535 i217_0_8550 k8559; omega) | (clear p_bw hjs i16_0_5421 i181_0_8535; omega) | (clear hjs p_bw; omega) | omega)) (by (first | (clear p_bw hjs i16_0_5421 i181_0_8535 i217_0_8550 k8559; omega) | (clear p_bw hjs i16_0_5421 i181_0_8535 i217_0_8550; omega) | (clear p_bw hjs i16_0_5421 i181_0_8535 k8559; omega) | (clear p_bw hjs i16_0_5421 i217_0_8550 k8559; omega) | (clear p_bw hjs i181_0_8535 i217_0_8550 k8559; omega) | (clear p_bw i16_0_5421 i181_0_8535 i217_0_8550 k8559; omega) | (clear hjs i16_0_5421 i181_0_8535 i217_0_8550 k8559; omega) | (clear p_bw hjs i16_0_5421 i181_0_8535; omega) | (clear hjs p_bw; omega) | omega)) (by (first | (clear p_bw hjs i16_0_5421 i181_0_8535 i217_0_8550 k8559; omega) | (clear p_bw hjs i16_0_5421 i181_0_8535 i217_0_8550; omega) | (clear p_bw hjs i16_0_5421 i181_0_8535 k8559; omega) | (clear p_bw hjs i16_0_5421 i217_0_8550 k8559; omega) | (clear p_bw hjs i181_0_8535 i217_0_8550 k8559; omega) | (clear p_bw i16_0_5421 i181_0_8535 i217_0_8550 k8559; omega) | (clear hjs i16_0_5421 i181_0_8535 i217_0_8550 k8559; omega) | (clear p_bw hjs i16_0_5421 i181_0_8535; omega) | (clear hjs p_bw; omega) | omega)) | exact XS.badj ⟨by (first | (clear p_bw hjs i16_0_5421 i181_0_8535 i217_0_8550 k8559; omega) | (clear p_bw hjs i16_0_5421 i181_0_8535 i217_0_8550; omega) | (clear p_bw hjs i16_0_5421 i181_0_8535 k8559; omega) | (clear p_bw hjs i16_0_5421 i217_0_8550 k8559; omega) | (clear p_bw hjs i181_0_8535 i217_0_8550 k8559; omega) | (clear p_bw i16_0_5421 i181_0_8535 i217_0_8550 k8559; omega) | (clear hjs i16_0_5421 i181_0_8535 i217_0_8550 k8559; omega) | (clear p_bw hjs i16_0_5421 i181_0_8535; omega) | (clear hjs p_bw; omega) | omega), by (first | (clear p_bw hjs i16_0_5421 i181_0_8535 i217_0_8550 k8559; omega) | (clear p_bw hjs i16_0_5421 i181_0_8535 i217_0_8550; omega) | (clear p_bw hjs i16_0_5421 i181_0_8535 k8559; omega) | (clear p_bw hjs i16_0_5421 i217_0_8550 k8559; omega) | (clear p_bw hjs i181_0_8535 i217_0_8550 k8559; omega) | (clear p_bw i16_0_5421 i181_0_8535 i217_0_8550 k8559; omega) | (clear hjs i16_0_5421 i181_0_8535 i217_0_8550 k8559; omega) | (clear p_bw hjs i16_0_5421 i181_0_8535; omega) | (clear hjs p_bw; omega) | omega)⟩ (by (first | (clear p_bw hjs i16_0_5421 i181_0_8535 i217_0_8550 k8559; omega) | (clear p_bw hjs i16_0_5421 i181_0_8535 i217_0_8550; omega) | (clear p_bw hjs i16_0_5421 i181_0_8535 k8559; omega) | (clear p_bw hjs i16_0_5421 i217_0_8550 k8559; omega) | (clear p_bw hjs i181_0_8535 i217_0_8550 k8559; omega) | (clear p_bw i16_0_5421 i181_0_8535 i217_0_8550 k8559; omega) | (clear hjs i16_0_5421 i181_0_8535 i217_0_8550 k8559; omega) | (clear p_bw hjs i16_0_5421 i181_0_8535; omega) | (clear hjs p_bw; omega) | omega)) (by (first | (clear p_bw hjs i16_0_5421 i181_0_8535 i217_0_8550 k8559; omega) | (clear p_bw hjs i16_0_5421 i181_0_8535 i217_0_8550; omega) | (clear p_bw hjs i16_0_5421 i181_0_8535 k8559; omega) | (clear p_bw hjs i16_0_5421 i217_0_8550 k8559; omega) | (clear p_bw hjs i181_0_8535 i217_0_8550 k8559; omega) | (clear p_bw i16_0_5421 i181_0_8535 i217_0_8550 k8559; omega) | (clear hjs i16_0_5421 i181_0_8535 i217_0_8550 k8559; omega) | (clear p_bw hjs i16_0_5421 i181_0_8535; omega) | (clear hjs p_bw; omega) | omega)) (by (first | (clear p_bw hjs i16_0_5421 i181_0_8535 i217_0_8550 k8559; omega) | (clear p_bw hjs i16_0_5421 i181_0_8535 i217_0_8550; omega) | (clear p_bw hjs i16_0_5421 i181_0_8535 k8559; omega) | (clear p_bw hjs i16_0_5421 i217_0_8550 k8559; omega) | (clear p_bw hjs i181_0_8535 i217_0_8550 k8559; omega) | (clear p_bw i16_0_5421 i181_0_8535 i217_0_8550 k8559; omega) | (clear hjs i16_0_5421 i181_0_8535 i217_0_8550 k8559; omega) | (clear p_bw hjs i16_0_5421 i181_0_8535; omega) | (clear hjs p_bw; omega) | omega)) (by (first | (clear p_bw hjs i16_0_5421 i181_0_8535 i217_0_8550 k8559; omega) | (clear p_bw hjs i16_0_5421 i181_0_8535 i217_0_8550; omega) | (clear p_bw hjs i16_0_5421 i181_0_8535 k8559; omega) | (clear p_bw hjs i16_0_5421 i217_0_8550 k8559; omega) | (clear p_bw hjs i181_0_8535 i217_0_8550 k8559; omega) | (clear p_bw i16_0_5421 i181_0_8535 i217_0_8550 k8559; omega) | (clear hjs i16_0_5421 i181_0_8535 i217_0_8550 k8559; omega) | (clear p_bw hjs i16_0_5421 i181_0_8535; omega) | (clear hjs p_bw; omega) | omega)) (by (first | (clear p_bw hjs i16_0_5421 i181_0_8535 i217_0_8550 k8559; omega) | (clear p_bw hjs i16_0_5421 i181_0_8535 i217_0_8550; omega) | (clear p_bw hjs i16_0_5421 i181_0_8535 k8559; omega) | (clear p_bw hjs i16_0_5421 i217_0_8550 k8559; omega) | (clear p_bw hjs i181_0_8535 i217_0_8550 k8559; omega) | (clear p_bw i16_0_5421 i181_0_8535 i217_0_8550 k8559; omega) | (clear hjs i16_0_5421 i181_0_8535 i217_0_8550 k8559; omega) | (clear p_bw hjs i16_0_5421 i181_0_8535; omega) | (clear hjs p_bw; omega) | omega)) (by (first | (clear p_bw hjs i16_0_5421 i181_0_8535 i217_0_8550 k8559; omega) | (clear p_bw hjs i16_0_5421 i181_0_8535 i217_0_8550; omega) | (clear p_bw hjs i16_0_5421 i181_0_8535 k8559; omega) | (clear p_bw hjs i16_0_5421 i217_0_8550 k8559; omega) | (clear p_bw hjs i181_0_8535 i217_0_8550 k8559; omega) | (clear p_bw i16_0_5421 i181_0_8535 i217_0_8550 k8559; omega) | (clear hjs i16_0_5421 i181_0_8535 i217_0_8550 k8559; omega) | (clear p_bw hjs i16_0_5421 i181_0_8535; omega) | (clear hjs p_bw; omega) | omega)) (by (first | (clear p_bw hjs i16_0_5421 i181_0_8535 i217_0_8550 k8559; omega) | (clear p_bw hjs i16_0_5421 i181_0_8535 i217_0_8550; omega) | (clear p_bw hjs i16_0_5421 i181_0_8535 k8559; omega) | (clear p_bw hjs i16_0_5421 i217_0_8550 k8559; omega) | (clear p_bw hjs i181_0_8535 i217_0_8550 k8559; omega) | (clear p_bw i16_0_5421 i181_0_8535 i217_0_8550 k8559; omega) | (clear hjs i16_0_5421 i181_0_8535 i217_0_8550 k8559; omega) | (clear p_bw hjs i16_0_5421 i181_0_8535; omega) | (clear hjs p_bw; omega) | omega)))))
                  refine g_if_eq (tgt := 237) dX7_step_218 (by decide) (by decide) (fun k8561 => by exfalso; (clear p_bw hjs i16_0_5421 i181_0_8535 i217_0_8550; omega)) (fun k8561 => ?_)
                  have r_i217_0_8550 := (i217_0_8550.resolve_right (by (clear p_bw hjs i16_0_5421 i181_0_8535 i217_0_8550 k8561; omega)))
                  have r_i181_0_8535 := (i181_0_8535.resolve_left (by (clear p_bw hjs i16_0_5421 i181_0_8535 i217_0_8550 k8561; omega)))
                  skip
                  skip
                  skip
                  refine g_iload_n dX7_step_221 rfl ?_
                  refine g_aload_n dX7_step_222 rfl ?_
                  refine x_g46_5 (z := (H27_5422 111 3)) (⟨by decide, rfl⟩ : kx 111 46) ffX7_81 dX7_step_223 ((up_k (by decide)).trans ((up_k (by decide)).trans ((up_k (by decide)).trans up_same))) ?_
                  have f8562 := bx_46_3 (o := 111) hB (⟨by decide, rfl⟩ : kx 111 46)
                  refine g_icmp_ne (tgt := 237) dX7_step_226 (by decide) ⟨by have q0 := bx_46_3 (o := 111) hB (⟨by decide, rfl⟩ : kx 111 46); (clear p_bw hjs i16_0_5421 i181_0_8535 i217_0_8550 k8561; omega), by have q0 := bx_46_3 (o := 111) hB (⟨by decide, rfl⟩ : kx 111 46); (clear p_bw hjs i16_0_5421 i181_0_8535 i217_0_8550 k8561; omega)⟩ ⟨by have q0 := bx_46_3 (o := 111) hB27_5422 (⟨by decide, rfl⟩ : kx 111 46); (clear p_bw hjs i16_0_5421 i181_0_8535 i217_0_8550 k8561; omega), by have q0 := bx_46_3 (o := 111) hB27_5422 (⟨by decide, rfl⟩ : kx 111 46); (clear p_bw hjs i16_0_5421 i181_0_8535 i217_0_8550 k8561; omega)⟩ (fun k8563 => ?_) (fun k8563 => ?_)
                  · skip
                    skip
                    skip
                    skip
                    skip
                    refine g_forget (l1 := [(0, vR 111), (4, vI 1)]) (by intro q hq; simp only [List.mem_cons, List.not_mem_nil, or_false] at hq ⊢; rcases hq with rfl | rfl <;> simp) ?_
                    exact J237_8557 (by (omega))
                  · skip
                    skip
                    skip
                    skip
                    skip
                    refine g_aload_n dX7_step_229 rfl ?_
                    refine g_iconst dX7_step_230 ?_
                    refine x_p46_4 (⟨by decide, rfl⟩ : kx 111 46) pfX7_75 dX7_step_231 ?_
                    have hB8564 := by_46_4 (z := 4) hB8262 (⟨by decide, rfl⟩ : kx 111 46) (by decide)
                    refine g_goto (tgt := 253) dX7_step_234 (by decide) ?_
                    exact g_retV dX7_step_253 rfl (hQ _ hB8564 (FrX.s (FrX.s (FrX.s (FrX.s (FrX.s (FrX.c FrX.rf hE27_5422 rfl) (⟨by decide, rfl⟩ : kx 111 46) rfl) (⟨by decide, rfl⟩ : kx 111 46) rfl) (⟨by decide, rfl⟩ : kx 111 46) rfl) (⟨by decide, rfl⟩ : kx 111 46) rfl) (⟨by decide, rfl⟩ : kx 111 46) rfl) (by first | exact hNONE | (have q3 := (((up_k (by decide)).trans ((up_k (by decide)).trans ((up_k (by decide)).trans ((up_k (by decide)).trans ((up_k (by decide)).trans rfl))))) : (up (up (up (up (up H27_5422 111 5 (H27_5422 111 3)) 111 6 (H27_5422 111 3)) 111 8 (-1)) 111 7 0) 111 4 4) 111 3 = (H27_5422 111 3)); have q4 := (up_same : (up (up (up (up (up H27_5422 111 5 (H27_5422 111 3)) 111 6 (H27_5422 111 3)) 111 8 (-1)) 111 7 0) 111 4 4) 111 4 = 4); have q5 := (((up_k (by decide)).trans ((up_k (by decide)).trans ((up_k (by decide)).trans ((up_k (by decide)).trans up_same)))) : (up (up (up (up (up H27_5422 111 5 (H27_5422 111 3)) 111 6 (H27_5422 111 3)) 111 8 (-1)) 111 7 0) 111 4 4) 111 5 = (H27_5422 111 3)); have q6 := (((up_k (by decide)).trans ((up_k (by decide)).trans ((up_k (by decide)).trans up_same))) : (up (up (up (up (up H27_5422 111 5 (H27_5422 111 3)) 111 6 (H27_5422 111 3)) 111 8 (-1)) 111 7 0) 111 4 4) 111 6 = (H27_5422 111 3)); have q7 := (((up_k (by decide)).trans up_same) : (up (up (up (up (up H27_5422 111 5 (H27_5422 111 3)) 111 6 (H27_5422 111 3)) 111 8 (-1)) 111 7 0) 111 4 4) 111 7 = 0); have q8 := (((up_k (by decide)).trans ((up_k (by decide)).trans up_same)) : (up (up (up (up (up H27_5422 111 5 (H27_5422 111 3)) 111 6 (H27_5422 111 3)) 111 8 (-1)) 111 7 0) 111 4 4) 111 8 = (-1)); first | exact XS.sig ⟨by (clear p_bw hjs i16_0_5421 i181_0_8535 i217_0_8550 k8561 k8563; omega), by (clear p_bw hjs i16_0_5421 i181_0_8535 i217_0_8550 k8561 k8563; omega)⟩ (by (first | (clear p_bw hjs i16_0_5421 i181_0_8535 i217_0_8550 k8561 k8563; omega) | (clear p_bw hjs i16_0_5421 i181_0_8535 i217_0_8550 k8561; omega) | (clear p_bw hjs i16_0_5421 i181_0_8535 i217_0_8550 k8563; omega) | (clear p_bw hjs i16_0_5421 i181_0_8535 k8561 k8563; omega) | (clear p_bw hjs i16_0_5421 i217_0_8550 k8561 k8563; omega) | (clear p_bw hjs i181_0_8535 i217_0_8550 k8561 k8563; omega) | (clear p_bw i16_0_5421 i181_0_8535 i217_0_8550 k8561 k8563; omega) | (clear hjs i16_0_5421 i181_0_8535 i217_0_8550 k8561 k8563; omega) | (clear p_bw hjs i16_0_5421 i181_0_8535 i217_0_8550; omega) | (clear i16_0_5421 hjs p_bw; omega) | omega)) (by (first | (clear p_bw hjs i16_0_5421 i181_0_8535 i217_0_8550 k8561 k8563; omega) | (clear p_bw hjs i16_0_5421 i181_0_8535 i217_0_8550 k8561; omega) | (clear p_bw hjs i16_0_5421 i181_0_8535 i217_0_8550 k8563; omega) | (clear p_bw hjs i16_0_5421 i181_0_8535 k8561 k8563; omega) | (clear p_bw hjs i16_0_5421 i217_0_8550 k8561 k8563; omega) | (clear p_bw hjs i181_0_8535 i217_0_8550 k8561 k8563; omega) | (clear p_bw i16_0_5421 i181_0_8535 i217_0_8550 k8561 k8563; omega) | (clear hjs i16_0_5421 i181_0_8535 i217_0_8550 k8561 k8563; omega) | (clear p_bw hjs i16_0_5421 i181_0_8535 i217_0_8550; omega) | (clear i16_0_5421 hjs p_bw; omega) | omega)) (by (first | (clear p_bw hjs i16_0_5421 i181_0_8535 i217_0_8550 k8561 k8563; omega) | (clear p_bw hjs i16_0_5421 i181_0_8535 i217_0_8550 k8561; omega) | (clear p_bw hjs i16_0_5421 i181_0_8535 i217_0_8550 k8563; omega) | (clear p_bw hjs i16_0_5421 i181_0_8535 k8561 k8563; omega) | (clear p_bw hjs i16_0_5421 i217_0_8550 k8561 k8563; omega) | (clear p_bw hjs i181_0_8535 i217_0_8550 k8561 k8563; omega) | (clear p_bw i16_0_5421 i181_0_8535 i217_0_8550 k8561 k8563; omega) | (clear hjs i16_0_5421 i181_0_8535 i217_0_8550 k8561 k8563; omega) | (clear p_bw hjs i16_0_5421 i181_0_8535 i217_0_8550; omega) | (clear i16_0_5421 hjs p_bw; omega) | omega)) (by (first | (clear p_bw hjs i16_0_5421 i181_0_8535 i217_0_8550 k8561 k8563; omega) | (clear p_bw hjs i16_0_5421 i181_0_8535 i217_0_8550 k8561; omega) | (clear p_bw hjs i16_0_5421 i181_0_8535 i217_0_8550 k8563; omega) | (clear p_bw hjs i16_0_5421 i181_0_8535 k8561 k8563; omega) | (clear p_bw hjs i16_0_5421 i217_0_8550 k8561 k8563; omega) | (clear p_bw hjs i181_0_8535 i217_0_8550 k8561 k8563; omega) | (clear p_bw i16_0_5421 i181_0_8535 i217_0_8550 k8561 k8563; omega) | (clear hjs i16_0_5421 i181_0_8535 i217_0_8550 k8561 k8563; omega) | (clear p_bw hjs i16_0_5421 i181_0_8535 i217_0_8550; omega) | (clear i16_0_5421 hjs p_bw; omega) | omega)) (by (first | (clear p_bw hjs i16_0_5421 i181_0_8535 i217_0_8550 k8561 k8563; omega) | (clear p_bw hjs i16_0_5421 i181_0_8535 i217_0_8550 k8561; omega) | (clear p_bw hjs i16_0_5421 i181_0_8535 i217_0_8550 k8563; omega) | (clear p_bw hjs i16_0_5421 i181_0_8535 k8561 k8563; omega) | (clear p_bw hjs i16_0_5421 i217_0_8550 k8561 k8563; omega) | (clear p_bw hjs i181_0_8535 i217_0_8550 k8561 k8563; omega) | (clear p_bw i16_0_5421 i181_0_8535 i217_0_8550 k8561 k8563; omega) | (clear hjs i16_0_5421 i181_0_8535 i217_0_8550 k8561 k8563; omega) | (clear p_bw hjs i16_0_5421 i181_0_8535 i217_0_8550; omega) | (clear i16_0_5421 hjs p_bw; omega) | omega)) (by (first | (clear p_bw hjs i16_0_5421 i181_0_8535 i217_0_8550 k8561 k8563; omega) | (clear p_bw hjs i16_0_5421 i181_0_8535 i217_0_8550 k8561; omega) | (clear p_bw hjs i16_0_5421 i181_0_8535 i217_0_8550 k8563; omega) | (clear p_bw hjs i16_0_5421 i181_0_8535 k8561 k8563; omega) | (clear p_bw hjs i16_0_5421 i217_0_8550 k8561 k8563; omega) | (clear p_bw hjs i181_0_8535 i217_0_8550 k8561 k8563; omega) | (clear p_bw i16_0_5421 i181_0_8535 i217_0_8550 k8561 k8563; omega) | (clear hjs i16_0_5421 i181_0_8535 i217_0_8550 k8561 k8563; omega) | (clear p_bw hjs i16_0_5421 i181_0_8535 i217_0_8550; omega) | (clear i16_0_5421 hjs p_bw; omega) | omega)) (by (first | (clear p_bw hjs i16_0_5421 i181_0_8535 i217_0_8550 k8561 k8563; omega) | (clear p_bw hjs i16_0_5421 i181_0_8535 i217_0_8550 k8561; omega) | (clear p_bw hjs i16_0_5421 i181_0_8535 i217_0_8550 k8563; omega) | (clear p_bw hjs i16_0_5421 i181_0_8535 k8561 k8563; omega) | (clear p_bw hjs i16_0_5421 i217_0_8550 k8561 k8563; omega) | (clear p_bw hjs i181_0_8535 i217_0_8550 k8561 k8563; omega) | (clear p_bw i16_0_5421 i181_0_8535 i217_0_8550 k8561 k8563; omega) | (clear hjs i16_0_5421 i181_0_8535 i217_0_8550 k8561 k8563; omega) | (clear p_bw hjs i16_0_5421 i181_0_8535 i217_0_8550; omega) | (clear i16_0_5421 hjs p_bw; omega) | omega)) (by (first | (clear p_bw hjs i16_0_5421 i181_0_8535 i217_0_8550 k8561 k8563; omega) | (clear p_bw hjs i16_0_5421 i181_0_8535 i217_0_8550 k8561; omega) | (clear p_bw hjs i16_0_5421 i181_0_8535 i217_0_8550 k8563; omega) | (clear p_bw hjs i16_0_5421 i181_0_8535 k8561 k8563; omega) | (clear p_bw hjs i16_0_5421 i217_0_8550 k8561 k8563; omega) | (clear p_bw hjs i181_0_8535 i217_0_8550 k8561 k8563; omega) | (clear p_bw i16_0_5421 i181_0_8535 i217_0_8550 k8561 k8563; omega) | (clear hjs i16_0_5421 i181_0_8535 i217_0_8550 k8561 k8563; omega) | (clear p_bw hjs i16_0_5421 i181_0_8535 i217_0_8550; omega) | (clear i16_0_5421 hjs p_bw; omega) | omega)) | exact XS.badj ⟨by (clear p_bw hjs i16_0_5421 i181_0_8535 i217_0_8550 k8561 k8563; omega), by (clear p_bw hjs i16_0_5421 i181_0_8535 i217_0_8550 k8561 k8563; omega)⟩ (by (clear p_bw hjs i16_0_5421 i181_0_8535 i217_0_8550 k8561 k8563; omega)) (by (clear p_bw hjs i16_0_5421 i181_0_8535 i217_0_8550 k8561 k8563; omega)) (by (clear p_bw hjs i16_0_5421 i181_0_8535 i217_0_8550 k8561 k8563; omega)) (by (clear p_bw hjs i16_0_5421 i181_0_8535 i217_0_8550 k8561 k8563; omega)) (by (clear p_bw hjs i16_0_5421 i181_0_8535 i217_0_8550 k8561 k8563; omega)) (by (clear p_bw hjs i16_0_5421 i181_0_8535 i217_0_8550 k8561 k8563; omega)) (by (omega)))))
                refine g_if_ne (tgt := 217) dX7_step_186 (by decide) (by decide) (fun k8565 => ?_) (fun k8565 => by exfalso; (clear p_bw hjs i16_0_5421 i181_0_8535; omega))
                have r_i181_0_8535 := (i181_0_8535.resolve_left (by (clear p_bw hjs i16_0_5421 i181_0_8535 k8565; omega)))
                skip
                skip
                skip
                refine g_forget (l1 := [(0, vR 111), (1, vI 1), (2, vI (P 111 3)), (4, vI 1)]) (by intro q hq; simp only [List.mem_cons, List.not_mem_nil, or_false] at hq ⊢; rcases hq with rfl | rfl | rfl | rfl <;> simp) ?_
                exact J217_8550 (by (clear p_bw hjs i16_0_5421 i181_0_8535 k8565; omega))
              refine g_icmp_lt (tgt := 181) dX7_step_168 (by decide) ⟨by have q0 := bx_2 (o := 2) (k := (H27_5422 111 3)) hB (⟨by decide, rfl⟩ : kx 2 2); (clear p_bw hjs i16_0_5421; omega), by have q0 := bx_2 (o := 2) (k := (H27_5422 111 3)) hB (⟨by decide, rfl⟩ : kx 2 2); (clear p_bw hjs i16_0_5421; omega)⟩ (by decide) (fun k8566 => by exfalso; have q0 := bx_2 (o := 2) (k := (H27_5422 111 3)) hB (⟨by decide, rfl⟩ : kx 2 2); (clear p_bw hjs i16_0_5421; omega)) (fun k8566 => ?_)
              skip
              skip
              skip
              refine g_iload_n dX7_step_171 rfl ?_
              refine g_bipush dX7_step_172 (by decide) ?_
              refine g_icmp_gt (tgt := 181) dX7_step_174 (by decide) ⟨by have q0 := bx_2 (o := 2) (k := (H27_5422 111 3)) hB (⟨by decide, rfl⟩ : kx 2 2); (clear p_bw hjs i16_0_5421; omega), by have q0 := bx_2 (o := 2) (k := (H27_5422 111 3)) hB (⟨by decide, rfl⟩ : kx 2 2); (clear p_bw hjs i16_0_5421; omega)⟩ (by decide) (fun k8567 => ?_) (fun k8567 => by exfalso; have q0 := bx_2 (o := 2) (k := (H27_5422 111 3)) hB (⟨by decide, rfl⟩ : kx 2 2); (clear p_bw hjs i16_0_5421; omega))
              skip
              skip
              skip
              refine g_forget (l1 := [(0, vR 111), (1, vI 1), (2, vI (P 111 3)), (3, vI (P 2 (H27_5422 111 3))), (4, vI 1)]) (by intro q hq; simp only [List.mem_cons, List.not_mem_nil, or_false] at hq ⊢; rcases hq with rfl | rfl | rfl | rfl | rfl <;> simp) ?_
              exact J181_8535 (by (clear p_bw hjs i16_0_5421; omega))
        · skip
          skip
          skip
          refine g_aload_n dX7_step_130 rfl ?_
          refine g_iconst dX7_step_131 ?_
          refine x_p46_4 (⟨by decide, rfl⟩ : kx 111 46) pfX7_75 dX7_step_132 ?_
          have hB8568 := by_46_4 (z := 0) hB8262 (⟨by decide, rfl⟩ : kx 111 46) (by decide)
          exact g_retV dX7_step_135 rfl (hQ _ hB8568 (FrX.s (FrX.s (FrX.s (FrX.s (FrX.s (FrX.c FrX.rf hE27_5422 rfl) (⟨by decide, rfl⟩ : kx 111 46) rfl) (⟨by decide, rfl⟩ : kx 111 46) rfl) (⟨by decide, rfl⟩ : kx 111 46) rfl) (⟨by decide, rfl⟩ : kx 111 46) rfl) (⟨by decide, rfl⟩ : kx 111 46) rfl) (by have q3 := (((up_k (by decide)).trans ((up_k (by decide)).trans ((up_k (by decide)).trans ((up_k (by decide)).trans ((up_k (by decide)).trans rfl))))) : (up (up (up (up (up H27_5422 111 5 (H27_5422 111 3)) 111 6 (H27_5422 111 3)) 111 8 (-1)) 111 7 0) 111 4 0) 111 3 = (H27_5422 111 3)); have q4 := (up_same : (up (up (up (up (up H27_5422 111 5 (H27_5422 111 3)) 111 6 (H27_5422 111 3)) 111 8 (-1)) 111 7 0) 111 4 0) 111 4 = 0); have q5 := (((up_k (by decide)).trans ((up_k (by decide)).trans ((up_k (by decide)).trans ((up_k (by decide)).trans up_same)))) : (up (up (up (up (up H27_5422 111 5 (H27_5422 111 3)) 111 6 (H27_5422 111 3)) 111 8 (-1)) 111 7 0) 111 4 0) 111 5 = (H27_5422 111 3)); have q6 := (((up_k (by decide)).trans ((up_k (by decide)).trans ((up_k (by decide)).trans up_same))) : (up (up (up (up (up H27_5422 111 5 (H27_5422 111 3)) 111 6 (H27_5422 111 3)) 111 8 (-1)) 111 7 0) 111 4 0) 111 6 = (H27_5422 111 3)); have q7 := (((up_k (by decide)).trans up_same) : (up (up (up (up (up H27_5422 111 5 (H27_5422 111 3)) 111 6 (H27_5422 111 3)) 111 8 (-1)) 111 7 0) 111 4 0) 111 7 = 0); have q8 := (((up_k (by decide)).trans ((up_k (by decide)).trans up_same)) : (up (up (up (up (up H27_5422 111 5 (H27_5422 111 3)) 111 6 (H27_5422 111 3)) 111 8 (-1)) 111 7 0) 111 4 0) 111 8 = (-1)); exact XS.end ⟨by (clear p_bw hjs i16_0_5421; omega), by (clear p_bw hjs i16_0_5421; omega)⟩ (by (clear p_bw hjs i16_0_5421; omega)) (by (clear p_bw hjs i16_0_5421; omega)) (by (clear p_bw hjs i16_0_5421; omega)) (by (clear p_bw hjs i16_0_5421; omega))))
      refine g_if_lt (tgt := 86) dX7_step_31 (by decide) ⟨by have q0 := bx_46_3 (o := 111) hB27_5422 (⟨by decide, rfl⟩ : kx 111 46); (clear p_bw hjs i16_0_5421; omega), by have q0 := bx_46_3 (o := 111) hB27_5422 (⟨by decide, rfl⟩ : kx 111 46); (clear p_bw hjs i16_0_5421; omega)⟩ (fun k8569 => by exfalso; have q0 := bx_46_3 (o := 111) hB27_5422 (⟨by decide, rfl⟩ : kx 111 46); (clear p_bw hjs i16_0_5421; omega)) (fun k8569 => ?_)
      skip
      skip
      skip
      refine g_aload_n dX7_step_34 rfl ?_
      refine x_g46_3 (z := (H27_5422 111 3)) (⟨by decide, rfl⟩ : kx 111 46) ffX7_72 dX7_step_35 rfl ?_
      refine g_aload_n dX7_step_38 rfl ?_
      refine x_g46_2 (z := (P 111 2)) (⟨by decide, rfl⟩ : kx 111 46) ffX7_71 dX7_step_39 ((FrX.g hE27_5422 (⟨by decide, rfl⟩ : kx 111 46) rfl).trans rfl) ?_
      have f8570 := bx_46_2 (o := 111) hB (⟨by decide, rfl⟩ : kx 111 46)
      refine g_icmp_ge (tgt := 86) dX7_step_42 (by decide) ⟨by have q0 := bx_46_3 (o := 111) hB27_5422 (⟨by decide, rfl⟩ : kx 111 46); (clear p_bw hjs i16_0_5421; omega), by have q0 := bx_46_3 (o := 111) hB27_5422 (⟨by decide, rfl⟩ : kx 111 46); (clear p_bw hjs i16_0_5421; omega)⟩ ⟨by have q0 := bx_46_2 (o := 111) hB (⟨by decide, rfl⟩ : kx 111 46); (clear p_bw hjs i16_0_5421; omega), by have q0 := bx_46_2 (o := 111) hB (⟨by decide, rfl⟩ : kx 111 46); (clear p_bw hjs i16_0_5421; omega)⟩ (fun k8571 => ?_) (fun k8571 => ?_)
      · skip
        skip
        skip
        refine g_forget (l1 := [(0, vR 111), (1, vI 1), (2, vI (P 111 3))]) (by intro q hq; simp only [List.mem_cons, List.not_mem_nil, or_false] at hq ⊢; rcases hq with rfl | rfl | rfl <;> simp) ?_
        exact J86_8257 (by rw [hta9, i27_0_5422]; exact (rE_st (fun h => by have q := bW_t.mp h.2; (clear p_bw hjs i16_0_5421; omega))).symm)
      · skip
        skip
        skip
        refine g_aload_n dX7_step_45 rfl ?_
        refine x_g46_1 (n := 2) (⟨by decide, rfl⟩ : kx 111 46) ffX7_41 dX7_step_46 (TX.fr (F := ([(46, 3)], [])) v_TX (FrX.c FrX.rf hE27_5422 rfl) rfl) ?_
        refine g_aload_n dX7_step_49 rfl ?_
        refine x_g46_3 (z := (H27_5422 111 3)) (⟨by decide, rfl⟩ : kx 111 46) ffX7_72 dX7_step_50 rfl ?_
        refine x_l2 (z := (P 2 (H27_5422 111 3))) (⟨by decide, rfl⟩ : kx 2 2) dX7_step_53 ⟨by have q0 := bx_46_3 (o := 111) hB27_5422 (⟨by decide, rfl⟩ : kx 111 46); (clear p_bw hjs i16_0_5421; omega), by have q0 := bx_46_3 (o := 111) hB27_5422 (⟨by decide, rfl⟩ : kx 111 46); (clear p_bw hjs i16_0_5421; omega)⟩ ((FrX.g hE27_5422 (⟨by decide, rfl⟩ : kx 2 2) rfl).trans rfl) ?_
        refine g_bipush dX7_step_54 (by decide) ?_
        have f8572 := bx_2 (o := 2) (k := (H27_5422 111 3)) hB (⟨by decide, rfl⟩ : kx 2 2)
        have J73_8575 : ∀ (i73_0_8575 : 0 ≤ H27_5422 111 3 ∧ H27_5422 111 3 < T.2 ∧ (T.1 (H27_5422 111 3) = 32 ∨ T.1 (H27_5422 111 3) = 10)), Go WSX G 2 iX7_step 73 [(0, vR 111), (1, vI 1), (2, vI (P 111 3))] [] H27_5422 Q := by
          intro i73_0_8575
          have hgo := rE_go (f := bW) (T := T) (p := (H27_5422 111 3)) (by (clear p_bw hjs i16_0_5421 i73_0_8575; omega)) (bW_t.mpr (by (clear p_bw hjs i16_0_5421; omega)))
          refine g_aload_n dX7_step_73 rfl ?_
          refine g_dup dX7_step_74 rfl ?_
          refine x_g46_3 (z := (H27_5422 111 3)) (⟨by decide, rfl⟩ : kx 111 46) ffX7_72 dX7_step_75 rfl ?_
          refine g_iconst dX7_step_78 ?_
          refine g_iadd dX7_step_79 ?_
          refine x_p46_3 (⟨by decide, rfl⟩ : kx 111 46) pfX7_72 dX7_step_80 ?_
          have hB8577 := by_46_3 (z := ((H27_5422 111 3) + 1)) hB27_5422 (⟨by decide, rfl⟩ : kx 111 46) ⟨by have q0 := bx_46_3 (o := 111) hB27_5422 (⟨by decide, rfl⟩ : kx 111 46); (clear p_bw hjs i16_0_5421 i73_0_8575; omega), by have q0 := bx_46_3 (o := 111) hB27_5422 (⟨by decide, rfl⟩ : kx 111 46); (clear p_bw hjs i16_0_5421 i73_0_8575; omega)⟩
          refine g_goto (tgt := 27) dX7_step_83 (by decide) ?_
          refine g_forget (l1 := [(0, vR 111), (1, vI 1), (2, vI (P 111 3))]) (by intro q hq; simp only [List.mem_cons, List.not_mem_nil, or_false] at hq ⊢; rcases hq with rfl | rfl | rfl <;> simp) ?_
          exact ih27_5422 _ hB8577 (FrX.s (FrX.c FrX.rf hE27_5422 rfl) (⟨by decide, rfl⟩ : kx 111 46) rfl) (by first | (have q3 := (up_same : (up H27_5422 111 3 ((H27_5422 111 3) + 1)) 111 3 = ((H27_5422 111 3) + 1)); rw [q3]; (clear p_bw hjs i16_0_5421 i73_0_8575; omega)) | rw [p_q.1]) (by have q0 := (up_same : (up H27_5422 111 3 ((H27_5422 111 3) + 1)) 111 3 = ((H27_5422 111 3) + 1)); have q1 := bx_46_3 (o := 111) hB27_5422 (⟨by decide, rfl⟩ : kx 111 46); (clear p_bw hjs i16_0_5421 i73_0_8575; omega)) (by have q0 := (up_same : (up H27_5422 111 3 ((H27_5422 111 3) + 1)) 111 3 = ((H27_5422 111 3) + 1)); have q1 := bx_46_3 (o := 111) hB27_5422 (⟨by decide, rfl⟩ : kx 111 46); (clear p_bw hjs i16_0_5421 i73_0_8575; omega))
        refine g_icmp_eq (tgt := 73) dX7_step_56 (by decide) ⟨by have q0 := bx_2 (o := 2) (k := (H27_5422 111 3)) hB (⟨by decide, rfl⟩ : kx 2 2); (clear p_bw hjs i16_0_5421; omega), by have q0 := bx_2 (o := 2) (k := (H27_5422 111 3)) hB (⟨by decide, rfl⟩ : kx 2 2); (clear p_bw hjs i16_0_5421; omega)⟩ (by decide) (fun k8578 => ?_) (fun k8578 => ?_)
        · skip
          skip
          skip
          refine g_forget (l1 := [(0, vR 111), (1, vI 1), (2, vI (P 111 3))]) (by intro q hq; simp only [List.mem_cons, List.not_mem_nil, or_false] at hq ⊢; rcases hq with rfl | rfl | rfl <;> simp) ?_
          exact J73_8575 (by have q0 := bx_46_3 (o := 111) hB27_5422 (⟨by decide, rfl⟩ : kx 111 46); (clear p_bw hjs i16_0_5421; omega))
        · skip
          skip
          skip
          refine g_aload_n dX7_step_59 rfl ?_
          refine x_g46_1 (n := 2) (⟨by decide, rfl⟩ : kx 111 46) ffX7_41 dX7_step_60 (TX.fr (F := ([(46, 3)], [])) v_TX (FrX.c FrX.rf hE27_5422 rfl) rfl) ?_
          refine g_aload_n dX7_step_63 rfl ?_
          refine x_g46_3 (z := (H27_5422 111 3)) (⟨by decide, rfl⟩ : kx 111 46) ffX7_72 dX7_step_64 rfl ?_
          refine x_l2 (z := (P 2 (H27_5422 111 3))) (⟨by decide, rfl⟩ : kx 2 2) dX7_step_67 ⟨by have q0 := bx_46_3 (o := 111) hB27_5422 (⟨by decide, rfl⟩ : kx 111 46); (clear p_bw hjs i16_0_5421 k8578; omega), by have q0 := bx_46_3 (o := 111) hB27_5422 (⟨by decide, rfl⟩ : kx 111 46); (clear p_bw hjs i16_0_5421 k8578; omega)⟩ ((FrX.g hE27_5422 (⟨by decide, rfl⟩ : kx 2 2) rfl).trans rfl) ?_
          refine g_bipush dX7_step_68 (by decide) ?_
          refine g_icmp_ne (tgt := 86) dX7_step_70 (by decide) ⟨by have q0 := bx_2 (o := 2) (k := (H27_5422 111 3)) hB (⟨by decide, rfl⟩ : kx 2 2); (clear p_bw hjs i16_0_5421 k8578; omega), by have q0 := bx_2 (o := 2) (k := (H27_5422 111 3)) hB (⟨by decide, rfl⟩ : kx 2 2); (clear p_bw hjs i16_0_5421 k8578; omega)⟩ (by decide) (fun k8579 => ?_) (fun k8579 => ?_)
          · skip
            skip
            skip
            refine g_forget (l1 := [(0, vR 111), (1, vI 1), (2, vI (P 111 3))]) (by intro q hq; simp only [List.mem_cons, List.not_mem_nil, or_false] at hq ⊢; rcases hq with rfl | rfl | rfl <;> simp) ?_
            exact J86_8257 (by rw [hta9, i27_0_5422]; exact (rE_st (fun h => by have q := bW_t.mp h.2; (clear p_bw hjs i16_0_5421; omega))).symm)
          · skip
            skip
            skip
            refine g_forget (l1 := [(0, vR 111), (1, vI 1), (2, vI (P 111 3))]) (by intro q hq; simp only [List.mem_cons, List.not_mem_nil, or_false] at hq ⊢; rcases hq with rfl | rfl | rfl <;> simp) ?_
            exact J73_8575 (by have q0 := bx_46_3 (o := 111) hB27_5422 (⟨by decide, rfl⟩ : kx 111 46); (clear p_bw hjs i16_0_5421 k8578; omega))
    refine g_forget (l1 := [(0, vR 111), (1, vI 1), (2, vI (P 111 3))]) (by intro q hq; simp only [List.mem_cons, List.not_mem_nil, or_false] at hq ⊢; rcases hq with rfl | rfl | rfl <;> simp) ?_
    exact L27_5422 _ _ hB FrX.rf (by first | (have q3 := (rfl : P 111 3 = (P 111 3)); rw [q3]; (first | (clear p_bw hjs i16_0_5421; omega) | (clear p_bw hjs; omega) | (clear p_bw i16_0_5421; omega) | (clear hjs i16_0_5421; omega) | (clear p_bw; omega) | omega)) | rw [p_q.1]) (by have q0 := bx_46_3 (o := 111) hB (⟨by decide, rfl⟩ : kx 111 46); (clear p_bw hjs i16_0_5421; omega)) (Nat.lt_succ_self _)
  refine g_icmp_eq (tgt := 16) dX7_step_5 (by decide) ⟨by have q0 := bx_46_4 (o := 111) hB (⟨by decide, rfl⟩ : kx 111 46); (clear p_bw hjs; omega), by have q0 := bx_46_4 (o := 111) hB (⟨by decide, rfl⟩ : kx 111 46); (clear p_bw hjs; omega)⟩ (by decide) (fun k8580 => ?_) (fun k8580 => ?_)
  · skip
    skip
    refine g_forget (l1 := [(0, vR 111)]) (by intro q hq; simp only [List.mem_cons, List.not_mem_nil, or_false] at hq ⊢; rcases hq with rfl <;> simp) ?_
    exact J16_5421 (by (clear p_bw hjs; omega))
  · skip
    skip
    refine g_aload_n dX7_step_8 rfl ?_
    refine x_g46_4 (z := (P 111 4)) (⟨by decide, rfl⟩ : kx 111 46) ffX7_75 dX7_step_9 rfl ?_
    refine g_iconst dX7_step_12 ?_
    refine g_icmp_ne (tgt := 20) dX7_step_13 (by decide) ⟨by have q0 := bx_46_4 (o := 111) hB (⟨by decide, rfl⟩ : kx 111 46); (clear p_bw hjs k8580; omega), by have q0 := bx_46_4 (o := 111) hB (⟨by decide, rfl⟩ : kx 111 46); (clear p_bw hjs k8580; omega)⟩ (by decide) (fun k8581 => ?_) (fun k8581 => ?_)
    · skip
      skip
      refine g_iconst dX7_step_20 ?_
      refine g_istore_n (l1 := [(1, vI 0), (0, vR 111)]) dX7_step_21 (by decide) rfl ?_
      refine g_aload_n dX7_step_22 rfl ?_
      refine x_g46_3 (z := (P 111 3)) (⟨by decide, rfl⟩ : kx 111 46) ffX7_72 dX7_step_23 rfl ?_
      refine g_istore_n (l1 := [(2, vI (P 111 3)), (1, vI 0), (0, vR 111)]) dX7_step_26 (by decide) rfl ?_
      have L27_8581 : ∀ (n27_8581 : Nat) (H27_8581 : PH) (hB27_8581 : BdX H27_8581) (hE27_8581 : FrX ([(46, 3)], []) P H27_8581) (i27_0_8581 : rE bW T q = rE bW T (H27_8581 111 3)) (i27_1_8581 : 0 ≤ H27_8581 111 3) (hm27_8581 : (1601 - H27_8581 111 3 : Int).toNat < n27_8581), Go WSX G 2 iX7_step 27 [(0, vR 111), (1, vI 0), (2, vI (P 111 3))] [] H27_8581 Q := by
        intro n27_8581
        induction n27_8581 with
        | zero => intro H27_8581 hB27_8581 hE27_8581 i27_0_8581 i27_1_8581 hm27_8581; exact absurd hm27_8581 (Nat.not_lt_zero _)
        | succ n27_8581 ih27_8581 =>
        intro H27_8581 hB27_8581 hE27_8581 i27_0_8581 i27_1_8581 hm27_8581
        have hT := z0.2 ((H27_8581 111 3))
        refine g_aload_n dX7_step_27 rfl ?_
        refine x_g46_3 (z := (H27_8581 111 3)) (⟨by decide, rfl⟩ : kx 111 46) ffX7_72 dX7_step_28 rfl ?_
        have f10391 := bx_46_3 (o := 111) hB27_8581 (⟨by decide, rfl⟩ : kx 111 46)
        have J86_10616 : ∀ (i86_0_10616 : H27_8581 111 3 = tA T q), Go WSX G 2 iX7_step 86 [(0, vR 111), (1, vI 0), (2, vI (P 111 3))] [] H27_8581 Q := by
          intro i86_0_10616
          refine g_aload_n dX7_step_86 rfl ?_
          refine g_aload_n dX7_step_87 rfl ?_
          refine x_g46_3 (z := (H27_8581 111 3)) (⟨by decide, rfl⟩ : kx 111 46) ffX7_72 dX7_step_88 rfl ?_
          refine x_p46_5 (⟨by decide, rfl⟩ : kx 111 46) pfX7_81 dX7_step_91 ?_
          have hB10618 := by_46_5 (z := (H27_8581 111 3)) hB27_8581 (⟨by decide, rfl⟩ : kx 111 46) ⟨by have q0 := bx_46_3 (o := 111) hB27_8581 (⟨by decide, rfl⟩ : kx 111 46); (clear p_bw hjs k8580 k8581; omega), by have q0 := bx_46_3 (o := 111) hB27_8581 (⟨by decide, rfl⟩ : kx 111 46); (clear p_bw hjs k8580 k8581; omega)⟩
          refine g_aload_n dX7_step_94 rfl ?_
          refine g_aload_n dX7_step_95 rfl ?_
          refine x_g46_3 (z := (H27_8581 111 3)) (⟨by decide, rfl⟩ : kx 111 46) ffX7_72 dX7_step_96 ((up_k (by decide)).trans rfl) ?_
          refine x_p46_6 (⟨by decide, rfl⟩ : kx 111 46) pfX7_84 dX7_step_99 ?_
          have hB10619 := by_46_6 (z := (H27_8581 111 3)) hB10618 (⟨by decide, rfl⟩ : kx 111 46) ⟨by have q0 := bx_46_3 (o := 111) hB27_8581 (⟨by decide, rfl⟩ : kx 111 46); (clear p_bw hjs k8580 k8581; omega), by have q0 := bx_46_3 (o := 111) hB27_8581 (⟨by decide, rfl⟩ : kx 111 46); (clear p_bw hjs k8580 k8581; omega)⟩
          refine g_aload_n dX7_step_102 rfl ?_
          refine g_iconst dX7_step_103 ?_
          refine x_p46_8 (⟨by decide, rfl⟩ : kx 111 46) pfX7_87 dX7_step_104 ?_
          have hB10620 := by_46_8 (z := (-1)) hB10619 (⟨by decide, rfl⟩ : kx 111 46) (by decide)
          refine g_aload_n dX7_step_107 rfl ?_
          refine g_iconst dX7_step_108 ?_
          refine x_p46_7 (⟨by decide, rfl⟩ : kx 111 46) pfX7_90 dX7_step_109 ?_
          have hB10621 := by_46_7 (z := 0) hB10620 (⟨by decide, rfl⟩ : kx 111 46) (by decide)
          refine g_aload_n dX7_step_112 rfl ?_
          refine x_g46_3 (z := (H27_8581 111 3)) (⟨by decide, rfl⟩ : kx 111 46) ffX7_72 dX7_step_113 ((up_k (by decide)).trans ((up_k (by decide)).trans ((up_k (by decide)).trans ((up_k (by decide)).trans rfl)))) ?_
          refine g_if_lt (tgt := 130) dX7_step_116 (by decide) ⟨by have q0 := bx_46_3 (o := 111) hB27_8581 (⟨by decide, rfl⟩ : kx 111 46); (clear p_bw hjs k8580 k8581; omega), by have q0 := bx_46_3 (o := 111) hB27_8581 (⟨by decide, rfl⟩ : kx 111 46); (clear p_bw hjs k8580 k8581; omega)⟩ (fun k10622 => by exfalso; have q0 := bx_46_3 (o := 111) hB27_8581 (⟨by decide, rfl⟩ : kx 111 46); (clear p_bw hjs k8580 k8581; omega)) (fun k10622 => ?_)
          skip
          skip
          refine g_aload_n dX7_step_119 rfl ?_
          refine x_g46_3 (z := (H27_8581 111 3)) (⟨by decide, rfl⟩ : kx 111 46) ffX7_72 dX7_step_120 ((up_k (by decide)).trans ((up_k (by decide)).trans ((up_k (by decide)).trans ((up_k (by decide)).trans rfl)))) ?_
          refine g_aload_n dX7_step_123 rfl ?_
          refine x_g46_2 (z := (P 111 2)) (⟨by decide, rfl⟩ : kx 111 46) ffX7_71 dX7_step_124 ((up_k (by decide)).trans ((up_k (by decide)).trans ((up_k (by decide)).trans ((up_k (by decide)).trans ((FrX.g hE27_8581 (⟨by decide, rfl⟩ : kx 111 46) rfl).trans rfl))))) ?_
          have f10623 := bx_46_2 (o := 111) hB (⟨by decide, rfl⟩ : kx 111 46)
          refine g_icmp_lt (tgt := 136) dX7_step_127 (by decide) ⟨by have q0 := bx_46_3 (o := 111) hB27_8581 (⟨by decide, rfl⟩ : kx 111 46); (clear p_bw hjs k8580 k8581; omega), by have q0 := bx_46_3 (o := 111) hB27_8581 (⟨by decide, rfl⟩ : kx 111 46); (clear p_bw hjs k8580 k8581; omega)⟩ ⟨by have q0 := bx_46_2 (o := 111) hB (⟨by decide, rfl⟩ : kx 111 46); (clear p_bw hjs k8580 k8581; omega), by have q0 := bx_46_2 (o := 111) hB (⟨by decide, rfl⟩ : kx 111 46); (clear p_bw hjs k8580 k8581; omega)⟩ (fun k10624 => ?_) (fun k10624 => ?_)
          · skip
            skip
            have hTq : P 2 ((H27_8581 111 3)) = T.1 (tA T q) := by rw [show ((H27_8581 111 3) : Int) = tA T q by (clear p_bw hjs k8580 k8581; omega)]; exact z0.2 _ (by (clear p_bw hjs k8580 k8581; omega)) (by (clear p_bw hjs k8580 k8581; omega))
            refine g_aload_n dX7_step_136 rfl ?_
            refine x_g46_1 (n := 2) (⟨by decide, rfl⟩ : kx 111 46) ffX7_41 dX7_step_137 (TX.fr (F := ([(46, 3), (46, 5), (46, 6), (46, 7), (46, 8)], [])) v_TX (FrX.s (FrX.s (FrX.s (FrX.s (FrX.c FrX.rf hE27_8581 rfl) (⟨by decide, rfl⟩ : kx 111 46) rfl) (⟨by decide, rfl⟩ : kx 111 46) rfl) (⟨by decide, rfl⟩ : kx 111 46) rfl) (⟨by decide, rfl⟩ : kx 111 46) rfl) rfl) ?_
            refine g_aload_n dX7_step_140 rfl ?_
            refine x_g46_3 (z := (H27_8581 111 3)) (⟨by decide, rfl⟩ : kx 111 46) ffX7_72 dX7_step_141 ((up_k (by decide)).trans ((up_k (by decide)).trans ((up_k (by decide)).trans ((up_k (by decide)).trans rfl)))) ?_
            refine x_l2 (z := (P 2 (H27_8581 111 3))) (⟨by decide, rfl⟩ : kx 2 2) dX7_step_144 ⟨by have q0 := bx_46_3 (o := 111) hB27_8581 (⟨by decide, rfl⟩ : kx 111 46); (clear p_bw hjs k8580 k8581; omega), by have q0 := bx_46_3 (o := 111) hB27_8581 (⟨by decide, rfl⟩ : kx 111 46); (clear p_bw hjs k8580 k8581; omega)⟩ ((up_o (kx.ne (⟨by decide, rfl⟩ : kx 2 2) (⟨by decide, rfl⟩ : kx 111 46) rfl)).trans ((up_o (kx.ne (⟨by decide, rfl⟩ : kx 2 2) (⟨by decide, rfl⟩ : kx 111 46) rfl)).trans ((up_o (kx.ne (⟨by decide, rfl⟩ : kx 2 2) (⟨by decide, rfl⟩ : kx 111 46) rfl)).trans ((up_o (kx.ne (⟨by decide, rfl⟩ : kx 2 2) (⟨by decide, rfl⟩ : kx 111 46) rfl)).trans ((FrX.g hE27_8581 (⟨by decide, rfl⟩ : kx 2 2) rfl).trans rfl))))) ?_
            refine g_istore_n (l1 := [(3, vI (P 2 (H27_8581 111 3))), (0, vR 111), (1, vI 0), (2, vI (P 111 3))]) dX7_step_145 (by decide) rfl ?_
            have hc3 : (P 2 (H27_8581 111 3)) = T.1 (tA T q) := by (clear p_bw hjs k8580 k8581; omega)
            refine g_iload_n dX7_step_146 rfl ?_
            refine g_bipush dX7_step_147 (by decide) ?_
            have f10625 := bx_2 (o := 2) (k := (H27_8581 111 3)) hB (⟨by decide, rfl⟩ : kx 2 2)
            have J162_10727 : ∀ (i162_0_10727 : (P 2 (H27_8581 111 3)) < 97 ∨ 122 < (P 2 (H27_8581 111 3))), Go WSX G 2 iX7_step 162 [(0, vR 111), (1, vI 0), (2, vI (P 111 3)), (3, vI (P 2 (H27_8581 111 3)))] [] (up (up (up (up H27_8581 111 5 (H27_8581 111 3)) 111 6 (H27_8581 111 3)) 111 8 (-1)) 111 7 0) Q := by
              intro i162_0_10727
              refine g_iconst dX7_step_162 ?_
              refine g_istore (l1 := [(4, vI 0), (0, vR 111), (1, vI 0), (2, vI (P 111 3)), (3, vI (P 2 (H27_8581 111 3)))]) dX7_step_163 (by decide) rfl ?_
              refine g_iload_n dX7_step_165 rfl ?_
              refine g_bipush dX7_step_166 (by decide) ?_
              have J181_10758 : ∀ (i181_0_10758 : (P 2 (H27_8581 111 3)) < 48 ∨ 57 < (P 2 (H27_8581 111 3))), Go WSX G 2 iX7_step 181 [(0, vR 111), (1, vI 0), (2, vI (P 111 3)), (3, vI (P 2 (H27_8581 111 3))), (4, vI 0)] [] (up (up (up (up H27_8581 111 5 (H27_8581 111 3)) 111 6 (H27_8581 111 3)) 111 8 (-1)) 111 7 0) Q := by
                intro i181_0_10758
                refine g_iconst dX7_step_181 ?_
                refine g_istore (l1 := [(5, vI 0), (0, vR 111), (1, vI 0), (2, vI (P 111 3)), (3, vI (P 2 (H27_8581 111 3))), (4, vI 0)]) dX7_step_182 (by decide) rfl ?_
                refine g_iload dX7_step_184 rfl ?_
                refine g_if_ne (tgt := 217) dX7_step_186 (by decide) (by decide) (fun k10764 => by exfalso; (clear p_bw hjs k8580 k8581 i162_0_10727 i181_0_10758; omega)) (fun k10764 => ?_)
                skip
                skip
                skip
                skip
                refine g_iload dX7_step_189 rfl ?_
                refine g_if_ne (tgt := 217) dX7_step_191 (by decide) (by decide) (fun k10765 => by exfalso; (clear p_bw hjs k8580 k8581 i162_0_10727 i181_0_10758; omega)) (fun k10765 => ?_)
                skip
                skip
                skip
                skip
                refine g_aload_n dX7_step_194 rfl ?_
                refine g_iconst dX7_step_195 ?_
                refine x_p46_4 (⟨by decide, rfl⟩ : kx 111 46) pfX7_75 dX7_step_196 ?_
                have hB10766 := by_46_4 (z := 3) hB10621 (⟨by decide, rfl⟩ : kx 111 46) (by decide)
                refine g_aload_n dX7_step_199 rfl ?_
                refine g_iload_n dX7_step_200 rfl ?_
                refine x_p46_7 (⟨by decide, rfl⟩ : kx 111 46) pfX7_90 dX7_step_201 ?_
                have hB10767 := by_46_7 (z := (P 2 (H27_8581 111 3))) hB10766 (⟨by decide, rfl⟩ : kx 111 46) ⟨by have q0 := bx_2 (o := 2) (k := (H27_8581 111 3)) hB (⟨by decide, rfl⟩ : kx 2 2); (clear p_bw hjs k8580 k8581 i162_0_10727 i181_0_10758; omega), by have q0 := bx_2 (o := 2) (k := (H27_8581 111 3)) hB (⟨by decide, rfl⟩ : kx 2 2); (clear p_bw hjs k8580 k8581 i162_0_10727 i181_0_10758; omega)⟩
                refine g_aload_n dX7_step_204 rfl ?_
                refine g_dup dX7_step_205 rfl ?_
                refine x_g46_3 (z := (H27_8581 111 3)) (⟨by decide, rfl⟩ : kx 111 46) ffX7_72 dX7_step_206 ((up_k (by decide)).trans ((up_k (by decide)).trans ((up_k (by decide)).trans ((up_k (by decide)).trans ((up_k (by decide)).trans ((up_k (by decide)).trans rfl)))))) ?_
                refine g_iconst dX7_step_209 ?_
                refine g_iadd dX7_step_210 ?_
                refine x_p46_3 (⟨by decide, rfl⟩ : kx 111 46) pfX7_72 dX7_step_211 ?_
                have hB10768 := by_46_3 (z := ((H27_8581 111 3) + 1)) hB10767 (⟨by decide, rfl⟩ : kx 111 46) ⟨by have q0 := bx_46_3 (o := 111) hB27_8581 (⟨by decide, rfl⟩ : kx 111 46); (clear p_bw hjs k8580 k8581 i162_0_10727 i181_0_10758; omega), by have q0 := bx_46_3 (o := 111) hB27_8581 (⟨by decide, rfl⟩ : kx 111 46); (clear p_bw hjs k8580 k8581 i162_0_10727 i181_0_10758; omega)⟩
                refine g_goto (tgt := 253) dX7_step_214 (by decide) ?_
                exact g_retV dX7_step_253 rfl (hQ _ hB10768 (FrX.s (FrX.s (FrX.s (FrX.s (FrX.s (FrX.s (FrX.s (FrX.c FrX.rf hE27_8581 rfl) (⟨by decide, rfl⟩ : kx 111 46) rfl) (⟨by decide, rfl⟩ : kx 111 46) rfl) (⟨by decide, rfl⟩ : kx 111 46) rfl) (⟨by decide, rfl⟩ : kx 111 46) rfl) (⟨by decide, rfl⟩ : kx 111 46) rfl) (⟨by decide, rfl⟩ : kx 111 46) rfl) (⟨by decide, rfl⟩ : kx 111 46) rfl) (by first | exact hNONE | (have q3 := (up_same : (up (up (up (up (up (up (up H27_8581 111 5 (H27_8581 111 3)) 111 6 (H27_8581 111 3)) 111 8 (-1)) 111 7 0) 111 4 3) 111 7 (P 2 (H27_8581 111 3))) 111 3 ((H27_8581 111 3) + 1)) 111 3 = ((H27_8581 111 3) + 1)); have q4 := (((up_k (by decide)).trans ((up_k (by decide)).trans up_same)) : (up (up (up (up (up (up (up H27_8581 111 5 (H27_8581 111 3)) 111 6 (H27_8581 111 3)) 111 8 (-1)) 111 7 0) 111 4 3) 111 7 (P 2 (H27_8581 111 3))) 111 3 ((H27_8581 111 3) + 1)) 111 4 = 3); have q5 := (((up_k (by decide)).trans ((up_k (by decide)).trans ((up_k (by decide)).trans ((up_k (by decide)).trans ((up_k (by decide)).trans ((up_k (by decide)).trans up_same)))))) : (up (up (up (up (up (up (up H27_8581 111 5 (H27_8581 111 3)) 111 6 (H27_8581 111 3)) 111 8 (-1)) 111 7 0) 111 4 3) 111 7 (P 2 (H27_8581 111 3))) 111 3 ((H27_8581 111 3) + 1)) 111 5 = (H27_8581 111 3)); have q6 := (((up_k (by decide)).trans ((up_k (by decide)).trans ((up_k (by decide)).trans ((up_k (by decide)).trans ((up_k (by decide)).trans up_same))))) : (up (up (up (up (up (up (up H27_8581 111 5 (H27_8581 111 3)) 111 6 (H27_8581 111 3)) 111 8 (-1)) 111 7 0) 111 4 3) 111 7 (P 2 (H27_8581 111 3))) 111 3 ((H27_8581 111 3) + 1)) 111 6 = (H27_8581 111 3)); have q7 := (((up_k (by decide)).trans up_same) : (up (up (up (up (up (up (up H27_8581 111 5 (H27_8581 111 3)) 111 6 (H27_8581 111 3)) 111 8 (-1)) 111 7 0) 111 4 3) 111 7 (P 2 (H27_8581 111 3))) 111 3 ((H27_8581 111 3) + 1)) 111 7 = (P 2 (H27_8581 111 3))); have q8 := (((up_k (by decide)).trans ((up_k (by decide)).trans ((up_k (by decide)).trans ((up_k (by decide)).trans up_same)))) : (up (up (up (up (up (up (up H27_8581 111 5 (H27_8581 111 3)) 111 6 (H27_8581 111 3)) 111 8 (-1)) 111 7 0) 111 4 3) 111 7 (P 2 (H27_8581 111 3))) 111 3 ((H27_8581 111 3) + 1)) 111 8 = (-1)); first | exact XS.sig ⟨by (clear p_bw hjs k8580 k8581 i162_0_10727 i181_0_10758; omega), by (clear p_bw hjs k8580 k8581 i162_0_10727 i181_0_10758; omega)⟩ (by (clear p_bw hjs k8580 k8581 i162_0_10727 i181_0_10758; omega)) (by (clear p_bw hjs k8580 k8581 i162_0_10727 i181_0_10758; omega)) (by (clear p_bw hjs k8580 k8581 i162_0_10727 i181_0_10758; omega)) (by (clear p_bw hjs k8580 k8581 i162_0_10727 i181_0_10758; omega)) (by (clear p_bw hjs k8580 k8581 i162_0_10727 i181_0_10758; omega)) (by (clear p_bw hjs k8580 k8581 i162_0_10727 i181_0_10758; omega)) (by (clear p_bw hjs k8580 k8581 i181_0_10758; omega)) (by (clear p_bw hjs k8580 k8581 i162_0_10727; omega)) | exact XS.badj ⟨by (first | (clear p_bw hjs k8580 k8581 i162_0_10727 i181_0_10758; omega) | (clear p_bw hjs k8580 k8581 i162_0_10727; omega) | (clear p_bw hjs k8580 k8581 i181_0_10758; omega) | (clear p_bw hjs k8580 i162_0_10727 i181_0_10758; omega) | (clear p_bw hjs k8581 i162_0_10727 i181_0_10758; omega) | (clear p_bw k8580 k8581 i162_0_10727 i181_0_10758; omega) | (clear hjs k8580 k8581 i162_0_10727 i181_0_10758; omega) | (clear p_bw hjs k8580 k8581; omega) | (clear hjs p_bw; omega) | omega), by (first | (clear p_bw hjs k8580 k8581 i162_0_10727 i181_0_10758; omega) | (clear p_bw hjs k8580 k8581 i162_0_10727; omega) | (clear p_bw hjs k8580 k8581 i181_0_10758; omega) | (clear p_bw hjs k8580 i162_0_10727 i181_0_10758; omega) | (clear p_bw hjs k8581 i162_0_10727 i181_0_10758; omega) | (clear p_bw k8580 k8581 i162_0_10727 i181_0_10758; omega) | (clear hjs k8580 k8581 i162_0_10727 i181_0_10758; omega) | (clear p_bw hjs k8580 k8581; omega) | (clear hjs p_bw; omega) | omega)⟩ (by (first | (clear p_bw hjs k8580 k8581 i162_0_10727 i181_0_10758; omega) | (clear p_bw hjs k8580 k8581 i162_0_10727; omega) | (clear p_bw hjs k8580 k8581 i181_0_10758; omega) | (clear p_bw hjs k8580 i162_0_10727 i181_0_10758; omega) | (clear p_bw hjs k8581 i162_0_10727 i181_0_10758; omega) | (clear p_bw k8580 k8581 i162_0_10727 i181_0_10758; omega) | (clear hjs k8580 k8581 i162_0_10727 i181_0_10758; omega) | (clear p_bw hjs k8580 k8581; omega) | (clear hjs p_bw; omega) | omega)) (by (first | (clear p_bw hjs k8580 k8581 i162_0_10727 i181_0_10758; omega) | (clear p_bw hjs k8580 k8581 i162_0_10727; omega) | (clear p_bw hjs k8580 k8581 i181_0_10758; omega) | (clear p_bw hjs k8580 i162_0_10727 i181_0_10758; omega) | (clear p_bw hjs k8581 i162_0_10727 i181_0_10758; omega) | (clear p_bw k8580 k8581 i162_0_10727 i181_0_10758; omega) | (clear hjs k8580 k8581 i162_0_10727 i181_0_10758; omega) | (clear p_bw hjs k8580 k8581; omega) | (clear hjs p_bw; omega) | omega)) (by (first | (clear p_bw hjs k8580 k8581 i162_0_10727 i181_0_10758; omega) | (clear p_bw hjs k8580 k8581 i162_0_10727; omega) | (clear p_bw hjs k8580 k8581 i181_0_10758; omega) | (clear p_bw hjs k8580 i162_0_10727 i181_0_10758; omega) | (clear p_bw hjs k8581 i162_0_10727 i181_0_10758; omega) | (clear p_bw k8580 k8581 i162_0_10727 i181_0_10758; omega) | (clear hjs k8580 k8581 i162_0_10727 i181_0_10758; omega) | (clear p_bw hjs k8580 k8581; omega) | (clear hjs p_bw; omega) | omega)) (by (first | (clear p_bw hjs k8580 k8581 i162_0_10727 i181_0_10758; omega) | (clear p_bw hjs k8580 k8581 i162_0_10727; omega) | (clear p_bw hjs k8580 k8581 i181_0_10758; omega) | (clear p_bw hjs k8580 i162_0_10727 i181_0_10758; omega) | (clear p_bw hjs k8581 i162_0_10727 i181_0_10758; omega) | (clear p_bw k8580 k8581 i162_0_10727 i181_0_10758; omega) | (clear hjs k8580 k8581 i162_0_10727 i181_0_10758; omega) | (clear p_bw hjs k8580 k8581; omega) | (clear hjs p_bw; omega) | omega)) (by (first | (clear p_bw hjs k8580 k8581 i162_0_10727 i181_0_10758; omega) | (clear p_bw hjs k8580 k8581 i162_0_10727; omega) | (clear p_bw hjs k8580 k8581 i181_0_10758; omega) | (clear p_bw hjs k8580 i162_0_10727 i181_0_10758; omega) | (clear p_bw hjs k8581 i162_0_10727 i181_0_10758; omega) | (clear p_bw k8580 k8581 i162_0_10727 i181_0_10758; omega) | (clear hjs k8580 k8581 i162_0_10727 i181_0_10758; omega) | (clear p_bw hjs k8580 k8581; omega) | (clear hjs p_bw; omega) | omega)) (by (first | (clear p_bw hjs k8580 k8581 i162_0_10727 i181_0_10758; omega) | (clear p_bw hjs k8580 k8581 i162_0_10727; omega) | (clear p_bw hjs k8580 k8581 i181_0_10758; omega) | (clear p_bw hjs k8580 i162_0_10727 i181_0_10758; omega) | (clear p_bw hjs k8581 i162_0_10727 i181_0_10758; omega) | (clear p_bw k8580 k8581 i162_0_10727 i181_0_10758; omega) | (clear hjs k8580 k8581 i162_0_10727 i181_0_10758; omega) | (clear p_bw hjs k8580 k8581; omega) | (clear hjs p_bw; omega) | omega)) (by (first | (clear p_bw hjs k8580 k8581 i162_0_10727 i181_0_10758; omega) | (clear p_bw hjs k8580 k8581 i162_0_10727; omega) | (clear p_bw hjs k8580 k8581 i181_0_10758; omega) | (clear p_bw hjs k8580 i162_0_10727 i181_0_10758; omega) | (clear p_bw hjs k8581 i162_0_10727 i181_0_10758; omega) | (clear p_bw k8580 k8581 i162_0_10727 i181_0_10758; omega) | (clear hjs k8580 k8581 i162_0_10727 i181_0_10758; omega) | (clear p_bw hjs k8580 k8581; omega) | (clear hjs p_bw; omega) | omega)))))
              refine g_icmp_lt (tgt := 181) dX7_step_168 (by decide) ⟨by have q0 := bx_2 (o := 2) (k := (H27_8581 111 3)) hB (⟨by decide, rfl⟩ : kx 2 2); (clear p_bw hjs k8580 k8581 i162_0_10727; omega), by have q0 := bx_2 (o := 2) (k := (H27_8581 111 3)) hB (⟨by decide, rfl⟩ : kx 2 2); (clear p_bw hjs k8580 k8581 i162_0_10727; omega)⟩ (by decide) (fun k10769 => ?_) (fun k10769 => ?_)
              · have r_i162_0_10727 := (i162_0_10727.resolve_right (by (clear p_bw hjs k8580 k8581 i162_0_10727; omega)))
                skip
                skip
                refine g_forget (l1 := [(0, vR 111), (1, vI 0), (2, vI (P 111 3)), (3, vI (P 2 (H27_8581 111 3))), (4, vI 0)]) (by intro q hq; simp only [List.mem_cons, List.not_mem_nil, or_false] at hq ⊢; rcases hq with rfl | rfl | rfl | rfl | rfl <;> simp) ?_
                exact J181_10758 (by (clear p_bw hjs k8580 k8581 i162_0_10727; omega))
              · skip
                skip
                skip
                refine g_iload_n dX7_step_171 rfl ?_
                refine g_bipush dX7_step_172 (by decide) ?_
                refine g_icmp_gt (tgt := 181) dX7_step_174 (by decide) ⟨by have q0 := bx_2 (o := 2) (k := (H27_8581 111 3)) hB (⟨by decide, rfl⟩ : kx 2 2); (clear p_bw hjs k8580 k8581 i162_0_10727; omega), by have q0 := bx_2 (o := 2) (k := (H27_8581 111 3)) hB (⟨by decide, rfl⟩ : kx 2 2); (clear p_bw hjs k8580 k8581 i162_0_10727; omega)⟩ (by decide) (fun k10770 => ?_) (fun k10770 => ?_)
                · skip
                  skip
                  skip
                  refine g_forget (l1 := [(0, vR 111), (1, vI 0), (2, vI (P 111 3)), (3, vI (P 2 (H27_8581 111 3))), (4, vI 0)]) (by intro q hq; simp only [List.mem_cons, List.not_mem_nil, or_false] at hq ⊢; rcases hq with rfl | rfl | rfl | rfl | rfl <;> simp) ?_
                  exact J181_10758 (by (clear p_bw hjs k8580 k8581 i162_0_10727; omega))
                · have r_i162_0_10727 := (i162_0_10727.resolve_right (by (clear p_bw hjs k8580 k8581 i162_0_10727; omega)))
                  skip
                  skip
                  refine g_iconst dX7_step_177 ?_
                  refine g_goto (tgt := 182) dX7_step_178 (by decide) ?_
                  refine g_istore (l1 := [(5, vI 1), (4, vI 0), (0, vR 111), (1, vI 0), (2, vI (P 111 3)), (3, vI (P 2 (H27_8581 111 3)))]) dX7_step_182 (by decide) rfl ?_
                  refine g_iload dX7_step_184 rfl ?_
                  have J217_10779 : ∀ (i217_0_10779 : (0 = 1 ∧ 97 ≤ T.1 (tA T q) ∧ T.1 (tA T q) ≤ 122) ∨ (0 = 0 ∧ 48 ≤ T.1 (tA T q) ∧ T.1 (tA T q) ≤ 57)), Go WSX G 2 iX7_step 217 [(0, vR 111), (1, vI 0), (2, vI (P 111 3)), (4, vI 0)] [] (up (up (up (up H27_8581 111 5 (H27_8581 111 3)) 111 6 (H27_8581 111 3)) 111 8 (-1)) 111 7 0) Q := by
                    intro i217_0_10779
                    refine g_iload_n dX7_step_217 rfl ?_
                    have J237_10783 : ∀ (i237_0_10783 : tJn T q = 0), Go WSX G 2 iX7_step 237 [(0, vR 111), (4, vI 0)] [] (up (up (up (up H27_8581 111 5 (H27_8581 111 3)) 111 6 (H27_8581 111 3)) 111 8 (-1)) 111 7 0) Q := by
                      intro i237_0_10783
                      refine g_iload dX7_step_237 rfl ?_
                      refine g_if_eq (tgt := 249) dX7_step_239 (by decide) (by decide) (fun k10785 => ?_) (fun k10785 => by exfalso; (clear p_bw hjs k8580 k8581 i162_0_10727 i217_0_10779; omega))
                      have r_i217_0_10779 := (i217_0_10779.resolve_left (by (clear p_bw hjs k8580 k8581 i162_0_10727 i217_0_10779; omega)))
                      skip
                      have r_hjs := (hjs.resolve_left (by (clear p_bw hjs k8580 k8581 i162_0_10727 i217_0_10779; omega)))
                      skip
                      refine g_aload_n dX7_step_249 rfl ?_
                      refine g_vV (av := []) (o := 111) (st := []) (f_X7_stepNumber G (up (up (up (up H27_8581 111 5 (H27_8581 111 3)) 111 6 (H27_8581 111 3)) 111 8 (-1)) 111 7 0) T q  hB10621 (by have q0 := (((up_k (by decide)).trans ((up_k (by decide)).trans ((up_k (by decide)).trans ((up_k (by decide)).trans rfl)))) : (up (up (up (up H27_8581 111 5 (H27_8581 111 3)) 111 6 (H27_8581 111 3)) 111 8 (-1)) 111 7 0) 111 3 = (H27_8581 111 3)); have q1 := bx_46_3 (o := 111) hB27_8581 (⟨by decide, rfl⟩ : kx 111 46); have q2 := (((up_k (by decide)).trans ((up_k (by decide)).trans ((up_k (by decide)).trans up_same))) : (up (up (up (up H27_8581 111 5 (H27_8581 111 3)) 111 6 (H27_8581 111 3)) 111 8 (-1)) 111 7 0) 111 5 = (H27_8581 111 3)); have q3 := (up_same : (up (up (up (up H27_8581 111 5 (H27_8581 111 3)) 111 6 (H27_8581 111 3)) 111 8 (-1)) 111 7 0) 111 7 = 0); have q4 := (((up_k (by decide)).trans up_same) : (up (up (up (up H27_8581 111 5 (H27_8581 111 3)) 111 6 (H27_8581 111 3)) 111 8 (-1)) 111 7 0) 111 8 = (-1)); (clear p_bw hjs k8580 k8581 i162_0_10727 i217_0_10779; omega)) (by (clear p_bw hjs k8580 k8581 i162_0_10727 i217_0_10779; omega)) (TX.fr (F := ([(46, 3), (46, 5), (46, 6), (46, 7), (46, 8)], [])) v_TX (FrX.s (FrX.s (FrX.s (FrX.s (FrX.c FrX.rf hE27_8581 rfl) (⟨by decide, rfl⟩ : kx 111 46) rfl) (⟨by decide, rfl⟩ : kx 111 46) rfl) (⟨by decide, rfl⟩ : kx 111 46) rfl) (⟨by decide, rfl⟩ : kx 111 46) rfl) rfl) ((XT.fr (F := ([(46, 3), (46, 5), (46, 6), (46, 7), (46, 8)], [])) z0 (FrX.s (FrX.s (FrX.s (FrX.s (FrX.c FrX.rf hE27_8581 rfl) (⟨by decide, rfl⟩ : kx 111 46) rfl) (⟨by decide, rfl⟩ : kx 111 46) rfl) (⟨by decide, rfl⟩ : kx 111 46) rfl) (⟨by decide, rfl⟩ : kx 111 46) rfl) rfl)) _ (fun Pc10786 hBc10786 hFc10786 ec10786_0 => ⟨rfl, ?_⟩)) cf_X7_stepNumber t_715 rfl (show kx 111 46 from (⟨by decide, rfl⟩ : kx 111 46)).1 ((show kx 111 46 from (⟨by decide, rfl⟩ : kx 111 46)).sh rfl) rfl rfl (Nat.le_of_ble_eq_true rfl) (by decide) rfl dX7_step_250
                      exact g_retV dX7_step_253 rfl (hQ _ hBc10786 (FrX.c (FrX.s (FrX.s (FrX.s (FrX.s (FrX.c FrX.rf hE27_8581 rfl) (⟨by decide, rfl⟩ : kx 111 46) rfl) (⟨by decide, rfl⟩ : kx 111 46) rfl) (⟨by decide, rfl⟩ : kx 111 46) rfl) (⟨by decide, rfl⟩ : kx 111 46) rfl) hFc10786 rfl) (by first | exact ec10786_0 | (have q3 := (rfl : Pc10786 111 3 = (Pc10786 111 3)); have q4 := (rfl : Pc10786 111 4 = (Pc10786 111 4)); have q5 := (((FrX.g hFc10786 (⟨by decide, rfl⟩ : kx 111 46) rfl).trans ((up_k (by decide)).trans ((up_k (by decide)).trans ((up_k (by decide)).trans up_same)))) : Pc10786 111 5 = (H27_8581 111 3)); have q6 := (rfl : Pc10786 111 6 = (Pc10786 111 6)); have q7 := (rfl : Pc10786 111 7 = (Pc10786 111 7)); have q8 := (((FrX.g hFc10786 (⟨by decide, rfl⟩ : kx 111 46) rfl).trans ((up_k (by decide)).trans up_same)) : Pc10786 111 8 = (-1)); first | exact XS.sig ⟨by (first | (clear p_bw hjs k8580 k8581 i162_0_10727 i217_0_10779; omega) | (clear p_bw hjs k8580 k8581 i162_0_10727; omega) | (clear p_bw hjs k8580 k8581 i217_0_10779; omega) | (clear p_bw hjs k8580 i162_0_10727 i217_0_10779; omega) | (clear p_bw hjs k8581 i162_0_10727 i217_0_10779; omega) | (clear p_bw k8580 k8581 i162_0_10727 i217_0_10779; omega) | (clear hjs k8580 k8581 i162_0_10727 i217_0_10779; omega) | (clear p_bw hjs k8580 k8581; omega) | (clear hjs p_bw; omega) | omega), by (first | (clear p_bw hjs k8580 k8581 i162_0_10727 i217_0_10779; omega) | (clear p_bw hjs k8580 k8581 i162_0_10727; omega) | (clear p_bw hjs k8580 k8581 i217_0_10779; omega) | (clear p_bw hjs k8580 i162_0_10727 i217_0_10779; omega) | (clear p_bw hjs k8581 i162_0_10727 i217_0_10779; omega) | (clear p_bw k8580 k8581 i162_0_10727 i217_0_10779; omega) | (clear hjs k8580 k8581 i162_0_10727 i217_0_10779; omega) | (clear p_bw hjs k8580 k8581; omega) | (clear hjs p_bw; omega) | omega)⟩ (by (first | (clear p_bw hjs k8580 k8581 i162_0_10727 i217_0_10779; omega) | (clear p_bw hjs k8580 k8581 i162_0_10727; omega) | (clear p_bw hjs k8580 k8581 i217_0_10779; omega) | (clear p_bw hjs k8580 i162_0_10727 i217_0_10779; omega) | (clear p_bw hjs k8581 i162_0_10727 i217_0_10779; omega) | (clear p_bw k8580 k8581 i162_0_10727 i217_0_10779; omega) | (clear hjs k8580 k8581 i162_0_10727 i217_0_10779; omega) | (clear p_bw hjs k8580 k8581; omega) | (clear hjs p_bw; omega) | omega)) (by (first | (clear p_bw hjs k8580 k8581 i162_0_10727 i217_0_10779; omega) | (clear p_bw hjs k8580 k8581 i162_0_10727; omega) | (clear p_bw hjs k8580 k8581 i217_0_10779; omega) | (clear p_bw hjs k8580 i162_0_10727 i217_0_10779; omega) | (clear p_bw hjs k8581 i162_0_10727 i217_0_10779; omega) | (clear p_bw k8580 k8581 i162_0_10727 i217_0_10779; omega) | (clear hjs k8580 k8581 i162_0_10727 i217_0_10779; omega) | (clear p_bw hjs k8580 k8581; omega) | (clear hjs p_bw; omega) | omega)) (by (first | (clear p_bw hjs k8580 k8581 i162_0_10727 i217_0_10779; omega) | (clear p_bw hjs k8580 k8581 i162_0_10727; omega) | (clear p_bw hjs k8580 k8581 i217_0_10779; omega) | (clear p_bw hjs k8580 i162_0_10727 i217_0_10779; omega) | (clear p_bw hjs k8581 i162_0_10727 i217_0_10779; omega) | (clear p_bw k8580 k8581 i162_0_10727 i217_0_10779; omega) | (clear hjs k8580 k8581 i162_0_10727 i217_0_10779; omega) | (clear p_bw hjs k8580 k8581; omega) | (clear hjs p_bw; omega) | omega)) (by (first | (clear p_bw hjs k8580 k8581 i162_0_10727 i217_0_10779; omega) | (clear p_bw hjs k8580 k8581 i162_0_10727; omega) | (clear p_bw hjs k8580 k8581 i217_0_10779; omega) | (clear p_bw hjs k8580 i162_0_10727 i217_0_10779; omega) | (clear p_bw hjs k8581 i162_0_10727 i217_0_10779; omega) | (clear p_bw k8580 k8581 i162_0_10727 i217_0_10779; omega) | (clear hjs k8580 k8581 i162_0_10727 i217_0_10779; omega) | (clear p_bw hjs k8580 k8581; omega) | (clear hjs p_bw; omega) | omega)) (by (first | (clear p_bw hjs k8580 k8581 i162_0_10727 i217_0_10779; omega) | (clear p_bw hjs k8580 k8581 i162_0_10727; omega) | (clear p_bw hjs k8580 k8581 i217_0_10779; omega) | (clear p_bw hjs k8580 i162_0_10727 i217_0_10779; omega) | (clear p_bw hjs k8581 i162_0_10727 i217_0_10779; omega) | (clear p_bw k8580 k8581 i162_0_10727 i217_0_10779; omega) | (clear hjs k8580 k8581 i162_0_10727 i217_0_10779; omega) | (clear p_bw hjs k8580 k8581; omega) | (clear hjs p_bw; omega) | omega)) (by (first | (clear p_bw hjs k8580 k8581 i162_0_10727 i217_0_10779; omega) | (clear p_bw hjs k8580 k8581 i162_0_10727; omega) | (clear p_bw hjs k8580 k8581 i217_0_10779; omega) | (clear p_bw hjs k8580 i162_0_10727 i217_0_10779; omega) | (clear p_bw hjs k8581 i162_0_10727 i217_0_10779; omega) | (clear p_bw k8580 k8581 i162_0_10727 i217_0_10779; omega) | (clear hjs k8580 k8581 i162_0_10727 i217_0_10779; omega) | (clear p_bw hjs k8580 k8581; omega) | (clear hjs p_bw; omega) | omega)) (by (first | (clear p_bw hjs k8580 k8581 i162_0_10727 i217_0_10779; omega) | (clear p_bw hjs k8580 k8581 i162_0_10727; omega) | (clear p_bw hjs k8580 k8581 i217_0_10779; omega) | (clear p_bw hjs k8580 i162_0_10727 i217_0_10779; omega) | (clear p_bw hjs k8581 i162_0_10727 i217_0_10779; omega) | (clear p_bw k8580 k8581 i162_0_10727 i217_0_10779; omega) | (clear hjs k8580 k8581 i162_0_10727 i217_0_10779; omega) | (clear p_bw hjs k8580 k8581; omega) | (clear hjs p_bw; omega) | omega)) (by (first | (clear p_bw hjs k8580 k8581 i162_0_10727 i217_0_10779; omega) | (clear p_bw hjs k8580 k8581 i162_0_10727; omega) | (clear p_bw hjs k8580 k8581 i217_0_10779; omega) | (clear p_bw hjs k8580 i162_0_10727 i217_0_10779; omega) | (clear p_bw hjs k8581 i162_0_10727 i217_0_10779; omega) | (clear p_bw k8580 k8581 i162_0_10727 i217_0_10779; omega) | (clear hjs k8580 k8581 i162_0_10727 i217_0_10779; omega) | (clear p_bw hjs k8580 k8581; omega) | (clear hjs p_bw; omega) | omega)) | exact XS.badj ⟨by (first | (clear p_bw hjs k8580 k8581 i162_0_10727 i217_0_10779; omega) | (clear p_bw hjs k8580 k8581 i162_0_10727; omega) | (clear p_bw hjs k8580 k8581 i217_0_10779; omega) | (clear p_bw hjs k8580 i162_0_10727 i217_0_10779; omega) | (clear p_bw hjs k8581 i162_0_10727 i217_0_10779; omega) | (clear p_bw k8580 k8581 i162_0_10727 i217_0_10779; omega) | (clear hjs k8580 k8581 i162_0_10727 i217_0_10779; omega) | (clear p_bw hjs k8580 k8581; omega) | (clear hjs p_bw; omega) | omega), by (first | (clear p_bw hjs k8580 k8581 i162_0_10727 i217_0_10779; omega) | (clear p_bw hjs k8580 k8581 i162_0_10727; omega) | (clear p_bw hjs k8580 k8581 i217_0_10779; omega) | (clear p_bw hjs k8580 i162_0_10727 i217_0_10779; omega) | (clear p_bw hjs k8581 i162_0_10727 i217_0_10779; omega) | (clear p_bw k8580 k8581 i162_0_10727 i217_0_10779; omega) | (clear hjs k8580 k8581 i162_0_10727 i217_0_10779; omega) | (clear p_bw hjs k8580 k8581; omega) | (clear hjs p_bw; omega) | omega)⟩ (by (first | (clear p_bw hjs k8580 k8581 i162_0_10727 i217_0_10779; omega) | (clear p_bw hjs k8580 k8581 i162_0_10727; omega) | (clear p_bw hjs k8580 k8581 i217_0_10779; omega) | (clear p_bw hjs k8580 i162_0_10727 i217_0_10779; omega) | (clear p_bw hjs k8581 i162_0_10727 i217_0_10779; omega) | (clear p_bw k8580 k8581 i162_0_10727 i217_0_10779; omega) | (clear hjs k8580 k8581 i162_0_10727 i217_0_10779; omega) | (clear p_bw hjs k8580 k8581; omega) | (clear hjs p_bw; omega) | omega)) (by (first | (clear p_bw hjs k8580 k8581 i162_0_10727 i217_0_10779; omega) | (clear p_bw hjs k8580 k8581 i162_0_10727; omega) | (clear p_bw hjs k8580 k8581 i217_0_10779; omega) | (clear p_bw hjs k8580 i162_0_10727 i217_0_10779; omega) | (clear p_bw hjs k8581 i162_0_10727 i217_0_10779; omega) | (clear p_bw k8580 k8581 i162_0_10727 i217_0_10779; omega) | (clear hjs k8580 k8581 i162_0_10727 i217_0_10779; omega) | (clear p_bw hjs k8580 k8581; omega) | (clear hjs p_bw; omega) | omega)) (by (first | (clear p_bw hjs k8580 k8581 i162_0_10727 i217_0_10779; omega) | (clear p_bw hjs k8580 k8581 i162_0_10727; omega) | (clear p_bw hjs k8580 k8581 i217_0_10779; omega) | (clear p_bw hjs k8580 i162_0_10727 i217_0_10779; omega) | (clear p_bw hjs k8581 i162_0_10727 i217_0_10779; omega) | (clear p_bw k8580 k8581 i162_0_10727 i217_0_10779; omega) | (clear hjs k8580 k8581 i162_0_10727 i217_0_10779; omega) | (clear p_bw hjs k8580 k8581; omega) | (clear hjs p_bw; omega) | omega)) (by (first | (clear p_bw hjs k8580 k8581 i162_0_10727 i217_0_10779; omega) | (clear p_bw hjs k8580 k8581 i162_0_10727; omega) | (clear p_bw hjs k8580 k8581 i217_0_10779; omega) | (clear p_bw hjs k8580 i162_0_10727 i217_0_10779; omega) | (clear p_bw hjs k8581 i162_0_10727 i217_0_10779; omega) | (clear p_bw k8580 k8581 i162_0_10727 i217_0_10779; omega) | (clear hjs k8580 k8581 i162_0_10727 i217_0_10779; omega) | (clear p_bw hjs k8580 k8581; omega) | (clear hjs p_bw; omega) | omega)) (by (first | (clear p_bw hjs k8580 k8581 i162_0_10727 i217_0_10779; omega) | (clear p_bw hjs k8580 k8581 i162_0_10727; omega) | (clear p_bw hjs k8580 k8581 i217_0_10779; omega) | (clear p_bw hjs k8580 i162_0_10727 i217_0_10779; omega) | (clear p_bw hjs k8581 i162_0_10727 i217_0_10779; omega) | (clear p_bw k8580 k8581 i162_0_10727 i217_0_10779; omega) | (clear hjs k8580 k8581 i162_0_10727 i217_0_10779; omega) | (clear p_bw hjs k8580 k8581; omega) | (clear hjs p_bw; omega) | omega)) (by (first | (clear p_bw hjs k8580 k8581 i162_0_10727 i217_0_10779; omega) | (clear p_bw hjs k8580 k8581 i162_0_10727; omega) | (clear p_bw hjs k8580 k8581 i217_0_10779; omega) | (clear p_bw hjs k8580 i162_0_10727 i217_0_10779; omega) | (clear p_bw hjs k8581 i162_0_10727 i217_0_10779; omega) | (clear p_bw k8580 k8581 i162_0_10727 i217_0_10779; omega) | (clear hjs k8580 k8581 i162_0_10727 i217_0_10779; omega) | (clear p_bw hjs k8580 k8581; omega) | (clear hjs p_bw; omega) | omega)) (by (first | (clear p_bw hjs k8580 k8581 i162_0_10727 i217_0_10779; omega) | (clear p_bw hjs k8580 k8581 i162_0_10727; omega) | (clear p_bw hjs k8580 k8581 i217_0_10779; omega) | (clear p_bw hjs k8580 i162_0_10727 i217_0_10779; omega) | (clear p_bw hjs k8581 i162_0_10727 i217_0_10779; omega) | (clear p_bw k8580 k8581 i162_0_10727 i217_0_10779; omega) | (clear hjs k8580 k8581 i162_0_10727 i217_0_10779; omega) | (clear p_bw hjs k8580 k8581; omega) | (clear hjs p_bw; omega) | omega)))))
                    refine g_if_eq (tgt := 237) dX7_step_218 (by decide) (by decide) (fun k10787 => ?_) (fun k10787 => by exfalso; (clear p_bw hjs k8580 k8581 i162_0_10727 i217_0_10779; omega))
                    have r_i217_0_10779 := (i217_0_10779.resolve_left (by (clear p_bw hjs k8580 k8581 i162_0_10727 i217_0_10779; omega)))
                    skip
                    skip
                    skip
                    refine g_forget (l1 := [(0, vR 111), (4, vI 0)]) (by intro q hq; simp only [List.mem_cons, List.not_mem_nil, or_false] at hq ⊢; rcases hq with rfl | rfl <;> simp) ?_
                    exact J237_10783 (by (omega))
                  refine g_if_ne (tgt := 217) dX7_step_186 (by decide) (by decide) (fun k10788 => by exfalso; (clear p_bw hjs k8580 k8581 i162_0_10727; omega)) (fun k10788 => ?_)
                  skip
                  skip
                  skip
                  refine g_iload dX7_step_189 rfl ?_
                  refine g_if_ne (tgt := 217) dX7_step_191 (by decide) (by decide) (fun k10789 => ?_) (fun k10789 => by exfalso; (clear p_bw hjs k8580 k8581 i162_0_10727; omega))
                  skip
                  skip
                  skip
                  refine g_forget (l1 := [(0, vR 111), (1, vI 0), (2, vI (P 111 3)), (4, vI 0)]) (by intro q hq; simp only [List.mem_cons, List.not_mem_nil, or_false] at hq ⊢; rcases hq with rfl | rfl | rfl | rfl <;> simp) ?_
                  exact J217_10779 (by (clear p_bw hjs k8580 k8581 i162_0_10727 k10789; omega))
            refine g_icmp_lt (tgt := 162) dX7_step_149 (by decide) ⟨by have q0 := bx_2 (o := 2) (k := (H27_8581 111 3)) hB (⟨by decide, rfl⟩ : kx 2 2); (clear p_bw hjs k8580 k8581; omega), by have q0 := bx_2 (o := 2) (k := (H27_8581 111 3)) hB (⟨by decide, rfl⟩ : kx 2 2); (clear p_bw hjs k8580 k8581; omega)⟩ (by decide) (fun k10790 => ?_) (fun k10790 => ?_)
            · skip
              skip
              refine g_forget (l1 := [(0, vR 111), (1, vI 0), (2, vI (P 111 3)), (3, vI (P 2 (H27_8581 111 3)))]) (by intro q hq; simp only [List.mem_cons, List.not_mem_nil, or_false] at hq ⊢; rcases hq with rfl | rfl | rfl | rfl <;> simp) ?_
              exact J162_10727 (by (clear p_bw hjs k8580 k8581; omega))
            · skip
              skip
              refine g_iload_n dX7_step_152 rfl ?_
              refine g_bipush dX7_step_153 (by decide) ?_
              refine g_icmp_gt (tgt := 162) dX7_step_155 (by decide) ⟨by have q0 := bx_2 (o := 2) (k := (H27_8581 111 3)) hB (⟨by decide, rfl⟩ : kx 2 2); (clear p_bw hjs k8580 k8581; omega), by have q0 := bx_2 (o := 2) (k := (H27_8581 111 3)) hB (⟨by decide, rfl⟩ : kx 2 2); (clear p_bw hjs k8580 k8581; omega)⟩ (by decide) (fun k10791 => ?_) (fun k10791 => ?_)
              · skip
                skip
                refine g_forget (l1 := [(0, vR 111), (1, vI 0), (2, vI (P 111 3)), (3, vI (P 2 (H27_8581 111 3)))]) (by intro q hq; simp only [List.mem_cons, List.not_mem_nil, or_false] at hq ⊢; rcases hq with rfl | rfl | rfl | rfl <;> simp) ?_
                exact J162_10727 (by (clear p_bw hjs k8580 k8581; omega))
              · skip
                skip
                refine g_iconst dX7_step_158 ?_
                refine g_goto (tgt := 163) dX7_step_159 (by decide) ?_
                refine g_istore (l1 := [(4, vI 1), (3, vI (P 2 (H27_8581 111 3))), (0, vR 111), (1, vI 0), (2, vI (P 111 3))]) dX7_step_163 (by decide) rfl ?_
                refine g_iload_n dX7_step_165 rfl ?_
                refine g_bipush dX7_step_166 (by decide) ?_
                have J181_10810 : ∀ (i181_0_10810 : (P 2 (H27_8581 111 3)) < 48 ∨ 57 < (P 2 (H27_8581 111 3))), Go WSX G 2 iX7_step 181 [(0, vR 111), (1, vI 0), (2, vI (P 111 3)), (3, vI (P 2 (H27_8581 111 3))), (4, vI 1)] [] (up (up (up (up H27_8581 111 5 (H27_8581 111 3)) 111 6 (H27_8581 111 3)) 111 8 (-1)) 111 7 0) Q := by
                  intro i181_0_10810
                  refine g_iconst dX7_step_181 ?_
                  refine g_istore (l1 := [(5, vI 0), (0, vR 111), (1, vI 0), (2, vI (P 111 3)), (3, vI (P 2 (H27_8581 111 3))), (4, vI 1)]) dX7_step_182 (by decide) rfl ?_
                  refine g_iload dX7_step_184 rfl ?_
                  have J217_10819 : ∀ (i217_0_10819 : (1 = 1 ∧ 97 ≤ T.1 (tA T q) ∧ T.1 (tA T q) ≤ 122) ∨ (1 = 0 ∧ 48 ≤ T.1 (tA T q) ∧ T.1 (tA T q) ≤ 57)), Go WSX G 2 iX7_step 217 [(0, vR 111), (1, vI 0), (2, vI (P 111 3)), (4, vI 1)] [] (up (up (up (up H27_8581 111 5 (H27_8581 111 3)) 111 6 (H27_8581 111 3)) 111 8 (-1)) 111 7 0) Q := by
                    intro i217_0_10819
                    refine g_iload_n dX7_step_217 rfl ?_
                    have J237_10823 : ∀ (i237_0_10823 : tJn T q = 0), Go WSX G 2 iX7_step 237 [(0, vR 111), (4, vI 1)] [] (up (up (up (up H27_8581 111 5 (H27_8581 111 3)) 111 6 (H27_8581 111 3)) 111 8 (-1)) 111 7 0) Q := by
                      intro i237_0_10823
                      refine g_iload dX7_step_237 rfl ?_
                      refine g_if_eq (tgt := 249) dX7_step_239 (by decide) (by decide) (fun k10825 => by exfalso; (clear p_bw hjs k8580 k8581 i181_0_10810 i217_0_10819; omega)) (fun k10825 => ?_)
                      have r_i217_0_10819 := (i217_0_10819.resolve_right (by (clear p_bw hjs k8580 k8581 i181_0_10810 i217_0_10819 k10825; omega)))
                      have r_i181_0_10810 := (i181_0_10810.resolve_left (by (clear p_bw hjs k8580 k8581 i181_0_10810 i217_0_10819 k10825; omega)))
                      have r_hjs := (hjs.resolve_left (by (clear p_bw hjs k8580 k8581 i181_0_10810 i217_0_10819 k10825; omega)))
                      skip
                      refine g_aload_n dX7_step_242 rfl ?_
                      refine g_vV (av := []) (o := 111) (st := []) (f_X7_stepWord G (up (up (up (up H27_8581 111 5 (H27_8581 111 3)) 111 6 (H27_8581 111 3)) 111 8 (-1)) 111 7 0) T q  hB10621 (by have q0 := (((up_k (by decide)).trans ((up_k (by decide)).trans ((up_k (by decide)).trans ((up_k (by decide)).trans rfl)))) : (up (up (up (up H27_8581 111 5 (H27_8581 111 3)) 111 6 (H27_8581 111 3)) 111 8 (-1)) 111 7 0) 111 3 = (H27_8581 111 3)); have q1 := bx_46_3 (o := 111) hB27_8581 (⟨by decide, rfl⟩ : kx 111 46); have q2 := (((up_k (by decide)).trans ((up_k (by decide)).trans ((up_k (by decide)).trans up_same))) : (up (up (up (up H27_8581 111 5 (H27_8581 111 3)) 111 6 (H27_8581 111 3)) 111 8 (-1)) 111 7 0) 111 5 = (H27_8581 111 3)); have q3 := (up_same : (up (up (up (up H27_8581 111 5 (H27_8581 111 3)) 111 6 (H27_8581 111 3)) 111 8 (-1)) 111 7 0) 111 7 = 0); have q4 := (((up_k (by decide)).trans up_same) : (up (up (up (up H27_8581 111 5 (H27_8581 111 3)) 111 6 (H27_8581 111 3)) 111 8 (-1)) 111 7 0) 111 8 = (-1)); (clear p_bw hjs k8580 k8581 i181_0_10810 i217_0_10819 k10825; omega)) (by (clear p_bw hjs k8580 k8581 i181_0_10810 i217_0_10819 k10825; omega)) (TX.fr (F := ([(46, 3), (46, 5), (46, 6), (46, 7), (46, 8)], [])) v_TX (FrX.s (FrX.s (FrX.s (FrX.s (FrX.c FrX.rf hE27_8581 rfl) (⟨by decide, rfl⟩ : kx 111 46) rfl) (⟨by decide, rfl⟩ : kx 111 46) rfl) (⟨by decide, rfl⟩ : kx 111 46) rfl) (⟨by decide, rfl⟩ : kx 111 46) rfl) rfl) (OWN.fr (F := ([(46, 3), (46, 5), (46, 6), (46, 7), (46, 8)], [])) v_OWN (FrX.s (FrX.s (FrX.s (FrX.s (FrX.c FrX.rf hE27_8581 rfl) (⟨by decide, rfl⟩ : kx 111 46) rfl) (⟨by decide, rfl⟩ : kx 111 46) rfl) (⟨by decide, rfl⟩ : kx 111 46) rfl) (⟨by decide, rfl⟩ : kx 111 46) rfl) rfl) ((XT.fr (F := ([(46, 3), (46, 5), (46, 6), (46, 7), (46, 8)], [])) z0 (FrX.s (FrX.s (FrX.s (FrX.s (FrX.c FrX.rf hE27_8581 rfl) (⟨by decide, rfl⟩ : kx 111 46) rfl) (⟨by decide, rfl⟩ : kx 111 46) rfl) (⟨by decide, rfl⟩ : kx 111 46) rfl) (⟨by decide, rfl⟩ : kx 111 46) rfl) rfl)) _ (fun Pc10826 hBc10826 hFc10826 ec10826_0 => ⟨rfl, ?_⟩)) cf_X7_stepWord t_711 rfl (show kx 111 46 from (⟨by decide, rfl⟩ : kx 111 46)).1 ((show kx 111 46 from (⟨by decide, rfl⟩ : kx 111 46)).sh rfl) rfl rfl (Nat.le_of_ble_eq_true rfl) (by decide) rfl dX7_step_243
                      refine g_goto (tgt := 253) dX7_step_246 (by decide) ?_
                      exact g_retV dX7_step_253 rfl (hQ _ hBc10826 (FrX.c (FrX.s (FrX.s (FrX.s (FrX.s (FrX.c FrX.rf hE27_8581 rfl) (⟨by decide, rfl⟩ : kx 111 46) rfl) (⟨by decide, rfl⟩ : kx 111 46) rfl) (⟨by decide, rfl⟩ : kx 111 46) rfl) (⟨by decide, rfl⟩ : kx 111 46) rfl) hFc10826 rfl) (by first | exact ec10826_0 | (have q3 := (rfl : Pc10826 111 3 = (Pc10826 111 3)); have q4 := (rfl : Pc10826 111 4 = (Pc10826 111 4)); have q5 := (((FrX.g hFc10826 (⟨by decide, rfl⟩ : kx 111 46) rfl).trans ((up_k (by decide)).trans ((up_k (by decide)).trans ((up_k (by decide)).trans up_same)))) : Pc10826 111 5 = (H27_8581 111 3)); have q6 := (rfl : Pc10826 111 6 = (Pc10826 111 6)); have q7 := (rfl : Pc10826 111 7 = (Pc10826 111 7)); have q8 := (rfl : Pc10826 111 8 = (Pc10826 111 8)); first | exact XS.sig ⟨by (first | (clear p_bw hjs k8580 k8581 i181_0_10810 i217_0_10819 k10825; omega) | (clear p_bw hjs k8580 k8581 i181_0_10810 i217_0_10819; omega) | (clear p_bw hjs k8580 k8581 i181_0_10810 k10825; omega) | (clear p_bw hjs k8580 k8581 i217_0_10819 k10825; omega) | (clear p_bw hjs k8580 i181_0_10810 i217_0_10819 k10825; omega) | (clear p_bw hjs k8581 i181_0_10810 i217_0_10819 k10825; omega) | (clear p_bw k8580 k8581 i181_0_10810 i217_0_10819 k10825; omega) | (clear hjs k8580 k8581 i181_0_10810 i217_0_10819 k10825; omega) | (clear p_bw hjs k8580 k8581 i181_0_10810; omega) | (clear k8580 hjs p_bw; omega) | omega), by (first | (clear p_bw hjs k8580 k8581 i181_0_10810 i217_0_10819 k10825; omega) | (clear p_bw hjs k8580 k8581 i181_0_10810 i217_0_10819; omega) | (clear p_bw hjs k8580 k8581 i181_0_10810 k10825; omega) | (clear p_bw hjs k8580 k8581 i217_0_10819 k10825; omega) | (clear p_bw hjs k8580 i181_0_10810 i217_0_10819 k10825; omega) | (clear p_bw hjs k8581 i181_0_10810 i217_0_10819 k10825; omega) | (clear p_bw k8580 k8581 i181_0_10810 i217_0_10819 k10825; omega) | (clear hjs k8580 k8581 i181_0_10810 i217_0_10819 k10825; omega) | (clear p_bw hjs k8580 k8581 i181_0_10810; omega) | (clear k8580 hjs p_bw; omega) | omega)⟩ (by (first | (clear p_bw hjs k8580 k8581 i181_0_10810 i217_0_10819 k10825; omega) | (clear p_bw hjs k8580 k8581 i181_0_10810 i217_0_10819; omega) | (clear p_bw hjs k8580 k8581 i181_0_10810 k10825; omega) | (clear p_bw hjs k8580 k8581 i217_0_10819 k10825; omega) | (clear p_bw hjs k8580 i181_0_10810 i217_0_10819 k10825; omega) | (clear p_bw hjs k8581 i181_0_10810 i217_0_10819 k10825; omega) | (clear p_bw k8580 k8581 i181_0_10810 i217_0_10819 k10825; omega) | (clear hjs k8580 k8581 i181_0_10810 i217_0_10819 k10825; omega) | (clear p_bw hjs k8580 k8581 i181_0_10810; omega) | (clear k8580 hjs p_bw; omega) | omega)) (by (first | (clear p_bw hjs k8580 k8581 i181_0_10810 i217_0_10819 k10825; omega) | (clear p_bw hjs k8580 k8581 i181_0_10810 i217_0_10819; omega) | (clear p_bw hjs k8580 k8581 i181_0_10810 k10825; omega) | (clear p_bw hjs k8580 k8581 i217_0_10819 k10825; omega) | (clear p_bw hjs k8580 i181_0_10810 i217_0_10819 k10825; omega) | (clear p_bw hjs k8581 i181_0_10810 i217_0_10819 k10825; omega) | (clear p_bw k8580 k8581 i181_0_10810 i217_0_10819 k10825; omega) | (clear hjs k8580 k8581 i181_0_10810 i217_0_10819 k10825; omega) | (clear p_bw hjs k8580 k8581 i181_0_10810; omega) | (clear k8580 hjs p_bw; omega) | omega)) (by (first | (clear p_bw hjs k8580 k8581 i181_0_10810 i217_0_10819 k10825; omega) | (clear p_bw hjs k8580 k8581 i181_0_10810 i217_0_10819; omega) | (clear p_bw hjs k8580 k8581 i181_0_10810 k10825; omega) | (clear p_bw hjs k8580 k8581 i217_0_10819 k10825; omega) | (clear p_bw hjs k8580 i181_0_10810 i217_0_10819 k10825; omega) | (clear p_bw hjs k8581 i181_0_10810 i217_0_10819 k10825; omega) | (clear p_bw k8580 k8581 i181_0_10810 i217_0_10819 k10825; omega) | (clear hjs k8580 k8581 i181_0_10810 i217_0_10819 k10825; omega) | (clear p_bw hjs k8580 k8581 i181_0_10810; omega) | (clear k8580 hjs p_bw; omega) | omega)) (by (first | (clear p_bw hjs k8580 k8581 i181_0_10810 i217_0_10819 k10825; omega) | (clear p_bw hjs k8580 k8581 i181_0_10810 i217_0_10819; omega) | (clear p_bw hjs k8580 k8581 i181_0_10810 k10825; omega) | (clear p_bw hjs k8580 k8581 i217_0_10819 k10825; omega) | (clear p_bw hjs k8580 i181_0_10810 i217_0_10819 k10825; omega) | (clear p_bw hjs k8581 i181_0_10810 i217_0_10819 k10825; omega) | (clear p_bw k8580 k8581 i181_0_10810 i217_0_10819 k10825; omega) | (clear hjs k8580 k8581 i181_0_10810 i217_0_10819 k10825; omega) | (clear p_bw hjs k8580 k8581 i181_0_10810; omega) | (clear k8580 hjs p_bw; omega) | omega)) (by (first | (clear p_bw hjs k8580 k8581 i181_0_10810 i217_0_10819 k10825; omega) | (clear p_bw hjs k8580 k8581 i181_0_10810 i217_0_10819; omega) | (clear p_bw hjs k8580 k8581 i181_0_10810 k10825; omega) | (clear p_bw hjs k8580 k8581 i217_0_10819 k10825; omega) | (clear p_bw hjs k8580 i181_0_10810 i217_0_10819 k10825; omega) | (clear p_bw hjs k8581 i181_0_10810 i217_0_10819 k10825; omega) | (clear p_bw k8580 k8581 i181_0_10810 i217_0_10819 k10825; omega) | (clear hjs k8580 k8581 i181_0_10810 i217_0_10819 k10825; omega) | (clear p_bw hjs k8580 k8581 i181_0_10810; omega) | (clear k8580 hjs p_bw; omega) | omega)) (by (first | (clear p_bw hjs k8580 k8581 i181_0_10810 i217_0_10819 k10825; omega) | (clear p_bw hjs k8580 k8581 i181_0_10810 i217_0_10819; omega) | (clear p_bw hjs k8580 k8581 i181_0_10810 k10825; omega) | (clear p_bw hjs k8580 k8581 i217_0_10819 k10825; omega) | (clear p_bw hjs k8580 i181_0_10810 i217_0_10819 k10825; omega) | (clear p_bw hjs k8581 i181_0_10810 i217_0_10819 k10825; omega) | (clear p_bw k8580 k8581 i181_0_10810 i217_0_10819 k10825; omega) | (clear hjs k8580 k8581 i181_0_10810 i217_0_10819 k10825; omega) | (clear p_bw hjs k8580 k8581 i181_0_10810; omega) | (clear k8580 hjs p_bw; omega) | omega)) (by (first | (clear p_bw hjs k8580 k8581 i181_0_10810 i217_0_10819 k10825; omega) | (clear p_bw hjs k8580 k8581 i181_0_10810 i217_0_10819; omega) | (clear p_bw hjs k8580 k8581 i181_0_10810 k10825; omega) | (clear p_bw hjs k8580 k8581 i217_0_10819 k10825; omega) | (clear p_bw hjs k8580 i181_0_10810 i217_0_10819 k10825; omega) | (clear p_bw hjs k8581 i181_0_10810 i217_0_10819 k10825; omega) | (clear p_bw k8580 k8581 i181_0_10810 i217_0_10819 k10825; omega) | (clear hjs k8580 k8581 i181_0_10810 i217_0_10819 k10825; omega) | (clear p_bw hjs k8580 k8581 i181_0_10810; omega) | (clear k8580 hjs p_bw; omega) | omega)) (by (first | (clear p_bw hjs k8580 k8581 i181_0_10810 i217_0_10819 k10825; omega) | (clear p_bw hjs k8580 k8581 i181_0_10810 i217_0_10819; omega) | (clear p_bw hjs k8580 k8581 i181_0_10810 k10825; omega) | (clear p_bw hjs k8580 k8581 i217_0_10819 k10825; omega) | (clear p_bw hjs k8580 i181_0_10810 i217_0_10819 k10825; omega) | (clear p_bw hjs k8581 i181_0_10810 i217_0_10819 k10825; omega) | (clear p_bw k8580 k8581 i181_0_10810 i217_0_10819 k10825; omega) | (clear hjs k8580 k8581 i181_0_10810 i217_0_10819 k10825; omega) | (clear p_bw hjs k8580 k8581 i181_0_10810; omega) | (clear k8580 hjs p_bw; omega) | omega)) | exact XS.badj ⟨by (first | (clear p_bw hjs k8580 k8581 i181_0_10810 i217_0_10819 k10825; omega) | (clear p_bw hjs k8580 k8581 i181_0_10810 i217_0_10819; omega) | (clear p_bw hjs k8580 k8581 i181_0_10810 k10825; omega) | (clear p_bw hjs k8580 k8581 i217_0_10819 k10825; omega) | (clear p_bw hjs k8580 i181_0_10810 i217_0_10819 k10825; omega) | (clear p_bw hjs k8581 i181_0_10810 i217_0_10819 k10825; omega) | (clear p_bw k8580 k8581 i181_0_10810 i217_0_10819 k10825; omega) | (clear hjs k8580 k8581 i181_0_10810 i217_0_10819 k10825; omega) | (clear p_bw hjs k8580 k8581 i181_0_10810; omega) | (clear k8580 hjs p_bw; omega) | omega), by (first | (clear p_bw hjs k8580 k8581 i181_0_10810 i217_0_10819 k10825; omega) | (clear p_bw hjs k8580 k8581 i181_0_10810 i217_0_10819; omega) | (clear p_bw hjs k8580 k8581 i181_0_10810 k10825; omega) | (clear p_bw hjs k8580 k8581 i217_0_10819 k10825; omega) | (clear p_bw hjs k8580 i181_0_10810 i217_0_10819 k10825; omega) | (clear p_bw hjs k8581 i181_0_10810 i217_0_10819 k10825; omega) | (clear p_bw k8580 k8581 i181_0_10810 i217_0_10819 k10825; omega) | (clear hjs k8580 k8581 i181_0_10810 i217_0_10819 k10825; omega) | (clear p_bw hjs k8580 k8581 i181_0_10810; omega) | (clear k8580 hjs p_bw; omega) | omega)⟩ (by (first | (clear p_bw hjs k8580 k8581 i181_0_10810 i217_0_10819 k10825; omega) | (clear p_bw hjs k8580 k8581 i181_0_10810 i217_0_10819; omega) | (clear p_bw hjs k8580 k8581 i181_0_10810 k10825; omega) | (clear p_bw hjs k8580 k8581 i217_0_10819 k10825; omega) | (clear p_bw hjs k8580 i181_0_10810 i217_0_10819 k10825; omega) | (clear p_bw hjs k8581 i181_0_10810 i217_0_10819 k10825; omega) | (clear p_bw k8580 k8581 i181_0_10810 i217_0_10819 k10825; omega) | (clear hjs k8580 k8581 i181_0_10810 i217_0_10819 k10825; omega) | (clear p_bw hjs k8580 k8581 i181_0_10810; omega) | (clear k8580 hjs p_bw; omega) | omega)) (by (first | (clear p_bw hjs k8580 k8581 i181_0_10810 i217_0_10819 k10825; omega) | (clear p_bw hjs k8580 k8581 i181_0_10810 i217_0_10819; omega) | (clear p_bw hjs k8580 k8581 i181_0_10810 k10825; omega) | (clear p_bw hjs k8580 k8581 i217_0_10819 k10825; omega) | (clear p_bw hjs k8580 i181_0_10810 i217_0_10819 k10825; omega) | (clear p_bw hjs k8581 i181_0_10810 i217_0_10819 k10825; omega) | (clear p_bw k8580 k8581 i181_0_10810 i217_0_10819 k10825; omega) | (clear hjs k8580 k8581 i181_0_10810 i217_0_10819 k10825; omega) | (clear p_bw hjs k8580 k8581 i181_0_10810; omega) | (clear k8580 hjs p_bw; omega) | omega)) (by (first | (clear p_bw hjs k8580 k8581 i181_0_10810 i217_0_10819 k10825; omega) | (clear p_bw hjs k8580 k8581 i181_0_10810 i217_0_10819; omega) | (clear p_bw hjs k8580 k8581 i181_0_10810 k10825; omega) | (clear p_bw hjs k8580 k8581 i217_0_10819 k10825; omega) | (clear p_bw hjs k8580 i181_0_10810 i217_0_10819 k10825; omega) | (clear p_bw hjs k8581 i181_0_10810 i217_0_10819 k10825; omega) | (clear p_bw k8580 k8581 i181_0_10810 i217_0_10819 k10825; omega) | (clear hjs k8580 k8581 i181_0_10810 i217_0_10819 k10825; omega) | (clear p_bw hjs k8580 k8581 i181_0_10810; omega) | (clear k8580 hjs p_bw; omega) | omega)) (by (first | (clear p_bw hjs k8580 k8581 i181_0_10810 i217_0_10819 k10825; omega) | (clear p_bw hjs k8580 k8581 i181_0_10810 i217_0_10819; omega) | (clear p_bw hjs k8580 k8581 i181_0_10810 k10825; omega) | (clear p_bw hjs k8580 k8581 i217_0_10819 k10825; omega) | (clear p_bw hjs k8580 i181_0_10810 i217_0_10819 k10825; omega) | (clear p_bw hjs k8581 i181_0_10810 i217_0_10819 k10825; omega) | (clear p_bw k8580 k8581 i181_0_10810 i217_0_10819 k10825; omega) | (clear hjs k8580 k8581 i181_0_10810 i217_0_10819 k10825; omega) | (clear p_bw hjs k8580 k8581 i181_0_10810; omega) | (clear k8580 hjs p_bw; omega) | omega)) (by (first | (clear p_bw hjs k8580 k8581 i181_0_10810 i217_0_10819 k10825; omega) | (clear p_bw hjs k8580 k8581 i181_0_10810 i217_0_10819; omega) | (clear p_bw hjs k8580 k8581 i181_0_10810 k10825; omega) | (clear p_bw hjs k8580 k8581 i217_0_10819 k10825; omega) | (clear p_bw hjs k8580 i181_0_10810 i217_0_10819 k10825; omega) | (clear p_bw hjs k8581 i181_0_10810 i217_0_10819 k10825; omega) | (clear p_bw k8580 k8581 i181_0_10810 i217_0_10819 k10825; omega) | (clear hjs k8580 k8581 i181_0_10810 i217_0_10819 k10825; omega) | (clear p_bw hjs k8580 k8581 i181_0_10810; omega) | (clear k8580 hjs p_bw; omega) | omega)) (by (first | (clear p_bw hjs k8580 k8581 i181_0_10810 i217_0_10819 k10825; omega) | (clear p_bw hjs k8580 k8581 i181_0_10810 i217_0_10819; omega) | (clear p_bw hjs k8580 k8581 i181_0_10810 k10825; omega) | (clear p_bw hjs k8580 k8581 i217_0_10819 k10825; omega) | (clear p_bw hjs k8580 i181_0_10810 i217_0_10819 k10825; omega) | (clear p_bw hjs k8581 i181_0_10810 i217_0_10819 k10825; omega) | (clear p_bw k8580 k8581 i181_0_10810 i217_0_10819 k10825; omega) | (clear hjs k8580 k8581 i181_0_10810 i217_0_10819 k10825; omega) | (clear p_bw hjs k8580 k8581 i181_0_10810; omega) | (clear k8580 hjs p_bw; omega) | omega)) (by (first | (clear p_bw hjs k8580 k8581 i181_0_10810 i217_0_10819 k10825; omega) | (clear p_bw hjs k8580 k8581 i181_0_10810 i217_0_10819; omega) | (clear p_bw hjs k8580 k8581 i181_0_10810 k10825; omega) | (clear p_bw hjs k8580 k8581 i217_0_10819 k10825; omega) | (clear p_bw hjs k8580 i181_0_10810 i217_0_10819 k10825; omega) | (clear p_bw hjs k8581 i181_0_10810 i217_0_10819 k10825; omega) | (clear p_bw k8580 k8581 i181_0_10810 i217_0_10819 k10825; omega) | (clear hjs k8580 k8581 i181_0_10810 i217_0_10819 k10825; omega) | (clear p_bw hjs k8580 k8581 i181_0_10810; omega) | (clear k8580 hjs p_bw; omega) | omega)))))
                    refine g_if_eq (tgt := 237) dX7_step_218 (by decide) (by decide) (fun k10827 => ?_) (fun k10827 => by exfalso; (clear p_bw hjs k8580 k8581 i181_0_10810 i217_0_10819; omega))
                    have r_i217_0_10819 := (i217_0_10819.resolve_right (by (clear p_bw hjs k8580 k8581 i181_0_10810 i217_0_10819; omega)))
                    have r_i181_0_10810 := (i181_0_10810.resolve_left (by (clear p_bw hjs k8580 k8581 i181_0_10810 i217_0_10819; omega)))
                    skip
                    skip
                    refine g_forget (l1 := [(0, vR 111), (4, vI 1)]) (by intro q hq; simp only [List.mem_cons, List.not_mem_nil, or_false] at hq ⊢; rcases hq with rfl | rfl <;> simp) ?_
                    exact J237_10823 (by (omega))
                  refine g_if_ne (tgt := 217) dX7_step_186 (by decide) (by decide) (fun k10828 => ?_) (fun k10828 => by exfalso; (clear p_bw hjs k8580 k8581 i181_0_10810; omega))
                  have r_i181_0_10810 := (i181_0_10810.resolve_left (by (clear p_bw hjs k8580 k8581 i181_0_10810 k10828; omega)))
                  skip
                  skip
                  refine g_forget (l1 := [(0, vR 111), (1, vI 0), (2, vI (P 111 3)), (4, vI 1)]) (by intro q hq; simp only [List.mem_cons, List.not_mem_nil, or_false] at hq ⊢; rcases hq with rfl | rfl | rfl | rfl <;> simp) ?_
                  exact J217_10819 (by (clear p_bw hjs k8580 k8581 i181_0_10810 k10828; omega))
                refine g_icmp_lt (tgt := 181) dX7_step_168 (by decide) ⟨by have q0 := bx_2 (o := 2) (k := (H27_8581 111 3)) hB (⟨by decide, rfl⟩ : kx 2 2); (clear p_bw hjs k8580 k8581; omega), by have q0 := bx_2 (o := 2) (k := (H27_8581 111 3)) hB (⟨by decide, rfl⟩ : kx 2 2); (clear p_bw hjs k8580 k8581; omega)⟩ (by decide) (fun k10829 => by exfalso; have q0 := bx_2 (o := 2) (k := (H27_8581 111 3)) hB (⟨by decide, rfl⟩ : kx 2 2); (clear p_bw hjs k8580 k8581; omega)) (fun k10829 => ?_)
                skip
                skip
                refine g_iload_n dX7_step_171 rfl ?_
                refine g_bipush dX7_step_172 (by decide) ?_
                refine g_icmp_gt (tgt := 181) dX7_step_174 (by decide) ⟨by have q0 := bx_2 (o := 2) (k := (H27_8581 111 3)) hB (⟨by decide, rfl⟩ : kx 2 2); (clear p_bw hjs k8580 k8581; omega), by have q0 := bx_2 (o := 2) (k := (H27_8581 111 3)) hB (⟨by decide, rfl⟩ : kx 2 2); (clear p_bw hjs k8580 k8581; omega)⟩ (by decide) (fun k10830 => ?_) (fun k10830 => by exfalso; have q0 := bx_2 (o := 2) (k := (H27_8581 111 3)) hB (⟨by decide, rfl⟩ : kx 2 2); (clear p_bw hjs k8580 k8581; omega))
                skip
                skip
                refine g_forget (l1 := [(0, vR 111), (1, vI 0), (2, vI (P 111 3)), (3, vI (P 2 (H27_8581 111 3))), (4, vI 1)]) (by intro q hq; simp only [List.mem_cons, List.not_mem_nil, or_false] at hq ⊢; rcases hq with rfl | rfl | rfl | rfl | rfl <;> simp) ?_
                exact J181_10810 (by (clear p_bw hjs k8580 k8581; omega))
          · skip
            skip
            refine g_aload_n dX7_step_130 rfl ?_
            refine g_iconst dX7_step_131 ?_
            refine x_p46_4 (⟨by decide, rfl⟩ : kx 111 46) pfX7_75 dX7_step_132 ?_
            have hB10831 := by_46_4 (z := 0) hB10621 (⟨by decide, rfl⟩ : kx 111 46) (by decide)
            exact g_retV dX7_step_135 rfl (hQ _ hB10831 (FrX.s (FrX.s (FrX.s (FrX.s (FrX.s (FrX.c FrX.rf hE27_8581 rfl) (⟨by decide, rfl⟩ : kx 111 46) rfl) (⟨by decide, rfl⟩ : kx 111 46) rfl) (⟨by decide, rfl⟩ : kx 111 46) rfl) (⟨by decide, rfl⟩ : kx 111 46) rfl) (⟨by decide, rfl⟩ : kx 111 46) rfl) (by have q3 := (((up_k (by decide)).trans ((up_k (by decide)).trans ((up_k (by decide)).trans ((up_k (by decide)).trans ((up_k (by decide)).trans rfl))))) : (up (up (up (up (up H27_8581 111 5 (H27_8581 111 3)) 111 6 (H27_8581 111 3)) 111 8 (-1)) 111 7 0) 111 4 0) 111 3 = (H27_8581 111 3)); have q4 := (up_same : (up (up (up (up (up H27_8581 111 5 (H27_8581 111 3)) 111 6 (H27_8581 111 3)) 111 8 (-1)) 111 7 0) 111 4 0) 111 4 = 0); have q5 := (((up_k (by decide)).trans ((up_k (by decide)).trans ((up_k (by decide)).trans ((up_k (by decide)).trans up_same)))) : (up (up (up (up (up H27_8581 111 5 (H27_8581 111 3)) 111 6 (H27_8581 111 3)) 111 8 (-1)) 111 7 0) 111 4 0) 111 5 = (H27_8581 111 3)); have q6 := (((up_k (by decide)).trans ((up_k (by decide)).trans ((up_k (by decide)).trans up_same))) : (up (up (up (up (up H27_8581 111 5 (H27_8581 111 3)) 111 6 (H27_8581 111 3)) 111 8 (-1)) 111 7 0) 111 4 0) 111 6 = (H27_8581 111 3)); have q7 := (((up_k (by decide)).trans up_same) : (up (up (up (up (up H27_8581 111 5 (H27_8581 111 3)) 111 6 (H27_8581 111 3)) 111 8 (-1)) 111 7 0) 111 4 0) 111 7 = 0); have q8 := (((up_k (by decide)).trans ((up_k (by decide)).trans up_same)) : (up (up (up (up (up H27_8581 111 5 (H27_8581 111 3)) 111 6 (H27_8581 111 3)) 111 8 (-1)) 111 7 0) 111 4 0) 111 8 = (-1)); exact XS.end ⟨by (clear p_bw hjs k8580 k8581; omega), by (clear p_bw hjs k8580 k8581; omega)⟩ (by (clear p_bw hjs k8580 k8581; omega)) (by (clear p_bw hjs k8580 k8581; omega)) (by (clear p_bw hjs k8580 k8581; omega)) (by (clear p_bw hjs k8580 k8581; omega))))
        refine g_if_lt (tgt := 86) dX7_step_31 (by decide) ⟨by have q0 := bx_46_3 (o := 111) hB27_8581 (⟨by decide, rfl⟩ : kx 111 46); (clear p_bw hjs k8580 k8581; omega), by have q0 := bx_46_3 (o := 111) hB27_8581 (⟨by decide, rfl⟩ : kx 111 46); (clear p_bw hjs k8580 k8581; omega)⟩ (fun k10832 => by exfalso; have q0 := bx_46_3 (o := 111) hB27_8581 (⟨by decide, rfl⟩ : kx 111 46); (clear p_bw hjs k8580 k8581; omega)) (fun k10832 => ?_)
        skip
        skip
        refine g_aload_n dX7_step_34 rfl ?_
        refine x_g46_3 (z := (H27_8581 111 3)) (⟨by decide, rfl⟩ : kx 111 46) ffX7_72 dX7_step_35 rfl ?_
        refine g_aload_n dX7_step_38 rfl ?_
        refine x_g46_2 (z := (P 111 2)) (⟨by decide, rfl⟩ : kx 111 46) ffX7_71 dX7_step_39 ((FrX.g hE27_8581 (⟨by decide, rfl⟩ : kx 111 46) rfl).trans rfl) ?_
        have f10833 := bx_46_2 (o := 111) hB (⟨by decide, rfl⟩ : kx 111 46)
        refine g_icmp_ge (tgt := 86) dX7_step_42 (by decide) ⟨by have q0 := bx_46_3 (o := 111) hB27_8581 (⟨by decide, rfl⟩ : kx 111 46); (clear p_bw hjs k8580 k8581; omega), by have q0 := bx_46_3 (o := 111) hB27_8581 (⟨by decide, rfl⟩ : kx 111 46); (clear p_bw hjs k8580 k8581; omega)⟩ ⟨by have q0 := bx_46_2 (o := 111) hB (⟨by decide, rfl⟩ : kx 111 46); (clear p_bw hjs k8580 k8581; omega), by have q0 := bx_46_2 (o := 111) hB (⟨by decide, rfl⟩ : kx 111 46); (clear p_bw hjs k8580 k8581; omega)⟩ (fun k10834 => ?_) (fun k10834 => ?_)
        · skip
          skip
          refine g_forget (l1 := [(0, vR 111), (1, vI 0), (2, vI (P 111 3))]) (by intro q hq; simp only [List.mem_cons, List.not_mem_nil, or_false] at hq ⊢; rcases hq with rfl | rfl | rfl <;> simp) ?_
          exact J86_10616 (by rw [hta9, i27_0_8581]; exact (rE_st (fun h => by have q := bW_t.mp h.2; (clear p_bw hjs k8580 k8581; omega))).symm)
        · skip
          skip
          refine g_aload_n dX7_step_45 rfl ?_
          refine x_g46_1 (n := 2) (⟨by decide, rfl⟩ : kx 111 46) ffX7_41 dX7_step_46 (TX.fr (F := ([(46, 3)], [])) v_TX (FrX.c FrX.rf hE27_8581 rfl) rfl) ?_
          refine g_aload_n dX7_step_49 rfl ?_
          refine x_g46_3 (z := (H27_8581 111 3)) (⟨by decide, rfl⟩ : kx 111 46) ffX7_72 dX7_step_50 rfl ?_
          refine x_l2 (z := (P 2 (H27_8581 111 3))) (⟨by decide, rfl⟩ : kx 2 2) dX7_step_53 ⟨by have q0 := bx_46_3 (o := 111) hB27_8581 (⟨by decide, rfl⟩ : kx 111 46); (clear p_bw hjs k8580 k8581; omega), by have q0 := bx_46_3 (o := 111) hB27_8581 (⟨by decide, rfl⟩ : kx 111 46); (clear p_bw hjs k8580 k8581; omega)⟩ ((FrX.g hE27_8581 (⟨by decide, rfl⟩ : kx 2 2) rfl).trans rfl) ?_
          refine g_bipush dX7_step_54 (by decide) ?_
          have f10835 := bx_2 (o := 2) (k := (H27_8581 111 3)) hB (⟨by decide, rfl⟩ : kx 2 2)
          have J73_10838 : ∀ (i73_0_10838 : 0 ≤ H27_8581 111 3 ∧ H27_8581 111 3 < T.2 ∧ (T.1 (H27_8581 111 3) = 32 ∨ T.1 (H27_8581 111 3) = 10)), Go WSX G 2 iX7_step 73 [(0, vR 111), (1, vI 0), (2, vI (P 111 3))] [] H27_8581 Q := by
            intro i73_0_10838
            have hgo := rE_go (f := bW) (T := T) (p := (H27_8581 111 3)) (by (clear p_bw hjs k8580 k8581 i73_0_10838; omega)) (bW_t.mpr (by (clear p_bw hjs k8580 k8581; omega)))
            refine g_aload_n dX7_step_73 rfl ?_
            refine g_dup dX7_step_74 rfl ?_
            refine x_g46_3 (z := (H27_8581 111 3)) (⟨by decide, rfl⟩ : kx 111 46) ffX7_72 dX7_step_75 rfl ?_
            refine g_iconst dX7_step_78 ?_
            refine g_iadd dX7_step_79 ?_
            refine x_p46_3 (⟨by decide, rfl⟩ : kx 111 46) pfX7_72 dX7_step_80 ?_
            have hB10840 := by_46_3 (z := ((H27_8581 111 3) + 1)) hB27_8581 (⟨by decide, rfl⟩ : kx 111 46) ⟨by have q0 := bx_46_3 (o := 111) hB27_8581 (⟨by decide, rfl⟩ : kx 111 46); (clear p_bw hjs k8580 k8581 i73_0_10838; omega), by have q0 := bx_46_3 (o := 111) hB27_8581 (⟨by decide, rfl⟩ : kx 111 46); (clear p_bw hjs k8580 k8581 i73_0_10838; omega)⟩
            refine g_goto (tgt := 27) dX7_step_83 (by decide) ?_
            refine g_forget (l1 := [(0, vR 111), (1, vI 0), (2, vI (P 111 3))]) (by intro q hq; simp only [List.mem_cons, List.not_mem_nil, or_false] at hq ⊢; rcases hq with rfl | rfl | rfl <;> simp) ?_
            exact ih27_8581 _ hB10840 (FrX.s (FrX.c FrX.rf hE27_8581 rfl) (⟨by decide, rfl⟩ : kx 111 46) rfl) (by first | (have q3 := (up_same : (up H27_8581 111 3 ((H27_8581 111 3) + 1)) 111 3 = ((H27_8581 111 3) + 1)); rw [q3]; (clear p_bw hjs k8580 k8581 i73_0_10838; omega)) | rw [p_q.1]) (by have q0 := (up_same : (up H27_8581 111 3 ((H27_8581 111 3) + 1)) 111 3 = ((H27_8581 111 3) + 1)); have q1 := bx_46_3 (o := 111) hB27_8581 (⟨by decide, rfl⟩ : kx 111 46); (clear p_bw hjs k8580 k8581 i73_0_10838; omega)) (by have q0 := (up_same : (up H27_8581 111 3 ((H27_8581 111 3) + 1)) 111 3 = ((H27_8581 111 3) + 1)); have q1 := bx_46_3 (o := 111) hB27_8581 (⟨by decide, rfl⟩ : kx 111 46); (clear p_bw hjs k8580 k8581 i73_0_10838; omega))
          refine g_icmp_eq (tgt := 73) dX7_step_56 (by decide) ⟨by have q0 := bx_2 (o := 2) (k := (H27_8581 111 3)) hB (⟨by decide, rfl⟩ : kx 2 2); (clear p_bw hjs k8580 k8581; omega), by have q0 := bx_2 (o := 2) (k := (H27_8581 111 3)) hB (⟨by decide, rfl⟩ : kx 2 2); (clear p_bw hjs k8580 k8581; omega)⟩ (by decide) (fun k10841 => ?_) (fun k10841 => ?_)
          · skip
            skip
            refine g_forget (l1 := [(0, vR 111), (1, vI 0), (2, vI (P 111 3))]) (by intro q hq; simp only [List.mem_cons, List.not_mem_nil, or_false] at hq ⊢; rcases hq with rfl | rfl | rfl <;> simp) ?_
            exact J73_10838 (by have q0 := bx_46_3 (o := 111) hB27_8581 (⟨by decide, rfl⟩ : kx 111 46); (clear p_bw hjs k8580 k8581; omega))
          · skip
            skip
            refine g_aload_n dX7_step_59 rfl ?_
            refine x_g46_1 (n := 2) (⟨by decide, rfl⟩ : kx 111 46) ffX7_41 dX7_step_60 (TX.fr (F := ([(46, 3)], [])) v_TX (FrX.c FrX.rf hE27_8581 rfl) rfl) ?_
            refine g_aload_n dX7_step_63 rfl ?_
            refine x_g46_3 (z := (H27_8581 111 3)) (⟨by decide, rfl⟩ : kx 111 46) ffX7_72 dX7_step_64 rfl ?_
            refine x_l2 (z := (P 2 (H27_8581 111 3))) (⟨by decide, rfl⟩ : kx 2 2) dX7_step_67 ⟨by have q0 := bx_46_3 (o := 111) hB27_8581 (⟨by decide, rfl⟩ : kx 111 46); (clear p_bw hjs k8580 k8581 k10841; omega), by have q0 := bx_46_3 (o := 111) hB27_8581 (⟨by decide, rfl⟩ : kx 111 46); (clear p_bw hjs k8580 k8581 k10841; omega)⟩ ((FrX.g hE27_8581 (⟨by decide, rfl⟩ : kx 2 2) rfl).trans rfl) ?_
            refine g_bipush dX7_step_68 (by decide) ?_
            refine g_icmp_ne (tgt := 86) dX7_step_70 (by decide) ⟨by have q0 := bx_2 (o := 2) (k := (H27_8581 111 3)) hB (⟨by decide, rfl⟩ : kx 2 2); (clear p_bw hjs k8580 k8581 k10841; omega), by have q0 := bx_2 (o := 2) (k := (H27_8581 111 3)) hB (⟨by decide, rfl⟩ : kx 2 2); (clear p_bw hjs k8580 k8581 k10841; omega)⟩ (by decide) (fun k10842 => ?_) (fun k10842 => ?_)
            · skip
              skip
              refine g_forget (l1 := [(0, vR 111), (1, vI 0), (2, vI (P 111 3))]) (by intro q hq; simp only [List.mem_cons, List.not_mem_nil, or_false] at hq ⊢; rcases hq with rfl | rfl | rfl <;> simp) ?_
              exact J86_10616 (by rw [hta9, i27_0_8581]; exact (rE_st (fun h => by have q := bW_t.mp h.2; (clear p_bw hjs k8580 k8581; omega))).symm)
            · skip
              skip
              refine g_forget (l1 := [(0, vR 111), (1, vI 0), (2, vI (P 111 3))]) (by intro q hq; simp only [List.mem_cons, List.not_mem_nil, or_false] at hq ⊢; rcases hq with rfl | rfl | rfl <;> simp) ?_
              exact J73_10838 (by have q0 := bx_46_3 (o := 111) hB27_8581 (⟨by decide, rfl⟩ : kx 111 46); (clear p_bw hjs k8580 k8581 k10841; omega))
      refine g_forget (l1 := [(0, vR 111), (1, vI 0), (2, vI (P 111 3))]) (by intro q hq; simp only [List.mem_cons, List.not_mem_nil, or_false] at hq ⊢; rcases hq with rfl | rfl | rfl <;> simp) ?_
      exact L27_8581 _ _ hB FrX.rf (by first | (have q3 := (rfl : P 111 3 = (P 111 3)); rw [q3]; (first | (clear p_bw hjs k8580 k8581; omega) | (clear p_bw hjs k8580; omega) | (clear p_bw hjs k8581; omega) | (clear p_bw k8580 k8581; omega) | (clear hjs k8580 k8581; omega) | (clear p_bw hjs; omega) | omega)) | rw [p_q.1]) (by have q0 := bx_46_3 (o := 111) hB (⟨by decide, rfl⟩ : kx 111 46); (clear p_bw hjs k8580 k8581; omega)) (Nat.lt_succ_self _)
    · skip
      skip
      refine g_forget (l1 := [(0, vR 111)]) (by intro q hq; simp only [List.mem_cons, List.not_mem_nil, or_false] at hq ⊢; rcases hq with rfl <;> simp) ?_
      exact J16_5421 (by (clear p_bw hjs k8580; omega))
/-! What the class answers: X7_begin_B16. -/
set_option maxRecDepth 100000 in
set_option maxHeartbeats 4000000 in
theorem f_X7_begin_B16 (G : GT) (P : PH) (T : TT) (hB : BdX P) (p_tx : P 1 1 = T.2 ∧ ∀ i : Int, 0 ≤ i → i < T.2 → P 2 i = T.1 i) (v_OWN : OWN P) (Q : Option PV → PH → Prop) (hQ : ∀ (P1 : PH) (_ : BdX P1) (_ : FrX ([(46, 1), (46, 2), (46, 3), (46, 4), (46, 5), (46, 6), (46, 7), (46, 8)], []) P P1) (_ : TX P1) (_ : XT T P1) (_ : XS T 0 P1), Q none P1) : Ct WSX G 3 iX7_begin [vR 111, vR 1] P Q := by
  refine Ct.of (by decide) (l0 := [(0, vR 111), (1, vR 1)]) rfl (Nat.le_of_ble_eq_true rfl) ?_
  have hb1 := bx_1_1 (o := 1) hB ⟨by decide, rfl⟩
  refine g_aload_n dX7_begin_0 rfl ?_
  refine g_aload_n dX7_begin_1 rfl ?_
  refine x_g1_0 (n := 2) (⟨by decide, rfl⟩ : kx 1 1) ffX7_54 dX7_begin_2 rfl ?_
  refine x_p46_1 (⟨by decide, rfl⟩ : kx 111 46) pfX7_41 dX7_begin_5 ?_
  have hB1 := bw_111_1 (x := 2) hB
  have iv2 : TX (up P 111 1 ((2 : Nat) : Int)) := up_same
  refine g_aload_n dX7_begin_8 rfl ?_
  refine g_iconst dX7_begin_9 ?_
  refine g_aload_n dX7_begin_10 rfl ?_
  refine x_g1_1 (z := (P 1 1)) (⟨by decide, rfl⟩ : kx 1 1) ffX7_59 dX7_begin_11 ((up_o (kx.ne (⟨by decide, rfl⟩ : kx 1 1) (⟨by decide, rfl⟩ : kx 111 46) rfl)).trans rfl) ?_
  refine g_aload_n dX7_begin_14 rfl ?_
  refine x_g46_1 (n := 2) (⟨by decide, rfl⟩ : kx 111 46) ffX7_41 dX7_begin_15 up_same ?_
  refine x_n2 (⟨by decide, rfl⟩ : kx 2 2) dX7_begin_18 ?_
  have f3 := bx_1_1 (o := 1) hB (⟨by decide, rfl⟩ : kx 1 1)
  refine g_sI (av := [vI (P 1 1), vI 1600]) (st := [vI 0, vR 111]) (m_J9_min_7cf53 G (up P 111 1 ((2 : Nat) : Int)) (P 1 1) 1600 ⟨by have q0 := bx_1_1 (o := 1) hB (⟨by decide, rfl⟩ : kx 1 1); (clear p_tx; omega), by have q0 := bx_1_1 (o := 1) hB (⟨by decide, rfl⟩ : kx 1 1); (clear p_tx; omega)⟩ (by decide) hB1  _ (fun rc4 hc4 gc4_m => ⟨rc4, rfl, ?_⟩)) cf_J9_min_7cf53 t_703 rfl (Nat.le_of_ble_eq_true rfl) (by decide) rfl dX7_begin_19
  refine g_sI (av := [vI 0, vI rc4]) (st := [vR 111]) (m_J9_max_7cf53 G (up P 111 1 ((2 : Nat) : Int)) 0 rc4 (by decide) ⟨by (clear p_tx gc4_m; omega), by (clear p_tx gc4_m; omega)⟩ hB1  _ (fun rc5 hc5 gc5_m => ⟨rc5, rfl, ?_⟩)) cf_J9_max_7cf53 t_706 rfl (Nat.le_of_ble_eq_true rfl) (by decide) rfl dX7_begin_22
  refine x_p46_2 (⟨by decide, rfl⟩ : kx 111 46) pfX7_71 dX7_begin_25 ?_
  have hB6 := by_46_2 (z := rc5) hB1 (⟨by decide, rfl⟩ : kx 111 46) ⟨by (omega), by (omega)⟩
  refine g_aload_n dX7_begin_28 rfl ?_
  refine g_iconst dX7_begin_29 ?_
  refine x_p46_3 (⟨by decide, rfl⟩ : kx 111 46) pfX7_72 dX7_begin_30 ?_
  have hB7 := by_46_3 (z := 0) hB6 (⟨by decide, rfl⟩ : kx 111 46) (by decide)
  refine g_aload_n dX7_begin_33 rfl ?_
  refine g_iconst dX7_begin_34 ?_
  refine x_p46_4 (⟨by decide, rfl⟩ : kx 111 46) pfX7_75 dX7_begin_35 ?_
  have hB8 := by_46_4 (z := 0) hB7 (⟨by decide, rfl⟩ : kx 111 46) (by decide)
  have iv9 : XT T (up (up (up (up P 111 1 ((2 : Nat) : Int)) 111 2 rc5) 111 3 0) 111 4 0) := ⟨by have q := (((up_k (by decide)).trans ((up_k (by decide)).trans up_same)) : (up (up (up (up P 111 1 ((2 : Nat) : Int)) 111 2 rc5) 111 3 0) 111 4 0) 111 2 = rc5); (omega), fun i h0 h1 => (((up_o (kx.ne (⟨by decide, rfl⟩ : kx 2 2) (⟨by decide, rfl⟩ : kx 111 46) rfl)).trans ((up_o (kx.ne (⟨by decide, rfl⟩ : kx 2 2) (⟨by decide, rfl⟩ : kx 111 46) rfl)).trans ((up_o (kx.ne (⟨by decide, rfl⟩ : kx 2 2) (⟨by decide, rfl⟩ : kx 111 46) rfl)).trans ((up_o (kx.ne (⟨by decide, rfl⟩ : kx 2 2) (⟨by decide, rfl⟩ : kx 111 46) rfl)).trans rfl))))).trans (p_tx.2 i h0 h1)⟩
  refine g_aload_n dX7_begin_38 rfl ?_
  refine g_vV (av := []) (o := 111) (st := []) (f_X7_step G (up (up (up (up P 111 1 ((2 : Nat) : Int)) 111 2 rc5) 111 3 0) 111 4 0) T 0  hB8 (⟨((up_k (by decide)).trans up_same), by decide, by (clear gc4_m gc5_m; omega)⟩) (Or.inr ⟨by have q := (up_same : (up (up (up (up P 111 1 ((2 : Nat) : Int)) 111 2 rc5) 111 3 0) 111 4 0) 111 4 = 0); (clear p_tx gc4_m gc5_m; omega), by have q := (up_same : (up (up (up (up P 111 1 ((2 : Nat) : Int)) 111 2 rc5) 111 3 0) 111 4 0) 111 4 = 0); (clear p_tx gc4_m gc5_m; omega), jn_0 T⟩) (TX.fr (F := ([(46, 2), (46, 3), (46, 4)], [])) iv2 (FrX.s (FrX.s (FrX.s FrX.rf (⟨by decide, rfl⟩ : kx 111 46) rfl) (⟨by decide, rfl⟩ : kx 111 46) rfl) (⟨by decide, rfl⟩ : kx 111 46) rfl) rfl) (OWN.fr (F := ([(46, 1), (46, 2), (46, 3), (46, 4)], [])) v_OWN (FrX.s (FrX.s (FrX.s (FrX.s FrX.rf (⟨by decide, rfl⟩ : kx 111 46) rfl) (⟨by decide, rfl⟩ : kx 111 46) rfl) (⟨by decide, rfl⟩ : kx 111 46) rfl) (⟨by decide, rfl⟩ : kx 111 46) rfl) rfl) (iv9) _ (fun Pc10 hBc10 hFc10 ec10_0 => ⟨rfl, ?_⟩)) cf_X7_step t_707 rfl (show kx 111 46 from (⟨by decide, rfl⟩ : kx 111 46)).1 ((show kx 111 46 from (⟨by decide, rfl⟩ : kx 111 46)).sh rfl) rfl rfl (Nat.le_of_ble_eq_true rfl) (by decide) rfl dX7_begin_39
  exact g_retV dX7_begin_42 rfl (hQ _ hBc10 (FrX.c (FrX.s (FrX.s (FrX.s (FrX.s FrX.rf (⟨by decide, rfl⟩ : kx 111 46) rfl) (⟨by decide, rfl⟩ : kx 111 46) rfl) (⟨by decide, rfl⟩ : kx 111 46) rfl) (⟨by decide, rfl⟩ : kx 111 46) rfl) hFc10 rfl) (TX.fr (F := ([(46, 2), (46, 3), (46, 4), (46, 5), (46, 6), (46, 7), (46, 8)], [])) iv2 (FrX.c (FrX.s (FrX.s (FrX.s FrX.rf (⟨by decide, rfl⟩ : kx 111 46) rfl) (⟨by decide, rfl⟩ : kx 111 46) rfl) (⟨by decide, rfl⟩ : kx 111 46) rfl) hFc10 rfl) rfl) ((XT.fr (F := ([(46, 3), (46, 4), (46, 5), (46, 6), (46, 7), (46, 8)], [])) iv9 (FrX.c FrX.rf hFc10 rfl) rfl)) (ec10_0))
/-! What the class answers: X6_fail. -/
set_option maxRecDepth 100000 in
set_option maxHeartbeats 4000000 in
theorem f_X6_fail (G : GT) (P : PH) (a1 : Int) (a2 : Int) (h_a1 : (-2147483648) ≤ a1 ∧ a1 ≤ 2147483647) (h_a2 : (-2147483648) ≤ a2 ∧ a2 ≤ 2147483647) (hB : BdX P) (Q : Option PV → PH → Prop) (hQ : ∀ (r : Int) (_ : 0 ≤ r ∧ r ≤ 1) (P1 : PH) (_ : BdX P1) (_ : FrX ([(45, 3), (45, 4)], []) P P1) (_ : P1 110 3 = a1 ∧ P1 110 4 = a2 ∧ r = 0), Q (some (vI r)) P1) : Ct WSX G 1 iX6_fail [vR 110, vI a1, vI a2] P Q := by
  refine Ct.of (by decide) (l0 := [(0, vR 110), (1, vI a1), (2, vI a2)]) rfl (Nat.le_of_ble_eq_true rfl) ?_
  refine g_aload_n dX6_fail_0 rfl ?_
  refine g_iload_n dX6_fail_1 rfl ?_
  refine x_p45_3 (⟨by decide, rfl⟩ : kx 110 45) pfX6_82 dX6_fail_2 ?_
  have hB1 := by_45_3 (z := a1) hB (⟨by decide, rfl⟩ : kx 110 45) ⟨by omega, by omega⟩
  refine g_aload_n dX6_fail_5 rfl ?_
  refine g_iload_n dX6_fail_6 rfl ?_
  refine x_p45_4 (⟨by decide, rfl⟩ : kx 110 45) pfX6_23 dX6_fail_7 ?_
  have hB2 := by_45_4 (z := a2) hB1 (⟨by decide, rfl⟩ : kx 110 45) ⟨by omega, by omega⟩
  refine g_iconst dX6_fail_10 ?_
  exact g_retZ dX6_fail_11 rfl (by decide) (hQ 0 (by decide) _ hB2 (FrX.s (FrX.s FrX.rf (⟨by decide, rfl⟩ : kx 110 45) rfl) (⟨by decide, rfl⟩ : kx 110 45) rfl) (by have q0 := (((up_k (by decide)).trans up_same) : (up (up P 110 3 a1) 110 4 a2) 110 3 = a1); have q1 := (up_same : (up (up P 110 3 a1) 110 4 a2) 110 4 = a2); omega))
/-! What the class answers: X6_failHere. -/
set_option maxRecDepth 100000 in
set_option maxHeartbeats 4000000 in
theorem f_X6_failHere (G : GT) (P : PH) (T : TT) (p : Int) (hB : BdX P) (z0 : XS T p P) (Q : Option PV → PH → Prop) (hQ : ∀ (r : Int) (_ : 0 ≤ r ∧ r ≤ 1) (P1 : PH) (_ : BdX P1) (_ : FrX ([(45, 3), (45, 4)], []) P P1) (_ : P1 110 3 = 1 ∧ P1 110 4 = fh T p ∧ r = 0), Q (some (vI r)) P1) : Ct WSX G 1 iX6_failHere [vR 110] P Q := by
  refine Ct.of (by decide) (l0 := [(0, vR 110)]) rfl (Nat.le_of_ble_eq_true rfl) ?_
  have hb := z0.b
  have h6 : tK T p = 4 → P 111 6 = tS T p := z0.bad
  have hfh := fh_s T p
  refine g_aload_n dX6_failHere_0 rfl ?_
  refine g_iconst dX6_failHere_1 ?_
  refine x_p45_3 (⟨by decide, rfl⟩ : kx 110 45) pfX6_82 dX6_failHere_2 ?_
  have hB1 := by_45_3 (z := 1) hB (⟨by decide, rfl⟩ : kx 110 45) (by decide)
  refine g_aload_n dX6_failHere_5 rfl ?_
  refine g_aload_n dX6_failHere_6 rfl ?_
  refine x_g45_0 (n := 111) (⟨by decide, rfl⟩ : kx 110 45) ffX6_12 dX6_failHere_7 rfl ?_
  refine x_g46_4 (z := (P 111 4)) (⟨by decide, rfl⟩ : kx 111 46) ffX6_40 dX6_failHere_10 ((up_o (kx.ne (⟨by decide, rfl⟩ : kx 111 46) (⟨by decide, rfl⟩ : kx 110 45) rfl)).trans rfl) ?_
  refine g_iconst dX6_failHere_13 ?_
  have f2 := bx_46_4 (o := 111) hB (⟨by decide, rfl⟩ : kx 111 46)
  refine g_icmp_ne (tgt := 27) dX6_failHere_14 (by decide) ⟨by have q0 := bx_46_4 (o := 111) hB (⟨by decide, rfl⟩ : kx 111 46); (clear hb h6 hfh; omega), by have q0 := bx_46_4 (o := 111) hB (⟨by decide, rfl⟩ : kx 111 46); (clear hb h6 hfh; omega)⟩ (by decide) (fun k3 => ?_) (fun k3 => ?_)
  · skip
    refine g_aload_n dX6_failHere_27 rfl ?_
    refine x_g45_0 (n := 111) (⟨by decide, rfl⟩ : kx 110 45) ffX6_12 dX6_failHere_28 rfl ?_
    refine x_g46_5 (z := (P 111 5)) (⟨by decide, rfl⟩ : kx 111 46) ffX6_72 dX6_failHere_31 ((up_o (kx.ne (⟨by decide, rfl⟩ : kx 111 46) (⟨by decide, rfl⟩ : kx 110 45) rfl)).trans rfl) ?_
    refine x_p45_4 (⟨by decide, rfl⟩ : kx 110 45) pfX6_23 dX6_failHere_34 ?_
    have hB4 := by_45_4 (z := (P 111 5)) hB1 (⟨by decide, rfl⟩ : kx 110 45) ⟨by have q0 := bx_46_5 (o := 111) hB (⟨by decide, rfl⟩ : kx 111 46); (clear hb h6 hfh k3; omega), by have q0 := bx_46_5 (o := 111) hB (⟨by decide, rfl⟩ : kx 111 46); (clear hb h6 hfh k3; omega)⟩
    refine g_iconst dX6_failHere_37 ?_
    exact g_retZ dX6_failHere_38 rfl (by decide) (hQ 0 (by decide) _ hB4 (FrX.s (FrX.s FrX.rf (⟨by decide, rfl⟩ : kx 110 45) rfl) (⟨by decide, rfl⟩ : kx 110 45) rfl) (by have q0 := (((up_k (by decide)).trans up_same) : (up (up P 110 3 1) 110 4 (P 111 5)) 110 3 = 1); have q1 := (up_same : (up (up P 110 3 1) 110 4 (P 111 5)) 110 4 = (P 111 5)); have q2 := bx_46_5 (o := 111) hB (⟨by decide, rfl⟩ : kx 111 46); (omega)))
  · skip
    refine g_aload_n dX6_failHere_17 rfl ?_
    refine x_g45_0 (n := 111) (⟨by decide, rfl⟩ : kx 110 45) ffX6_12 dX6_failHere_18 rfl ?_
    refine x_g46_6 (z := (P 111 6)) (⟨by decide, rfl⟩ : kx 111 46) ffX6_86 dX6_failHere_21 ((up_o (kx.ne (⟨by decide, rfl⟩ : kx 111 46) (⟨by decide, rfl⟩ : kx 110 45) rfl)).trans rfl) ?_
    refine g_goto (tgt := 34) dX6_failHere_24 (by decide) ?_
    refine x_p45_4 (⟨by decide, rfl⟩ : kx 110 45) pfX6_23 dX6_failHere_34 ?_
    have hB5 := by_45_4 (z := (P 111 6)) hB1 (⟨by decide, rfl⟩ : kx 110 45) ⟨by have q0 := bx_46_6 (o := 111) hB (⟨by decide, rfl⟩ : kx 111 46); (clear hb h6 hfh k3; omega), by have q0 := bx_46_6 (o := 111) hB (⟨by decide, rfl⟩ : kx 111 46); (clear hb h6 hfh k3; omega)⟩
    refine g_iconst dX6_failHere_37 ?_
    exact g_retZ dX6_failHere_38 rfl (by decide) (hQ 0 (by decide) _ hB5 (FrX.s (FrX.s FrX.rf (⟨by decide, rfl⟩ : kx 110 45) rfl) (⟨by decide, rfl⟩ : kx 110 45) rfl) (by have q0 := (((up_k (by decide)).trans up_same) : (up (up P 110 3 1) 110 4 (P 111 6)) 110 3 = 1); have q1 := (up_same : (up (up P 110 3 1) 110 4 (P 111 6)) 110 4 = (P 111 6)); have q2 := bx_46_6 (o := 111) hB (⟨by decide, rfl⟩ : kx 111 46); (omega)))
/-! What the class answers: X6_begin_B16. -/
set_option maxRecDepth 100000 in
set_option maxHeartbeats 4000000 in
theorem f_X6_begin_B16 (G : GT) (P : PH) (T : TT) (hB : BdX P) (p_tx : P 1 1 = T.2 ∧ ∀ i : Int, 0 ≤ i → i < T.2 → P 2 i = T.1 i) (v_OWN : OWN P) (Q : Option PV → PH → Prop) (hQ : ∀ (P1 : PH) (_ : BdX P1) (_ : FrX ([(45, 3), (45, 4), (46, 1), (46, 2), (46, 3), (46, 4), (46, 5), (46, 6), (46, 7), (46, 8)], []) P P1) (_ : P1 110 3 = 0 ∧ P1 110 4 = -1) (_ : TX P1) (_ : XT T P1) (_ : XS T 0 P1), Q none P1) : Ct WSX G 4 iX6_begin [vR 110, vR 1] P Q := by
  refine Ct.of (by decide) (l0 := [(0, vR 110), (1, vR 1)]) rfl (Nat.le_of_ble_eq_true rfl) ?_
  refine g_aload_n dX6_begin_0 rfl ?_
  refine g_iconst dX6_begin_1 ?_
  refine x_p45_3 (⟨by decide, rfl⟩ : kx 110 45) pfX6_82 dX6_begin_2 ?_
  have hB1 := by_45_3 (z := 0) hB (⟨by decide, rfl⟩ : kx 110 45) (by decide)
  refine g_aload_n dX6_begin_5 rfl ?_
  refine g_iconst dX6_begin_6 ?_
  refine x_p45_4 (⟨by decide, rfl⟩ : kx 110 45) pfX6_23 dX6_begin_7 ?_
  have hB2 := by_45_4 (z := (-1)) hB1 (⟨by decide, rfl⟩ : kx 110 45) (by decide)
  refine g_aload_n dX6_begin_10 rfl ?_
  refine x_g45_0 (n := 111) (⟨by decide, rfl⟩ : kx 110 45) ffX6_12 dX6_begin_11 rfl ?_
  refine g_aload_n dX6_begin_14 rfl ?_
  refine g_vV (av := [vR 1]) (o := 111) (st := []) (f_X7_begin_B16 G (up (up P 110 3 0) 110 4 (-1)) T  hB2 (⟨by have q := (((up_o (kx.ne (⟨by decide, rfl⟩ : kx 1 1) (⟨by decide, rfl⟩ : kx 110 45) rfl)).trans ((up_o (kx.ne (⟨by decide, rfl⟩ : kx 1 1) (⟨by decide, rfl⟩ : kx 110 45) rfl)).trans rfl)) : (up (up P 110 3 0) 110 4 (-1)) 1 1 = (P 1 1)); have q1 := p_tx.1; (clear p_tx; omega), fun i h0 h1 => (((up_o (kx.ne (⟨by decide, rfl⟩ : kx 2 2) (⟨by decide, rfl⟩ : kx 110 45) rfl)).trans ((up_o (kx.ne (⟨by decide, rfl⟩ : kx 2 2) (⟨by decide, rfl⟩ : kx 110 45) rfl)).trans rfl))).trans (p_tx.2 i h0 h1)⟩) (OWN.fr (F := ([(45, 3), (45, 4)], [])) v_OWN (FrX.s (FrX.s FrX.rf (⟨by decide, rfl⟩ : kx 110 45) rfl) (⟨by decide, rfl⟩ : kx 110 45) rfl) rfl) _ (fun Pc3 hBc3 hFc3 vc3_TX ec3_0 ec3_1 => ⟨rfl, ?_⟩)) cf_X7_begin t_699 rfl (show kx 111 46 from (⟨by decide, rfl⟩ : kx 111 46)).1 ((show kx 111 46 from (⟨by decide, rfl⟩ : kx 111 46)).sh rfl) rfl rfl (Nat.le_of_ble_eq_true rfl) (by decide) rfl dX6_begin_15
  exact g_retV dX6_begin_18 rfl (hQ _ hBc3 (FrX.c (FrX.s (FrX.s FrX.rf (⟨by decide, rfl⟩ : kx 110 45) rfl) (⟨by decide, rfl⟩ : kx 110 45) rfl) hFc3 rfl) (by have q0 := (((FrX.g hFc3 (⟨by decide, rfl⟩ : kx 110 45) rfl).trans ((up_k (by decide)).trans up_same)) : Pc3 110 3 = 0); have q1 := (((FrX.g hFc3 (⟨by decide, rfl⟩ : kx 110 45) rfl).trans up_same) : Pc3 110 4 = (-1)); (clear p_tx; omega)) vc3_TX (ec3_0) (ec3_1))
/-! What the class answers: X6_readSign. -/
set_option maxRecDepth 100000 in
set_option maxHeartbeats 4000000 in
theorem f_X6_readSign (G : GT) (P : PH) (T : TT) (p : Int) (a1 : Int) (h_a1 : (-2147483648) ≤ a1 ∧ a1 ≤ 2147483647) (hB : BdX P) (v_TX : TX P) (v_OWN : OWN P) (z0 : XT T P) (z1 : XS T p P) (Q : Option PV → PH → Prop) (hQ : ∀ (r : Int) (_ : 0 ≤ r ∧ r ≤ 1) (P1 : PH) (_ : BdX P1) (_ : FrX ([(45, 3), (45, 4), (46, 3), (46, 4), (46, 5), (46, 6), (46, 7), (46, 8)], []) P P1) (_ : (r = 1 ∧ (sgn T a1 p).1 = 0 ∧ P1 110 3 = P 110 3 ∧ P1 110 4 = P 110 4) ∨ (r = 0 ∧ (sgn T a1 p).1 ≠ 0 ∧ P1 110 3 = (sgn T a1 p).1 ∧ P1 110 4 = (sgn T a1 p).2)) (_ : CP (sgn T a1 p).1 (XS T (sgn T a1 p).2) P1), Q (some (vI r)) P1) : Ct WSX G 3 iX6_readSign [vR 110, vI a1] P Q := by
  refine Ct.of (by decide) (l0 := [(0, vR 110), (1, vI a1)]) rfl (Nat.le_of_ble_eq_true rfl) ?_
  have hsg := sgn_s T a1 p
  refine g_aload_n dX6_readSign_0 rfl ?_
  refine x_g45_0 (n := 111) (⟨by decide, rfl⟩ : kx 110 45) ffX6_12 dX6_readSign_1 rfl ?_
  refine g_iload_n dX6_readSign_4 rfl ?_
  refine g_vI (av := [vI a1]) (o := 111) (st := []) (f_X7_isSign G P T p a1 ⟨by (clear hsg; omega), by (clear hsg; omega)⟩ hB (z1) _ (fun rc1 hc1 gc1_f => ⟨rc1, rfl, ?_⟩)) cf_X7_isSign t_801 rfl (show kx 111 46 from (⟨by decide, rfl⟩ : kx 111 46)).1 ((show kx 111 46 from (⟨by decide, rfl⟩ : kx 111 46)).sh rfl) rfl rfl (Nat.le_of_ble_eq_true rfl) (by decide) rfl dX6_readSign_5
  refine g_if_ne (tgt := 16) dX6_readSign_8 (by decide) ⟨by (clear hsg gc1_f; omega), by (clear hsg gc1_f; omega)⟩ (fun k2 => ?_) (fun k2 => ?_)
  · have k2n : 1 ≤ rc1 := by (clear hsg gc1_f; omega)
    clear k2
    have r_gc1_f := (gc1_f.resolve_right (by (clear hsg gc1_f; omega)))
    have r_hsg := (hsg.resolve_right (by (clear hsg gc1_f; omega)))
    refine g_aload_n dX6_readSign_16 rfl ?_
    refine x_g45_0 (n := 111) (⟨by decide, rfl⟩ : kx 110 45) ffX6_12 dX6_readSign_17 rfl ?_
    refine g_vV (av := []) (o := 111) (st := []) (f_X7_step G P T (tE T p)  hB ((z1.stp (by (clear hsg gc1_f; omega))).1) ((z1.stp (by (clear hsg gc1_f; omega))).2) v_TX v_OWN (z0) _ (fun Pc3 hBc3 hFc3 ec3_0 => ⟨rfl, ?_⟩)) cf_X7_step t_731 rfl (show kx 111 46 from (⟨by decide, rfl⟩ : kx 111 46)).1 ((show kx 111 46 from (⟨by decide, rfl⟩ : kx 111 46)).sh rfl) rfl rfl (Nat.le_of_ble_eq_true rfl) (by decide) rfl dX6_readSign_20
    refine g_iconst dX6_readSign_23 ?_
    exact g_retZ dX6_readSign_24 rfl (by decide) (hQ 1 (by decide) _ hBc3 (FrX.c FrX.rf hFc3 rfl) (by have q0 := (((FrX.g hFc3 (⟨by decide, rfl⟩ : kx 110 45) rfl).trans rfl) : Pc3 110 3 = (P 110 3)); have q1 := bx_45_3 (o := 110) hB (⟨by decide, rfl⟩ : kx 110 45); have q2 := (((FrX.g hFc3 (⟨by decide, rfl⟩ : kx 110 45) rfl).trans rfl) : Pc3 110 4 = (P 110 4)); have q3 := bx_45_4 (o := 110) hB (⟨by decide, rfl⟩ : kx 110 45); (clear hsg gc1_f; omega)) ((fun h0 => by first | exact (by first | (rw [show (sgn T a1 p).2 = (tE T p) by (clear hsg gc1_f; omega)]; exact ec3_0)) | (exfalso; (first | (clear hsg gc1_f; omega) | (clear hsg; omega) | (clear gc1_f; omega) | omega)))))
  · skip
    skip
    refine g_aload_n dX6_readSign_11 rfl ?_
    refine g_vI (av := []) (o := 110) (st := []) (f_X6_failHere G P T p  hB (z1) _ (fun rc4 hc4 Pc4 hBc4 hFc4 gc4_f => ⟨rc4, rfl, ?_⟩)) cf_X6_failHere t_723 rfl (show kx 110 45 from (⟨by decide, rfl⟩ : kx 110 45)).1 ((show kx 110 45 from (⟨by decide, rfl⟩ : kx 110 45)).sh rfl) rfl rfl (Nat.le_of_ble_eq_true rfl) (by decide) rfl dX6_readSign_12
    exact g_retZ dX6_readSign_15 rfl (by (clear hsg gc1_f k2; omega)) (hQ rc4 ⟨by (clear hsg gc1_f k2; omega), by (clear hsg gc1_f k2; omega)⟩ _ hBc4 (FrX.c FrX.rf hFc4 rfl) (by have q0 := bx_45_3 (o := 110) hBc4 (⟨by decide, rfl⟩ : kx 110 45); have q1 := bx_45_4 (o := 110) hBc4 (⟨by decide, rfl⟩ : kx 110 45); (omega)) ((fun h0 => by first | exact (by first | (rw [show (sgn T a1 p).2 = p by (omega)]; exact (XS.fr (F := ([(45, 3), (45, 4)], [])) z1 (FrX.c FrX.rf hFc4 rfl) rfl))) | (exfalso; (first | (clear hsg gc1_f k2; omega) | (clear hsg gc1_f; omega) | (clear hsg k2; omega) | (clear gc1_f k2; omega) | (clear hsg; omega) | omega)))))
/-! What the class answers: X6_readNumber. -/
set_option maxRecDepth 100000 in
set_option maxHeartbeats 4000000 in
theorem f_X6_readNumber (G : GT) (P : PH) (T : TT) (p : Int) (a1 : Int) (a2 : Int) (h_a1 : (-2147483648) ≤ a1 ∧ a1 ≤ 2147483647) (h_a2 : (-2147483648) ≤ a2 ∧ a2 ≤ 2147483647) (hB : BdX P) (p_lo : 0 ≤ a1) (v_TX : TX P) (v_OWN : OWN P) (z0 : XT T P) (z1 : XS T p P) (Q : Option PV → PH → Prop) (hQ : ∀ (r : Int) (_ : (-2147483648) ≤ r ∧ r ≤ 2147483647) (P1 : PH) (_ : BdX P1) (_ : FrX ([(45, 3), (45, 4), (46, 3), (46, 4), (46, 5), (46, 6), (46, 7), (46, 8)], []) P P1) (_ : (r = tV T p ∧ a1 ≤ r ∧ r ≤ a2 ∧ (num T a1 a2 p).1 = 0 ∧ P1 110 3 = P 110 3 ∧ P1 110 4 = P 110 4) ∨ (r = -1 ∧ (num T a1 a2 p).1 ≠ 0 ∧ P1 110 3 = (num T a1 a2 p).1 ∧ P1 110 4 = (num T a1 a2 p).2)) (_ : CP (num T a1 a2 p).1 (XS T (num T a1 a2 p).2) P1), Q (some (vI r)) P1) : Ct WSX G 3 iX6_readNumber [vR 110, vI a1, vI a2] P Q := by
  refine Ct.of (by decide) (l0 := [(0, vR 110), (1, vI a1), (2, vI a2)]) rfl (Nat.le_of_ble_eq_true rfl) ?_
  have hsg := num_s T a1 a2 p
  have hb := z1.b
  have hv : tK T p = 2 → P 111 7 = tV T p := fun h => (z1.tok (by (clear hsg hb; omega))).2
  refine g_aload_n dX6_readNumber_0 rfl ?_
  refine x_g45_0 (n := 111) (⟨by decide, rfl⟩ : kx 110 45) ffX6_12 dX6_readNumber_1 rfl ?_
  refine x_g46_4 (z := (P 111 4)) (⟨by decide, rfl⟩ : kx 111 46) ffX6_40 dX6_readNumber_4 rfl ?_
  refine g_iconst dX6_readNumber_7 ?_
  have f1 := bx_46_4 (o := 111) hB (⟨by decide, rfl⟩ : kx 111 46)
  refine g_icmp_eq (tgt := 18) dX6_readNumber_8 (by decide) ⟨by have q0 := bx_46_4 (o := 111) hB (⟨by decide, rfl⟩ : kx 111 46); (clear hsg hb hv; omega), by have q0 := bx_46_4 (o := 111) hB (⟨by decide, rfl⟩ : kx 111 46); (clear hsg hb hv; omega)⟩ (by decide) (fun k2 => ?_) (fun k2 => ?_)
  · skip
    refine g_aload_n dX6_readNumber_18 rfl ?_
    refine x_g45_0 (n := 111) (⟨by decide, rfl⟩ : kx 110 45) ffX6_12 dX6_readNumber_19 rfl ?_
    refine x_g46_7 (z := (P 111 7)) (⟨by decide, rfl⟩ : kx 111 46) ffX6_95 dX6_readNumber_22 rfl ?_
    refine g_istore_n (l1 := [(3, vI (P 111 7)), (0, vR 110), (1, vI a1), (2, vI a2)]) dX6_readNumber_25 (by decide) rfl ?_
    refine g_iload_n dX6_readNumber_26 rfl ?_
    refine g_iload_n dX6_readNumber_27 rfl ?_
    have f3 := bx_46_7 (o := 111) hB (⟨by decide, rfl⟩ : kx 111 46)
    refine g_icmp_lt (tgt := 36) dX6_readNumber_28 (by decide) ⟨by have q0 := bx_46_7 (o := 111) hB (⟨by decide, rfl⟩ : kx 111 46); (clear hsg hb hv k2; omega), by have q0 := bx_46_7 (o := 111) hB (⟨by decide, rfl⟩ : kx 111 46); (clear hsg hb hv k2; omega)⟩ ⟨by (clear hsg hb hv k2; omega), by (clear hsg hb hv k2; omega)⟩ (fun k4 => ?_) (fun k4 => ?_)
    · skip
      refine g_aload_n dX6_readNumber_36 rfl ?_
      refine g_iconst dX6_readNumber_37 ?_
      refine g_aload_n dX6_readNumber_38 rfl ?_
      refine x_g45_0 (n := 111) (⟨by decide, rfl⟩ : kx 110 45) ffX6_12 dX6_readNumber_39 rfl ?_
      refine x_g46_5 (z := (P 111 5)) (⟨by decide, rfl⟩ : kx 111 46) ffX6_72 dX6_readNumber_42 rfl ?_
      have f5 := bx_46_5 (o := 111) hB (⟨by decide, rfl⟩ : kx 111 46)
      refine g_vI (av := [vI 4, vI (P 111 5)]) (o := 110) (st := []) (f_X6_fail G P 4 (P 111 5) (by decide) ⟨by have q0 := bx_46_5 (o := 111) hB (⟨by decide, rfl⟩ : kx 111 46); (clear hsg hb hv k2 k4; omega), by have q0 := bx_46_5 (o := 111) hB (⟨by decide, rfl⟩ : kx 111 46); (clear hsg hb hv k2 k4; omega)⟩ hB  _ (fun rc6 hc6 Pc6 hBc6 hFc6 gc6_f => ⟨rc6, rfl, ?_⟩)) cf_X6_fail t_727 rfl (show kx 110 45 from (⟨by decide, rfl⟩ : kx 110 45)).1 ((show kx 110 45 from (⟨by decide, rfl⟩ : kx 110 45)).sh rfl) rfl rfl (Nat.le_of_ble_eq_true rfl) (by decide) rfl dX6_readNumber_45
      refine g_pop dX6_readNumber_48 rfl ?_
      refine g_iconst dX6_readNumber_49 ?_
      exact g_retI dX6_readNumber_50 rfl (hQ (-1) (by decide) _ hBc6 (FrX.c FrX.rf hFc6 rfl) (by have q0 := bx_45_3 (o := 110) hBc6 (⟨by decide, rfl⟩ : kx 110 45); have q1 := bx_45_4 (o := 110) hBc6 (⟨by decide, rfl⟩ : kx 110 45); (omega)) ((fun h0 => by first | exact (by first | (rw [show (num T a1 a2 p).2 = p by (omega)]; exact (XS.fr (F := ([(45, 3), (45, 4)], [])) z1 (FrX.c FrX.rf hFc6 rfl) rfl))) | (exfalso; (first | (clear hsg hb hv k2 k4; omega) | (clear hsg hb hv k2; omega) | (clear hsg hb hv k4; omega) | (clear hsg hb k2 k4; omega) | (clear hsg hv k2 k4; omega) | (clear hb hv k2 k4; omega) | (clear hsg hb hv; omega) | (clear hsg; omega) | omega)))))
    · skip
      refine g_iload_n dX6_readNumber_31 rfl ?_
      refine g_iload_n dX6_readNumber_32 rfl ?_
      refine g_icmp_le (tgt := 51) dX6_readNumber_33 (by decide) ⟨by have q0 := bx_46_7 (o := 111) hB (⟨by decide, rfl⟩ : kx 111 46); (clear hsg hb hv k2 k4; omega), by have q0 := bx_46_7 (o := 111) hB (⟨by decide, rfl⟩ : kx 111 46); (clear hsg hb hv k2 k4; omega)⟩ ⟨by (clear hsg hb hv k2 k4; omega), by (clear hsg hb hv k2 k4; omega)⟩ (fun k7 => ?_) (fun k7 => ?_)
      · skip
        refine g_aload_n dX6_readNumber_51 rfl ?_
        refine x_g45_0 (n := 111) (⟨by decide, rfl⟩ : kx 110 45) ffX6_12 dX6_readNumber_52 rfl ?_
        refine g_vV (av := []) (o := 111) (st := []) (f_X7_step G P T (tE T p)  hB ((z1.stp (by (clear hsg; omega))).1) ((z1.stp (by (clear hsg; omega))).2) v_TX v_OWN (z0) _ (fun Pc8 hBc8 hFc8 ec8_0 => ⟨rfl, ?_⟩)) cf_X7_step t_731 rfl (show kx 111 46 from (⟨by decide, rfl⟩ : kx 111 46)).1 ((show kx 111 46 from (⟨by decide, rfl⟩ : kx 111 46)).sh rfl) rfl rfl (Nat.le_of_ble_eq_true rfl) (by decide) rfl dX6_readNumber_55
        refine g_iload_n dX6_readNumber_58 rfl ?_
        exact g_retI dX6_readNumber_59 rfl (hQ (P 111 7) ⟨by have q0 := bx_46_7 (o := 111) hB (⟨by decide, rfl⟩ : kx 111 46); (clear hsg hb hv k2 k4; omega), by have q0 := bx_46_7 (o := 111) hB (⟨by decide, rfl⟩ : kx 111 46); (clear hsg hb hv k2 k4; omega)⟩ _ hBc8 (FrX.c FrX.rf hFc8 rfl) (by have q0 := bx_46_7 (o := 111) hB (⟨by decide, rfl⟩ : kx 111 46); have q1 := (((FrX.g hFc8 (⟨by decide, rfl⟩ : kx 110 45) rfl).trans rfl) : Pc8 110 3 = (P 110 3)); have q2 := bx_45_3 (o := 110) hB (⟨by decide, rfl⟩ : kx 110 45); have q3 := (((FrX.g hFc8 (⟨by decide, rfl⟩ : kx 110 45) rfl).trans rfl) : Pc8 110 4 = (P 110 4)); have q4 := bx_45_4 (o := 110) hB (⟨by decide, rfl⟩ : kx 110 45); (omega)) ((fun h0 => by first | exact (by first | (rw [show (num T a1 a2 p).2 = (tE T p) by (clear hb hv k2 k4; omega)]; exact ec8_0)) | (exfalso; (first | (clear hsg hb hv k2 k4; omega) | (clear hsg hb hv k2; omega) | (clear hsg hb hv k4; omega) | (clear hsg hb k2 k4; omega) | (clear hsg hv k2 k4; omega) | (clear hb hv k2 k4; omega) | (clear hsg hb hv; omega) | (clear hsg; omega) | omega)))))
      · skip
        refine g_aload_n dX6_readNumber_36 rfl ?_
        refine g_iconst dX6_readNumber_37 ?_
        refine g_aload_n dX6_readNumber_38 rfl ?_
        refine x_g45_0 (n := 111) (⟨by decide, rfl⟩ : kx 110 45) ffX6_12 dX6_readNumber_39 rfl ?_
        refine x_g46_5 (z := (P 111 5)) (⟨by decide, rfl⟩ : kx 111 46) ffX6_72 dX6_readNumber_42 rfl ?_
        have f9 := bx_46_5 (o := 111) hB (⟨by decide, rfl⟩ : kx 111 46)
        refine g_vI (av := [vI 4, vI (P 111 5)]) (o := 110) (st := []) (f_X6_fail G P 4 (P 111 5) (by decide) ⟨by have q0 := bx_46_5 (o := 111) hB (⟨by decide, rfl⟩ : kx 111 46); (clear hsg hb hv k2 k4; omega), by have q0 := bx_46_5 (o := 111) hB (⟨by decide, rfl⟩ : kx 111 46); (clear hsg hb hv k2 k4; omega)⟩ hB  _ (fun rc10 hc10 Pc10 hBc10 hFc10 gc10_f => ⟨rc10, rfl, ?_⟩)) cf_X6_fail t_727 rfl (show kx 110 45 from (⟨by decide, rfl⟩ : kx 110 45)).1 ((show kx 110 45 from (⟨by decide, rfl⟩ : kx 110 45)).sh rfl) rfl rfl (Nat.le_of_ble_eq_true rfl) (by decide) rfl dX6_readNumber_45
        refine g_pop dX6_readNumber_48 rfl ?_
        refine g_iconst dX6_readNumber_49 ?_
        exact g_retI dX6_readNumber_50 rfl (hQ (-1) (by decide) _ hBc10 (FrX.c FrX.rf hFc10 rfl) (by have q0 := bx_45_3 (o := 110) hBc10 (⟨by decide, rfl⟩ : kx 110 45); have q1 := bx_45_4 (o := 110) hBc10 (⟨by decide, rfl⟩ : kx 110 45); (omega)) ((fun h0 => by first | exact (by first | (rw [show (num T a1 a2 p).2 = p by (omega)]; exact (XS.fr (F := ([(45, 3), (45, 4)], [])) z1 (FrX.c FrX.rf hFc10 rfl) rfl))) | (exfalso; (first | (clear hsg hb hv k2 k4; omega) | (clear hsg hb hv k2; omega) | (clear hsg hb hv k4; omega) | (clear hsg hb k2 k4; omega) | (clear hsg hv k2 k4; omega) | (clear hb hv k2 k4; omega) | (clear hsg hb hv; omega) | (clear hsg; omega) | omega)))))
  · skip
    refine g_aload_n dX6_readNumber_11 rfl ?_
    refine g_vI (av := []) (o := 110) (st := []) (f_X6_failHere G P T p  hB (z1) _ (fun rc11 hc11 Pc11 hBc11 hFc11 gc11_f => ⟨rc11, rfl, ?_⟩)) cf_X6_failHere t_723 rfl (show kx 110 45 from (⟨by decide, rfl⟩ : kx 110 45)).1 ((show kx 110 45 from (⟨by decide, rfl⟩ : kx 110 45)).sh rfl) rfl rfl (Nat.le_of_ble_eq_true rfl) (by decide) rfl dX6_readNumber_12
    refine g_pop dX6_readNumber_15 rfl ?_
    refine g_iconst dX6_readNumber_16 ?_
    exact g_retI dX6_readNumber_17 rfl (hQ (-1) (by decide) _ hBc11 (FrX.c FrX.rf hFc11 rfl) (by have q0 := bx_45_3 (o := 110) hBc11 (⟨by decide, rfl⟩ : kx 110 45); have q1 := bx_45_4 (o := 110) hBc11 (⟨by decide, rfl⟩ : kx 110 45); (omega)) ((fun h0 => by first | exact (by first | (rw [show (num T a1 a2 p).2 = p by (omega)]; exact (XS.fr (F := ([(45, 3), (45, 4)], [])) z1 (FrX.c FrX.rf hFc11 rfl) rfl))) | (exfalso; (first | (clear hsg hb hv k2; omega) | (clear hsg hb hv; omega) | (clear hsg hb k2; omega) | (clear hsg hv k2; omega) | (clear hb hv k2; omega) | (clear hsg hb; omega) | omega)))))
/-! What the class answers: X6_readRule. -/
set_option maxRecDepth 100000 in
set_option maxHeartbeats 4000000 in
theorem f_X6_readRule (G : GT) (P : PH) (T : TT) (p : Int) (M : PH) (o : Nat) (k_o : kx o 28) (hB : BdX P) (p_k0 : tO T p = 5) (v_TX : TX P) (v_OWN : OWN P) (z0 : XT T P) (z1 : XS T p P) (z2 : XM M o P) (z3 : RT o P) (Q : Option PV → PH → Prop) (hQ : ∀ (r : Int) (_ : 0 ≤ r ∧ r ≤ 1) (P1 : PH) (_ : BdX P1) (_ : FrX ([(28, 9), (45, 3), (45, 4), (46, 3), (46, 4), (46, 5), (46, 6), (46, 7), (46, 8)], []) P P1) (_ : (r = 1 ∧ (num T 0 3 (tE T p)).1 = 0 ∧ P1 110 3 = P 110 3 ∧ P1 110 4 = P 110 4) ∨ (r = 0 ∧ (num T 0 3 (tE T p)).1 ≠ 0 ∧ P1 110 3 = (num T 0 3 (tE T p)).1 ∧ P1 110 4 = (num T 0 3 (tE T p)).2)) (_ : CP (num T 0 3 (tE T p)).1 (XS T (num T 0 3 (tE T p)).2) P1) (_ : CP (num T 0 3 (tE T p)).1 (XM (up M 0 3 (tV T (tE T p))) o) P1) (_ : KT (tbX o) P P1), Q (some (vI r)) P1) : Ct WSX G 4 iX6_readRule [vR 110] P Q := by
  refine Ct.of (by decide) (l0 := [(0, vR 110)]) rfl (Nat.le_of_ble_eq_true rfl) ?_
  have kt0 : KT (tbX o) P P := KT.rf
  have hor := tO_r T p
  have hk1 : tK T p = 1 := by (omega)
  refine g_aload_n dX6_readRule_0 rfl ?_
  refine x_g45_0 (n := 111) (⟨by decide, rfl⟩ : kx 110 45) ffX6_12 dX6_readRule_1 rfl ?_
  refine g_vV (av := []) (o := 111) (st := []) (f_X7_step G P T (tE T p)  hB ((z1.stp (by (clear hor; omega))).1) ((z1.stp (by (clear hor; omega))).2) v_TX v_OWN (z0) _ (fun Pc1 hBc1 hFc1 ec1_0 => ⟨rfl, ?_⟩)) cf_X7_step t_731 rfl (show kx 111 46 from (⟨by decide, rfl⟩ : kx 111 46)).1 ((show kx 111 46 from (⟨by decide, rfl⟩ : kx 111 46)).sh rfl) rfl rfl (Nat.le_of_ble_eq_true rfl) (by decide) rfl dX6_readRule_4
  refine g_aload_n dX6_readRule_7 rfl ?_
  refine x_g45_2 (n := o) (⟨by decide, rfl⟩ : kx 110 45) ffX6_27 dX6_readRule_8 (RT.fr (F := ([(46, 3), (46, 4), (46, 5), (46, 6), (46, 7), (46, 8)], [])) z3 (FrX.c FrX.rf hFc1 rfl) rfl) ?_
  refine g_aload_n dX6_readRule_11 rfl ?_
  refine g_iconst dX6_readRule_12 ?_
  refine g_iconst dX6_readRule_13 ?_
  refine g_vI (av := [vI 0, vI 3]) (o := 110) (st := [vR o]) (f_X6_readNumber G Pc1 T (tE T p) 0 3 (by decide) (by decide) hBc1 (by (clear hor; omega)) (TX.fr (F := ([(46, 3), (46, 4), (46, 5), (46, 6), (46, 7), (46, 8)], [])) v_TX (FrX.c FrX.rf hFc1 rfl) rfl) (OWN.fr (F := ([(46, 3), (46, 4), (46, 5), (46, 6), (46, 7), (46, 8)], [])) v_OWN (FrX.c FrX.rf hFc1 rfl) rfl) ((XT.fr (F := ([(46, 3), (46, 4), (46, 5), (46, 6), (46, 7), (46, 8)], [])) z0 (FrX.c FrX.rf hFc1 rfl) rfl)) (ec1_0) _ (fun rc2 hc2 Pc2 hBc2 hFc2 gc2_n ec2_0 => ⟨rc2, rfl, ?_⟩)) cf_X6_readNumber t_816 rfl (show kx 110 45 from (⟨by decide, rfl⟩ : kx 110 45)).1 ((show kx 110 45 from (⟨by decide, rfl⟩ : kx 110 45)).sh rfl) rfl rfl (Nat.le_of_ble_eq_true rfl) (by decide) rfl dX6_readRule_14
  have zq3 : Pc1 110 3 = (P 110 3) := ((FrX.g hFc1 (⟨by decide, rfl⟩ : kx 110 45) rfl).trans rfl)
  have zq4 : Pc1 110 4 = (P 110 4) := ((FrX.g hFc1 (⟨by decide, rfl⟩ : kx 110 45) rfl).trans rfl)
  refine x_p28_9 k_o pfX6_102 dX6_readRule_17 ?_
  have hB5 := by_28_9 (z := rc2) hBc2 k_o ⟨by (clear hor gc2_n; omega), by (clear hor gc2_n; omega)⟩
  have kt6 : KT (tbX o) P (up Pc2 o 9 rc2) := KT.w (KT.fr (F := ([(45, 3), (45, 4), (46, 3), (46, 4), (46, 5), (46, 6), (46, 7), (46, 8)], [])) kt0 (FrX.c (FrX.c FrX.rf hFc1 rfl) hFc2 rfl) rfl) (Or.inl rfl)
  refine g_aload_n dX6_readRule_20 rfl ?_
  refine x_g45_2 (n := o) (⟨by decide, rfl⟩ : kx 110 45) ffX6_27 dX6_readRule_21 (RT.fr (F := ([(28, 9), (45, 3), (45, 4), (46, 3), (46, 4), (46, 5), (46, 6), (46, 7), (46, 8)], [])) z3 (FrX.s (FrX.c (FrX.c FrX.rf hFc1 rfl) hFc2 rfl) k_o rfl) rfl) ?_
  refine x_g28_9 (z := rc2) k_o ffX6_102 dX6_readRule_24 up_same ?_
  refine g_iconst dX6_readRule_27 ?_
  refine g_icmp_eq (tgt := 35) dX6_readRule_28 (by decide) ⟨by (clear hor gc2_n; omega), by (clear hor gc2_n; omega)⟩ (by decide) (fun k7 => ?_) (fun k7 => ?_)
  · skip
    refine g_iconst dX6_readRule_35 ?_
    exact g_retZ dX6_readRule_36 rfl (by decide) (hQ 0 (by decide) _ hB5 (FrX.s (FrX.c (FrX.c FrX.rf hFc1 rfl) hFc2 rfl) k_o rfl) (by have q0 := (((up_o (kx.ne (⟨by decide, rfl⟩ : kx 110 45) k_o rfl)).trans rfl) : (up Pc2 o 9 rc2) 110 3 = (Pc2 110 3)); have q1 := bx_45_3 (o := 110) hBc2 (⟨by decide, rfl⟩ : kx 110 45); have q2 := (((up_o (kx.ne (⟨by decide, rfl⟩ : kx 110 45) k_o rfl)).trans rfl) : (up Pc2 o 9 rc2) 110 4 = (Pc2 110 4)); have q3 := bx_45_4 (o := 110) hBc2 (⟨by decide, rfl⟩ : kx 110 45); (clear hor; omega)) ((fun h0 => (XS.fr (F := ([(28, 9)], [])) (ec2_0 h0) (FrX.s FrX.rf k_o rfl) rfl))) (fun h0 => z2.rule ((up_k (by decide)).trans ((FrX.g hFc2 k_o rfl).trans ((FrX.g hFc1 k_o rfl).trans rfl))) ((up_k (by decide)).trans ((FrX.g hFc2 k_o rfl).trans ((FrX.g hFc1 k_o rfl).trans rfl))) ((up_k (by decide)).trans ((FrX.g hFc2 k_o rfl).trans ((FrX.g hFc1 k_o rfl).trans rfl))) ((up_same).trans (by (clear hor k7; omega))) ((up_k (by decide)).trans ((FrX.g hFc2 k_o rfl).trans ((FrX.g hFc1 k_o rfl).trans rfl))) (fun j => ((up_o (kx.ne (ck_28_1 k_o) k_o rfl)).trans ((FrX.g hFc2 (ck_28_1 k_o) rfl).trans ((FrX.g hFc1 (ck_28_1 k_o) rfl).trans rfl)))) (fun j => ((up_o (kx.ne (ck_28_4 k_o) k_o rfl)).trans ((FrX.g hFc2 (ck_28_4 k_o) rfl).trans ((FrX.g hFc1 (ck_28_4 k_o) rfl).trans rfl))))) (kt6))
  · skip
    refine g_iconst dX6_readRule_31 ?_
    refine g_goto (tgt := 36) dX6_readRule_32 (by decide) ?_
    exact g_retZ dX6_readRule_36 rfl (by decide) (hQ 1 (by decide) _ hB5 (FrX.s (FrX.c (FrX.c FrX.rf hFc1 rfl) hFc2 rfl) k_o rfl) (by have q0 := (((up_o (kx.ne (⟨by decide, rfl⟩ : kx 110 45) k_o rfl)).trans rfl) : (up Pc2 o 9 rc2) 110 3 = (Pc2 110 3)); have q1 := bx_45_3 (o := 110) hBc2 (⟨by decide, rfl⟩ : kx 110 45); have q2 := (((up_o (kx.ne (⟨by decide, rfl⟩ : kx 110 45) k_o rfl)).trans rfl) : (up Pc2 o 9 rc2) 110 4 = (Pc2 110 4)); have q3 := bx_45_4 (o := 110) hBc2 (⟨by decide, rfl⟩ : kx 110 45); (clear hor; omega)) ((fun h0 => (XS.fr (F := ([(28, 9)], [])) (ec2_0 h0) (FrX.s FrX.rf k_o rfl) rfl))) (fun h0 => z2.rule ((up_k (by decide)).trans ((FrX.g hFc2 k_o rfl).trans ((FrX.g hFc1 k_o rfl).trans rfl))) ((up_k (by decide)).trans ((FrX.g hFc2 k_o rfl).trans ((FrX.g hFc1 k_o rfl).trans rfl))) ((up_k (by decide)).trans ((FrX.g hFc2 k_o rfl).trans ((FrX.g hFc1 k_o rfl).trans rfl))) ((up_same).trans (by (clear hor k7; omega))) ((up_k (by decide)).trans ((FrX.g hFc2 k_o rfl).trans ((FrX.g hFc1 k_o rfl).trans rfl))) (fun j => ((up_o (kx.ne (ck_28_1 k_o) k_o rfl)).trans ((FrX.g hFc2 (ck_28_1 k_o) rfl).trans ((FrX.g hFc1 (ck_28_1 k_o) rfl).trans rfl)))) (fun j => ((up_o (kx.ne (ck_28_4 k_o) k_o rfl)).trans ((FrX.g hFc2 (ck_28_4 k_o) rfl).trans ((FrX.g hFc1 (ck_28_4 k_o) rfl).trans rfl))))) (kt6))
/-! What the class answers: X6_readBudget. -/
set_option maxRecDepth 100000 in
set_option maxHeartbeats 4000000 in
theorem f_X6_readBudget (G : GT) (P : PH) (T : TT) (p : Int) (M : PH) (o : Nat) (k_o : kx o 28) (hB : BdX P) (p_k0 : tO T p = 6) (v_TX : TX P) (v_OWN : OWN P) (z0 : XT T P) (z1 : XS T p P) (z2 : XM M o P) (z3 : RT o P) (Q : Option PV → PH → Prop) (hQ : ∀ (r : Int) (_ : 0 ≤ r ∧ r ≤ 1) (P1 : PH) (_ : BdX P1) (_ : FrX ([(28, 10), (45, 3), (45, 4), (46, 3), (46, 4), (46, 5), (46, 6), (46, 7), (46, 8)], []) P P1) (_ : (r = 1 ∧ (num T 1 999 (tE T p)).1 = 0 ∧ P1 110 3 = P 110 3 ∧ P1 110 4 = P 110 4) ∨ (r = 0 ∧ (num T 1 999 (tE T p)).1 ≠ 0 ∧ P1 110 3 = (num T 1 999 (tE T p)).1 ∧ P1 110 4 = (num T 1 999 (tE T p)).2)) (_ : CP (num T 1 999 (tE T p)).1 (XS T (num T 1 999 (tE T p)).2) P1) (_ : CP (num T 1 999 (tE T p)).1 (XM (up M 0 4 (tV T (tE T p))) o) P1) (_ : KT (tbX o) P P1), Q (some (vI r)) P1) : Ct WSX G 4 iX6_readBudget [vR 110] P Q := by
  refine Ct.of (by decide) (l0 := [(0, vR 110)]) rfl (Nat.le_of_ble_eq_true rfl) ?_
  have kt0 : KT (tbX o) P P := KT.rf
  have hor := tO_r T p
  have hk1 : tK T p = 1 := by (omega)
  refine g_aload_n dX6_readBudget_0 rfl ?_
  refine x_g45_0 (n := 111) (⟨by decide, rfl⟩ : kx 110 45) ffX6_12 dX6_readBudget_1 rfl ?_
  refine g_vV (av := []) (o := 111) (st := []) (f_X7_step G P T (tE T p)  hB ((z1.stp (by (clear hor; omega))).1) ((z1.stp (by (clear hor; omega))).2) v_TX v_OWN (z0) _ (fun Pc1 hBc1 hFc1 ec1_0 => ⟨rfl, ?_⟩)) cf_X7_step t_731 rfl (show kx 111 46 from (⟨by decide, rfl⟩ : kx 111 46)).1 ((show kx 111 46 from (⟨by decide, rfl⟩ : kx 111 46)).sh rfl) rfl rfl (Nat.le_of_ble_eq_true rfl) (by decide) rfl dX6_readBudget_4
  refine g_aload_n dX6_readBudget_7 rfl ?_
  refine x_g45_2 (n := o) (⟨by decide, rfl⟩ : kx 110 45) ffX6_27 dX6_readBudget_8 (RT.fr (F := ([(46, 3), (46, 4), (46, 5), (46, 6), (46, 7), (46, 8)], [])) z3 (FrX.c FrX.rf hFc1 rfl) rfl) ?_
  refine g_aload_n dX6_readBudget_11 rfl ?_
  refine g_iconst dX6_readBudget_12 ?_
  refine g_sipush dX6_readBudget_13 (by decide) ?_
  refine g_vI (av := [vI 1, vI 999]) (o := 110) (st := [vR o]) (f_X6_readNumber G Pc1 T (tE T p) 1 999 (by decide) (by decide) hBc1 (by (clear hor; omega)) (TX.fr (F := ([(46, 3), (46, 4), (46, 5), (46, 6), (46, 7), (46, 8)], [])) v_TX (FrX.c FrX.rf hFc1 rfl) rfl) (OWN.fr (F := ([(46, 3), (46, 4), (46, 5), (46, 6), (46, 7), (46, 8)], [])) v_OWN (FrX.c FrX.rf hFc1 rfl) rfl) ((XT.fr (F := ([(46, 3), (46, 4), (46, 5), (46, 6), (46, 7), (46, 8)], [])) z0 (FrX.c FrX.rf hFc1 rfl) rfl)) (ec1_0) _ (fun rc2 hc2 Pc2 hBc2 hFc2 gc2_n ec2_0 => ⟨rc2, rfl, ?_⟩)) cf_X6_readNumber t_816 rfl (show kx 110 45 from (⟨by decide, rfl⟩ : kx 110 45)).1 ((show kx 110 45 from (⟨by decide, rfl⟩ : kx 110 45)).sh rfl) rfl rfl (Nat.le_of_ble_eq_true rfl) (by decide) rfl dX6_readBudget_16
  have zq3 : Pc1 110 3 = (P 110 3) := ((FrX.g hFc1 (⟨by decide, rfl⟩ : kx 110 45) rfl).trans rfl)
  have zq4 : Pc1 110 4 = (P 110 4) := ((FrX.g hFc1 (⟨by decide, rfl⟩ : kx 110 45) rfl).trans rfl)
  refine x_p28_10 k_o pfX6_105 dX6_readBudget_19 ?_
  have hB5 := by_28_10 (z := rc2) hBc2 k_o ⟨by (clear hor gc2_n; omega), by (clear hor gc2_n; omega)⟩
  have kt6 : KT (tbX o) P (up Pc2 o 10 rc2) := KT.w (KT.fr (F := ([(45, 3), (45, 4), (46, 3), (46, 4), (46, 5), (46, 6), (46, 7), (46, 8)], [])) kt0 (FrX.c (FrX.c FrX.rf hFc1 rfl) hFc2 rfl) rfl) (Or.inl rfl)
  refine g_aload_n dX6_readBudget_22 rfl ?_
  refine x_g45_2 (n := o) (⟨by decide, rfl⟩ : kx 110 45) ffX6_27 dX6_readBudget_23 (RT.fr (F := ([(28, 10), (45, 3), (45, 4), (46, 3), (46, 4), (46, 5), (46, 6), (46, 7), (46, 8)], [])) z3 (FrX.s (FrX.c (FrX.c FrX.rf hFc1 rfl) hFc2 rfl) k_o rfl) rfl) ?_
  refine x_g28_10 (z := rc2) k_o ffX6_105 dX6_readBudget_26 up_same ?_
  refine g_iconst dX6_readBudget_29 ?_
  refine g_icmp_eq (tgt := 37) dX6_readBudget_30 (by decide) ⟨by (clear hor gc2_n; omega), by (clear hor gc2_n; omega)⟩ (by decide) (fun k7 => ?_) (fun k7 => ?_)
  · skip
    refine g_iconst dX6_readBudget_37 ?_
    exact g_retZ dX6_readBudget_38 rfl (by decide) (hQ 0 (by decide) _ hB5 (FrX.s (FrX.c (FrX.c FrX.rf hFc1 rfl) hFc2 rfl) k_o rfl) (by have q0 := (((up_o (kx.ne (⟨by decide, rfl⟩ : kx 110 45) k_o rfl)).trans rfl) : (up Pc2 o 10 rc2) 110 3 = (Pc2 110 3)); have q1 := bx_45_3 (o := 110) hBc2 (⟨by decide, rfl⟩ : kx 110 45); have q2 := (((up_o (kx.ne (⟨by decide, rfl⟩ : kx 110 45) k_o rfl)).trans rfl) : (up Pc2 o 10 rc2) 110 4 = (Pc2 110 4)); have q3 := bx_45_4 (o := 110) hBc2 (⟨by decide, rfl⟩ : kx 110 45); (clear hor; omega)) ((fun h0 => (XS.fr (F := ([(28, 10)], [])) (ec2_0 h0) (FrX.s FrX.rf k_o rfl) rfl))) (fun h0 => z2.budget ((up_k (by decide)).trans ((FrX.g hFc2 k_o rfl).trans ((FrX.g hFc1 k_o rfl).trans rfl))) ((up_k (by decide)).trans ((FrX.g hFc2 k_o rfl).trans ((FrX.g hFc1 k_o rfl).trans rfl))) ((up_k (by decide)).trans ((FrX.g hFc2 k_o rfl).trans ((FrX.g hFc1 k_o rfl).trans rfl))) ((up_k (by decide)).trans ((FrX.g hFc2 k_o rfl).trans ((FrX.g hFc1 k_o rfl).trans rfl))) ((up_same).trans (by (clear hor k7; omega))) (fun j => ((up_o (kx.ne (ck_28_1 k_o) k_o rfl)).trans ((FrX.g hFc2 (ck_28_1 k_o) rfl).trans ((FrX.g hFc1 (ck_28_1 k_o) rfl).trans rfl)))) (fun j => ((up_o (kx.ne (ck_28_4 k_o) k_o rfl)).trans ((FrX.g hFc2 (ck_28_4 k_o) rfl).trans ((FrX.g hFc1 (ck_28_4 k_o) rfl).trans rfl))))) (kt6))
  · skip
    refine g_iconst dX6_readBudget_33 ?_
    refine g_goto (tgt := 38) dX6_readBudget_34 (by decide) ?_
    exact g_retZ dX6_readBudget_38 rfl (by decide) (hQ 1 (by decide) _ hB5 (FrX.s (FrX.c (FrX.c FrX.rf hFc1 rfl) hFc2 rfl) k_o rfl) (by have q0 := (((up_o (kx.ne (⟨by decide, rfl⟩ : kx 110 45) k_o rfl)).trans rfl) : (up Pc2 o 10 rc2) 110 3 = (Pc2 110 3)); have q1 := bx_45_3 (o := 110) hBc2 (⟨by decide, rfl⟩ : kx 110 45); have q2 := (((up_o (kx.ne (⟨by decide, rfl⟩ : kx 110 45) k_o rfl)).trans rfl) : (up Pc2 o 10 rc2) 110 4 = (Pc2 110 4)); have q3 := bx_45_4 (o := 110) hBc2 (⟨by decide, rfl⟩ : kx 110 45); (clear hor; omega)) ((fun h0 => (XS.fr (F := ([(28, 10)], [])) (ec2_0 h0) (FrX.s FrX.rf k_o rfl) rfl))) (fun h0 => z2.budget ((up_k (by decide)).trans ((FrX.g hFc2 k_o rfl).trans ((FrX.g hFc1 k_o rfl).trans rfl))) ((up_k (by decide)).trans ((FrX.g hFc2 k_o rfl).trans ((FrX.g hFc1 k_o rfl).trans rfl))) ((up_k (by decide)).trans ((FrX.g hFc2 k_o rfl).trans ((FrX.g hFc1 k_o rfl).trans rfl))) ((up_k (by decide)).trans ((FrX.g hFc2 k_o rfl).trans ((FrX.g hFc1 k_o rfl).trans rfl))) ((up_same).trans (by (clear hor k7; omega))) (fun j => ((up_o (kx.ne (ck_28_1 k_o) k_o rfl)).trans ((FrX.g hFc2 (ck_28_1 k_o) rfl).trans ((FrX.g hFc1 (ck_28_1 k_o) rfl).trans rfl)))) (fun j => ((up_o (kx.ne (ck_28_4 k_o) k_o rfl)).trans ((FrX.g hFc2 (ck_28_4 k_o) rfl).trans ((FrX.g hFc1 (ck_28_4 k_o) rfl).trans rfl))))) (kt6))
