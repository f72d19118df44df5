/-! What the class answers: X3_isKind. -/
set_option maxRecDepth 100000 in
set_option maxHeartbeats 4000000 in
theorem f_X3_isKind (G : GT) (P : PH) (o0 : Nat) (a1 : Int) (k_o0 : kx o0 29) (h_a1 : (-2147483648) ≤ a1 ∧ a1 ≤ 2147483647) (hB : BdX P) (Q : Option PV → PH → Prop) (hQ : ∀ (r : Int) (_ : 0 ≤ r ∧ r ≤ 1) (_ : r = 0 ∨ (0 ≤ a1 ∧ a1 < P o0 9)) (_ : (r = 1 ∧ 0 ≤ a1 ∧ a1 < P o0 9) ∨ (r = 0 ∧ (a1 < 0 ∨ P o0 9 ≤ a1))), Q (some (vI r)) P) : Ct WSX G 1 iX3_isKind [vR o0, vI a1] P Q := by
  refine Ct.of (by decide) (l0 := [(0, vR o0), (1, vI a1)]) rfl (Nat.le_of_ble_eq_true rfl) ?_
  refine g_iload_n dX3_isKind_0 rfl ?_
  refine g_if_lt (tgt := 16) dX3_isKind_1 (by decide) ⟨by omega, by omega⟩ (fun k1 => ?_) (fun k1 => ?_)
  · refine g_iconst dX3_isKind_16 ?_
    exact g_retZ dX3_isKind_17 rfl (by decide) (hQ 0 (by decide) (by omega) (by omega))
  · refine g_iload_n dX3_isKind_4 rfl ?_
    refine g_aload_n dX3_isKind_5 rfl ?_
    refine x_g29_9 (z := (P o0 9)) k_o0 ffX3_39 dX3_isKind_6 rfl ?_
    have f2 := bx_29_9 (o := o0) hB k_o0
    refine g_icmp_ge (tgt := 16) dX3_isKind_9 (by decide) ⟨by omega, by omega⟩ ⟨by have q0 := bx_29_9 (o := o0) hB k_o0; omega, by have q0 := bx_29_9 (o := o0) hB k_o0; omega⟩ (fun k3 => ?_) (fun k3 => ?_)
    · refine g_iconst dX3_isKind_16 ?_
      exact g_retZ dX3_isKind_17 rfl (by decide) (hQ 0 (by decide) (by omega) (by omega))
    · refine g_iconst dX3_isKind_12 ?_
      refine g_goto (tgt := 17) dX3_isKind_13 (by decide) ?_
      exact g_retZ dX3_isKind_17 rfl (by decide) (hQ 1 (by decide) (by omega) (by omega))
/-! What the class answers: X3_sizeOf. -/
set_option maxRecDepth 100000 in
set_option maxHeartbeats 4000000 in
theorem f_X3_sizeOf (G : GT) (P : PH) (K : PH) (o0 : Nat) (a1 : Int) (k_o0 : kx o0 29) (h_a1 : (-2147483648) ≤ a1 ∧ a1 ≤ 2147483647) (hB : BdX P) (p_kb : -1 ≤ a1 ∧ a1 < K 0 0) (z0 : XK K o0 P) (Q : Option PV → PH → Prop) (hQ : ∀ (r : Int) (_ : (-2147483648) ≤ r ∧ r ≤ 2147483647) (_ : r = sz K a1), Q (some (vI r)) P) : Ct WSX G 1 iX3_sizeOf [vR o0, vI a1] P Q := by
  refine Ct.of (by decide) (l0 := [(0, vR o0), (1, vI a1)]) rfl (Nat.le_of_ble_eq_true rfl) ?_
  have hb := z0.b
  have hk : 0 ≤ a1 → P (crX o0 3) a1 = K 2 a1 := fun h => (z0.k h p_kb.2).2.2.2
  have hsz := sz_s K a1
  refine g_iload_n dX3_sizeOf_0 rfl ?_
  refine g_iconst dX3_sizeOf_1 ?_
  refine g_icmp_ne (tgt := 8) dX3_sizeOf_2 (by decide) ⟨by (first | (clear hb hk hsz; omega) | omega), by (first | (clear hb hk hsz; omega) | omega)⟩ (by decide) (fun k1 => ?_) (fun k1 => ?_)
  · first | (revert r_hsz; intro r_hsz) | have r_hsz := (hsz.resolve_right (by (clear hb hk hsz k1; omega))) | have r_hsz := (hsz.resolve_left (by (clear hb hk hsz k1; omega))) | skip
    refine g_iload_n dX3_sizeOf_8 rfl ?_
    refine g_if_lt (tgt := 29) dX3_sizeOf_9 (by decide) ⟨by (first | (clear hb hk hsz k1; omega) | omega), by (first | (clear hb hk hsz k1; omega) | omega)⟩ (fun k2 => ?_) (fun k2 => ?_)
    · first | (revert r_hsz; intro r_hsz) | have r_hsz := (hsz.resolve_right (by (clear hb hk hsz k1; omega))) | have r_hsz := (hsz.resolve_left (by (clear hb hk hsz k1; omega))) | skip
      refine g_iconst dX3_sizeOf_29 ?_
      exact g_retI dX3_sizeOf_30 rfl (hQ 0 (by decide) (by (first | (clear hb hk hsz k1; omega) | (clear hb hk hsz; omega) | (clear hb hk k1; omega) | (clear hb hsz k1; omega) | (clear hk hsz k1; omega) | (clear hb hk; omega) | omega)))
    · first | (revert r_hsz; intro r_hsz) | have r_hsz := (hsz.resolve_right (by (clear hb hk hsz k1; omega))) | have r_hsz := (hsz.resolve_left (by (clear hb hk hsz k1; omega))) | skip
      refine g_iload_n dX3_sizeOf_12 rfl ?_
      refine g_aload_n dX3_sizeOf_13 rfl ?_
      refine x_g29_9 (z := (P o0 9)) k_o0 ffX3_39 dX3_sizeOf_14 rfl ?_
      have f3 := bx_29_9 (o := o0) hB k_o0
      refine g_icmp_ge (tgt := 29) dX3_sizeOf_17 (by decide) ⟨by (first | (clear hb hk hsz k1; omega) | omega), by (first | (clear hb hk hsz k1; omega) | omega)⟩ ⟨by have q0 := bx_29_9 (o := o0) hB k_o0; (first | (clear hb hk hsz k1; omega) | omega), by have q0 := bx_29_9 (o := o0) hB k_o0; (first | (clear hb hk hsz k1; omega) | omega)⟩ (fun k4 => ?_) (fun k4 => ?_)
      · first | (revert r_hsz; intro r_hsz) | have r_hsz := (hsz.resolve_right (by (clear hb hk hsz k1; omega))) | have r_hsz := (hsz.resolve_left (by (clear hb hk hsz k1; omega))) | skip
        refine g_iconst dX3_sizeOf_29 ?_
        exact g_retI dX3_sizeOf_30 rfl (hQ 0 (by decide) (by (first | (clear hb hk hsz k1; omega) | (clear hb hk hsz; omega) | (clear hb hk k1; omega) | (clear hb hsz k1; omega) | (clear hk hsz k1; omega) | (clear hb hk; omega) | omega)))
      · first | (revert r_hsz; intro r_hsz) | have r_hsz := (hsz.resolve_right (by (clear hb hk hsz k1; omega))) | have r_hsz := (hsz.resolve_left (by (clear hb hk hsz k1; omega))) | skip
        refine g_aload_n dX3_sizeOf_20 rfl ?_
        refine x_g29_3 (n := (crX o0 3)) k_o0 ffX3_21 dX3_sizeOf_21 rfl ?_
        refine g_iload_n dX3_sizeOf_24 rfl ?_
        refine x_l33 (z := (P (crX o0 3) a1)) (ck_29_3 k_o0) dX3_sizeOf_25 ⟨by (first | (clear hb hk hsz k1; omega) | omega), by (first | (clear hb hk hsz k1; omega) | omega)⟩ rfl ?_
        refine g_goto (tgt := 30) dX3_sizeOf_26 (by decide) ?_
        exact g_retI dX3_sizeOf_30 rfl (hQ (P (crX o0 3) a1) ⟨by have q0 := bx_33 (o := (crX o0 3)) (k := a1) hB (ck_29_3 k_o0); (first | (clear hb hk hsz k1; omega) | omega), by have q0 := bx_33 (o := (crX o0 3)) (k := a1) hB (ck_29_3 k_o0); (first | (clear hb hk hsz k1; omega) | omega)⟩ (by have q0 := bx_33 (o := (crX o0 3)) (k := a1) hB (ck_29_3 k_o0); (first | (clear hb hk hsz k1; omega) | (clear hb hk hsz; omega) | (clear hb hk k1; omega) | (clear hb hsz k1; omega) | (clear hk hsz k1; omega) | (clear hb hk; omega) | omega)))
  · first | (revert r_hsz; intro r_hsz) | have r_hsz := (hsz.resolve_right (by (clear hb hk hsz k1; omega))) | have r_hsz := (hsz.resolve_left (by (clear hb hk hsz k1; omega))) | skip
    refine g_bipush dX3_sizeOf_5 (by decide) ?_
    exact g_retI dX3_sizeOf_7 rfl (hQ 20 (by decide) (by (first | (clear hb hk hsz k1; omega) | (clear hb hk hsz; omega) | (clear hb hk k1; omega) | (clear hb hsz k1; omega) | (clear hk hsz k1; omega) | (clear hb hk; omega) | omega)))
/-! What the class answers: X3_consOf. -/
set_option maxRecDepth 100000 in
set_option maxHeartbeats 4000000 in
theorem f_X3_consOf (G : GT) (P : PH) (K : PH) (o0 : Nat) (a1 : Int) (k_o0 : kx o0 29) (h_a1 : (-2147483648) ≤ a1 ∧ a1 ≤ 2147483647) (hB : BdX P) (z0 : XK K o0 P) (Q : Option PV → PH → Prop) (hQ : ∀ (r : Int) (_ : (-2147483648) ≤ r ∧ r ≤ 2147483647) (_ : (0 ≤ a1 ∧ a1 < K 0 0 ∧ r = K 3 a1) ∨ ((a1 < 0 ∨ K 0 0 ≤ a1) ∧ r = 0)), Q (some (vI r)) P) : Ct WSX G 2 iX3_consOf [vR o0, vI a1] P Q := by
  refine Ct.of (by decide) (l0 := [(0, vR o0), (1, vI a1)]) rfl (Nat.le_of_ble_eq_true rfl) ?_
  have hb := z0.b
  have hk : 0 ≤ a1 → a1 < K 0 0 → P (crX o0 2) a1 = K 3 a1 := fun h h1 => (z0.k h h1).2.2.1
  refine g_aload_n dX3_consOf_0 rfl ?_
  refine g_iload_n dX3_consOf_1 rfl ?_
  refine g_vI (av := [vI a1]) (o := o0) (st := []) (f_X3_isKind G P o0 a1 k_o0 ⟨by (first | (clear hb hk; omega) | omega), by (first | (clear hb hk; omega) | omega)⟩ hB  _ (fun rc1 hc1 gc1_k gc1_f => ⟨rc1, rfl, ?_⟩)) cf_X3_isKind t_760 rfl (show kx o0 29 from k_o0).1 ((show kx o0 29 from k_o0).sh rfl) rfl rfl (Nat.le_of_ble_eq_true rfl) (by decide) rfl dX3_consOf_2
  have f2 := bx_29_9 (o := o0) hB k_o0
  refine g_if_eq (tgt := 17) dX3_consOf_5 (by decide) ⟨by (first | (clear hb hk gc1_k gc1_f; omega) | omega), by (first | (clear hb hk gc1_k gc1_f; omega) | omega)⟩ (fun k3 => ?_) (fun k3 => ?_)
  · first | (revert r_gc1_f; intro r_gc1_f) | have r_gc1_f := (gc1_f.resolve_right (by (clear hb hk gc1_k gc1_f; omega))) | have r_gc1_f := (gc1_f.resolve_left (by (clear hb hk gc1_k gc1_f; omega))) | skip
    first | (revert r_gc1_k; intro r_gc1_k) | have r_gc1_k := (gc1_k.resolve_right (by (clear hb hk gc1_k gc1_f; omega))) | have r_gc1_k := (gc1_k.resolve_left (by (clear hb hk gc1_k gc1_f; omega))) | skip
    refine g_iconst dX3_consOf_17 ?_
    exact g_retI dX3_consOf_18 rfl (hQ 0 (by decide) (by (first | (clear hb hk gc1_k gc1_f; omega) | (clear hb hk gc1_k; omega) | (clear hb hk gc1_f; omega) | (clear hb gc1_k gc1_f; omega) | (clear hk gc1_k gc1_f; omega) | (clear hb hk; omega) | omega)))
  · have k3n : 1 ≤ rc1 := by (first | (clear hb hk gc1_k gc1_f; omega) | (clear hb hk gc1_k; omega) | (clear hb hk gc1_f; omega) | (clear hb gc1_k gc1_f; omega) | (clear hk gc1_k gc1_f; omega) | (clear hb hk; omega) | omega)
    clear k3
    first | (revert r_gc1_f; intro r_gc1_f) | have r_gc1_f := (gc1_f.resolve_right (by (clear hb hk gc1_k gc1_f; omega))) | have r_gc1_f := (gc1_f.resolve_left (by (clear hb hk gc1_k gc1_f; omega))) | skip
    first | (revert r_gc1_k; intro r_gc1_k) | have r_gc1_k := (gc1_k.resolve_right (by (clear hb hk gc1_k gc1_f; omega))) | have r_gc1_k := (gc1_k.resolve_left (by (clear hb hk gc1_k gc1_f; omega))) | skip
    refine g_aload_n dX3_consOf_8 rfl ?_
    refine x_g29_2 (n := (crX o0 2)) k_o0 ffX3_18 dX3_consOf_9 rfl ?_
    refine g_iload_n dX3_consOf_12 rfl ?_
    refine x_l32 (z := (P (crX o0 2) a1)) (ck_29_2 k_o0) dX3_consOf_13 ⟨by (first | (clear hb hk gc1_k gc1_f; omega) | omega), by (first | (clear hb hk gc1_k gc1_f; omega) | omega)⟩ rfl ?_
    refine g_goto (tgt := 18) dX3_consOf_14 (by decide) ?_
    exact g_retI dX3_consOf_18 rfl (hQ (P (crX o0 2) a1) ⟨by have q0 := bx_32 (o := (crX o0 2)) (k := a1) hB (ck_29_2 k_o0); (first | (clear hb hk gc1_k gc1_f; omega) | omega), by have q0 := bx_32 (o := (crX o0 2)) (k := a1) hB (ck_29_2 k_o0); (first | (clear hb hk gc1_k gc1_f; omega) | omega)⟩ (by have q0 := bx_32 (o := (crX o0 2)) (k := a1) hB (ck_29_2 k_o0); (first | (clear hb hk gc1_k gc1_f; omega) | (clear hb hk gc1_k; omega) | (clear hb hk gc1_f; omega) | (clear hb gc1_k gc1_f; omega) | (clear hk gc1_k gc1_f; omega) | (clear hb hk; omega) | omega)))
/-! What the class answers: X3_kindNamed. -/
set_option maxRecDepth 100000 in
set_option maxHeartbeats 4000000 in
theorem f_X3_kindNamed (G : GT) (P : PH) (K : PH) (o0 : Nat) (a1 : Int) (k_o0 : kx o0 29) (h_a1 : (-2147483648) ≤ a1 ∧ a1 ≤ 2147483647) (hB : BdX P) (z0 : XK K o0 P) (Q : Option PV → PH → Prop) (hQ : ∀ (r : Int) (_ : (-1) ≤ r ∧ r ≤ 3) (_ : r = kNm K a1), Q (some (vI r)) P) : Ct WSX G 1 iX3_kindNamed [vR o0, vI a1] P Q := by
  refine Ct.of (by decide) (l0 := [(0, vR o0), (1, vI a1)]) rfl (Nat.le_of_ble_eq_true rfl) ?_
  refine g_iconst dX3_kindNamed_0 ?_
  refine g_istore_n (l1 := [(2, vI 0), (0, vR o0), (1, vI a1)]) dX3_kindNamed_1 (by decide) rfl ?_
  have L2_0 : ∀ (n2_0 : Nat) (x2_2_0 : Int) (h_x2_2_0 : 0 ≤ x2_2_0 ∧ x2_2_0 ≤ 4) (i2_0_0 : ∀ q : Int, 0 ≤ q → q < x2_2_0 → P (crX o0 0) q ≠ a1) (hm2_0 : ((5 - x2_2_0) : Int).toNat < n2_0), Go WSX G 1 iX3_kindNamed 2 [(0, vR o0), (1, vI a1), (2, vI x2_2_0)] [] P Q := by
    intro n2_0
    induction n2_0 with
    | zero => intro x2_2_0 h_x2_2_0 i2_0_0 hm2_0; exact absurd hm2_0 (Nat.not_lt_zero _)
    | succ n2_0 ih2_0 =>
    intro x2_2_0 h_x2_2_0 i2_0_0 hm2_0
    refine g_iload_n dX3_kindNamed_2 rfl ?_
    refine g_aload_n dX3_kindNamed_3 rfl ?_
    refine x_g29_9 (z := (P o0 9)) k_o0 ffX3_39 dX3_kindNamed_4 rfl ?_
    have f30 := bx_29_9 (o := o0) hB k_o0
    refine g_icmp_ge (tgt := 28) dX3_kindNamed_7 (by decide) ⟨by omega, by omega⟩ ⟨by have q0 := bx_29_9 (o := o0) hB k_o0; omega, by have q0 := bx_29_9 (o := o0) hB k_o0; omega⟩ (fun k31 => ?_) (fun k31 => ?_)
    · refine g_iconst dX3_kindNamed_28 ?_
      exact g_retI dX3_kindNamed_29 rfl (hQ (-1) (by decide) ((fxi_none (g := fun i => P (crX o0 0) i) _ (fun q q0 q1 => i2_0_0 q q0 (by omega))).symm.trans (z0.kn a1)))
    · refine g_aload_n dX3_kindNamed_10 rfl ?_
      refine x_g29_0 (n := (crX o0 0)) k_o0 ffX3_9 dX3_kindNamed_11 rfl ?_
      refine g_iload_n dX3_kindNamed_14 rfl ?_
      refine x_l30 (z := (P (crX o0 0) x2_2_0)) (ck_29_0 k_o0) dX3_kindNamed_15 ⟨by omega, by omega⟩ rfl ?_
      refine g_iload_n dX3_kindNamed_16 rfl ?_
      have f32 := bx_30 (o := (crX o0 0)) (k := x2_2_0) hB (ck_29_0 k_o0)
      refine g_icmp_ne (tgt := 22) dX3_kindNamed_17 (by decide) ⟨by have q0 := bx_30 (o := (crX o0 0)) (k := x2_2_0) hB (ck_29_0 k_o0); omega, by have q0 := bx_30 (o := (crX o0 0)) (k := x2_2_0) hB (ck_29_0 k_o0); omega⟩ ⟨by omega, by omega⟩ (fun k33 => ?_) (fun k33 => ?_)
      · have hnx : ∀ q : Int, 0 ≤ q → q < x2_2_0 + 1 → P (crX o0 0) q ≠ a1 := by
          intro q q0 q1
          by_cases e : q = x2_2_0
          · rw [e]; (first | (clear k33; omega) | omega)
          · exact i2_0_0 q q0 (by (first | (clear k33; omega) | omega))
        refine g_iinc (l1 := [(2, vI (x2_2_0 + 1)), (0, vR o0), (1, vI a1)]) dX3_kindNamed_22 rfl (by decide) rfl ?_
        refine g_goto (tgt := 2) dX3_kindNamed_25 (by decide) ?_
        refine g_forget (l1 := [(0, vR o0), (1, vI a1), (2, vI (x2_2_0 + 1))]) (by intro q hq; simp only [List.mem_cons, List.not_mem_nil, or_false] at hq ⊢; rcases hq with rfl | rfl | rfl <;> simp) ?_
        exact ih2_0 (x2_2_0 + 1) ⟨by (first | (clear k33; omega) | omega), by (first | (clear k33; omega) | omega)⟩ (by first | exact hnx | (intro q q0 q1; exfalso; (first | (clear k33; omega) | omega))) (by (first | (clear k33; omega) | omega))
      · refine g_iload_n dX3_kindNamed_20 rfl ?_
        exact g_retI dX3_kindNamed_21 rfl (hQ x2_2_0 ⟨by (first | (clear k33; omega) | omega), by (first | (clear k33; omega) | omega)⟩ ((fxi_some (g := fun i => P (crX o0 0) i) (by (first | (clear k33; omega) | omega)) (by show P (crX o0 0) _ = a1; (first | (clear k33; omega) | omega)) (fun q q0 q1 => i2_0_0 q q0 q1) _ (by (first | (clear k33; omega) | omega))).symm.trans (z0.kn a1)))
  refine g_forget (l1 := [(0, vR o0), (1, vI a1), (2, vI 0)]) (by intro q hq; simp only [List.mem_cons, List.not_mem_nil, or_false] at hq ⊢; rcases hq with rfl | rfl | rfl <;> simp) ?_
  exact L2_0 _ 0 (by decide) (by first | exact hnx | (intro q q0 q1; exfalso; omega)) (Nat.lt_succ_self _)
/-! What the class answers: X3_conNamed. -/
set_option maxRecDepth 100000 in
set_option maxHeartbeats 4000000 in
theorem f_X3_conNamed (G : GT) (P : PH) (K : PH) (o0 : Nat) (a1 : Int) (k_o0 : kx o0 29) (h_a1 : (-2147483648) ≤ a1 ∧ a1 ≤ 2147483647) (hB : BdX P) (z0 : XK K o0 P) (Q : Option PV → PH → Prop) (hQ : ∀ (r : Int) (_ : (-1) ≤ r ∧ r ≤ 23) (_ : r = cNm K a1), Q (some (vI r)) P) : Ct WSX G 1 iX3_conNamed [vR o0, vI a1] P Q := by
  refine Ct.of (by decide) (l0 := [(0, vR o0), (1, vI a1)]) rfl (Nat.le_of_ble_eq_true rfl) ?_
  refine g_iconst dX3_conNamed_0 ?_
  refine g_istore_n (l1 := [(2, vI 0), (0, vR o0), (1, vI a1)]) dX3_conNamed_1 (by decide) rfl ?_
  have L2_0 : ∀ (n2_0 : Nat) (x2_2_0 : Int) (h_x2_2_0 : 0 ≤ x2_2_0 ∧ x2_2_0 ≤ 24) (i2_0_0 : ∀ q : Int, 0 ≤ q → q < x2_2_0 → P (crX o0 4) q ≠ a1) (hm2_0 : ((25 - x2_2_0) : Int).toNat < n2_0), Go WSX G 1 iX3_conNamed 2 [(0, vR o0), (1, vI a1), (2, vI x2_2_0)] [] P Q := by
    intro n2_0
    induction n2_0 with
    | zero => intro x2_2_0 h_x2_2_0 i2_0_0 hm2_0; exact absurd hm2_0 (Nat.not_lt_zero _)
    | succ n2_0 ih2_0 =>
    intro x2_2_0 h_x2_2_0 i2_0_0 hm2_0
    refine g_iload_n dX3_conNamed_2 rfl ?_
    refine g_aload_n dX3_conNamed_3 rfl ?_
    refine x_g29_10 (z := (P o0 10)) k_o0 ffX3_43 dX3_conNamed_4 rfl ?_
    have f42 := bx_29_10 (o := o0) hB k_o0
    refine g_icmp_ge (tgt := 28) dX3_conNamed_7 (by decide) ⟨by omega, by omega⟩ ⟨by have q0 := bx_29_10 (o := o0) hB k_o0; omega, by have q0 := bx_29_10 (o := o0) hB k_o0; omega⟩ (fun k43 => ?_) (fun k43 => ?_)
    · refine g_iconst dX3_conNamed_28 ?_
      exact g_retI dX3_conNamed_29 rfl (hQ (-1) (by decide) ((fxi_none (g := fun i => P (crX o0 4) i) _ (fun q q0 q1 => i2_0_0 q q0 (by omega))).symm.trans (z0.cn a1)))
    · refine g_aload_n dX3_conNamed_10 rfl ?_
      refine x_g29_4 (n := (crX o0 4)) k_o0 ffX3_24 dX3_conNamed_11 rfl ?_
      refine g_iload_n dX3_conNamed_14 rfl ?_
      refine x_l34 (z := (P (crX o0 4) x2_2_0)) (ck_29_4 k_o0) dX3_conNamed_15 ⟨by omega, by omega⟩ rfl ?_
      refine g_iload_n dX3_conNamed_16 rfl ?_
      have f44 := bx_34 (o := (crX o0 4)) (k := x2_2_0) hB (ck_29_4 k_o0)
      refine g_icmp_ne (tgt := 22) dX3_conNamed_17 (by decide) ⟨by have q0 := bx_34 (o := (crX o0 4)) (k := x2_2_0) hB (ck_29_4 k_o0); omega, by have q0 := bx_34 (o := (crX o0 4)) (k := x2_2_0) hB (ck_29_4 k_o0); omega⟩ ⟨by omega, by omega⟩ (fun k45 => ?_) (fun k45 => ?_)
      · have hnx : ∀ q : Int, 0 ≤ q → q < x2_2_0 + 1 → P (crX o0 4) q ≠ a1 := by
          intro q q0 q1
          by_cases e : q = x2_2_0
          · rw [e]; (first | (clear k45; omega) | omega)
          · exact i2_0_0 q q0 (by (first | (clear k45; omega) | omega))
        refine g_iinc (l1 := [(2, vI (x2_2_0 + 1)), (0, vR o0), (1, vI a1)]) dX3_conNamed_22 rfl (by decide) rfl ?_
        refine g_goto (tgt := 2) dX3_conNamed_25 (by decide) ?_
        refine g_forget (l1 := [(0, vR o0), (1, vI a1), (2, vI (x2_2_0 + 1))]) (by intro q hq; simp only [List.mem_cons, List.not_mem_nil, or_false] at hq ⊢; rcases hq with rfl | rfl | rfl <;> simp) ?_
        exact ih2_0 (x2_2_0 + 1) ⟨by (first | (clear k45; omega) | omega), by (first | (clear k45; omega) | omega)⟩ (by first | exact hnx | (intro q q0 q1; exfalso; (first | (clear k45; omega) | omega))) (by (first | (clear k45; omega) | omega))
      · refine g_iload_n dX3_conNamed_20 rfl ?_
        exact g_retI dX3_conNamed_21 rfl (hQ x2_2_0 ⟨by (first | (clear k45; omega) | omega), by (first | (clear k45; omega) | omega)⟩ ((fxi_some (g := fun i => P (crX o0 4) i) (by (first | (clear k45; omega) | omega)) (by show P (crX o0 4) _ = a1; (first | (clear k45; omega) | omega)) (fun q q0 q1 => i2_0_0 q q0 q1) _ (by (first | (clear k45; omega) | omega))).symm.trans (z0.cn a1)))
  refine g_forget (l1 := [(0, vR o0), (1, vI a1), (2, vI 0)]) (by intro q hq; simp only [List.mem_cons, List.not_mem_nil, or_false] at hq ⊢; rcases hq with rfl | rfl | rfl <;> simp) ?_
  exact L2_0 _ 0 (by decide) (by first | exact hnx | (intro q q0 q1; exfalso; omega)) (Nat.lt_succ_self _)
/-! What the class answers: X3_conNamedOf. -/
set_option maxRecDepth 100000 in
set_option maxHeartbeats 4000000 in
theorem f_X3_conNamedOf (G : GT) (P : PH) (K : PH) (o0 : Nat) (a1 : Int) (a2 : Int) (k_o0 : kx o0 29) (h_a1 : (-2147483648) ≤ a1 ∧ a1 ≤ 2147483647) (h_a2 : (-2147483648) ≤ a2 ∧ a2 ≤ 2147483647) (hB : BdX P) (p_aw : AW K) (p_kb : 0 ≤ a1 ∧ a1 < K 0 0) (z0 : XK K o0 P) (Q : Option PV → PH → Prop) (hQ : ∀ (r : Int) (_ : (-1) ≤ r ∧ r ≤ 23) (_ : (r = -1 ∧ (cNm K a2 = -1 ∨ K 5 (cNm K a2) ≠ a1)) ∨ (r = cNm K a2 ∧ 0 ≤ r ∧ r < K 0 1 ∧ K 5 (cNm K a2) = a1)), Q (some (vI r)) P) : Ct WSX G 2 iX3_conNamedOf [vR o0, vI a1, vI a2] P Q := by
  refine Ct.of (by decide) (l0 := [(0, vR o0), (1, vI a1), (2, vI a2)]) rfl (Nat.le_of_ble_eq_true rfl) ?_
  have hb := z0.b
  have hb9 := p_aw.2.1 a1 p_kb.1 p_kb.2
  have hk0 := p_aw.1
  have hk := z0.k p_kb.1 p_kb.2
  have hcb := cNm_b p_aw a2
  have hif := p_aw.2.2.2 (cNm K a2) a1
  have hif2 : cNm K a2 = -1 ∨ (K 5 (cNm K a2) = a1 ∧ K 9 a1 ≤ cNm K a2 ∧ cNm K a2 < K 9 a1 + K 3 a1) ∨ (K 5 (cNm K a2) ≠ a1 ∧ ¬ (K 9 a1 ≤ cNm K a2 ∧ cNm K a2 < K 9 a1 + K 3 a1)) := by
    by_cases z : cNm K a2 = -1
    · exact Or.inl z
    · have q := hif (by (first | (clear hb; omega) | omega)) (by (first | (clear hb; omega) | omega)) p_kb.1 p_kb.2
      by_cases w : K 5 (cNm K a2) = a1
      · exact Or.inr (Or.inl ⟨w, q.mp w⟩)
      · exact Or.inr (Or.inr ⟨w, fun u => w (q.mpr u)⟩)
  clear hif
  refine g_aload_n dX3_conNamedOf_0 rfl ?_
  refine g_iload_n dX3_conNamedOf_1 rfl ?_
  refine g_vI (av := [vI a2]) (o := o0) (st := []) (f_X3_conNamed G P K o0 a2 k_o0 ⟨by (first | (clear hb hif2; omega) | omega), by (first | (clear hb hif2; omega) | omega)⟩ hB (z0) _ (fun rc1 hc1 gc1_fx => ⟨rc1, rfl, ?_⟩)) cf_X3_conNamed t_831 rfl (show kx o0 29 from k_o0).1 ((show kx o0 29 from k_o0).sh rfl) rfl rfl (Nat.le_of_ble_eq_true rfl) (by decide) rfl dX3_conNamedOf_2
  refine g_istore_n (l1 := [(3, vI rc1), (0, vR o0), (1, vI a1), (2, vI a2)]) dX3_conNamedOf_5 (by decide) rfl ?_
  refine g_iload_n dX3_conNamedOf_6 rfl ?_
  refine g_iconst dX3_conNamedOf_7 ?_
  refine g_icmp_eq (tgt := 19) dX3_conNamedOf_8 (by decide) ⟨by (first | (clear hb hif2; omega) | omega), by (first | (clear hb hif2; omega) | omega)⟩ (by decide) (fun k2 => ?_) (fun k2 => ?_)
  · first | (revert r_hif2; intro r_hif2) | have r_hif2 := (hif2.resolve_right (by (clear hb hif2; omega))) | have r_hif2 := ((hif2.resolve_left (by (clear hb hif2; omega))).resolve_right (by (clear hb hif2; omega))) | have r_hif2 := ((hif2.resolve_left (by (clear hb hif2; omega))).resolve_left (by (clear hb hif2; omega))) | skip
    refine g_iconst dX3_conNamedOf_19 ?_
    exact g_retI dX3_conNamedOf_20 rfl (hQ (-1) (by decide) (by (first | (clear hb hif2; omega) | (clear hb; omega) | (clear hif2; omega) | omega)))
  · have k2n : 0 ≤ rc1 := by (first | (clear hb hif2; omega) | (clear hb; omega) | (clear hif2; omega) | omega)
    clear k2
    first | (revert r_hif2; intro r_hif2) | have r_hif2 := (hif2.resolve_right (by (clear hb hif2; omega))) | have r_hif2 := ((hif2.resolve_left (by (clear hb hif2; omega))).resolve_right (by (clear hb hif2; omega))) | have r_hif2 := ((hif2.resolve_left (by (clear hb hif2; omega))).resolve_left (by (clear hb hif2; omega))) | skip
    refine g_aload_n dX3_conNamedOf_11 rfl ?_
    refine g_iload_n dX3_conNamedOf_12 rfl ?_
    refine g_vI (av := [vI a1]) (o := o0) (st := []) (f_X3_isKind G P o0 a1 k_o0 ⟨by (first | (clear hb hif2; omega) | omega), by (first | (clear hb hif2; omega) | omega)⟩ hB  _ (fun rc3 hc3 gc3_k gc3_f => ⟨rc3, rfl, ?_⟩)) cf_X3_isKind t_760 rfl (show kx o0 29 from k_o0).1 ((show kx o0 29 from k_o0).sh rfl) rfl rfl (Nat.le_of_ble_eq_true rfl) (by decide) rfl dX3_conNamedOf_13
    have f4 := bx_29_9 (o := o0) hB k_o0
    refine g_if_ne (tgt := 21) dX3_conNamedOf_16 (by decide) ⟨by (first | (clear hb hif2 gc3_k gc3_f; omega) | omega), by (first | (clear hb hif2 gc3_k gc3_f; omega) | omega)⟩ (fun k5 => ?_) (fun k5 => ?_)
    · have k5n : 1 ≤ rc3 := by (first | (clear hb hif2 gc3_k gc3_f k5; omega) | (clear hb hif2 gc3_k gc3_f; omega) | (clear hb hif2 gc3_k k5; omega) | (clear hb hif2 gc3_f k5; omega) | (clear hb gc3_k gc3_f k5; omega) | (clear hif2 gc3_k gc3_f k5; omega) | (clear hb hif2 gc3_k; omega) | (clear hb; omega) | omega)
      clear k5
      first | (revert r_gc3_f; intro r_gc3_f) | have r_gc3_f := (gc3_f.resolve_right (by (clear hb hif2 gc3_k gc3_f; omega))) | have r_gc3_f := (gc3_f.resolve_left (by (clear hb hif2 gc3_k gc3_f; omega))) | skip
      first | (revert r_gc3_k; intro r_gc3_k) | have r_gc3_k := (gc3_k.resolve_right (by (clear hb hif2 gc3_k gc3_f; omega))) | have r_gc3_k := (gc3_k.resolve_left (by (clear hb hif2 gc3_k gc3_f; omega))) | skip
      first | (revert r_hif2; intro r_hif2) | have r_hif2 := (hif2.resolve_right (by (clear hb hif2 gc3_k gc3_f; omega))) | have r_hif2 := ((hif2.resolve_left (by (clear hb hif2 gc3_k gc3_f; omega))).resolve_right (by (clear hb hif2 gc3_k gc3_f; omega))) | have r_hif2 := ((hif2.resolve_left (by (clear hb hif2 gc3_k gc3_f; omega))).resolve_left (by (clear hb hif2 gc3_k gc3_f; omega))) | skip
      refine g_aload_n dX3_conNamedOf_21 rfl ?_
      refine x_g29_1 (n := (crX o0 1)) k_o0 ffX3_15 dX3_conNamedOf_22 rfl ?_
      refine g_iload_n dX3_conNamedOf_25 rfl ?_
      refine x_l31 (z := (P (crX o0 1) a1)) (ck_29_1 k_o0) dX3_conNamedOf_26 ⟨by (first | (clear hb hif2 gc3_k gc3_f; omega) | omega), by (first | (clear hb hif2 gc3_k gc3_f; omega) | omega)⟩ rfl ?_
      refine g_istore (l1 := [(4, vI (P (crX o0 1) a1)), (3, vI rc1), (0, vR o0), (1, vI a1), (2, vI a2)]) dX3_conNamedOf_27 (by decide) rfl ?_
      refine g_iload_n dX3_conNamedOf_29 rfl ?_
      refine g_iload dX3_conNamedOf_30 rfl ?_
      have f6 := bx_31 (o := (crX o0 1)) (k := a1) hB (ck_29_1 k_o0)
      refine g_icmp_lt (tgt := 52) dX3_conNamedOf_32 (by decide) ⟨by (first | (clear hb hif2 gc3_k gc3_f; omega) | omega), by (first | (clear hb hif2 gc3_k gc3_f; omega) | omega)⟩ ⟨by have q0 := bx_31 (o := (crX o0 1)) (k := a1) hB (ck_29_1 k_o0); (first | (clear hb hif2 gc3_k gc3_f; omega) | omega), by have q0 := bx_31 (o := (crX o0 1)) (k := a1) hB (ck_29_1 k_o0); (first | (clear hb hif2 gc3_k gc3_f; omega) | omega)⟩ (fun k7 => ?_) (fun k7 => ?_)
      · first | (revert r_gc3_f; intro r_gc3_f) | have r_gc3_f := (gc3_f.resolve_right (by (clear hb hif2 gc3_k gc3_f; omega))) | have r_gc3_f := (gc3_f.resolve_left (by (clear hb hif2 gc3_k gc3_f; omega))) | skip
        first | (revert r_gc3_k; intro r_gc3_k) | have r_gc3_k := (gc3_k.resolve_right (by (clear hb hif2 gc3_k gc3_f; omega))) | have r_gc3_k := (gc3_k.resolve_left (by (clear hb hif2 gc3_k gc3_f; omega))) | skip
        first | (revert r_hif2; intro r_hif2) | have r_hif2 := (hif2.resolve_right (by (clear hb hif2 gc3_k gc3_f; omega))) | have r_hif2 := ((hif2.resolve_left (by (clear hb hif2 gc3_k gc3_f; omega))).resolve_right (by (clear hb hif2 gc3_k gc3_f; omega))) | have r_hif2 := ((hif2.resolve_left (by (clear hb hif2 gc3_k gc3_f; omega))).resolve_left (by (clear hb hif2 gc3_k gc3_f; omega))) | skip
        refine g_iconst dX3_conNamedOf_52 ?_
        exact g_retI dX3_conNamedOf_53 rfl (hQ (-1) (by decide) (by (first | (clear hb hif2 gc3_k gc3_f; omega) | (clear hb hif2 gc3_k; omega) | (clear hb hif2 gc3_f; omega) | (clear hb gc3_k gc3_f; omega) | (clear hif2 gc3_k gc3_f; omega) | (clear hb hif2; omega) | omega)))
      · first | (revert r_gc3_f; intro r_gc3_f) | have r_gc3_f := (gc3_f.resolve_right (by (clear hb hif2 gc3_k gc3_f; omega))) | have r_gc3_f := (gc3_f.resolve_left (by (clear hb hif2 gc3_k gc3_f; omega))) | skip
        first | (revert r_gc3_k; intro r_gc3_k) | have r_gc3_k := (gc3_k.resolve_right (by (clear hb hif2 gc3_k gc3_f; omega))) | have r_gc3_k := (gc3_k.resolve_left (by (clear hb hif2 gc3_k gc3_f; omega))) | skip
        first | (revert r_hif2; intro r_hif2) | have r_hif2 := (hif2.resolve_right (by (clear hb hif2 gc3_k gc3_f; omega))) | have r_hif2 := ((hif2.resolve_left (by (clear hb hif2 gc3_k gc3_f; omega))).resolve_right (by (clear hb hif2 gc3_k gc3_f; omega))) | have r_hif2 := ((hif2.resolve_left (by (clear hb hif2 gc3_k gc3_f; omega))).resolve_left (by (clear hb hif2 gc3_k gc3_f; omega))) | skip
        refine g_iload_n dX3_conNamedOf_35 rfl ?_
        refine g_iload dX3_conNamedOf_36 rfl ?_
        refine g_aload_n dX3_conNamedOf_38 rfl ?_
        refine x_g29_2 (n := (crX o0 2)) k_o0 ffX3_18 dX3_conNamedOf_39 rfl ?_
        refine g_iload_n dX3_conNamedOf_42 rfl ?_
        refine x_l32 (z := (P (crX o0 2) a1)) (ck_29_2 k_o0) dX3_conNamedOf_43 ⟨by (first | (clear hb hif2 gc3_k gc3_f; omega) | omega), by (first | (clear hb hif2 gc3_k gc3_f; omega) | omega)⟩ rfl ?_
        refine g_iadd dX3_conNamedOf_44 ?_
        have f8 := bx_32 (o := (crX o0 2)) (k := a1) hB (ck_29_2 k_o0)
        refine g_icmp_ge (tgt := 52) dX3_conNamedOf_45 (by decide) ⟨by (first | (clear hb hif2 gc3_k gc3_f; omega) | omega), by (first | (clear hb hif2 gc3_k gc3_f; omega) | omega)⟩ ⟨by have q0 := bx_31 (o := (crX o0 1)) (k := a1) hB (ck_29_1 k_o0); have q1 := bx_32 (o := (crX o0 2)) (k := a1) hB (ck_29_2 k_o0); (first | (clear hb hif2 gc3_k gc3_f; omega) | omega), by have q0 := bx_31 (o := (crX o0 1)) (k := a1) hB (ck_29_1 k_o0); have q1 := bx_32 (o := (crX o0 2)) (k := a1) hB (ck_29_2 k_o0); (first | (clear hb hif2 gc3_k gc3_f; omega) | omega)⟩ (fun k9 => ?_) (fun k9 => ?_)
        · first | (revert r_gc3_f; intro r_gc3_f) | have r_gc3_f := (gc3_f.resolve_right (by (clear hb hif2 gc3_k gc3_f k9; omega))) | have r_gc3_f := (gc3_f.resolve_left (by (clear hb hif2 gc3_k gc3_f k9; omega))) | skip
          first | (revert r_gc3_k; intro r_gc3_k) | have r_gc3_k := (gc3_k.resolve_right (by (clear hb hif2 gc3_k gc3_f k9; omega))) | have r_gc3_k := (gc3_k.resolve_left (by (clear hb hif2 gc3_k gc3_f k9; omega))) | skip
          first | (revert r_hif2; intro r_hif2) | have r_hif2 := (hif2.resolve_right (by (clear hb hif2 gc3_k gc3_f k9; omega))) | have r_hif2 := ((hif2.resolve_left (by (clear hb hif2 gc3_k gc3_f k9; omega))).resolve_right (by (clear hb hif2 gc3_k gc3_f k9; omega))) | have r_hif2 := ((hif2.resolve_left (by (clear hb hif2 gc3_k gc3_f k9; omega))).resolve_left (by (clear hb hif2 gc3_k gc3_f k9; omega))) | skip
          refine g_iconst dX3_conNamedOf_52 ?_
          exact g_retI dX3_conNamedOf_53 rfl (hQ (-1) (by decide) (by (first | (clear hb hif2 gc3_k gc3_f k9; omega) | (clear hb hif2 gc3_k gc3_f; omega) | (clear hb hif2 gc3_k k9; omega) | (clear hb hif2 gc3_f k9; omega) | (clear hb gc3_k gc3_f k9; omega) | (clear hif2 gc3_k gc3_f k9; omega) | (clear hb hif2 gc3_k; omega) | (clear hb; omega) | omega)))
        · first | (revert r_gc3_f; intro r_gc3_f) | have r_gc3_f := (gc3_f.resolve_right (by (clear hb hif2 gc3_k gc3_f k9; omega))) | have r_gc3_f := (gc3_f.resolve_left (by (clear hb hif2 gc3_k gc3_f k9; omega))) | skip
          first | (revert r_gc3_k; intro r_gc3_k) | have r_gc3_k := (gc3_k.resolve_right (by (clear hb hif2 gc3_k gc3_f k9; omega))) | have r_gc3_k := (gc3_k.resolve_left (by (clear hb hif2 gc3_k gc3_f k9; omega))) | skip
          first | (revert r_hif2; intro r_hif2) | have r_hif2 := (hif2.resolve_right (by (clear hb hif2 gc3_k gc3_f k9; omega))) | have r_hif2 := ((hif2.resolve_left (by (clear hb hif2 gc3_k gc3_f k9; omega))).resolve_right (by (clear hb hif2 gc3_k gc3_f k9; omega))) | have r_hif2 := ((hif2.resolve_left (by (clear hb hif2 gc3_k gc3_f k9; omega))).resolve_left (by (clear hb hif2 gc3_k gc3_f k9; omega))) | skip
          refine g_iload_n dX3_conNamedOf_48 rfl ?_
          refine g_goto (tgt := 53) dX3_conNamedOf_49 (by decide) ?_
          exact g_retI dX3_conNamedOf_53 rfl (hQ rc1 ⟨by (first | (clear hb hif2 gc3_k gc3_f k9; omega) | omega), by (first | (clear hb hif2 gc3_k gc3_f k9; omega) | omega)⟩ (by (first | (clear hb hif2 gc3_k gc3_f k9; omega) | (clear hb hif2 gc3_k gc3_f; omega) | (clear hb hif2 gc3_k k9; omega) | (clear hb hif2 gc3_f k9; omega) | (clear hb gc3_k gc3_f k9; omega) | (clear hif2 gc3_k gc3_f k9; omega) | (clear hb hif2 gc3_k; omega) | (clear hb; omega) | omega)))
    · first | (revert r_gc3_f; intro r_gc3_f) | have r_gc3_f := (gc3_f.resolve_right (by (clear hb hif2 gc3_k gc3_f k5; omega))) | have r_gc3_f := (gc3_f.resolve_left (by (clear hb hif2 gc3_k gc3_f k5; omega))) | skip
      first | (revert r_gc3_k; intro r_gc3_k) | have r_gc3_k := (gc3_k.resolve_right (by (clear hb hif2 gc3_k gc3_f k5; omega))) | have r_gc3_k := (gc3_k.resolve_left (by (clear hb hif2 gc3_k gc3_f k5; omega))) | skip
      first | (revert r_hif2; intro r_hif2) | have r_hif2 := (hif2.resolve_right (by (clear hb hif2 gc3_k gc3_f k5; omega))) | have r_hif2 := ((hif2.resolve_left (by (clear hb hif2 gc3_k gc3_f k5; omega))).resolve_right (by (clear hb hif2 gc3_k gc3_f k5; omega))) | have r_hif2 := ((hif2.resolve_left (by (clear hb hif2 gc3_k gc3_f k5; omega))).resolve_left (by (clear hb hif2 gc3_k gc3_f k5; omega))) | skip
      refine g_iconst dX3_conNamedOf_19 ?_
      exact g_retI dX3_conNamedOf_20 rfl (hQ (-1) (by decide) (by (first | (clear hb hif2 gc3_k gc3_f k5; omega) | (clear hb hif2 gc3_k gc3_f; omega) | (clear hb hif2 gc3_k k5; omega) | (clear hb hif2 gc3_f k5; omega) | (clear hb gc3_k gc3_f k5; omega) | (clear hif2 gc3_k gc3_f k5; omega) | (clear hb hif2 gc3_k; omega) | (clear hb; omega) | omega)))
/-! What the class answers: X3_clear. -/
set_option maxRecDepth 100000 in
set_option maxHeartbeats 4000000 in
theorem f_X3_clear (G : GT) (P : PH) (o0 : Nat) (k_o0 : kx o0 29) (hB : BdX P) (Q : Option PV → PH → Prop) (hQ : ∀ (P1 : PH) (_ : BdX P1) (_ : FrX ([(29, 9), (29, 10)], []) P P1) (_ : XK K0 o0 P1) (_ : KT (tbX o0) P P1), Q none P1) : Ct WSX G 1 iX3_clear [vR o0] P Q := by
  refine Ct.of (by decide) (l0 := [(0, vR o0)]) rfl (Nat.le_of_ble_eq_true rfl) ?_
  have kt0 : KT (tbX o0) P P := KT.rf
  refine g_aload_n dX3_clear_0 rfl ?_
  refine g_iconst dX3_clear_1 ?_
  refine x_p29_9 k_o0 pfX3_39 dX3_clear_2 ?_
  have hB1 := by_29_9 (z := 0) hB k_o0 (by decide)
  have kt2 : KT (tbX o0) P (up P o0 9 0) := KT.w kt0 (Or.inl rfl)
  refine g_aload_n dX3_clear_5 rfl ?_
  refine g_iconst dX3_clear_6 ?_
  refine x_p29_10 k_o0 pfX3_43 dX3_clear_7 ?_
  have hB3 := by_29_10 (z := 0) hB1 k_o0 (by decide)
  have kt4 : KT (tbX o0) P (up (up P o0 9 0) o0 10 0) := KT.w kt2 (Or.inl rfl)
  exact g_retV dX3_clear_10 rfl (hQ _ hB3 (FrX.s (FrX.s FrX.rf k_o0 rfl) k_o0 rfl) (XK.zero k_o0 ((up_k (by decide)).trans up_same) up_same) (kt4))
/-! What the class answers: X3_addKind. -/
set_option maxRecDepth 100000 in
set_option maxHeartbeats 4000000 in
theorem f_X3_addKind (G : GT) (P : PH) (K : PH) (o0 : Nat) (a1 : Int) (k_o0 : kx o0 29) (h_a1 : (-2147483648) ≤ a1 ∧ a1 ≤ 2147483647) (hB : BdX P) (p_k3 : 0 ≤ K 0 0 ∧ K 0 0 ≤ 3) (z0 : XK K o0 P) (Q : Option PV → PH → Prop) (hQ : ∀ (P1 : PH) (_ : BdX P1) (_ : FrX ([(29, 9)], [30, 31, 32, 33]) P P1) (_ : XK (kNew K a1) o0 P1) (_ : KT (tbX o0) P P1), Q none P1) : Ct WSX G 1 iX3_addKind [vR o0, vI a1] P Q := by
  refine Ct.of (by decide) (l0 := [(0, vR o0), (1, vI a1)]) rfl (Nat.le_of_ble_eq_true rfl) ?_
  have kt0 : KT (tbX o0) P P := KT.rf
  have hb := z0.b
  refine g_aload_n dX3_addKind_0 rfl ?_
  refine x_g29_9 (z := (P o0 9)) k_o0 ffX3_39 dX3_addKind_1 rfl ?_
  refine g_iconst dX3_addKind_4 ?_
  have f1 := bx_29_9 (o := o0) hB k_o0
  refine g_icmp_ge (tgt := 61) dX3_addKind_5 (by decide) ⟨by have q0 := bx_29_9 (o := o0) hB k_o0; (first | (clear hb; omega) | omega), by have q0 := bx_29_9 (o := o0) hB k_o0; (first | (clear hb; omega) | omega)⟩ (by decide) (fun k2 => ?_) (fun k2 => ?_)
  · exact g_retV dX3_addKind_61 rfl (hQ _ hB FrX.rf (by first | exact z0.kind rfl rfl rfl (fun j hj => rfl) rfl (fun j hj => rfl) rfl (fun j hj => rfl) rfl (fun j hj => rfl) (fun j => rfl) (fun j => rfl) (fun j => rfl) (fun j => rfl) (fun j => rfl) | (exfalso; (first | (clear hb; omega) | omega))) (kt0))
  · refine g_aload_n dX3_addKind_8 rfl ?_
    refine x_g29_0 (n := (crX o0 0)) k_o0 ffX3_9 dX3_addKind_9 rfl ?_
    refine g_aload_n dX3_addKind_12 rfl ?_
    refine x_g29_9 (z := (P o0 9)) k_o0 ffX3_39 dX3_addKind_13 rfl ?_
    refine g_iload_n dX3_addKind_16 rfl ?_
    refine x_s30 (ck_29_0 k_o0) dX3_addKind_17 ⟨by have q0 := bx_29_9 (o := o0) hB k_o0; (first | (clear hb; omega) | omega), by have q0 := bx_29_9 (o := o0) hB k_o0; (first | (clear hb; omega) | omega)⟩ ?_
    have hB3 := by_30 (z := a1) (k := (P o0 9)) hB (ck_29_0 k_o0) ⟨by (first | (clear hb; omega) | omega), by (first | (clear hb; omega) | omega)⟩
    have kt4 : KT (tbX o0) P (up P (crX o0 0) (P o0 9) a1) := KT.w kt0 (TB.c (Or.inl rfl) (k_o0).1 (by decide))
    refine g_aload_n dX3_addKind_18 rfl ?_
    refine x_g29_1 (n := (crX o0 1)) k_o0 ffX3_15 dX3_addKind_19 rfl ?_
    refine g_aload_n dX3_addKind_22 rfl ?_
    refine x_g29_9 (z := (P o0 9)) k_o0 ffX3_39 dX3_addKind_23 ((up_o (kx.ne k_o0 (ck_29_0 k_o0) rfl)).trans rfl) ?_
    refine g_aload_n dX3_addKind_26 rfl ?_
    refine x_g29_10 (z := (P o0 10)) k_o0 ffX3_43 dX3_addKind_27 ((up_o (kx.ne k_o0 (ck_29_0 k_o0) rfl)).trans rfl) ?_
    refine x_s31 (ck_29_1 k_o0) dX3_addKind_30 ⟨by have q0 := bx_29_9 (o := o0) hB k_o0; (first | (clear hb; omega) | omega), by have q0 := bx_29_9 (o := o0) hB k_o0; (first | (clear hb; omega) | omega)⟩ ?_
    have hB5 := by_31 (z := (P o0 10)) (k := (P o0 9)) hB3 (ck_29_1 k_o0) ⟨by have q0 := bx_29_10 (o := o0) hB k_o0; (first | (clear hb; omega) | omega), by have q0 := bx_29_10 (o := o0) hB k_o0; (first | (clear hb; omega) | omega)⟩
    have kt6 : KT (tbX o0) P (up (up P (crX o0 0) (P o0 9) a1) (crX o0 1) (P o0 9) (P o0 10)) := KT.w kt4 (TB.c (Or.inl rfl) (k_o0).1 (by decide))
    refine g_aload_n dX3_addKind_31 rfl ?_
    refine x_g29_2 (n := (crX o0 2)) k_o0 ffX3_18 dX3_addKind_32 rfl ?_
    refine g_aload_n dX3_addKind_35 rfl ?_
    refine x_g29_9 (z := (P o0 9)) k_o0 ffX3_39 dX3_addKind_36 ((up_o (kx.ne k_o0 (ck_29_1 k_o0) rfl)).trans ((up_o (kx.ne k_o0 (ck_29_0 k_o0) rfl)).trans rfl)) ?_
    refine g_iconst dX3_addKind_39 ?_
    refine x_s32 (ck_29_2 k_o0) dX3_addKind_40 ⟨by have q0 := bx_29_9 (o := o0) hB k_o0; (first | (clear hb; omega) | omega), by have q0 := bx_29_9 (o := o0) hB k_o0; (first | (clear hb; omega) | omega)⟩ ?_
    have hB7 := by_32 (z := 0) (k := (P o0 9)) hB5 (ck_29_2 k_o0) (by decide)
    have kt8 : KT (tbX o0) P (up (up (up P (crX o0 0) (P o0 9) a1) (crX o0 1) (P o0 9) (P o0 10)) (crX o0 2) (P o0 9) 0) := KT.w kt6 (TB.c (Or.inl rfl) (k_o0).1 (by decide))
    refine g_aload_n dX3_addKind_41 rfl ?_
    refine x_g29_3 (n := (crX o0 3)) k_o0 ffX3_21 dX3_addKind_42 rfl ?_
    refine g_aload_n dX3_addKind_45 rfl ?_
    refine x_g29_9 (z := (P o0 9)) k_o0 ffX3_39 dX3_addKind_46 ((up_o (kx.ne k_o0 (ck_29_2 k_o0) rfl)).trans ((up_o (kx.ne k_o0 (ck_29_1 k_o0) rfl)).trans ((up_o (kx.ne k_o0 (ck_29_0 k_o0) rfl)).trans rfl))) ?_
    refine g_iconst dX3_addKind_49 ?_
    refine x_s33 (ck_29_3 k_o0) dX3_addKind_50 ⟨by have q0 := bx_29_9 (o := o0) hB k_o0; (first | (clear hb; omega) | omega), by have q0 := bx_29_9 (o := o0) hB k_o0; (first | (clear hb; omega) | omega)⟩ ?_
    have hB9 := by_33 (z := 0) (k := (P o0 9)) hB7 (ck_29_3 k_o0) (by decide)
    have kt10 : KT (tbX o0) P (up (up (up (up P (crX o0 0) (P o0 9) a1) (crX o0 1) (P o0 9) (P o0 10)) (crX o0 2) (P o0 9) 0) (crX o0 3) (P o0 9) 0) := KT.w kt8 (TB.c (Or.inl rfl) (k_o0).1 (by decide))
    refine g_aload_n dX3_addKind_51 rfl ?_
    refine g_dup dX3_addKind_52 rfl ?_
    refine x_g29_9 (z := (P o0 9)) k_o0 ffX3_39 dX3_addKind_53 ((up_o (kx.ne k_o0 (ck_29_3 k_o0) rfl)).trans ((up_o (kx.ne k_o0 (ck_29_2 k_o0) rfl)).trans ((up_o (kx.ne k_o0 (ck_29_1 k_o0) rfl)).trans ((up_o (kx.ne k_o0 (ck_29_0 k_o0) rfl)).trans rfl)))) ?_
    refine g_iconst dX3_addKind_56 ?_
    refine g_iadd dX3_addKind_57 ?_
    refine x_p29_9 k_o0 pfX3_39 dX3_addKind_58 ?_
    have hB11 := by_29_9 (z := ((P o0 9) + 1)) hB9 k_o0 ⟨by have q0 := bx_29_9 (o := o0) hB k_o0; (first | (clear hb; omega) | omega), by have q0 := bx_29_9 (o := o0) hB k_o0; (first | (clear hb; omega) | omega)⟩
    have kt12 : KT (tbX o0) P (up (up (up (up (up P (crX o0 0) (P o0 9) a1) (crX o0 1) (P o0 9) (P o0 10)) (crX o0 2) (P o0 9) 0) (crX o0 3) (P o0 9) 0) o0 9 ((P o0 9) + 1)) := KT.w kt10 (Or.inl rfl)
    exact g_retV dX3_addKind_61 rfl (hQ _ hB11 (FrX.s (FrX.s (FrX.s (FrX.s (FrX.s FrX.rf (ck_29_0 k_o0) rfl) (ck_29_1 k_o0) rfl) (ck_29_2 k_o0) rfl) (ck_29_3 k_o0) rfl) k_o0 rfl) (by first | exact z0.kind up_same ((up_k (by decide)).trans ((up_o (kx.ne k_o0 (ck_29_3 k_o0) rfl)).trans ((up_o (kx.ne k_o0 (ck_29_2 k_o0) rfl)).trans ((up_o (kx.ne k_o0 (ck_29_1 k_o0) rfl)).trans ((up_o (kx.ne k_o0 (ck_29_0 k_o0) rfl)).trans rfl))))) ((up_o (kx.ne (ck_29_0 k_o0) k_o0 rfl)).trans ((up_o (kx.ne (ck_29_0 k_o0) (ck_29_3 k_o0) rfl)).trans ((up_o (kx.ne (ck_29_0 k_o0) (ck_29_2 k_o0) rfl)).trans ((up_o (kx.ne (ck_29_0 k_o0) (ck_29_1 k_o0) rfl)).trans up_same)))) (fun j hj => ((up_o (kx.ne (ck_29_0 k_o0) k_o0 rfl)).trans ((up_o (kx.ne (ck_29_0 k_o0) (ck_29_3 k_o0) rfl)).trans ((up_o (kx.ne (ck_29_0 k_o0) (ck_29_2 k_o0) rfl)).trans ((up_o (kx.ne (ck_29_0 k_o0) (ck_29_1 k_o0) rfl)).trans ((up_k hj).trans rfl)))))) ((up_o (kx.ne (ck_29_1 k_o0) k_o0 rfl)).trans ((up_o (kx.ne (ck_29_1 k_o0) (ck_29_3 k_o0) rfl)).trans ((up_o (kx.ne (ck_29_1 k_o0) (ck_29_2 k_o0) rfl)).trans up_same))) (fun j hj => ((up_o (kx.ne (ck_29_1 k_o0) k_o0 rfl)).trans ((up_o (kx.ne (ck_29_1 k_o0) (ck_29_3 k_o0) rfl)).trans ((up_o (kx.ne (ck_29_1 k_o0) (ck_29_2 k_o0) rfl)).trans ((up_k hj).trans ((up_o (kx.ne (ck_29_1 k_o0) (ck_29_0 k_o0) rfl)).trans rfl)))))) ((up_o (kx.ne (ck_29_2 k_o0) k_o0 rfl)).trans ((up_o (kx.ne (ck_29_2 k_o0) (ck_29_3 k_o0) rfl)).trans up_same)) (fun j hj => ((up_o (kx.ne (ck_29_2 k_o0) k_o0 rfl)).trans ((up_o (kx.ne (ck_29_2 k_o0) (ck_29_3 k_o0) rfl)).trans ((up_k hj).trans ((up_o (kx.ne (ck_29_2 k_o0) (ck_29_1 k_o0) rfl)).trans ((up_o (kx.ne (ck_29_2 k_o0) (ck_29_0 k_o0) rfl)).trans rfl)))))) ((up_o (kx.ne (ck_29_3 k_o0) k_o0 rfl)).trans up_same) (fun j hj => ((up_o (kx.ne (ck_29_3 k_o0) k_o0 rfl)).trans ((up_k hj).trans ((up_o (kx.ne (ck_29_3 k_o0) (ck_29_2 k_o0) rfl)).trans ((up_o (kx.ne (ck_29_3 k_o0) (ck_29_1 k_o0) rfl)).trans ((up_o (kx.ne (ck_29_3 k_o0) (ck_29_0 k_o0) rfl)).trans rfl)))))) (fun j => ((up_o (kx.ne (ck_29_4 k_o0) k_o0 rfl)).trans ((up_o (kx.ne (ck_29_4 k_o0) (ck_29_3 k_o0) rfl)).trans ((up_o (kx.ne (ck_29_4 k_o0) (ck_29_2 k_o0) rfl)).trans ((up_o (kx.ne (ck_29_4 k_o0) (ck_29_1 k_o0) rfl)).trans ((up_o (kx.ne (ck_29_4 k_o0) (ck_29_0 k_o0) rfl)).trans rfl)))))) (fun j => ((up_o (kx.ne (ck_29_5 k_o0) k_o0 rfl)).trans ((up_o (kx.ne (ck_29_5 k_o0) (ck_29_3 k_o0) rfl)).trans ((up_o (kx.ne (ck_29_5 k_o0) (ck_29_2 k_o0) rfl)).trans ((up_o (kx.ne (ck_29_5 k_o0) (ck_29_1 k_o0) rfl)).trans ((up_o (kx.ne (ck_29_5 k_o0) (ck_29_0 k_o0) rfl)).trans rfl)))))) (fun j => ((up_o (kx.ne (ck_29_6 k_o0) k_o0 rfl)).trans ((up_o (kx.ne (ck_29_6 k_o0) (ck_29_3 k_o0) rfl)).trans ((up_o (kx.ne (ck_29_6 k_o0) (ck_29_2 k_o0) rfl)).trans ((up_o (kx.ne (ck_29_6 k_o0) (ck_29_1 k_o0) rfl)).trans ((up_o (kx.ne (ck_29_6 k_o0) (ck_29_0 k_o0) rfl)).trans rfl)))))) (fun j => ((up_o (kx.ne (ck_29_7 k_o0) k_o0 rfl)).trans ((up_o (kx.ne (ck_29_7 k_o0) (ck_29_3 k_o0) rfl)).trans ((up_o (kx.ne (ck_29_7 k_o0) (ck_29_2 k_o0) rfl)).trans ((up_o (kx.ne (ck_29_7 k_o0) (ck_29_1 k_o0) rfl)).trans ((up_o (kx.ne (ck_29_7 k_o0) (ck_29_0 k_o0) rfl)).trans rfl)))))) (fun j => ((up_o (kx.ne (ck_29_8 k_o0) k_o0 rfl)).trans ((up_o (kx.ne (ck_29_8 k_o0) (ck_29_3 k_o0) rfl)).trans ((up_o (kx.ne (ck_29_8 k_o0) (ck_29_2 k_o0) rfl)).trans ((up_o (kx.ne (ck_29_8 k_o0) (ck_29_1 k_o0) rfl)).trans ((up_o (kx.ne (ck_29_8 k_o0) (ck_29_0 k_o0) rfl)).trans rfl)))))) | (exfalso; (first | (clear hb; omega) | omega))) (kt12))
