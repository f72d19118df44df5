/-! What the class answers: X9_addColumn. -/
set_option maxRecDepth 100000 in
set_option maxHeartbeats 4000000 in
theorem f_X9_addColumn (G : GT) (P : PH) (K : PH) (M : PH) (i : Int) (F : FT) (o0 : Nat) (a1 : Int) (k_o0 : kx o0 28) (h_a1 : (-2147483648) ≤ a1 ∧ a1 ≤ 2147483647) (hB : BdX P) (p_aw : AW K) (p_kb : -1 ≤ a1 ∧ a1 < K 0 0) (p_m4 : 0 ≤ M 0 0 ∧ M 0 0 ≤ 3) (p_ri : (M 0 0 = 0 ∧ i = 1) ∨ (1 ≤ M 0 0 ∧ i = M 0 1)) (p_rb : 1 ≤ i ∧ i ≤ 20000 ∧ 1 ≤ sz K a1) (z0 : XK K (crX o0 0) P) (z1 : XM M o0 P) (z2 : XZ K M o0 P) (z3 : XFz K M F o0 P) (Q : Option PV → PH → Prop) (hQ : ∀ (P1 : PH) (_ : BdX P1) (_ : FrX ([(28, 6), (28, 7)], [39, 40, 41, 44]) P P1) (_ : XM (mCol M a1 (i * sz K a1)) o0 P1) (_ : KT (tbX o0) P P1) (_ : XZ K (mCol M a1 (i * sz K a1)) o0 P1) (_ : XFz K (mCol M a1 (i * sz K a1)) F o0 P1), Q none P1) : Ct WSX G 2 iX9_addColumn [vR o0, vI a1] P Q := by
  refine Ct.of (by decide) (l0 := [(0, vR o0), (1, vI a1)]) rfl (Nat.le_of_ble_eq_true rfl) ?_
  have kt0 : KT (tbX o0) P P := KT.rf
  have hmb := z1.b
  have hszs := sz_s K a1
  have hk0 := p_aw.1
  have ha1 := p_aw.2.1 a1
  refine g_aload_n dX9_addColumn_0 rfl ?_
  refine x_g28_0 (n := (crX o0 0)) k_o0 ffX9_12 dX9_addColumn_1 rfl ?_
  refine g_iload_n dX9_addColumn_4 rfl ?_
  refine g_vI (av := [vI a1]) (o := (crX o0 0)) (st := []) (f_X3_sizeOf G P K (crX o0 0) a1 (ck_28_0 k_o0) ⟨by (first | (clear p_ri hmb hszs; omega) | omega), by (first | (clear p_ri hmb hszs; omega) | omega)⟩ hB (by (first | (clear p_ri hmb hszs; omega) | (clear p_ri hmb; omega) | (clear p_ri hszs; omega) | (clear hmb hszs; omega) | (clear p_ri; omega) | omega)) (z0) _ (fun rc1 hc1 gc1_s => ⟨rc1, rfl, ?_⟩)) cf_X3_sizeOf t_792 rfl (show kx (crX o0 0) 29 from (ck_28_0 k_o0)).1 ((show kx (crX o0 0) 29 from (ck_28_0 k_o0)).sh rfl) rfl rfl (Nat.le_of_ble_eq_true rfl) (by decide) rfl dX9_addColumn_5
  refine g_istore_n (l1 := [(2, vI rc1), (0, vR o0), (1, vI a1)]) dX9_addColumn_8 (by decide) rfl ?_
  refine g_aload_n dX9_addColumn_9 rfl ?_
  refine x_g28_6 (z := (P o0 6)) k_o0 ffX9_39 dX9_addColumn_10 rfl ?_
  refine g_iconst dX9_addColumn_13 ?_
  have f2 := bx_28_6 (o := o0) hB k_o0
  refine g_icmp_ge (tgt := 24) dX9_addColumn_14 (by decide) ⟨by have q0 := bx_28_6 (o := o0) hB k_o0; (first | (clear p_ri hmb hszs; omega) | omega), by have q0 := bx_28_6 (o := o0) hB k_o0; (first | (clear p_ri hmb hszs; omega) | omega)⟩ (by decide) (fun k3 => ?_) (fun k3 => ?_)
  · first | (revert r_hszs; intro r_hszs) | have r_hszs := (hszs.resolve_right (by (clear p_ri hmb hszs k3; omega))) | have r_hszs := (hszs.resolve_left (by (clear p_ri hmb hszs k3; omega))) | skip
    first | (revert r_p_ri; intro r_p_ri) | have r_p_ri := (p_ri.resolve_right (by (clear p_ri hmb hszs k3; omega))) | have r_p_ri := (p_ri.resolve_left (by (clear p_ri hmb hszs k3; omega))) | skip
    exfalso
    have ha2 := p_aw.2.1 a1
    rcases hszs with h | h
    · first | (revert r_p_ri; intro r_p_ri) | have r_p_ri := (p_ri.resolve_right (by (clear p_ri hmb k3; omega))) | have r_p_ri := (p_ri.resolve_left (by (clear p_ri hmb k3; omega))) | skip
      (first | (clear p_ri hmb k3; omega) | (clear p_ri hmb; omega) | (clear p_ri k3; omega) | (clear hmb k3; omega) | (clear p_ri; omega) | omega)
    · first | (revert r_p_ri; intro r_p_ri) | have r_p_ri := (p_ri.resolve_right (by (clear p_ri hmb k3; omega))) | have r_p_ri := (p_ri.resolve_left (by (clear p_ri hmb k3; omega))) | skip
      have ha3 := ha2 (by (first | (clear p_ri hmb k3; omega) | (clear p_ri hmb; omega) | (clear p_ri k3; omega) | (clear hmb k3; omega) | (clear p_ri; omega) | omega)) (by (first | (clear p_ri hmb k3; omega) | (clear p_ri hmb; omega) | (clear p_ri k3; omega) | (clear hmb k3; omega) | (clear p_ri; omega) | omega)); (first | (clear p_ri hmb k3; omega) | (clear p_ri hmb; omega) | (clear p_ri k3; omega) | (clear hmb k3; omega) | (clear p_ri; omega) | omega)
  · first | (revert r_hszs; intro r_hszs) | have r_hszs := (hszs.resolve_right (by (clear p_ri hmb hszs k3; omega))) | have r_hszs := (hszs.resolve_left (by (clear p_ri hmb hszs k3; omega))) | skip
    first | (revert r_p_ri; intro r_p_ri) | have r_p_ri := (p_ri.resolve_right (by (clear p_ri hmb hszs k3; omega))) | have r_p_ri := (p_ri.resolve_left (by (clear p_ri hmb hszs k3; omega))) | skip
    refine g_iload_n dX9_addColumn_17 rfl ?_
    refine g_sipush dX9_addColumn_18 (by decide) ?_
    refine g_icmp_le (tgt := 25) dX9_addColumn_21 (by decide) ⟨by (first | (clear p_ri hmb hszs k3; omega) | omega), by (first | (clear p_ri hmb hszs k3; omega) | omega)⟩ (by decide) (fun k4 => ?_) (fun k4 => ?_)
    · first | (revert r_hszs; intro r_hszs) | have r_hszs := (hszs.resolve_right (by (clear p_ri hmb hszs k3 k4; omega))) | have r_hszs := (hszs.resolve_left (by (clear p_ri hmb hszs k3 k4; omega))) | skip
      first | (revert r_p_ri; intro r_p_ri) | have r_p_ri := (p_ri.resolve_right (by (clear p_ri hmb hszs k3 k4; omega))) | have r_p_ri := (p_ri.resolve_left (by (clear p_ri hmb hszs k3 k4; omega))) | skip
      refine g_aload_n dX9_addColumn_25 rfl ?_
      refine x_g28_1 (n := (crX o0 1)) k_o0 ffX9_18 dX9_addColumn_26 rfl ?_
      refine g_aload_n dX9_addColumn_29 rfl ?_
      refine x_g28_6 (z := (P o0 6)) k_o0 ffX9_39 dX9_addColumn_30 rfl ?_
      refine g_iload_n dX9_addColumn_33 rfl ?_
      refine x_s39 (ck_28_1 k_o0) dX9_addColumn_34 ⟨by have q0 := bx_28_6 (o := o0) hB k_o0; (first | (clear p_ri hmb hszs k3 k4; omega) | omega), by have q0 := bx_28_6 (o := o0) hB k_o0; (first | (clear p_ri hmb hszs k3 k4; omega) | omega)⟩ ?_
      have hB5 := by_39 (z := a1) (k := (P o0 6)) hB (ck_28_1 k_o0) ⟨by (first | (clear p_ri hmb hszs k3 k4; omega) | omega), by (first | (clear p_ri hmb hszs k3 k4; omega) | omega)⟩
      have kt6 : KT (tbX o0) P (up P (crX o0 1) (P o0 6) a1) := KT.w kt0 (TB.c (Or.inl rfl) (k_o0).1 (by decide))
      refine g_aload_n dX9_addColumn_35 rfl ?_
      refine x_g28_2 (n := (crX o0 2)) k_o0 ffX9_22 dX9_addColumn_36 rfl ?_
      refine g_aload_n dX9_addColumn_39 rfl ?_
      refine x_g28_6 (z := (P o0 6)) k_o0 ffX9_39 dX9_addColumn_40 ((up_o (kx.ne k_o0 (ck_28_1 k_o0) rfl)).trans rfl) ?_
      refine g_iload_n dX9_addColumn_43 rfl ?_
      refine x_s40 (ck_28_2 k_o0) dX9_addColumn_44 ⟨by have q0 := bx_28_6 (o := o0) hB k_o0; (first | (clear p_ri hmb hszs k3 k4; omega) | omega), by have q0 := bx_28_6 (o := o0) hB k_o0; (first | (clear p_ri hmb hszs k3 k4; omega) | omega)⟩ ?_
      have hB7 := by_40 (z := rc1) (k := (P o0 6)) hB5 (ck_28_2 k_o0) ⟨by (first | (clear p_ri hmb hszs k3 k4; omega) | omega), by (first | (clear p_ri hmb hszs k3 k4; omega) | omega)⟩
      have kt8 : KT (tbX o0) P (up (up P (crX o0 1) (P o0 6) a1) (crX o0 2) (P o0 6) rc1) := KT.w kt6 (TB.c (Or.inl rfl) (k_o0).1 (by decide))
      refine g_aload_n dX9_addColumn_45 rfl ?_
      refine x_g28_3 (n := (crX o0 3)) k_o0 ffX9_25 dX9_addColumn_46 rfl ?_
      refine g_aload_n dX9_addColumn_49 rfl ?_
      refine x_g28_6 (z := (P o0 6)) k_o0 ffX9_39 dX9_addColumn_50 ((up_o (kx.ne k_o0 (ck_28_2 k_o0) rfl)).trans ((up_o (kx.ne k_o0 (ck_28_1 k_o0) rfl)).trans rfl)) ?_
      refine g_iconst dX9_addColumn_53 ?_
      refine x_s41 (ck_28_3 k_o0) dX9_addColumn_54 ⟨by have q0 := bx_28_6 (o := o0) hB k_o0; (first | (clear p_ri hmb hszs k3 k4; omega) | omega), by have q0 := bx_28_6 (o := o0) hB k_o0; (first | (clear p_ri hmb hszs k3 k4; omega) | omega)⟩ ?_
      have hB9 := by_41 (z := 0) (k := (P o0 6)) hB7 (ck_28_3 k_o0) (by decide)
      have kt10 : KT (tbX o0) P (up (up (up P (crX o0 1) (P o0 6) a1) (crX o0 2) (P o0 6) rc1) (crX o0 3) (P o0 6) 0) := KT.w kt8 (TB.c (Or.inl rfl) (k_o0).1 (by decide))
      refine g_iconst dX9_addColumn_55 ?_
      refine g_istore_n (l1 := [(3, vI 0), (2, vI rc1), (0, vR o0), (1, vI a1)]) dX9_addColumn_56 (by decide) rfl ?_
      have L57_10 : ∀ (n57_10 : Nat) (x57_3_10 : Int) (h_x57_3_10 : 0 ≤ x57_3_10 ∧ x57_3_10 ≤ 2048) (H57_10 : PH) (hB57_10 : BdX H57_10) (hE57_10 : FrX ([], [44]) (up (up (up P (crX o0 1) (P o0 6) a1) (crX o0 2) (P o0 6) rc1) (crX o0 3) (P o0 6) 0) H57_10) (i57_0_10 : ZRx (crX (crX o0 5) (P o0 6).toNat) x57_3_10 P H57_10) (i57_1_10 : x57_3_10 ≤ rc1 ∨ x57_3_10 = 0) (w57_q0_10 : KT (tbX o0) P H57_10) (hm57_10 : ((2049 - x57_3_10) : Int).toNat < n57_10), Go WSX G 2 iX9_addColumn 57 [(0, vR o0), (2, vI rc1), (3, vI x57_3_10)] [] H57_10 Q := by
        intro n57_10
        induction n57_10 with
        | zero => intro x57_3_10 h_x57_3_10 H57_10 hB57_10 hE57_10 i57_0_10 i57_1_10 w57_q0_10 hm57_10; exact absurd hm57_10 (Nat.not_lt_zero _)
        | succ n57_10 ih57_10 =>
        intro x57_3_10 h_x57_3_10 H57_10 hB57_10 hE57_10 i57_0_10 i57_1_10 w57_q0_10 hm57_10
        have hl2 : rc1 = sz K a1 := by (first | (clear p_ri hmb hszs k3 k4 i57_1_10; omega) | (clear p_ri hmb hszs k3 k4; omega) | (clear p_ri hmb hszs k3 i57_1_10; omega) | (clear p_ri hmb hszs k4 i57_1_10; omega) | (clear p_ri hmb k3 k4 i57_1_10; omega) | (clear p_ri hszs k3 k4 i57_1_10; omega) | (clear hmb hszs k3 k4 i57_1_10; omega) | (clear p_ri hmb hszs k3; omega) | (clear hmb p_ri; omega) | omega)
        refine g_iload_n dX9_addColumn_57 rfl ?_
        refine g_iload_n dX9_addColumn_58 rfl ?_
        refine g_icmp_ge (tgt := 80) dX9_addColumn_59 (by decide) ⟨by (first | (clear p_ri hmb hszs k3 k4 i57_1_10; omega) | omega), by (first | (clear p_ri hmb hszs k3 k4 i57_1_10; omega) | omega)⟩ ⟨by (first | (clear p_ri hmb hszs k3 k4 i57_1_10; omega) | omega), by (first | (clear p_ri hmb hszs k3 k4 i57_1_10; omega) | omega)⟩ (fun k282 => ?_) (fun k282 => ?_)
        · first | (revert r_i57_1_10; intro r_i57_1_10) | have r_i57_1_10 := (i57_1_10.resolve_right (by (clear p_ri hmb hszs k3 k4 i57_1_10; omega))) | have r_i57_1_10 := (i57_1_10.resolve_left (by (clear p_ri hmb hszs k3 k4 i57_1_10; omega))) | skip
          first | (revert r_hszs; intro r_hszs) | have r_hszs := (hszs.resolve_right (by (clear p_ri hmb hszs k3 k4 i57_1_10; omega))) | have r_hszs := (hszs.resolve_left (by (clear p_ri hmb hszs k3 k4 i57_1_10; omega))) | skip
          first | (revert r_p_ri; intro r_p_ri) | have r_p_ri := (p_ri.resolve_right (by (clear p_ri hmb hszs k3 k4 i57_1_10; omega))) | have r_p_ri := (p_ri.resolve_left (by (clear p_ri hmb hszs k3 k4 i57_1_10; omega))) | skip
          have iv283 : XFz K (mCol M a1 (i * sz K a1)) F o0 H57_10 := z3.col (c0 := P o0 6) (by (first | (clear p_ri hmb hszs k3 k4 i57_1_10; omega) | (clear p_ri hmb hszs k3 k4; omega) | (clear p_ri hmb hszs k3 i57_1_10; omega) | (clear p_ri hmb hszs k4 i57_1_10; omega) | (clear p_ri hmb k3 k4 i57_1_10; omega) | (clear p_ri hszs k3 k4 i57_1_10; omega) | (clear hmb hszs k3 k4 i57_1_10; omega) | (clear p_ri hmb hszs k3; omega) | (clear hmb p_ri; omega) | omega)) (by (first | (clear p_ri hmb hszs k3 k4 i57_1_10; omega) | (clear p_ri hmb hszs k3 k4; omega) | (clear p_ri hmb hszs k3 i57_1_10; omega) | (clear p_ri hmb hszs k4 i57_1_10; omega) | (clear p_ri hmb k3 k4 i57_1_10; omega) | (clear p_ri hszs k3 k4 i57_1_10; omega) | (clear hmb hszs k3 k4 i57_1_10; omega) | (clear p_ri hmb hszs k3; omega) | (clear hmb p_ri; omega) | omega)) (by have q := i57_0_10; rw [show x57_3_10 = sz K a1 by (first | (clear p_ri hmb hszs k3 k4 i57_1_10; omega) | (clear p_ri hmb hszs k3 k4; omega) | (clear p_ri hmb hszs k3 i57_1_10; omega) | (clear p_ri hmb hszs k4 i57_1_10; omega) | (clear p_ri hmb k3 k4 i57_1_10; omega) | (clear p_ri hszs k3 k4 i57_1_10; omega) | (clear hmb hszs k3 k4 i57_1_10; omega) | (clear p_ri hmb hszs k3; omega) | (clear hmb p_ri; omega) | omega)] at q; exact q)
          refine g_aload_n dX9_addColumn_80 rfl ?_
          refine g_aload_n dX9_addColumn_81 rfl ?_
          refine x_g28_6 (z := (P o0 6)) k_o0 ffX9_39 dX9_addColumn_82 ((FrX.g hE57_10 k_o0 rfl).trans ((up_o (kx.ne k_o0 (ck_28_3 k_o0) rfl)).trans ((up_o (kx.ne k_o0 (ck_28_2 k_o0) rfl)).trans ((up_o (kx.ne k_o0 (ck_28_1 k_o0) rfl)).trans rfl)))) ?_
          refine g_if_ne (tgt := 92) dX9_addColumn_85 (by decide) ⟨by have q0 := bx_28_6 (o := o0) hB k_o0; (first | (clear p_ri hmb hszs k3 k4 i57_1_10; omega) | omega), by have q0 := bx_28_6 (o := o0) hB k_o0; (first | (clear p_ri hmb hszs k3 k4 i57_1_10; omega) | omega)⟩ (fun k284 => ?_) (fun k284 => ?_)
          · have k284n : 1 ≤ (P o0 6) := by have q0 := bx_28_6 (o := o0) hB k_o0; (first | (clear p_ri hmb hszs k3 k4 i57_1_10; omega) | (clear p_ri hmb hszs k3 k4; omega) | (clear p_ri hmb hszs k3 i57_1_10; omega) | (clear p_ri hmb hszs k4 i57_1_10; omega) | (clear p_ri hmb k3 k4 i57_1_10; omega) | (clear p_ri hszs k3 k4 i57_1_10; omega) | (clear hmb hszs k3 k4 i57_1_10; omega) | (clear p_ri hmb hszs k3; omega) | (clear hmb p_ri; omega) | omega)
            clear k284
            first | (revert r_i57_1_10; intro r_i57_1_10) | have r_i57_1_10 := (i57_1_10.resolve_right (by (clear p_ri hmb hszs k3 k4 i57_1_10; omega))) | have r_i57_1_10 := (i57_1_10.resolve_left (by (clear p_ri hmb hszs k3 k4 i57_1_10; omega))) | skip
            first | (revert r_hszs; intro r_hszs) | have r_hszs := (hszs.resolve_right (by (clear p_ri hmb hszs k3 k4 i57_1_10; omega))) | have r_hszs := (hszs.resolve_left (by (clear p_ri hmb hszs k3 k4 i57_1_10; omega))) | skip
            first | (revert r_p_ri; intro r_p_ri) | have r_p_ri := (p_ri.resolve_right (by (clear p_ri hmb hszs k3 k4 i57_1_10; omega))) | have r_p_ri := (p_ri.resolve_left (by (clear p_ri hmb hszs k3 k4 i57_1_10; omega))) | skip
            refine g_aload_n dX9_addColumn_92 rfl ?_
            refine x_g28_7 (z := (P o0 7)) k_o0 ffX9_43 dX9_addColumn_93 ((FrX.g hE57_10 k_o0 rfl).trans ((up_o (kx.ne k_o0 (ck_28_3 k_o0) rfl)).trans ((up_o (kx.ne k_o0 (ck_28_2 k_o0) rfl)).trans ((up_o (kx.ne k_o0 (ck_28_1 k_o0) rfl)).trans rfl)))) ?_
            refine g_iload_n dX9_addColumn_96 rfl ?_
            refine g_imul dX9_addColumn_97 ?_
            refine g_nm (fun w285 e_w285 => ?_)
            have h_w285 : 1 ≤ w285 ∧ w285 ≤ 40120000 := by rw [e_w285]; exact mul_b (A := 20000) (B := 2006) ⟨by (first | (clear p_ri hmb hszs k3 k4 i57_1_10; omega) | (clear p_ri hmb hszs k3 k4; omega) | (clear p_ri hmb hszs k3 i57_1_10; omega) | (clear p_ri hmb hszs k4 i57_1_10; omega) | (clear p_ri hmb k3 k4 i57_1_10; omega) | (clear p_ri hszs k3 k4 i57_1_10; omega) | (clear hmb hszs k3 k4 i57_1_10; omega) | (clear p_ri hmb hszs k3; omega) | (clear hmb p_ri; omega) | omega), by (first | (clear p_ri hmb hszs k3 k4 i57_1_10; omega) | (clear p_ri hmb hszs k3 k4; omega) | (clear p_ri hmb hszs k3 i57_1_10; omega) | (clear p_ri hmb hszs k4 i57_1_10; omega) | (clear p_ri hmb k3 k4 i57_1_10; omega) | (clear p_ri hszs k3 k4 i57_1_10; omega) | (clear hmb hszs k3 k4 i57_1_10; omega) | (clear p_ri hmb hszs k3; omega) | (clear hmb p_ri; omega) | omega)⟩ ⟨by (first | (clear p_ri hmb hszs k3 k4 i57_1_10; omega) | (clear p_ri hmb hszs k3 k4; omega) | (clear p_ri hmb hszs k3 i57_1_10; omega) | (clear p_ri hmb hszs k4 i57_1_10; omega) | (clear p_ri hmb k3 k4 i57_1_10; omega) | (clear p_ri hszs k3 k4 i57_1_10; omega) | (clear hmb hszs k3 k4 i57_1_10; omega) | (clear p_ri hmb hszs k3; omega) | (clear hmb p_ri; omega) | omega), by (first | (clear p_ri hmb hszs k3 k4 i57_1_10; omega) | (clear p_ri hmb hszs k3 k4; omega) | (clear p_ri hmb hszs k3 i57_1_10; omega) | (clear p_ri hmb hszs k4 i57_1_10; omega) | (clear p_ri hmb k3 k4 i57_1_10; omega) | (clear p_ri hszs k3 k4 i57_1_10; omega) | (clear hmb hszs k3 k4 i57_1_10; omega) | (clear p_ri hmb hszs k3; omega) | (clear hmb p_ri; omega) | omega)⟩
            have hm9 := e_w285
            refine x_p28_7 k_o0 pfX9_43 dX9_addColumn_98 ?_
            have hB286 := by_28_7 (z := w285) hB57_10 k_o0 ⟨by (first | (clear p_ri hmb hszs k3 k4 i57_1_10; omega) | omega), by (first | (clear p_ri hmb hszs k3 k4 i57_1_10; omega) | omega)⟩
            have kt287 : KT (tbX o0) P (up H57_10 o0 7 w285) := KT.w w57_q0_10 (Or.inl rfl)
            refine g_aload_n dX9_addColumn_101 rfl ?_
            refine g_dup dX9_addColumn_102 rfl ?_
            refine x_g28_6 (z := (P o0 6)) k_o0 ffX9_39 dX9_addColumn_103 ((up_k (by decide)).trans ((FrX.g hE57_10 k_o0 rfl).trans ((up_o (kx.ne k_o0 (ck_28_3 k_o0) rfl)).trans ((up_o (kx.ne k_o0 (ck_28_2 k_o0) rfl)).trans ((up_o (kx.ne k_o0 (ck_28_1 k_o0) rfl)).trans rfl))))) ?_
            refine g_iconst dX9_addColumn_106 ?_
            refine g_iadd dX9_addColumn_107 ?_
            refine x_p28_6 k_o0 pfX9_39 dX9_addColumn_108 ?_
            have hB288 := by_28_6 (z := ((P o0 6) + 1)) hB286 k_o0 ⟨by have q0 := bx_28_6 (o := o0) hB k_o0; (first | (clear p_ri hmb hszs k3 k4 i57_1_10; omega) | omega), by have q0 := bx_28_6 (o := o0) hB k_o0; (first | (clear p_ri hmb hszs k3 k4 i57_1_10; omega) | omega)⟩
            have kt289 : KT (tbX o0) P (up (up H57_10 o0 7 w285) o0 6 ((P o0 6) + 1)) := KT.w kt287 (Or.inl rfl)
            exact g_retV dX9_addColumn_111 rfl (hQ _ hB288 (FrX.s (FrX.s (FrX.c (FrX.s (FrX.s (FrX.s FrX.rf (ck_28_1 k_o0) rfl) (ck_28_2 k_o0) rfl) (ck_28_3 k_o0) rfl) hE57_10 rfl) k_o0 rfl) k_o0 rfl) (by first | exact z1.col up_same ((((up_k (by decide)).trans up_same)).trans (by first | (rw [hm9]; congr 1 <;> (first | (clear p_ri hmb hszs k3 k4 i57_1_10; omega) | (clear p_ri hmb hszs k3 k4; omega) | (clear p_ri hmb hszs k3 i57_1_10; omega) | (clear p_ri hmb hszs k4 i57_1_10; omega) | (clear p_ri hmb k3 k4 i57_1_10; omega) | (clear p_ri hszs k3 k4 i57_1_10; omega) | (clear hmb hszs k3 k4 i57_1_10; omega) | (clear p_ri hmb hszs k3; omega) | (clear hmb p_ri; omega) | omega)) | (rw [show i = 1 by (first | (clear p_ri hmb hszs k3 k4 i57_1_10; omega) | (clear p_ri hmb hszs k3 k4; omega) | (clear p_ri hmb hszs k3 i57_1_10; omega) | (clear p_ri hmb hszs k4 i57_1_10; omega) | (clear p_ri hmb k3 k4 i57_1_10; omega) | (clear p_ri hszs k3 k4 i57_1_10; omega) | (clear hmb hszs k3 k4 i57_1_10; omega) | (clear p_ri hmb hszs k3; omega) | (clear hmb p_ri; omega) | omega)]; (first | (clear p_ri hmb hszs k3 k4 i57_1_10; omega) | (clear p_ri hmb hszs k3 k4; omega) | (clear p_ri hmb hszs k3 i57_1_10; omega) | (clear p_ri hmb hszs k4 i57_1_10; omega) | (clear p_ri hmb k3 k4 i57_1_10; omega) | (clear p_ri hszs k3 k4 i57_1_10; omega) | (clear hmb hszs k3 k4 i57_1_10; omega) | (clear p_ri hmb hszs k3; omega) | (clear hmb p_ri; omega) | omega)))) ((up_k (by decide)).trans ((up_k (by decide)).trans ((FrX.g hE57_10 k_o0 rfl).trans ((up_o (kx.ne k_o0 (ck_28_3 k_o0) rfl)).trans ((up_o (kx.ne k_o0 (ck_28_2 k_o0) rfl)).trans ((up_o (kx.ne k_o0 (ck_28_1 k_o0) rfl)).trans rfl)))))) ((up_k (by decide)).trans ((up_k (by decide)).trans ((FrX.g hE57_10 k_o0 rfl).trans ((up_o (kx.ne k_o0 (ck_28_3 k_o0) rfl)).trans ((up_o (kx.ne k_o0 (ck_28_2 k_o0) rfl)).trans ((up_o (kx.ne k_o0 (ck_28_1 k_o0) rfl)).trans rfl)))))) ((up_k (by decide)).trans ((up_k (by decide)).trans ((FrX.g hE57_10 k_o0 rfl).trans ((up_o (kx.ne k_o0 (ck_28_3 k_o0) rfl)).trans ((up_o (kx.ne k_o0 (ck_28_2 k_o0) rfl)).trans ((up_o (kx.ne k_o0 (ck_28_1 k_o0) rfl)).trans rfl)))))) ((up_o (kx.ne (ck_28_1 k_o0) k_o0 rfl)).trans ((up_o (kx.ne (ck_28_1 k_o0) k_o0 rfl)).trans ((FrX.g hE57_10 (ck_28_1 k_o0) rfl).trans ((up_o (kx.ne (ck_28_1 k_o0) (ck_28_3 k_o0) rfl)).trans ((up_o (kx.ne (ck_28_1 k_o0) (ck_28_2 k_o0) rfl)).trans up_same))))) (fun j hj => ((up_o (kx.ne (ck_28_1 k_o0) k_o0 rfl)).trans ((up_o (kx.ne (ck_28_1 k_o0) k_o0 rfl)).trans ((FrX.g hE57_10 (ck_28_1 k_o0) rfl).trans ((up_o (kx.ne (ck_28_1 k_o0) (ck_28_3 k_o0) rfl)).trans ((up_o (kx.ne (ck_28_1 k_o0) (ck_28_2 k_o0) rfl)).trans ((up_k hj).trans rfl))))))) (fun j => ((up_o (kx.ne (ck_28_4 k_o0) k_o0 rfl)).trans ((up_o (kx.ne (ck_28_4 k_o0) k_o0 rfl)).trans ((FrX.g hE57_10 (ck_28_4 k_o0) rfl).trans ((up_o (kx.ne (ck_28_4 k_o0) (ck_28_3 k_o0) rfl)).trans ((up_o (kx.ne (ck_28_4 k_o0) (ck_28_2 k_o0) rfl)).trans ((up_o (kx.ne (ck_28_4 k_o0) (ck_28_1 k_o0) rfl)).trans rfl))))))) | (exfalso; (first | (clear p_ri hmb hszs k3 k4 i57_1_10; omega) | (clear p_ri hmb hszs k3 k4; omega) | (clear p_ri hmb hszs k3 i57_1_10; omega) | (clear p_ri hmb hszs k4 i57_1_10; omega) | (clear p_ri hmb k3 k4 i57_1_10; omega) | (clear p_ri hszs k3 k4 i57_1_10; omega) | (clear hmb hszs k3 k4 i57_1_10; omega) | (clear p_ri hmb hszs k3; omega) | (clear hmb p_ri; omega) | omega))) (kt289) (by first | exact z2.col hmb.1 (((up_o (kx.ne (ck_28_2 k_o0) k_o0 rfl)).trans ((up_o (kx.ne (ck_28_2 k_o0) k_o0 rfl)).trans ((FrX.g hE57_10 (ck_28_2 k_o0) rfl).trans ((up_o (kx.ne (ck_28_2 k_o0) (ck_28_3 k_o0) rfl)).trans up_same)))).trans (by (first | (clear p_ri hmb hszs k3 k4 i57_1_10; omega) | (clear p_ri hmb hszs k3 k4; omega) | (clear p_ri hmb hszs k3 i57_1_10; omega) | (clear p_ri hmb hszs k4 i57_1_10; omega) | (clear p_ri hmb k3 k4 i57_1_10; omega) | (clear p_ri hszs k3 k4 i57_1_10; omega) | (clear hmb hszs k3 k4 i57_1_10; omega) | (clear p_ri hmb hszs k3; omega) | (clear hmb p_ri; omega) | omega))) (fun j hj => ((up_o (kx.ne (ck_28_2 k_o0) k_o0 rfl)).trans ((up_o (kx.ne (ck_28_2 k_o0) k_o0 rfl)).trans ((FrX.g hE57_10 (ck_28_2 k_o0) rfl).trans ((up_o (kx.ne (ck_28_2 k_o0) (ck_28_3 k_o0) rfl)).trans ((up_k hj).trans ((up_o (kx.ne (ck_28_2 k_o0) (ck_28_1 k_o0) rfl)).trans rfl))))))) | (exfalso; (first | (clear p_ri hmb hszs k3 k4 i57_1_10; omega) | (clear p_ri hmb hszs k3 k4; omega) | (clear p_ri hmb hszs k3 i57_1_10; omega) | (clear p_ri hmb hszs k4 i57_1_10; omega) | (clear p_ri hmb k3 k4 i57_1_10; omega) | (clear p_ri hszs k3 k4 i57_1_10; omega) | (clear hmb hszs k3 k4 i57_1_10; omega) | (clear p_ri hmb hszs k3; omega) | (clear hmb p_ri; omega) | omega))) (by first | exact (XFz.fr iv283 (show FrX ([(28, 6), (28, 7)], []) _ _ from (FrX.s (FrX.s FrX.rf k_o0 rfl) k_o0 rfl)) rfl) | (exfalso; (first | (clear p_ri hmb hszs k3 k4 i57_1_10; omega) | (clear p_ri hmb hszs k3 k4; omega) | (clear p_ri hmb hszs k3 i57_1_10; omega) | (clear p_ri hmb hszs k4 i57_1_10; omega) | (clear p_ri hmb k3 k4 i57_1_10; omega) | (clear p_ri hszs k3 k4 i57_1_10; omega) | (clear hmb hszs k3 k4 i57_1_10; omega) | (clear p_ri hmb hszs k3; omega) | (clear hmb p_ri; omega) | omega))))
          · first | (revert r_i57_1_10; intro r_i57_1_10) | have r_i57_1_10 := (i57_1_10.resolve_right (by (clear p_ri hmb hszs k3 k4 i57_1_10; omega))) | have r_i57_1_10 := (i57_1_10.resolve_left (by (clear p_ri hmb hszs k3 k4 i57_1_10; omega))) | skip
            first | (revert r_hszs; intro r_hszs) | have r_hszs := (hszs.resolve_right (by (clear p_ri hmb hszs k3 k4 i57_1_10; omega))) | have r_hszs := (hszs.resolve_left (by (clear p_ri hmb hszs k3 k4 i57_1_10; omega))) | skip
            first | (revert r_p_ri; intro r_p_ri) | have r_p_ri := (p_ri.resolve_right (by (clear p_ri hmb hszs k3 k4 i57_1_10; omega))) | have r_p_ri := (p_ri.resolve_left (by (clear p_ri hmb hszs k3 k4 i57_1_10; omega))) | skip
            refine g_iload_n dX9_addColumn_88 rfl ?_
            refine g_goto (tgt := 98) dX9_addColumn_89 (by decide) ?_
            refine x_p28_7 k_o0 pfX9_43 dX9_addColumn_98 ?_
            have hB290 := by_28_7 (z := rc1) hB57_10 k_o0 ⟨by (first | (clear p_ri hmb hszs k3 k4 i57_1_10; omega) | omega), by (first | (clear p_ri hmb hszs k3 k4 i57_1_10; omega) | omega)⟩
            have kt291 : KT (tbX o0) P (up H57_10 o0 7 rc1) := KT.w w57_q0_10 (Or.inl rfl)
            refine g_aload_n dX9_addColumn_101 rfl ?_
            refine g_dup dX9_addColumn_102 rfl ?_
            refine x_g28_6 (z := (P o0 6)) k_o0 ffX9_39 dX9_addColumn_103 ((up_k (by decide)).trans ((FrX.g hE57_10 k_o0 rfl).trans ((up_o (kx.ne k_o0 (ck_28_3 k_o0) rfl)).trans ((up_o (kx.ne k_o0 (ck_28_2 k_o0) rfl)).trans ((up_o (kx.ne k_o0 (ck_28_1 k_o0) rfl)).trans rfl))))) ?_
            refine g_iconst dX9_addColumn_106 ?_
            refine g_iadd dX9_addColumn_107 ?_
            refine x_p28_6 k_o0 pfX9_39 dX9_addColumn_108 ?_
            have hB292 := by_28_6 (z := ((P o0 6) + 1)) hB290 k_o0 ⟨by have q0 := bx_28_6 (o := o0) hB k_o0; (first | (clear p_ri hmb hszs k3 k4 i57_1_10; omega) | omega), by have q0 := bx_28_6 (o := o0) hB k_o0; (first | (clear p_ri hmb hszs k3 k4 i57_1_10; omega) | omega)⟩
            have kt293 : KT (tbX o0) P (up (up H57_10 o0 7 rc1) o0 6 ((P o0 6) + 1)) := KT.w kt291 (Or.inl rfl)
            exact g_retV dX9_addColumn_111 rfl (hQ _ hB292 (FrX.s (FrX.s (FrX.c (FrX.s (FrX.s (FrX.s FrX.rf (ck_28_1 k_o0) rfl) (ck_28_2 k_o0) rfl) (ck_28_3 k_o0) rfl) hE57_10 rfl) k_o0 rfl) k_o0 rfl) (by first | exact z1.col up_same ((((up_k (by decide)).trans up_same)).trans (by first | (rw [hm9]; congr 1 <;> (first | (clear p_ri hmb hszs k3 k4 i57_1_10; omega) | (clear p_ri hmb hszs k3 k4; omega) | (clear p_ri hmb hszs k3 i57_1_10; omega) | (clear p_ri hmb hszs k4 i57_1_10; omega) | (clear p_ri hmb k3 k4 i57_1_10; omega) | (clear p_ri hszs k3 k4 i57_1_10; omega) | (clear hmb hszs k3 k4 i57_1_10; omega) | (clear p_ri hmb hszs k3; omega) | (clear hmb p_ri; omega) | omega)) | (rw [show i = 1 by (first | (clear p_ri hmb hszs k3 k4 i57_1_10; omega) | (clear p_ri hmb hszs k3 k4; omega) | (clear p_ri hmb hszs k3 i57_1_10; omega) | (clear p_ri hmb hszs k4 i57_1_10; omega) | (clear p_ri hmb k3 k4 i57_1_10; omega) | (clear p_ri hszs k3 k4 i57_1_10; omega) | (clear hmb hszs k3 k4 i57_1_10; omega) | (clear p_ri hmb hszs k3; omega) | (clear hmb p_ri; omega) | omega)]; (first | (clear p_ri hmb hszs k3 k4 i57_1_10; omega) | (clear p_ri hmb hszs k3 k4; omega) | (clear p_ri hmb hszs k3 i57_1_10; omega) | (clear p_ri hmb hszs k4 i57_1_10; omega) | (clear p_ri hmb k3 k4 i57_1_10; omega) | (clear p_ri hszs k3 k4 i57_1_10; omega) | (clear hmb hszs k3 k4 i57_1_10; omega) | (clear p_ri hmb hszs k3; omega) | (clear hmb p_ri; omega) | omega)))) ((up_k (by decide)).trans ((up_k (by decide)).trans ((FrX.g hE57_10 k_o0 rfl).trans ((up_o (kx.ne k_o0 (ck_28_3 k_o0) rfl)).trans ((up_o (kx.ne k_o0 (ck_28_2 k_o0) rfl)).trans ((up_o (kx.ne k_o0 (ck_28_1 k_o0) rfl)).trans rfl)))))) ((up_k (by decide)).trans ((up_k (by decide)).trans ((FrX.g hE57_10 k_o0 rfl).trans ((up_o (kx.ne k_o0 (ck_28_3 k_o0) rfl)).trans ((up_o (kx.ne k_o0 (ck_28_2 k_o0) rfl)).trans ((up_o (kx.ne k_o0 (ck_28_1 k_o0) rfl)).trans rfl)))))) ((up_k (by decide)).trans ((up_k (by decide)).trans ((FrX.g hE57_10 k_o0 rfl).trans ((up_o (kx.ne k_o0 (ck_28_3 k_o0) rfl)).trans ((up_o (kx.ne k_o0 (ck_28_2 k_o0) rfl)).trans ((up_o (kx.ne k_o0 (ck_28_1 k_o0) rfl)).trans rfl)))))) ((up_o (kx.ne (ck_28_1 k_o0) k_o0 rfl)).trans ((up_o (kx.ne (ck_28_1 k_o0) k_o0 rfl)).trans ((FrX.g hE57_10 (ck_28_1 k_o0) rfl).trans ((up_o (kx.ne (ck_28_1 k_o0) (ck_28_3 k_o0) rfl)).trans ((up_o (kx.ne (ck_28_1 k_o0) (ck_28_2 k_o0) rfl)).trans up_same))))) (fun j hj => ((up_o (kx.ne (ck_28_1 k_o0) k_o0 rfl)).trans ((up_o (kx.ne (ck_28_1 k_o0) k_o0 rfl)).trans ((FrX.g hE57_10 (ck_28_1 k_o0) rfl).trans ((up_o (kx.ne (ck_28_1 k_o0) (ck_28_3 k_o0) rfl)).trans ((up_o (kx.ne (ck_28_1 k_o0) (ck_28_2 k_o0) rfl)).trans ((up_k hj).trans rfl))))))) (fun j => ((up_o (kx.ne (ck_28_4 k_o0) k_o0 rfl)).trans ((up_o (kx.ne (ck_28_4 k_o0) k_o0 rfl)).trans ((FrX.g hE57_10 (ck_28_4 k_o0) rfl).trans ((up_o (kx.ne (ck_28_4 k_o0) (ck_28_3 k_o0) rfl)).trans ((up_o (kx.ne (ck_28_4 k_o0) (ck_28_2 k_o0) rfl)).trans ((up_o (kx.ne (ck_28_4 k_o0) (ck_28_1 k_o0) rfl)).trans rfl))))))) | (exfalso; (first | (clear p_ri hmb hszs k3 k4 i57_1_10; omega) | (clear p_ri hmb hszs k3 k4; omega) | (clear p_ri hmb hszs k3 i57_1_10; omega) | (clear p_ri hmb hszs k4 i57_1_10; omega) | (clear p_ri hmb k3 k4 i57_1_10; omega) | (clear p_ri hszs k3 k4 i57_1_10; omega) | (clear hmb hszs k3 k4 i57_1_10; omega) | (clear p_ri hmb hszs k3; omega) | (clear hmb p_ri; omega) | omega))) (kt293) (by first | exact z2.col hmb.1 (((up_o (kx.ne (ck_28_2 k_o0) k_o0 rfl)).trans ((up_o (kx.ne (ck_28_2 k_o0) k_o0 rfl)).trans ((FrX.g hE57_10 (ck_28_2 k_o0) rfl).trans ((up_o (kx.ne (ck_28_2 k_o0) (ck_28_3 k_o0) rfl)).trans up_same)))).trans (by (first | (clear p_ri hmb hszs k3 k4 i57_1_10; omega) | (clear p_ri hmb hszs k3 k4; omega) | (clear p_ri hmb hszs k3 i57_1_10; omega) | (clear p_ri hmb hszs k4 i57_1_10; omega) | (clear p_ri hmb k3 k4 i57_1_10; omega) | (clear p_ri hszs k3 k4 i57_1_10; omega) | (clear hmb hszs k3 k4 i57_1_10; omega) | (clear p_ri hmb hszs k3; omega) | (clear hmb p_ri; omega) | omega))) (fun j hj => ((up_o (kx.ne (ck_28_2 k_o0) k_o0 rfl)).trans ((up_o (kx.ne (ck_28_2 k_o0) k_o0 rfl)).trans ((FrX.g hE57_10 (ck_28_2 k_o0) rfl).trans ((up_o (kx.ne (ck_28_2 k_o0) (ck_28_3 k_o0) rfl)).trans ((up_k hj).trans ((up_o (kx.ne (ck_28_2 k_o0) (ck_28_1 k_o0) rfl)).trans rfl))))))) | (exfalso; (first | (clear p_ri hmb hszs k3 k4 i57_1_10; omega) | (clear p_ri hmb hszs k3 k4; omega) | (clear p_ri hmb hszs k3 i57_1_10; omega) | (clear p_ri hmb hszs k4 i57_1_10; omega) | (clear p_ri hmb k3 k4 i57_1_10; omega) | (clear p_ri hszs k3 k4 i57_1_10; omega) | (clear hmb hszs k3 k4 i57_1_10; omega) | (clear p_ri hmb hszs k3; omega) | (clear hmb p_ri; omega) | omega))) (by first | exact (XFz.fr iv283 (show FrX ([(28, 6), (28, 7)], []) _ _ from (FrX.s (FrX.s FrX.rf k_o0 rfl) k_o0 rfl)) rfl) | (exfalso; (first | (clear p_ri hmb hszs k3 k4 i57_1_10; omega) | (clear p_ri hmb hszs k3 k4; omega) | (clear p_ri hmb hszs k3 i57_1_10; omega) | (clear p_ri hmb hszs k4 i57_1_10; omega) | (clear p_ri hmb k3 k4 i57_1_10; omega) | (clear p_ri hszs k3 k4 i57_1_10; omega) | (clear hmb hszs k3 k4 i57_1_10; omega) | (clear p_ri hmb hszs k3; omega) | (clear hmb p_ri; omega) | omega))))
        · first | (revert r_i57_1_10; intro r_i57_1_10) | have r_i57_1_10 := (i57_1_10.resolve_right (by (clear p_ri hmb hszs k3 k4 i57_1_10; omega))) | have r_i57_1_10 := (i57_1_10.resolve_left (by (clear p_ri hmb hszs k3 k4 i57_1_10; omega))) | skip
          first | (revert r_hszs; intro r_hszs) | have r_hszs := (hszs.resolve_right (by (clear p_ri hmb hszs k3 k4 i57_1_10; omega))) | have r_hszs := (hszs.resolve_left (by (clear p_ri hmb hszs k3 k4 i57_1_10; omega))) | skip
          first | (revert r_p_ri; intro r_p_ri) | have r_p_ri := (p_ri.resolve_right (by (clear p_ri hmb hszs k3 k4 i57_1_10; omega))) | have r_p_ri := (p_ri.resolve_left (by (clear p_ri hmb hszs k3 k4 i57_1_10; omega))) | skip
          refine g_aload_n dX9_addColumn_62 rfl ?_
          refine x_g28_5 (n := (crX o0 5)) k_o0 ffX9_33 dX9_addColumn_63 rfl ?_
          refine g_aload_n dX9_addColumn_66 rfl ?_
          refine x_g28_6 (z := (P o0 6)) k_o0 ffX9_39 dX9_addColumn_67 ((FrX.g hE57_10 k_o0 rfl).trans ((up_o (kx.ne k_o0 (ck_28_3 k_o0) rfl)).trans ((up_o (kx.ne k_o0 (ck_28_2 k_o0) rfl)).trans ((up_o (kx.ne k_o0 (ck_28_1 k_o0) rfl)).trans rfl)))) ?_
          refine x_l43 (n := (crX (crX o0 5) (P o0 6).toNat)) (ck_28_5 k_o0) dX9_addColumn_70 ⟨by have q0 := bx_28_6 (o := o0) hB k_o0; (first | (clear p_ri hmb hszs k3 k4 i57_1_10; omega) | omega), by have q0 := bx_28_6 (o := o0) hB k_o0; (first | (clear p_ri hmb hszs k3 k4 i57_1_10; omega) | omega)⟩ rfl ?_
          have kk294 := (ce_43 (j := (P o0 6).toNat) (ck_28_5 k_o0) (by have q0 := bx_28_6 (o := o0) hB k_o0; (first | (clear p_ri hmb hszs k3 k4 i57_1_10; omega) | (clear p_ri hmb hszs k3 k4; omega) | (clear p_ri hmb hszs k3 i57_1_10; omega) | (clear p_ri hmb hszs k4 i57_1_10; omega) | (clear p_ri hmb k3 k4 i57_1_10; omega) | (clear p_ri hszs k3 k4 i57_1_10; omega) | (clear hmb hszs k3 k4 i57_1_10; omega) | (clear p_ri hmb hszs k3; omega) | (clear hmb p_ri; omega) | omega)))
          refine g_iload_n dX9_addColumn_71 rfl ?_
          refine g_iconst dX9_addColumn_72 ?_
          refine x_s44 kk294 dX9_addColumn_73 ⟨by (first | (clear p_ri hmb hszs k3 k4 i57_1_10; omega) | omega), by (first | (clear p_ri hmb hszs k3 k4 i57_1_10; omega) | omega)⟩ ?_
          have hB295 := by_44 (z := 0) (k := x57_3_10) hB57_10 kk294 (by decide)
          have kt296 : KT (tbX o0) P (up H57_10 (crX (crX o0 5) (P o0 6).toNat) x57_3_10 0) := KT.w w57_q0_10 (TB.c (TB.c (Or.inl rfl) (k_o0).1 (by decide)) ((ck_28_5 k_o0)).1 (by (first | (clear p_ri hmb hszs k3 k4 i57_1_10; omega) | (clear p_ri hmb hszs k3 k4; omega) | (clear p_ri hmb hszs k3 i57_1_10; omega) | (clear p_ri hmb hszs k4 i57_1_10; omega) | (clear p_ri hmb k3 k4 i57_1_10; omega) | (clear p_ri hszs k3 k4 i57_1_10; omega) | (clear hmb hszs k3 k4 i57_1_10; omega) | (clear p_ri hmb hszs k3; omega) | (clear hmb p_ri; omega) | omega)))
          refine g_iinc (l1 := [(3, vI (x57_3_10 + 1)), (0, vR o0), (2, vI rc1)]) dX9_addColumn_74 rfl (by decide) rfl ?_
          refine g_goto (tgt := 57) dX9_addColumn_77 (by decide) ?_
          refine g_forget (l1 := [(0, vR o0), (2, vI rc1), (3, vI (x57_3_10 + 1))]) (by intro q hq; simp only [List.mem_cons, List.not_mem_nil, or_false] at hq ⊢; rcases hq with rfl | rfl | rfl <;> simp) ?_
          exact ih57_10 (x57_3_10 + 1) ⟨by (first | (clear p_ri hmb hszs k3 k4 i57_1_10; omega) | omega), by (first | (clear p_ri hmb hszs k3 k4 i57_1_10; omega) | omega)⟩ _ hB295 (FrX.s (FrX.c FrX.rf hE57_10 rfl) kk294 rfl) (by first | exact ZRx.step i57_0_10 | exact ZRx.start (fun i hi v => hNONE)) (by (first | (clear p_ri hmb hszs k3 k4 i57_1_10; omega) | (clear p_ri hmb hszs k3 k4; omega) | (clear p_ri hmb hszs k3 i57_1_10; omega) | (clear p_ri hmb hszs k4 i57_1_10; omega) | (clear p_ri hmb k3 k4 i57_1_10; omega) | (clear p_ri hszs k3 k4 i57_1_10; omega) | (clear hmb hszs k3 k4 i57_1_10; omega) | (clear p_ri hmb hszs k3; omega) | (clear hmb p_ri; omega) | omega)) kt296 (by (first | (clear p_ri hmb hszs k3 k4 i57_1_10; omega) | (clear p_ri hmb hszs k3 k4; omega) | (clear p_ri hmb hszs k3 i57_1_10; omega) | (clear p_ri hmb hszs k4 i57_1_10; omega) | (clear p_ri hmb k3 k4 i57_1_10; omega) | (clear p_ri hszs k3 k4 i57_1_10; omega) | (clear hmb hszs k3 k4 i57_1_10; omega) | (clear p_ri hmb hszs k3; omega) | (clear hmb p_ri; omega) | omega))
      refine g_forget (l1 := [(0, vR o0), (2, vI rc1), (3, vI 0)]) (by intro q hq; simp only [List.mem_cons, List.not_mem_nil, or_false] at hq ⊢; rcases hq with rfl | rfl | rfl <;> simp) ?_
      exact L57_10 _ 0 (by decide) _ hB9 FrX.rf (by first | exact ZRx.step i57_0_10 | exact ZRx.start (fun i hi v => ((up_o (kx.ne hi (ck_28_3 k_o0) rfl)).trans ((up_o (kx.ne hi (ck_28_2 k_o0) rfl)).trans ((up_o (kx.ne hi (ck_28_1 k_o0) rfl)).trans rfl))))) (by (first | (clear p_ri hmb hszs k3 k4; omega) | (clear p_ri hmb hszs k3; omega) | (clear p_ri hmb hszs k4; omega) | (clear p_ri hmb k3 k4; omega) | (clear p_ri hszs k3 k4; omega) | (clear hmb hszs k3 k4; omega) | (clear p_ri hmb hszs; omega) | (clear p_ri; omega) | omega)) kt10 (Nat.lt_succ_self _)
    · first | (revert r_hszs; intro r_hszs) | have r_hszs := (hszs.resolve_right (by (clear p_ri hmb hszs k3 k4; omega))) | have r_hszs := (hszs.resolve_left (by (clear p_ri hmb hszs k3 k4; omega))) | skip
      first | (revert r_p_ri; intro r_p_ri) | have r_p_ri := (p_ri.resolve_right (by (clear p_ri hmb hszs k3 k4; omega))) | have r_p_ri := (p_ri.resolve_left (by (clear p_ri hmb hszs k3 k4; omega))) | skip
      exfalso
      have ha2 := p_aw.2.1 a1
      rcases hszs with h | h
      · first | (revert r_p_ri; intro r_p_ri) | have r_p_ri := (p_ri.resolve_right (by (clear p_ri hmb k3 k4; omega))) | have r_p_ri := (p_ri.resolve_left (by (clear p_ri hmb k3 k4; omega))) | skip
        (first | (clear p_ri hmb k3 k4; omega) | (clear p_ri hmb k3; omega) | (clear p_ri hmb k4; omega) | (clear p_ri k3 k4; omega) | (clear hmb k3 k4; omega) | (clear p_ri hmb; omega) | omega)
      · first | (revert r_p_ri; intro r_p_ri) | have r_p_ri := (p_ri.resolve_right (by (clear p_ri hmb k3 k4; omega))) | have r_p_ri := (p_ri.resolve_left (by (clear p_ri hmb k3 k4; omega))) | skip
        have ha3 := ha2 (by (first | (clear p_ri hmb k3 k4; omega) | (clear p_ri hmb k3; omega) | (clear p_ri hmb k4; omega) | (clear p_ri k3 k4; omega) | (clear hmb k3 k4; omega) | (clear p_ri hmb; omega) | omega)) (by (first | (clear p_ri hmb k3 k4; omega) | (clear p_ri hmb k3; omega) | (clear p_ri hmb k4; omega) | (clear p_ri k3 k4; omega) | (clear hmb k3 k4; omega) | (clear p_ri hmb; omega) | omega)); (first | (clear p_ri hmb k3 k4; omega) | (clear p_ri hmb k3; omega) | (clear p_ri hmb k4; omega) | (clear p_ri k3 k4; omega) | (clear hmb k3 k4; omega) | (clear p_ri hmb; omega) | omega)
/-! What the class answers: X6_isNewName. -/
set_option maxRecDepth 100000 in
set_option maxHeartbeats 4000000 in
theorem f_X6_isNewName (G : GT) (P : PH) (T : TT) (K : PH) (p : Int) (o : Nat) (k_o : kx o 28) (hB : BdX P) (p_aw : AW K) (z0 : XS T p P) (z1 : XK K (crX o 0) P) (z2 : RT o P) (Q : Option PV → PH → Prop) (hQ : ∀ (r : Int) (_ : 0 ≤ r ∧ r ≤ 1) (P1 : PH) (_ : BdX P1) (_ : FrX ([(45, 3), (45, 4)], []) P P1) (_ : (r = 1 ∧ (fre T K p).1 = 0 ∧ P1 110 3 = P 110 3 ∧ P1 110 4 = P 110 4 ∧ tK T p = 1) ∨ (r = 0 ∧ (fre T K p).1 ≠ 0 ∧ P1 110 3 = (fre T K p).1 ∧ P1 110 4 = (fre T K p).2)), Q (some (vI r)) P1) : Ct WSX G 2 iX6_isNewName [vR 110] P Q := by
  refine Ct.of (by decide) (l0 := [(0, vR 110)]) rfl (Nat.le_of_ble_eq_true rfl) ?_
  have hb := z0.b
  have hfr := fre_s T K p
  refine g_aload_n dX6_isNewName_0 rfl ?_
  refine x_g45_0 (n := 111) (⟨by decide, rfl⟩ : kx 110 45) ffX6_12 dX6_isNewName_1 rfl ?_
  refine g_vI (av := []) (o := 111) (st := []) (f_X7_isName G P T p  hB (z0) _ (fun rc1 hc1 gc1_f => ⟨rc1, rfl, ?_⟩)) cf_X7_isName t_736 rfl (show kx 111 46 from (⟨by decide, rfl⟩ : kx 111 46)).1 ((show kx 111 46 from (⟨by decide, rfl⟩ : kx 111 46)).sh rfl) rfl rfl (Nat.le_of_ble_eq_true rfl) (by decide) rfl dX6_isNewName_4
  refine g_if_ne (tgt := 15) dX6_isNewName_7 (by decide) ⟨by (clear hb hfr gc1_f; omega), by (clear hb hfr gc1_f; omega)⟩ (fun k2 => ?_) (fun k2 => ?_)
  · have k2n : 1 ≤ rc1 := by (clear hb hfr gc1_f; omega)
    clear k2
    have r_gc1_f := (gc1_f.resolve_right (by (clear hb hfr gc1_f; omega)))
    skip
    have hv := (z0.tok (by (clear hb hfr gc1_f; omega))).2
    refine g_aload_n dX6_isNewName_15 rfl ?_
    refine x_g45_2 (n := o) (⟨by decide, rfl⟩ : kx 110 45) ffX6_27 dX6_isNewName_16 z2 ?_
    refine x_g28_0 (n := (crX o 0)) k_o ffX6_108 dX6_isNewName_19 rfl ?_
    refine g_astore_n (l1 := [(1, vR (crX o 0)), (0, vR 110)]) dX6_isNewName_22 (by decide) rfl ?_
    refine g_aload_n dX6_isNewName_23 rfl ?_
    refine g_aload_n dX6_isNewName_24 rfl ?_
    refine x_g45_0 (n := 111) (⟨by decide, rfl⟩ : kx 110 45) ffX6_12 dX6_isNewName_25 rfl ?_
    refine x_g46_7 (z := (P 111 7)) (⟨by decide, rfl⟩ : kx 111 46) ffX6_95 dX6_isNewName_28 rfl ?_
    have f3 := bx_46_7 (o := 111) hB (⟨by decide, rfl⟩ : kx 111 46)
    refine g_vI (av := [vI (P 111 7)]) (o := (crX o 0)) (st := []) (f_X3_kindNamed G P K (crX o 0) (P 111 7) (ck_28_0 k_o) ⟨by have q0 := bx_46_7 (o := 111) hB (⟨by decide, rfl⟩ : kx 111 46); (clear hb hfr gc1_f; omega), by have q0 := bx_46_7 (o := 111) hB (⟨by decide, rfl⟩ : kx 111 46); (clear hb hfr gc1_f; omega)⟩ hB (z1) _ (fun rc4 hc4 gc4_fx => ⟨rc4, rfl, ?_⟩)) cf_X3_kindNamed t_740 rfl (show kx (crX o 0) 29 from (ck_28_0 k_o)).1 ((show kx (crX o 0) 29 from (ck_28_0 k_o)).sh rfl) rfl rfl (Nat.le_of_ble_eq_true rfl) (by decide) rfl dX6_isNewName_31
    have hkn : rc4 = kNm K (tV T p) := by rw [← hv]; exact gc4_fx
    refine g_iconst dX6_isNewName_34 ?_
    refine g_icmp_ne (tgt := 53) dX6_isNewName_35 (by decide) ⟨by (clear hb hfr gc1_f; omega), by (clear hb hfr gc1_f; omega)⟩ (by decide) (fun k5 => ?_) (fun k5 => ?_)
    · have k5n : 0 ≤ rc4 := by (clear hb hfr gc1_f; omega)
      clear k5
      skip
      have r_hfr := ((hfr.resolve_left (by (clear hb hfr gc1_f; omega))).resolve_right (by (clear hb hfr gc1_f; omega)))
      refine g_aload_n dX6_isNewName_53 rfl ?_
      refine g_iconst dX6_isNewName_54 ?_
      refine g_aload_n dX6_isNewName_55 rfl ?_
      refine x_g45_0 (n := 111) (⟨by decide, rfl⟩ : kx 110 45) ffX6_12 dX6_isNewName_56 rfl ?_
      refine x_g46_5 (z := (P 111 5)) (⟨by decide, rfl⟩ : kx 111 46) ffX6_72 dX6_isNewName_59 rfl ?_
      have f6 := bx_46_5 (o := 111) hB (⟨by decide, rfl⟩ : kx 111 46)
      refine g_vI (av := [vI 2, vI (P 111 5)]) (o := 110) (st := []) (f_X6_fail G P 2 (P 111 5) (by decide) ⟨by have q0 := bx_46_5 (o := 111) hB (⟨by decide, rfl⟩ : kx 111 46); (clear hb hfr gc1_f; omega), by have q0 := bx_46_5 (o := 111) hB (⟨by decide, rfl⟩ : kx 111 46); (clear hb hfr gc1_f; omega)⟩ hB  _ (fun rc7 hc7 Pc7 hBc7 hFc7 gc7_f => ⟨rc7, rfl, ?_⟩)) cf_X6_fail t_727 rfl (show kx 110 45 from (⟨by decide, rfl⟩ : kx 110 45)).1 ((show kx 110 45 from (⟨by decide, rfl⟩ : kx 110 45)).sh rfl) rfl rfl (Nat.le_of_ble_eq_true rfl) (by decide) rfl dX6_isNewName_62
      exact g_retZ dX6_isNewName_65 rfl (by (clear hb hfr gc1_f; omega)) (hQ rc7 ⟨by (clear hb hfr gc1_f; omega), by (clear hb hfr gc1_f; omega)⟩ _ hBc7 (FrX.c FrX.rf hFc7 rfl) (by have q0 := bx_45_3 (o := 110) hBc7 (⟨by decide, rfl⟩ : kx 110 45); have q1 := bx_45_4 (o := 110) hBc7 (⟨by decide, rfl⟩ : kx 110 45); (clear hfr gc1_f; omega)))
    · skip
      skip
      refine g_aload_n dX6_isNewName_38 rfl ?_
      refine g_aload_n dX6_isNewName_39 rfl ?_
      refine x_g45_0 (n := 111) (⟨by decide, rfl⟩ : kx 110 45) ffX6_12 dX6_isNewName_40 rfl ?_
      refine x_g46_7 (z := (P 111 7)) (⟨by decide, rfl⟩ : kx 111 46) ffX6_95 dX6_isNewName_43 rfl ?_
      refine g_vI (av := [vI (P 111 7)]) (o := (crX o 0)) (st := []) (f_X3_conNamed G P K (crX o 0) (P 111 7) (ck_28_0 k_o) ⟨by have q0 := bx_46_7 (o := 111) hB (⟨by decide, rfl⟩ : kx 111 46); (clear hb hfr gc1_f k5; omega), by have q0 := bx_46_7 (o := 111) hB (⟨by decide, rfl⟩ : kx 111 46); (clear hb hfr gc1_f k5; omega)⟩ hB (z1) _ (fun rc8 hc8 gc8_fx => ⟨rc8, rfl, ?_⟩)) cf_X3_conNamed t_744 rfl (show kx (crX o 0) 29 from (ck_28_0 k_o)).1 ((show kx (crX o 0) 29 from (ck_28_0 k_o)).sh rfl) rfl rfl (Nat.le_of_ble_eq_true rfl) (by decide) rfl dX6_isNewName_46
      have hcn : rc8 = cNm K (tV T p) := by rw [← hv]; exact gc8_fx
      refine g_iconst dX6_isNewName_49 ?_
      refine g_icmp_eq (tgt := 66) dX6_isNewName_50 (by decide) ⟨by (clear hb hfr gc1_f k5; omega), by (clear hb hfr gc1_f k5; omega)⟩ (by decide) (fun k9 => ?_) (fun k9 => ?_)
      · skip
        skip
        refine g_iconst dX6_isNewName_66 ?_
        exact g_retZ dX6_isNewName_67 rfl (by decide) (hQ 1 (by decide) _ hB FrX.rf (by have q0 := bx_45_3 (o := 110) hB (⟨by decide, rfl⟩ : kx 110 45); have q1 := bx_45_4 (o := 110) hB (⟨by decide, rfl⟩ : kx 110 45); (clear hb; omega)))
      · have k9n : 0 ≤ rc8 := by (clear hb hfr gc1_f k5; omega)
        clear k9
        skip
        have r_hfr := ((hfr.resolve_left (by (clear hb hfr gc1_f k5; omega))).resolve_right (by (clear hb hfr gc1_f k5; omega)))
        refine g_aload_n dX6_isNewName_53 rfl ?_
        refine g_iconst dX6_isNewName_54 ?_
        refine g_aload_n dX6_isNewName_55 rfl ?_
        refine x_g45_0 (n := 111) (⟨by decide, rfl⟩ : kx 110 45) ffX6_12 dX6_isNewName_56 rfl ?_
        refine x_g46_5 (z := (P 111 5)) (⟨by decide, rfl⟩ : kx 111 46) ffX6_72 dX6_isNewName_59 rfl ?_
        have f10 := bx_46_5 (o := 111) hB (⟨by decide, rfl⟩ : kx 111 46)
        refine g_vI (av := [vI 2, vI (P 111 5)]) (o := 110) (st := []) (f_X6_fail G P 2 (P 111 5) (by decide) ⟨by have q0 := bx_46_5 (o := 111) hB (⟨by decide, rfl⟩ : kx 111 46); (clear hb hfr gc1_f k5; omega), by have q0 := bx_46_5 (o := 111) hB (⟨by decide, rfl⟩ : kx 111 46); (clear hb hfr gc1_f k5; omega)⟩ hB  _ (fun rc11 hc11 Pc11 hBc11 hFc11 gc11_f => ⟨rc11, rfl, ?_⟩)) cf_X6_fail t_727 rfl (show kx 110 45 from (⟨by decide, rfl⟩ : kx 110 45)).1 ((show kx 110 45 from (⟨by decide, rfl⟩ : kx 110 45)).sh rfl) rfl rfl (Nat.le_of_ble_eq_true rfl) (by decide) rfl dX6_isNewName_62
        exact g_retZ dX6_isNewName_65 rfl (by (clear hb hfr gc1_f k5; omega)) (hQ rc11 ⟨by (clear hb hfr gc1_f k5; omega), by (clear hb hfr gc1_f k5; omega)⟩ _ hBc11 (FrX.c FrX.rf hFc11 rfl) (by have q0 := bx_45_3 (o := 110) hBc11 (⟨by decide, rfl⟩ : kx 110 45); have q1 := bx_45_4 (o := 110) hBc11 (⟨by decide, rfl⟩ : kx 110 45); (clear hfr gc1_f k5; omega)))
  · skip
    skip
    refine g_aload_n dX6_isNewName_10 rfl ?_
    refine g_vI (av := []) (o := 110) (st := []) (f_X6_failHere G P T p  hB (z0) _ (fun rc12 hc12 Pc12 hBc12 hFc12 gc12_f => ⟨rc12, rfl, ?_⟩)) cf_X6_failHere t_723 rfl (show kx 110 45 from (⟨by decide, rfl⟩ : kx 110 45)).1 ((show kx 110 45 from (⟨by decide, rfl⟩ : kx 110 45)).sh rfl) rfl rfl (Nat.le_of_ble_eq_true rfl) (by decide) rfl dX6_isNewName_11
    exact g_retZ dX6_isNewName_14 rfl (by (clear hb hfr gc1_f k2; omega)) (hQ rc12 ⟨by (clear hb hfr gc1_f k2; omega), by (clear hb hfr gc1_f k2; omega)⟩ _ hBc12 (FrX.c FrX.rf hFc12 rfl) (by have q0 := bx_45_3 (o := 110) hBc12 (⟨by decide, rfl⟩ : kx 110 45); have q1 := bx_45_4 (o := 110) hBc12 (⟨by decide, rfl⟩ : kx 110 45); (omega)))
/-! What the class answers: X6_readKind. -/
set_option maxRecDepth 100000 in
set_option maxHeartbeats 4000000 in
theorem f_X6_readKind (G : GT) (P : PH) (T : TT) (K : PH) (M : PH) (p : Int) (o : Nat) (k_o : kx o 28) (hB : BdX P) (p_aw : AW K) (p_k0 : tO T p = 0) (v_TX : TX P) (v_OWN : OWN P) (z0 : XT T P) (z1 : XS T p P) (z2 : XK K (crX o 0) P) (z3 : XM M o P) (z4 : RT o P) (Q : Option PV → PH → Prop) (hQ : ∀ (r : Int) (_ : 0 ≤ r ∧ r ≤ 1) (P1 : PH) (_ : BdX P1) (_ : FrX ([(29, 9), (45, 3), (45, 4), (46, 3), (46, 4), (46, 5), (46, 6), (46, 7), (46, 8)], [30, 31, 32, 33]) P P1) (_ : (r = 1 ∧ (sKi T K M p).1 = 0 ∧ P1 110 3 = P 110 3 ∧ P1 110 4 = P 110 4) ∨ (r = 0 ∧ (sKi T K M p).1 ≠ 0 ∧ P1 110 3 = (sKi T K M p).1 ∧ P1 110 4 = (sKi T K M p).2)) (_ : CP (sKi T K M p).1 (XS T (sKi T K M p).2) P1) (_ : CP (sKi T K M p).1 (XK (kNew K (tV T (tE T p))) (crX o 0)) P1) (_ : KT (tbX o) P P1), Q (some (vI r)) P1) : Ct WSX G 3 iX6_readKind [vR 110] P Q := by
  refine Ct.of (by decide) (l0 := [(0, vR 110)]) rfl (Nat.le_of_ble_eq_true rfl) ?_
  have kt0 : KT (tbX o) P P := KT.rf
  have hk1 : tK T p = 1 := by have q := tO_r T p; omega
  have hb := z1.b
  have hsk := sKi_s T K M p
  have hmb := z3.b
  have hkb := z2.b
  have hk0 := p_aw.1
  have hfr := fre_s T K (tE T p)
  have hfh := fh_ok (T := T) (p := p) (by (clear hb hsk hmb hkb hfr; omega))
  refine g_aload_n dX6_readKind_0 rfl ?_
  refine x_g45_2 (n := o) (⟨by decide, rfl⟩ : kx 110 45) ffX6_27 dX6_readKind_1 z4 ?_
  refine x_g28_6 (z := (P o 6)) k_o ffX6_79 dX6_readKind_4 rfl ?_
  have f1 := bx_28_6 (o := o) hB k_o
  refine g_if_le (tgt := 15) dX6_readKind_7 (by decide) ⟨by have q0 := bx_28_6 (o := o) hB k_o; (clear hb hsk hmb hkb hfr; omega), by have q0 := bx_28_6 (o := o) hB k_o; (clear hb hsk hmb hkb hfr; omega)⟩ (fun k2 => ?_) (fun k2 => ?_)
  · skip
    skip
    refine g_aload_n dX6_readKind_15 rfl ?_
    refine x_g45_2 (n := o) (⟨by decide, rfl⟩ : kx 110 45) ffX6_27 dX6_readKind_16 z4 ?_
    refine x_g28_0 (n := (crX o 0)) k_o ffX6_108 dX6_readKind_19 rfl ?_
    refine x_g29_9 (z := (P (crX o 0) 9)) (ck_28_0 k_o) ffX6_112 dX6_readKind_22 rfl ?_
    refine g_iconst dX6_readKind_25 ?_
    have f3 := bx_29_9 (o := (crX o 0)) hB (ck_28_0 k_o)
    refine g_icmp_lt (tgt := 43) dX6_readKind_26 (by decide) ⟨by have q0 := bx_29_9 (o := (crX o 0)) hB (ck_28_0 k_o); (clear hb hsk hmb hkb hfr k2; omega), by have q0 := bx_29_9 (o := (crX o 0)) hB (ck_28_0 k_o); (clear hb hsk hmb hkb hfr k2; omega)⟩ (by decide) (fun k4 => ?_) (fun k4 => ?_)
    · skip
      skip
      refine g_aload_n dX6_readKind_43 rfl ?_
      refine x_g45_0 (n := 111) (⟨by decide, rfl⟩ : kx 110 45) ffX6_12 dX6_readKind_44 rfl ?_
      refine g_vV (av := []) (o := 111) (st := []) (f_X7_step G P T (tE T p)  hB ((z1.stp (by (clear hb hsk hmb hkb hfr k2 k4; omega))).1) ((z1.stp (by (clear hb hsk hmb hkb hfr k2 k4; omega))).2) v_TX v_OWN (z0) _ (fun Pc5 hBc5 hFc5 ec5_0 => ⟨rfl, ?_⟩)) cf_X7_step t_731 rfl (show kx 111 46 from (⟨by decide, rfl⟩ : kx 111 46)).1 ((show kx 111 46 from (⟨by decide, rfl⟩ : kx 111 46)).sh rfl) rfl rfl (Nat.le_of_ble_eq_true rfl) (by decide) rfl dX6_readKind_47
      refine g_aload_n dX6_readKind_50 rfl ?_
      refine g_vI (av := []) (o := 110) (st := []) (f_X6_isNewName G Pc5 T K (tE T p) o k_o  hBc5 p_aw (ec5_0) ((XK.fr (F := ([(46, 3), (46, 4), (46, 5), (46, 6), (46, 7), (46, 8)], [])) z2 (FrX.c FrX.rf hFc5 rfl) rfl)) ((RT.fr (F := ([(46, 3), (46, 4), (46, 5), (46, 6), (46, 7), (46, 8)], [])) z4 (FrX.c FrX.rf hFc5 rfl) rfl)) _ (fun rc6 hc6 Pc6 hBc6 hFc6 gc6_n => ⟨rc6, rfl, ?_⟩)) cf_X6_isNewName t_732 rfl (show kx 110 45 from (⟨by decide, rfl⟩ : kx 110 45)).1 ((show kx 110 45 from (⟨by decide, rfl⟩ : kx 110 45)).sh rfl) rfl rfl (Nat.le_of_ble_eq_true rfl) (by decide) rfl dX6_readKind_51
      have zq7 : Pc5 110 3 = (P 110 3) := ((FrX.g hFc5 (⟨by decide, rfl⟩ : kx 110 45) rfl).trans rfl)
      have zq8 : Pc5 110 4 = (P 110 4) := ((FrX.g hFc5 (⟨by decide, rfl⟩ : kx 110 45) rfl).trans rfl)
      refine g_if_ne (tgt := 59) dX6_readKind_54 (by decide) ⟨by (clear hb hsk hmb hkb hfr k2 k4 gc6_n; omega), by (clear hb hsk hmb hkb hfr k2 k4 gc6_n; omega)⟩ (fun k9 => ?_) (fun k9 => ?_)
      · have k9n : 1 ≤ rc6 := by (clear hb hsk hmb hkb hfr k2 k4 gc6_n; omega)
        clear k9
        have r_gc6_n := (gc6_n.resolve_right (by (clear hb hsk hmb hkb hfr k2 k4 gc6_n; omega)))
        have r_hfr := (hfr.resolve_right (by (clear hb hsk hmb hkb hfr k2 k4 gc6_n; omega)))
        skip
        refine g_aload_n dX6_readKind_59 rfl ?_
        refine x_g45_2 (n := o) (⟨by decide, rfl⟩ : kx 110 45) ffX6_27 dX6_readKind_60 (RT.fr (F := ([(45, 3), (45, 4), (46, 3), (46, 4), (46, 5), (46, 6), (46, 7), (46, 8)], [])) z4 (FrX.c (FrX.c FrX.rf hFc5 rfl) hFc6 rfl) rfl) ?_
        refine x_g28_0 (n := (crX o 0)) k_o ffX6_108 dX6_readKind_63 rfl ?_
        have hv9 : (Pc5 111 7) = tV T (tE T p) := (((FrX.g hFc6 (⟨by decide, rfl⟩ : kx 111 46) rfl).trans rfl)).symm.trans ((XS.fr (F := ([(45, 3), (45, 4)], [])) ec5_0 (FrX.c FrX.rf hFc6 rfl) rfl).tok (by (clear hb hsk hmb hkb hfr k2 k4 gc6_n; omega))).2
        refine g_aload_n dX6_readKind_66 rfl ?_
        refine x_g45_0 (n := 111) (⟨by decide, rfl⟩ : kx 110 45) ffX6_12 dX6_readKind_67 rfl ?_
        refine x_g46_7 (z := (Pc5 111 7)) (⟨by decide, rfl⟩ : kx 111 46) ffX6_95 dX6_readKind_70 ((FrX.g hFc6 (⟨by decide, rfl⟩ : kx 111 46) rfl).trans rfl) ?_
        have f10 := bx_46_7 (o := 111) hBc5 (⟨by decide, rfl⟩ : kx 111 46)
        refine g_vV (av := [vI (Pc5 111 7)]) (o := (crX o 0)) (st := []) (f_X3_addKind G Pc6 K (crX o 0) (Pc5 111 7) (ck_28_0 k_o) ⟨by have q0 := bx_46_7 (o := 111) hBc5 (⟨by decide, rfl⟩ : kx 111 46); (clear hb hsk hmb hkb hfr k2 k4 gc6_n; omega), by have q0 := bx_46_7 (o := 111) hBc5 (⟨by decide, rfl⟩ : kx 111 46); (clear hb hsk hmb hkb hfr k2 k4 gc6_n; omega)⟩ hBc6 (by have q0 := bx_46_7 (o := 111) hBc5 (⟨by decide, rfl⟩ : kx 111 46); (omega)) ((XK.fr (F := ([(45, 3), (45, 4), (46, 3), (46, 4), (46, 5), (46, 6), (46, 7), (46, 8)], [])) z2 (FrX.c (FrX.c FrX.rf hFc5 rfl) hFc6 rfl) rfl)) _ (fun Pc11 hBc11 hFc11 ec11_0 ec11_1 => ⟨rfl, ?_⟩)) cf_X3_addKind t_748 rfl (show kx (crX o 0) 29 from (ck_28_0 k_o)).1 ((show kx (crX o 0) 29 from (ck_28_0 k_o)).sh rfl) rfl rfl (Nat.le_of_ble_eq_true rfl) (by decide) rfl dX6_readKind_73
        have kt12 : KT (tbX o) P Pc11 := KT.t (KT.fr (F := ([(45, 3), (45, 4), (46, 3), (46, 4), (46, 5), (46, 6), (46, 7), (46, 8)], [])) kt0 (FrX.c (FrX.c FrX.rf hFc5 rfl) hFc6 rfl) rfl) (KT.e ec11_1 (tb28_0 k_o))
        have iv13 : XK (kNew K (tV T (tE T p))) (crX o 0) Pc11 := by rw [← hv9]; exact ec11_0
        refine g_aload_n dX6_readKind_76 rfl ?_
        refine x_g45_0 (n := 111) (⟨by decide, rfl⟩ : kx 110 45) ffX6_12 dX6_readKind_77 rfl ?_
        refine g_vV (av := []) (o := 111) (st := []) (f_X7_step G Pc11 T (tE T (tE T p))  hBc11 (((XS.fr (F := ([(29, 9), (45, 3), (45, 4)], [30, 31, 32, 33])) ec5_0 (FrX.c (FrX.c FrX.rf hFc6 rfl) hFc11 rfl) rfl).stp (by (clear hb hsk hmb hkb hfr k2 k4 gc6_n; omega))).1) (((XS.fr (F := ([(29, 9), (45, 3), (45, 4)], [30, 31, 32, 33])) ec5_0 (FrX.c (FrX.c FrX.rf hFc6 rfl) hFc11 rfl) rfl).stp (by (clear hb hsk hmb hkb hfr k2 k4 gc6_n; omega))).2) (TX.fr (F := ([(29, 9), (45, 3), (45, 4), (46, 3), (46, 4), (46, 5), (46, 6), (46, 7), (46, 8)], [30, 31, 32, 33])) v_TX (FrX.c (FrX.c (FrX.c FrX.rf hFc5 rfl) hFc6 rfl) hFc11 rfl) rfl) (OWN.fr (F := ([(29, 9), (45, 3), (45, 4), (46, 3), (46, 4), (46, 5), (46, 6), (46, 7), (46, 8)], [30, 31, 32, 33])) v_OWN (FrX.c (FrX.c (FrX.c FrX.rf hFc5 rfl) hFc6 rfl) hFc11 rfl) rfl) ((XT.fr (F := ([(29, 9), (45, 3), (45, 4), (46, 3), (46, 4), (46, 5), (46, 6), (46, 7), (46, 8)], [30, 31, 32, 33])) z0 (FrX.c (FrX.c (FrX.c FrX.rf hFc5 rfl) hFc6 rfl) hFc11 rfl) rfl)) _ (fun Pc14 hBc14 hFc14 ec14_0 => ⟨rfl, ?_⟩)) cf_X7_step t_731 rfl (show kx 111 46 from (⟨by decide, rfl⟩ : kx 111 46)).1 ((show kx 111 46 from (⟨by decide, rfl⟩ : kx 111 46)).sh rfl) rfl rfl (Nat.le_of_ble_eq_true rfl) (by decide) rfl dX6_readKind_80
        refine g_iconst dX6_readKind_83 ?_
        exact g_retZ dX6_readKind_84 rfl (by decide) (hQ 1 (by decide) _ hBc14 (FrX.c (FrX.c (FrX.c (FrX.c FrX.rf hFc5 rfl) hFc6 rfl) hFc11 rfl) hFc14 rfl) (by have q0 := (((FrX.g hFc14 (⟨by decide, rfl⟩ : kx 110 45) rfl).trans ((FrX.g hFc11 (⟨by decide, rfl⟩ : kx 110 45) rfl).trans rfl)) : Pc14 110 3 = (Pc6 110 3)); have q1 := bx_45_3 (o := 110) hBc6 (⟨by decide, rfl⟩ : kx 110 45); have q2 := (((FrX.g hFc14 (⟨by decide, rfl⟩ : kx 110 45) rfl).trans ((FrX.g hFc11 (⟨by decide, rfl⟩ : kx 110 45) rfl).trans rfl)) : Pc14 110 4 = (Pc6 110 4)); have q3 := bx_45_4 (o := 110) hBc6 (⟨by decide, rfl⟩ : kx 110 45); (omega)) ((fun h0 => by first | exact (by first | (rw [show (sKi T K M p).2 = (tE T (tE T p)) by (clear hb hmb hkb hfr k2 k4 gc6_n; omega)]; exact ec14_0)) | (exfalso; (first | (clear hb hsk hmb hkb hfr k2 k4 gc6_n; omega) | (clear hb hsk hmb hkb hfr k2 k4; omega) | (clear hb hsk hmb hkb hfr k2 gc6_n; omega) | (clear hb hsk hmb hkb hfr k4 gc6_n; omega) | (clear hb hsk hmb hkb k2 k4 gc6_n; omega) | (clear hb hsk hmb hfr k2 k4 gc6_n; omega) | (clear hb hsk hkb hfr k2 k4 gc6_n; omega) | (clear hb hmb hkb hfr k2 k4 gc6_n; omega) | (clear hsk hmb hkb hfr k2 k4 gc6_n; omega) | (clear hb hsk hmb hkb hfr k2; omega) | (clear hkb hmb hsk hb; omega) | omega)))) ((fun h0 => by first | exact (XK.fr (F := ([(46, 3), (46, 4), (46, 5), (46, 6), (46, 7), (46, 8)], [])) iv13 (FrX.c FrX.rf hFc14 rfl) rfl) | (exfalso; (first | (clear hb hsk hmb hkb hfr k2 k4 gc6_n; omega) | (clear hb hsk hmb hkb hfr k2 k4; omega) | (clear hb hsk hmb hkb hfr k2 gc6_n; omega) | (clear hb hsk hmb hkb hfr k4 gc6_n; omega) | (clear hb hsk hmb hkb k2 k4 gc6_n; omega) | (clear hb hsk hmb hfr k2 k4 gc6_n; omega) | (clear hb hsk hkb hfr k2 k4 gc6_n; omega) | (clear hb hmb hkb hfr k2 k4 gc6_n; omega) | (clear hsk hmb hkb hfr k2 k4 gc6_n; omega) | (clear hb hsk hmb hkb hfr k2; omega) | (clear hkb hmb hsk hb; omega) | omega)))) ((KT.fr (F := ([(46, 3), (46, 4), (46, 5), (46, 6), (46, 7), (46, 8)], [])) kt12 (FrX.c FrX.rf hFc14 rfl) rfl)))
      · skip
        skip
        skip
        refine g_iconst dX6_readKind_57 ?_
        exact g_retZ dX6_readKind_58 rfl (by decide) (hQ 0 (by decide) _ hBc6 (FrX.c (FrX.c FrX.rf hFc5 rfl) hFc6 rfl) (by have q0 := bx_45_3 (o := 110) hBc6 (⟨by decide, rfl⟩ : kx 110 45); have q1 := bx_45_4 (o := 110) hBc6 (⟨by decide, rfl⟩ : kx 110 45); (omega)) ((fun h0 => by first | exact (by first | (rw [show (sKi T K M p).2 = (tE T p) by (omega)]; exact (XS.fr (F := ([(45, 3), (45, 4)], [])) ec5_0 (FrX.c FrX.rf hFc6 rfl) rfl))) | (exfalso; (first | (clear hb hsk hmb hkb hfr k2 k4 gc6_n k9; omega) | (clear hb hsk hmb hkb hfr k2 k4 gc6_n; omega) | (clear hb hsk hmb hkb hfr k2 k4 k9; omega) | (clear hb hsk hmb hkb hfr k2 gc6_n k9; omega) | (clear hb hsk hmb hkb hfr k4 gc6_n k9; omega) | (clear hb hsk hmb hkb k2 k4 gc6_n k9; omega) | (clear hb hsk hmb hfr k2 k4 gc6_n k9; omega) | (clear hb hsk hkb hfr k2 k4 gc6_n k9; omega) | (clear hb hmb hkb hfr k2 k4 gc6_n k9; omega) | (clear hb hsk hmb hkb hfr k2 k4; omega) | (clear hfr hkb hmb hsk hb; omega) | omega)))) ((fun h0 => by first | exact hNONE | (exfalso; (omega)))) ((KT.fr (F := ([(45, 3), (45, 4), (46, 3), (46, 4), (46, 5), (46, 6), (46, 7), (46, 8)], [])) kt0 (FrX.c (FrX.c FrX.rf hFc5 rfl) hFc6 rfl) rfl)))
    · skip
      skip
      refine g_aload_n dX6_readKind_29 rfl ?_
      refine g_bipush dX6_readKind_30 (by decide) ?_
      refine g_aload_n dX6_readKind_32 rfl ?_
      refine x_g45_0 (n := 111) (⟨by decide, rfl⟩ : kx 110 45) ffX6_12 dX6_readKind_33 rfl ?_
      refine x_g46_5 (z := (P 111 5)) (⟨by decide, rfl⟩ : kx 111 46) ffX6_72 dX6_readKind_36 rfl ?_
      have f15 := bx_46_5 (o := 111) hB (⟨by decide, rfl⟩ : kx 111 46)
      refine g_vI (av := [vI 6, vI (P 111 5)]) (o := 110) (st := []) (f_X6_fail G P 6 (P 111 5) (by decide) ⟨by have q0 := bx_46_5 (o := 111) hB (⟨by decide, rfl⟩ : kx 111 46); (clear hb hsk hmb hkb hfr k2 k4; omega), by have q0 := bx_46_5 (o := 111) hB (⟨by decide, rfl⟩ : kx 111 46); (clear hb hsk hmb hkb hfr k2 k4; omega)⟩ hB  _ (fun rc16 hc16 Pc16 hBc16 hFc16 gc16_f => ⟨rc16, rfl, ?_⟩)) cf_X6_fail t_727 rfl (show kx 110 45 from (⟨by decide, rfl⟩ : kx 110 45)).1 ((show kx 110 45 from (⟨by decide, rfl⟩ : kx 110 45)).sh rfl) rfl rfl (Nat.le_of_ble_eq_true rfl) (by decide) rfl dX6_readKind_39
      exact g_retZ dX6_readKind_42 rfl (by (clear hb hsk hmb hkb hfr k2 k4; omega)) (hQ rc16 ⟨by (clear hb hsk hmb hkb hfr k2 k4; omega), by (clear hb hsk hmb hkb hfr k2 k4; omega)⟩ _ hBc16 (FrX.c FrX.rf hFc16 rfl) (by have q0 := bx_45_3 (o := 110) hBc16 (⟨by decide, rfl⟩ : kx 110 45); have q1 := bx_45_4 (o := 110) hBc16 (⟨by decide, rfl⟩ : kx 110 45); (omega)) ((fun h0 => by first | exact (by first | (rw [show (sKi T K M p).2 = p by (omega)]; exact (XS.fr (F := ([(45, 3), (45, 4)], [])) z1 (FrX.c FrX.rf hFc16 rfl) rfl))) | (exfalso; (first | (clear hb hsk hmb hkb hfr k2 k4; omega) | (clear hb hsk hmb hkb hfr k2; omega) | (clear hb hsk hmb hkb hfr k4; omega) | (clear hb hsk hmb hkb k2 k4; omega) | (clear hb hsk hmb hfr k2 k4; omega) | (clear hb hsk hkb hfr k2 k4; omega) | (clear hb hmb hkb hfr k2 k4; omega) | (clear hsk hmb hkb hfr k2 k4; omega) | (clear hb hsk hmb hkb hfr; omega) | (clear hmb hsk hb; omega) | omega)))) ((fun h0 => by first | exact hNONE | (exfalso; (omega)))) ((KT.fr (F := ([(45, 3), (45, 4)], [])) kt0 (FrX.c FrX.rf hFc16 rfl) rfl)))
  · skip
    skip
    refine g_aload_n dX6_readKind_10 rfl ?_
    refine g_vI (av := []) (o := 110) (st := []) (f_X6_failHere G P T p  hB (z1) _ (fun rc17 hc17 Pc17 hBc17 hFc17 gc17_f => ⟨rc17, rfl, ?_⟩)) cf_X6_failHere t_723 rfl (show kx 110 45 from (⟨by decide, rfl⟩ : kx 110 45)).1 ((show kx 110 45 from (⟨by decide, rfl⟩ : kx 110 45)).sh rfl) rfl rfl (Nat.le_of_ble_eq_true rfl) (by decide) rfl dX6_readKind_11
    exact g_retZ dX6_readKind_14 rfl (by (clear hb hsk hmb hkb hfr k2; omega)) (hQ rc17 ⟨by (clear hb hsk hmb hkb hfr k2; omega), by (clear hb hsk hmb hkb hfr k2; omega)⟩ _ hBc17 (FrX.c FrX.rf hFc17 rfl) (by have q0 := bx_45_3 (o := 110) hBc17 (⟨by decide, rfl⟩ : kx 110 45); have q1 := bx_45_4 (o := 110) hBc17 (⟨by decide, rfl⟩ : kx 110 45); (omega)) ((fun h0 => by first | exact (by first | (rw [show (sKi T K M p).2 = p by (omega)]; exact (XS.fr (F := ([(45, 3), (45, 4)], [])) z1 (FrX.c FrX.rf hFc17 rfl) rfl))) | (exfalso; (first | (clear hb hsk hmb hkb hfr k2; omega) | (clear hb hsk hmb hkb hfr; omega) | (clear hb hsk hmb hkb k2; omega) | (clear hb hsk hmb hfr k2; omega) | (clear hb hsk hkb hfr k2; omega) | (clear hb hmb hkb hfr k2; omega) | (clear hsk hmb hkb hfr k2; omega) | (clear hb hsk hmb hkb; omega) | (clear hsk hb; omega) | omega)))) ((fun h0 => by first | exact hNONE | (exfalso; (omega)))) ((KT.fr (F := ([(45, 3), (45, 4)], [])) kt0 (FrX.c FrX.rf hFc17 rfl) rfl)))
/-! What the class answers: X6_isKindWord. -/
set_option maxRecDepth 100000 in
set_option maxHeartbeats 4000000 in
theorem f_X6_isKindWord (G : GT) (P : PH) (T : TT) (p : Int) (hB : BdX P) (z0 : XS T p P) (Q : Option PV → PH → Prop) (hQ : ∀ (r : Int) (_ : 0 ≤ r ∧ r ≤ 1) (_ : (r = 1 ∧ tK T p = 1 ∧ (tO T p = -1 ∨ tO T p = 7)) ∨ (r = 0 ∧ (tK T p ≠ 1 ∨ (tO T p ≠ -1 ∧ tO T p ≠ 7)))), Q (some (vI r)) P) : Ct WSX G 2 iX6_isKindWord [vR 110] P Q := by
  refine Ct.of (by decide) (l0 := [(0, vR 110)]) rfl (Nat.le_of_ble_eq_true rfl) ?_
  have hb := z0.b
  have hor := tO_r T p
  refine g_aload_n dX6_isKindWord_0 rfl ?_
  refine x_g45_0 (n := 111) (⟨by decide, rfl⟩ : kx 110 45) ffX6_12 dX6_isKindWord_1 rfl ?_
  refine g_vI (av := []) (o := 111) (st := []) (f_X7_isName G P T p  hB (z0) _ (fun rc1 hc1 gc1_f => ⟨rc1, rfl, ?_⟩)) cf_X7_isName t_736 rfl (show kx 111 46 from (⟨by decide, rfl⟩ : kx 111 46)).1 ((show kx 111 46 from (⟨by decide, rfl⟩ : kx 111 46)).sh rfl) rfl rfl (Nat.le_of_ble_eq_true rfl) (by decide) rfl dX6_isKindWord_4
  refine g_if_ne (tgt := 22) dX6_isKindWord_7 (by decide) ⟨by (clear hb hor gc1_f; omega), by (clear hb hor gc1_f; omega)⟩ (fun k2 => ?_) (fun k2 => ?_)
  · have k2n : 1 ≤ rc1 := by (clear hb hor gc1_f; omega)
    clear k2
    have r_gc1_f := (gc1_f.resolve_right (by (clear hb hor gc1_f; omega)))
    refine g_iconst dX6_isKindWord_22 ?_
    refine g_goto (tgt := 27) dX6_isKindWord_23 (by decide) ?_
    exact g_retZ dX6_isKindWord_27 rfl (by decide) (hQ 1 (by decide) (by (clear hb hor gc1_f; omega)))
  · skip
    refine g_aload_n dX6_isKindWord_10 rfl ?_
    refine x_g45_0 (n := 111) (⟨by decide, rfl⟩ : kx 110 45) ffX6_12 dX6_isKindWord_11 rfl ?_
    refine x_g46_8 (z := (P 111 8)) (⟨by decide, rfl⟩ : kx 111 46) ffX6_43 dX6_isKindWord_14 rfl ?_
    refine g_bipush dX6_isKindWord_17 (by decide) ?_
    have f3 := bx_46_8 (o := 111) hB (⟨by decide, rfl⟩ : kx 111 46)
    refine g_icmp_ne (tgt := 26) dX6_isKindWord_19 (by decide) ⟨by have q0 := bx_46_8 (o := 111) hB (⟨by decide, rfl⟩ : kx 111 46); (clear hb hor gc1_f k2; omega), by have q0 := bx_46_8 (o := 111) hB (⟨by decide, rfl⟩ : kx 111 46); (clear hb hor gc1_f k2; omega)⟩ (by decide) (fun k4 => ?_) (fun k4 => ?_)
    · skip
      refine g_iconst dX6_isKindWord_26 ?_
      exact g_retZ dX6_isKindWord_27 rfl (by decide) (hQ 0 (by decide) (by (omega)))
    · skip
      refine g_iconst dX6_isKindWord_22 ?_
      refine g_goto (tgt := 27) dX6_isKindWord_23 (by decide) ?_
      exact g_retZ dX6_isKindWord_27 rfl (by decide) (hQ 1 (by decide) (by (omega)))
/-! What the class answers: X6_kindHere. -/
set_option maxRecDepth 100000 in
set_option maxHeartbeats 4000000 in
theorem f_X6_kindHere (G : GT) (P : PH) (T : TT) (K : PH) (p : Int) (o : Nat) (k_o : kx o 28) (hB : BdX P) (p_kw : tK T p = 1 ∧ (tO T p = -1 ∨ tO T p = 7)) (z0 : XS T p P) (z1 : XK K (crX o 0) P) (z2 : RT o P) (Q : Option PV → PH → Prop) (hQ : ∀ (r : Int) (_ : (-1) ≤ r ∧ r ≤ 3) (_ : r = kHe T K p), Q (some (vI r)) P) : Ct WSX G 2 iX6_kindHere [vR 110] P Q := by
  refine Ct.of (by decide) (l0 := [(0, vR 110)]) rfl (Nat.le_of_ble_eq_true rfl) ?_
  have hb := z0.b
  have hks := kHe_s T K p
  have hv := (z0.tok (by (clear hb hks; omega))).2
  refine g_aload_n dX6_kindHere_0 rfl ?_
  refine x_g45_0 (n := 111) (⟨by decide, rfl⟩ : kx 110 45) ffX6_12 dX6_kindHere_1 rfl ?_
  refine x_g46_8 (z := (P 111 8)) (⟨by decide, rfl⟩ : kx 111 46) ffX6_43 dX6_kindHere_4 rfl ?_
  refine g_bipush dX6_kindHere_7 (by decide) ?_
  have f1 := bx_46_8 (o := 111) hB (⟨by decide, rfl⟩ : kx 111 46)
  refine g_icmp_ne (tgt := 16) dX6_kindHere_9 (by decide) ⟨by have q0 := bx_46_8 (o := 111) hB (⟨by decide, rfl⟩ : kx 111 46); (clear p_kw hb hks; omega), by have q0 := bx_46_8 (o := 111) hB (⟨by decide, rfl⟩ : kx 111 46); (clear p_kw hb hks; omega)⟩ (by decide) (fun k2 => ?_) (fun k2 => ?_)
  · skip
    refine g_aload_n dX6_kindHere_16 rfl ?_
    refine x_g45_2 (n := o) (⟨by decide, rfl⟩ : kx 110 45) ffX6_27 dX6_kindHere_17 z2 ?_
    refine x_g28_0 (n := (crX o 0)) k_o ffX6_108 dX6_kindHere_20 rfl ?_
    refine g_aload_n dX6_kindHere_23 rfl ?_
    refine x_g45_0 (n := 111) (⟨by decide, rfl⟩ : kx 110 45) ffX6_12 dX6_kindHere_24 rfl ?_
    refine x_g46_7 (z := (P 111 7)) (⟨by decide, rfl⟩ : kx 111 46) ffX6_95 dX6_kindHere_27 rfl ?_
    have f3 := bx_46_7 (o := 111) hB (⟨by decide, rfl⟩ : kx 111 46)
    refine g_vI (av := [vI (P 111 7)]) (o := (crX o 0)) (st := []) (f_X3_kindNamed G P K (crX o 0) (P 111 7) (ck_28_0 k_o) ⟨by have q0 := bx_46_7 (o := 111) hB (⟨by decide, rfl⟩ : kx 111 46); (clear p_kw hb hks k2; omega), by have q0 := bx_46_7 (o := 111) hB (⟨by decide, rfl⟩ : kx 111 46); (clear p_kw hb hks k2; omega)⟩ hB (z1) _ (fun rc4 hc4 gc4_fx => ⟨rc4, rfl, ?_⟩)) cf_X3_kindNamed t_740 rfl (show kx (crX o 0) 29 from (ck_28_0 k_o)).1 ((show kx (crX o 0) 29 from (ck_28_0 k_o)).sh rfl) rfl rfl (Nat.le_of_ble_eq_true rfl) (by decide) rfl dX6_kindHere_30
    have hkn : rc4 = kNm K (tV T p) := by rw [← hv]; exact gc4_fx
    exact g_retI dX6_kindHere_33 rfl (hQ rc4 ⟨by (clear p_kw hb hks k2; omega), by (clear p_kw hb hks k2; omega)⟩ (by (omega)))
  · skip
    refine g_iconst dX6_kindHere_12 ?_
    refine g_goto (tgt := 33) dX6_kindHere_13 (by decide) ?_
    exact g_retI dX6_kindHere_33 rfl (hQ (-1) (by decide) (by (omega)))
/-! What the class answers: X6_isKindHere. -/
set_option maxRecDepth 100000 in
set_option maxHeartbeats 4000000 in
theorem f_X6_isKindHere (G : GT) (P : PH) (T : TT) (K : PH) (p : Int) (o : Nat) (k_o : kx o 28) (a1 : Int) (h_a1 : (-2147483648) ≤ a1 ∧ a1 ≤ 2147483647) (hB : BdX P) (p_aw : AW K) (p_kw : tK T p = 1 ∧ (tO T p = -1 ∨ tO T p = 7)) (z0 : XS T p P) (z1 : XK K (crX o 0) P) (z2 : RT o P) (Q : Option PV → PH → Prop) (hQ : ∀ (r : Int) (_ : 0 ≤ r ∧ r ≤ 1) (_ : (r = 1 ∧ (tO T p = 7 ∨ (kHe T K p ≠ -1 ∧ kHe T K p ≠ a1 ∧ 1 ≤ K 3 (kHe T K p)))) ∨ (r = 0 ∧ tO T p = -1 ∧ (kHe T K p = -1 ∨ kHe T K p = a1 ∨ K 3 (kHe T K p) ≤ 0))), Q (some (vI r)) P) : Ct WSX G 3 iX6_isKindHere [vR 110, vI a1] P Q := by
  refine Ct.of (by decide) (l0 := [(0, vR 110), (1, vI a1)]) rfl (Nat.le_of_ble_eq_true rfl) ?_
  have hb := z0.b
  have hkb := kHe_b (T := T) p_aw p
  refine g_aload_n dX6_isKindHere_0 rfl ?_
  refine x_g45_0 (n := 111) (⟨by decide, rfl⟩ : kx 110 45) ffX6_12 dX6_isKindHere_1 rfl ?_
  refine x_g46_8 (z := (P 111 8)) (⟨by decide, rfl⟩ : kx 111 46) ffX6_43 dX6_isKindHere_4 rfl ?_
  refine g_bipush dX6_isKindHere_7 (by decide) ?_
  have f1 := bx_46_8 (o := 111) hB (⟨by decide, rfl⟩ : kx 111 46)
  refine g_icmp_ne (tgt := 14) dX6_isKindHere_9 (by decide) ⟨by have q0 := bx_46_8 (o := 111) hB (⟨by decide, rfl⟩ : kx 111 46); (clear p_kw hb; omega), by have q0 := bx_46_8 (o := 111) hB (⟨by decide, rfl⟩ : kx 111 46); (clear p_kw hb; omega)⟩ (by decide) (fun k2 => ?_) (fun k2 => ?_)
  · refine g_aload_n dX6_isKindHere_14 rfl ?_
    refine g_vI (av := []) (o := 110) (st := []) (f_X6_kindHere G P T K p o k_o  hB (by (clear hb k2; omega)) (z0) (z1) (z2) _ (fun rc3 hc3 gc3_k => ⟨rc3, rfl, ?_⟩)) cf_X6_kindHere t_772 rfl (show kx 110 45 from (⟨by decide, rfl⟩ : kx 110 45)).1 ((show kx 110 45 from (⟨by decide, rfl⟩ : kx 110 45)).sh rfl) rfl rfl (Nat.le_of_ble_eq_true rfl) (by decide) rfl dX6_isKindHere_15
    refine g_istore_n (l1 := [(2, vI rc3), (0, vR 110), (1, vI a1)]) dX6_isKindHere_18 (by decide) rfl ?_
    refine g_iload_n dX6_isKindHere_19 rfl ?_
    refine g_iconst dX6_isKindHere_20 ?_
    refine g_icmp_eq (tgt := 47) dX6_isKindHere_21 (by decide) ⟨by (clear p_kw hb k2; omega), by (clear p_kw hb k2; omega)⟩ (by decide) (fun k4 => ?_) (fun k4 => ?_)
    · refine g_iconst dX6_isKindHere_47 ?_
      exact g_retZ dX6_isKindHere_48 rfl (by decide) (hQ 0 (by decide) (by (omega)))
    · have k4n : 0 ≤ rc3 := by (clear p_kw hb k2; omega)
      clear k4
      refine g_iload_n dX6_isKindHere_24 rfl ?_
      refine g_iload_n dX6_isKindHere_25 rfl ?_
      refine g_icmp_eq (tgt := 47) dX6_isKindHere_26 (by decide) ⟨by (clear p_kw hb k2; omega), by (clear p_kw hb k2; omega)⟩ ⟨by (clear p_kw hb k2; omega), by (clear p_kw hb k2; omega)⟩ (fun k5 => ?_) (fun k5 => ?_)
      · refine g_iconst dX6_isKindHere_47 ?_
        exact g_retZ dX6_isKindHere_48 rfl (by decide) (hQ 0 (by decide) (by (omega)))
      · refine g_aload_n dX6_isKindHere_29 rfl ?_
        refine x_g45_2 (n := o) (⟨by decide, rfl⟩ : kx 110 45) ffX6_27 dX6_isKindHere_30 z2 ?_
        refine x_g28_0 (n := (crX o 0)) k_o ffX6_108 dX6_isKindHere_33 rfl ?_
        refine g_iload_n dX6_isKindHere_36 rfl ?_
        refine g_vI (av := [vI rc3]) (o := (crX o 0)) (st := []) (f_X3_consOf G P K (crX o 0) rc3 (ck_28_0 k_o) ⟨by (clear p_kw hb k2 k5; omega), by (clear p_kw hb k2 k5; omega)⟩ hB (z1) _ (fun rc6 hc6 gc6_c => ⟨rc6, rfl, ?_⟩)) cf_X3_consOf t_756 rfl (show kx (crX o 0) 29 from (ck_28_0 k_o)).1 ((show kx (crX o 0) 29 from (ck_28_0 k_o)).sh rfl) rfl rfl (Nat.le_of_ble_eq_true rfl) (by decide) rfl dX6_isKindHere_37
        have hc9 := gc6_c
        rw [show rc3 = kHe T K p by (clear p_kw hb k2 k5 gc6_c hc9; omega)] at hc9
        clear gc6_c
        refine g_if_le (tgt := 47) dX6_isKindHere_40 (by decide) ⟨by (clear p_kw hb k2 k5 hc9; omega), by (clear p_kw hb k2 k5 hc9; omega)⟩ (fun k7 => ?_) (fun k7 => ?_)
        · have r_hc9 := (hc9.resolve_right (by (clear p_kw hb k2 k5 hc9 k7; omega)))
          refine g_iconst dX6_isKindHere_47 ?_
          exact g_retZ dX6_isKindHere_48 rfl (by decide) (hQ 0 (by decide) (by (omega)))
        · have r_hc9 := (hc9.resolve_right (by (clear p_kw hb k2 k5 hc9 k7; omega)))
          refine g_iconst dX6_isKindHere_43 ?_
          refine g_goto (tgt := 48) dX6_isKindHere_44 (by decide) ?_
          exact g_retZ dX6_isKindHere_48 rfl (by decide) (hQ 1 (by decide) (by (clear hb p_kw; omega)))
  · refine g_iconst dX6_isKindHere_12 ?_
    exact g_retZ dX6_isKindHere_13 rfl (by decide) (hQ 1 (by decide) (by (clear p_kw; omega)))
/-! What the class answers: X6_readCon. -/
set_option maxRecDepth 100000 in
set_option maxHeartbeats 4000000 in
theorem f_X6_readCon (G : GT) (P : PH) (T : TT) (K : PH) (M : PH) (p : Int) (o : Nat) (k_o : kx o 28) (hB : BdX P) (p_aw : AW K) (p_k0 : tO T p = 1) (v_TX : TX P) (v_OWN : OWN P) (z0 : XT T P) (z1 : XS T p P) (z2 : XK K (crX o 0) P) (z3 : XM M o P) (z4 : RT o P) (Q : Option PV → PH → Prop) (hQ : ∀ (r : Int) (_ : 0 ≤ r ∧ r ≤ 1) (P1 : PH) (_ : BdX P1) (_ : FrX ([(29, 10), (45, 3), (45, 4), (46, 3), (46, 4), (46, 5), (46, 6), (46, 7), (46, 8)], [32, 33, 34, 35, 36, 37, 38]) P P1) (_ : (r = 1 ∧ (sCo T K M p).1 = 0 ∧ P1 110 3 = P 110 3 ∧ P1 110 4 = P 110 4) ∨ (r = 0 ∧ (sCo T K M p).1 ≠ 0 ∧ P1 110 3 = (sCo T K M p).1 ∧ P1 110 4 = (sCo T K M p).2)) (_ : CP (sCo T K M p).1 (XS T (sCo T K M p).2) P1) (_ : CP (sCo T K M p).1 (XK (kCo T K p) (crX o 0)) P1) (_ : KT (tbX o) P P1), Q (some (vI r)) P1) : Ct WSX G 4 iX6_readCon [vR 110] P Q := by
  refine Ct.of (by decide) (l0 := [(0, vR 110)]) rfl (Nat.le_of_ble_eq_true rfl) ?_
  have kt0 : KT (tbX o) P P := KT.rf
  have hk1 : tK T p = 1 := by have q := tO_r T p; omega
  have hb := z1.b
  have hsc := sCo_s T K M p
  have hmb := z3.b
  have hkb := z2.b
  have hk0 := p_aw.1
  have hfr := fre_s T K (tE T p)
  have hfh := fh_ok (T := T) (p := p) (by (clear hb hsc hmb hkb hfr; omega))
  refine g_aload_n dX6_readCon_0 rfl ?_
  refine x_g45_2 (n := o) (⟨by decide, rfl⟩ : kx 110 45) ffX6_27 dX6_readCon_1 z4 ?_
  refine x_g28_0 (n := (crX o 0)) k_o ffX6_108 dX6_readCon_4 rfl ?_
  refine g_astore_n (l1 := [(1, vR (crX o 0)), (0, vR 110)]) dX6_readCon_7 (by decide) rfl ?_
  refine g_aload_n dX6_readCon_8 rfl ?_
  refine x_g29_9 (z := (P (crX o 0) 9)) (ck_28_0 k_o) ffX6_112 dX6_readCon_9 rfl ?_
  refine g_iconst dX6_readCon_12 ?_
  refine g_isub dX6_readCon_13 ?_
  refine g_istore_n (l1 := [(2, vI ((P (crX o 0) 9) - 1)), (1, vR (crX o 0)), (0, vR 110)]) dX6_readCon_14 (by decide) rfl ?_
  refine g_aload_n dX6_readCon_15 rfl ?_
  refine x_g45_2 (n := o) (⟨by decide, rfl⟩ : kx 110 45) ffX6_27 dX6_readCon_16 z4 ?_
  refine x_g28_6 (z := (P o 6)) k_o ffX6_79 dX6_readCon_19 rfl ?_
  have f1 := bx_28_6 (o := o) hB k_o
  refine g_if_gt (tgt := 29) dX6_readCon_22 (by decide) ⟨by have q0 := bx_28_6 (o := o) hB k_o; (clear hb hsc hmb hkb hfr; omega), by have q0 := bx_28_6 (o := o) hB k_o; (clear hb hsc hmb hkb hfr; omega)⟩ (fun k2 => ?_) (fun k2 => ?_)
  · skip
    skip
    refine g_aload_n dX6_readCon_29 rfl ?_
    refine g_vI (av := []) (o := 110) (st := []) (f_X6_failHere G P T p  hB (z1) _ (fun rc3 hc3 Pc3 hBc3 hFc3 gc3_f => ⟨rc3, rfl, ?_⟩)) cf_X6_failHere t_723 rfl (show kx 110 45 from (⟨by decide, rfl⟩ : kx 110 45)).1 ((show kx 110 45 from (⟨by decide, rfl⟩ : kx 110 45)).sh rfl) rfl rfl (Nat.le_of_ble_eq_true rfl) (by decide) rfl dX6_readCon_30
    exact g_retZ dX6_readCon_33 rfl (by (clear hb hsc hmb hkb hfr k2; omega)) (hQ rc3 ⟨by (clear hb hsc hmb hkb hfr k2; omega), by (clear hb hsc hmb hkb hfr k2; omega)⟩ _ hBc3 (FrX.c FrX.rf hFc3 rfl) (by have q0 := bx_45_3 (o := 110) hBc3 (⟨by decide, rfl⟩ : kx 110 45); have q1 := bx_45_4 (o := 110) hBc3 (⟨by decide, rfl⟩ : kx 110 45); (omega)) ((fun h0 => by first | exact (by first | (rw [show (sCo T K M p).2 = p by (omega)]; exact (XS.fr (F := ([(45, 3), (45, 4)], [])) z1 (FrX.c FrX.rf hFc3 rfl) rfl))) | (exfalso; (first | (clear hb hsc hmb hkb hfr k2; omega) | (clear hb hsc hmb hkb hfr; omega) | (clear hb hsc hmb hkb k2; omega) | (clear hb hsc hmb hfr k2; omega) | (clear hb hsc hkb hfr k2; omega) | (clear hb hmb hkb hfr k2; omega) | (clear hsc hmb hkb hfr k2; omega) | (clear hb hsc hmb hkb; omega) | (clear hsc hb; omega) | omega)))) ((fun h0 => by first | exact hNONE | (exfalso; (omega)))) ((KT.fr (F := ([(45, 3), (45, 4)], [])) kt0 (FrX.c FrX.rf hFc3 rfl) rfl)))
  · skip
    skip
    refine g_iload_n dX6_readCon_25 rfl ?_
    have f4 := bx_29_9 (o := (crX o 0)) hB (ck_28_0 k_o)
    refine g_if_ge (tgt := 34) dX6_readCon_26 (by decide) ⟨by have q0 := bx_29_9 (o := (crX o 0)) hB (ck_28_0 k_o); (clear hb hsc hmb hkb hfr k2; omega), by have q0 := bx_29_9 (o := (crX o 0)) hB (ck_28_0 k_o); (clear hb hsc hmb hkb hfr k2; omega)⟩ (fun k5 => ?_) (fun k5 => ?_)
    · skip
      skip
      refine g_aload_n dX6_readCon_34 rfl ?_
      refine g_iload_n dX6_readCon_35 rfl ?_
      refine g_vI (av := [vI ((P (crX o 0) 9) - 1)]) (o := (crX o 0)) (st := []) (f_X3_consOf G P K (crX o 0) ((P (crX o 0) 9) - 1) (ck_28_0 k_o) ⟨by have q0 := bx_29_9 (o := (crX o 0)) hB (ck_28_0 k_o); (clear hb hsc hmb hkb hfr k2 k5; omega), by have q0 := bx_29_9 (o := (crX o 0)) hB (ck_28_0 k_o); (clear hb hsc hmb hkb hfr k2 k5; omega)⟩ hB (z2) _ (fun rc6 hc6 gc6_c => ⟨rc6, rfl, ?_⟩)) cf_X3_consOf t_756 rfl (show kx (crX o 0) 29 from (ck_28_0 k_o)).1 ((show kx (crX o 0) 29 from (ck_28_0 k_o)).sh rfl) rfl rfl (Nat.le_of_ble_eq_true rfl) (by decide) rfl dX6_readCon_36
      have hcn9 := gc6_c
      rw [show ((P (crX o 0) 9) - 1) = K 0 0 - 1 by (clear hb hsc hmb hfr k2 k5 gc6_c hcn9; omega)] at hcn9
      clear gc6_c
      refine g_bipush dX6_readCon_39 (by decide) ?_
      refine g_icmp_lt (tgt := 58) dX6_readCon_41 (by decide) ⟨by (clear hb hsc hmb hkb hfr k2 k5 hcn9; omega), by (clear hb hsc hmb hkb hfr k2 k5 hcn9; omega)⟩ (by decide) (fun k7 => ?_) (fun k7 => ?_)
      · skip
        skip
        skip
        refine g_aload_n dX6_readCon_58 rfl ?_
        refine x_g45_0 (n := 111) (⟨by decide, rfl⟩ : kx 110 45) ffX6_12 dX6_readCon_59 rfl ?_
        refine g_vV (av := []) (o := 111) (st := []) (f_X7_step G P T (tE T p)  hB ((z1.stp (by (clear hb hsc hmb hkb hfr k2 k5 hcn9 k7; omega))).1) ((z1.stp (by (clear hb hsc hmb hkb hfr k2 k5 hcn9 k7; omega))).2) v_TX v_OWN (z0) _ (fun Pc8 hBc8 hFc8 ec8_0 => ⟨rfl, ?_⟩)) cf_X7_step t_731 rfl (show kx 111 46 from (⟨by decide, rfl⟩ : kx 111 46)).1 ((show kx 111 46 from (⟨by decide, rfl⟩ : kx 111 46)).sh rfl) rfl rfl (Nat.le_of_ble_eq_true rfl) (by decide) rfl dX6_readCon_62
        refine g_aload_n dX6_readCon_65 rfl ?_
        refine g_vI (av := []) (o := 110) (st := []) (f_X6_isNewName G Pc8 T K (tE T p) o k_o  hBc8 p_aw (ec8_0) ((XK.fr (F := ([(46, 3), (46, 4), (46, 5), (46, 6), (46, 7), (46, 8)], [])) z2 (FrX.c FrX.rf hFc8 rfl) rfl)) ((RT.fr (F := ([(46, 3), (46, 4), (46, 5), (46, 6), (46, 7), (46, 8)], [])) z4 (FrX.c FrX.rf hFc8 rfl) rfl)) _ (fun rc9 hc9 Pc9 hBc9 hFc9 gc9_n => ⟨rc9, rfl, ?_⟩)) cf_X6_isNewName t_732 rfl (show kx 110 45 from (⟨by decide, rfl⟩ : kx 110 45)).1 ((show kx 110 45 from (⟨by decide, rfl⟩ : kx 110 45)).sh rfl) rfl rfl (Nat.le_of_ble_eq_true rfl) (by decide) rfl dX6_readCon_66
        have zq10 : Pc8 110 3 = (P 110 3) := ((FrX.g hFc8 (⟨by decide, rfl⟩ : kx 110 45) rfl).trans rfl)
        have zq11 : Pc8 110 4 = (P 110 4) := ((FrX.g hFc8 (⟨by decide, rfl⟩ : kx 110 45) rfl).trans rfl)
        refine g_if_ne (tgt := 74) dX6_readCon_69 (by decide) ⟨by (clear hb hsc hmb hkb hfr k2 k5 hcn9 k7 gc9_n; omega), by (clear hb hsc hmb hkb hfr k2 k5 hcn9 k7 gc9_n; omega)⟩ (fun k12 => ?_) (fun k12 => ?_)
        · have k12n : 1 ≤ rc9 := by (clear hb hsc hmb hkb hfr k2 k5 hcn9 k7 gc9_n; omega)
          clear k12
          have r_gc9_n := (gc9_n.resolve_right (by (clear hb hsc hmb hkb hfr k2 k5 hcn9 k7 gc9_n; omega)))
          skip
          have r_hfr := (hfr.resolve_right (by (clear hb hsc hmb hkb hfr k2 k5 hcn9 k7 gc9_n; omega)))
          skip
          have hf0 : (fre T K (tE T p)).1 = 0 := by (clear hb hsc hmb hkb hfr k2 k5 hcn9 k7 gc9_n; omega)
          have hf2 : (fre T K (tE T p)).2 = tE T (tE T p) := by (clear hb hsc hmb hkb hfr k2 k5 hcn9 k7 gc9_n; omega)
          rw [hf2] at hsc
          have hsc2 : (sCo T K M p).1 = (fldX T K (tE T (tE T p))).1 ∧ (sCo T K M p).2 = (fldX T K (tE T (tE T p))).2.1 := by (omega)
          have hm00 : M 0 0 ≤ 0 := by (omega)
          have hl5 : K 3 (K 0 0 - 1) ≤ 5 := by (omega)
          have hL := p_aw.2.1 (K 0 0 - 1) (by (omega)) (by (clear hb hsc hmb hkb hfr k2 k5 hcn9 k7 gc9_n; omega))
          have hL2 : 0 ≤ K 2 (K 0 0 - 1) ∧ K 2 (K 0 0 - 1) ≤ 2006 := by (clear hb hsc hmb hkb hfr k2 k5 hcn9 k7 gc9_n; omega)
          clear hsc hfr hL hcn9
          refine g_aload_n dX6_readCon_74 rfl ?_
          refine x_g45_0 (n := 111) (⟨by decide, rfl⟩ : kx 110 45) ffX6_12 dX6_readCon_75 rfl ?_
          refine x_g46_7 (z := (Pc8 111 7)) (⟨by decide, rfl⟩ : kx 111 46) ffX6_95 dX6_readCon_78 ((FrX.g hFc9 (⟨by decide, rfl⟩ : kx 111 46) rfl).trans rfl) ?_
          have hv3 : (Pc8 111 7) = tV T (tE T p) := (((FrX.g hFc9 (⟨by decide, rfl⟩ : kx 111 46) rfl).trans rfl)).symm.trans ((XS.fr (F := ([(45, 3), (45, 4)], [])) ec8_0 (FrX.c FrX.rf hFc9 rfl) rfl).tok (by (clear hb hmb hkb k2 k5 k7 gc9_n; omega))).2
          refine g_istore_n (l1 := [(3, vI (Pc8 111 7)), (2, vI ((P (crX o 0) 9) - 1)), (1, vR (crX o 0)), (0, vR 110)]) dX6_readCon_81 (by decide) rfl ?_
          refine g_iconst dX6_readCon_82 ?_
          refine g_istore (l1 := [(4, vI 0), (3, vI (Pc8 111 7)), (2, vI ((P (crX o 0) 9) - 1)), (1, vR (crX o 0)), (0, vR 110)]) dX6_readCon_83 (by decide) rfl ?_
          refine g_iconst dX6_readCon_85 ?_
          refine g_istore (l1 := [(5, vI (-1)), (4, vI 0), (3, vI (Pc8 111 7)), (2, vI ((P (crX o 0) 9) - 1)), (1, vR (crX o 0)), (0, vR 110)]) dX6_readCon_86 (by decide) rfl ?_
          refine g_iconst dX6_readCon_88 ?_
          refine g_istore (l1 := [(6, vI (-1)), (5, vI (-1)), (4, vI 0), (3, vI (Pc8 111 7)), (2, vI ((P (crX o 0) 9) - 1)), (1, vR (crX o 0)), (0, vR 110)]) dX6_readCon_89 (by decide) rfl ?_
          refine g_iconst dX6_readCon_91 ?_
          refine g_istore (l1 := [(7, vI 1), (6, vI (-1)), (5, vI (-1)), (4, vI 0), (3, vI (Pc8 111 7)), (2, vI ((P (crX o 0) 9) - 1)), (1, vR (crX o 0)), (0, vR 110)]) dX6_readCon_92 (by decide) rfl ?_
          refine g_aload_n dX6_readCon_94 rfl ?_
          refine x_g45_0 (n := 111) (⟨by decide, rfl⟩ : kx 110 45) ffX6_12 dX6_readCon_95 rfl ?_
          refine g_vV (av := []) (o := 111) (st := []) (f_X7_step G Pc9 T (tE T (tE T p))  hBc9 (((XS.fr (F := ([(45, 3), (45, 4)], [])) ec8_0 (FrX.c FrX.rf hFc9 rfl) rfl).stp (by (clear hb hmb hkb k2 k5 k7 gc9_n; omega))).1) (((XS.fr (F := ([(45, 3), (45, 4)], [])) ec8_0 (FrX.c FrX.rf hFc9 rfl) rfl).stp (by (clear hb hmb hkb k2 k5 k7 gc9_n; omega))).2) (TX.fr (F := ([(45, 3), (45, 4), (46, 3), (46, 4), (46, 5), (46, 6), (46, 7), (46, 8)], [])) v_TX (FrX.c (FrX.c FrX.rf hFc8 rfl) hFc9 rfl) rfl) (OWN.fr (F := ([(45, 3), (45, 4), (46, 3), (46, 4), (46, 5), (46, 6), (46, 7), (46, 8)], [])) v_OWN (FrX.c (FrX.c FrX.rf hFc8 rfl) hFc9 rfl) rfl) ((XT.fr (F := ([(45, 3), (45, 4), (46, 3), (46, 4), (46, 5), (46, 6), (46, 7), (46, 8)], [])) z0 (FrX.c (FrX.c FrX.rf hFc8 rfl) hFc9 rfl) rfl)) _ (fun Pc13 hBc13 hFc13 ec13_0 => ⟨rfl, ?_⟩)) cf_X7_step t_731 rfl (show kx 111 46 from (⟨by decide, rfl⟩ : kx 111 46)).1 ((show kx 111 46 from (⟨by decide, rfl⟩ : kx 111 46)).sh rfl) rfl rfl (Nat.le_of_ble_eq_true rfl) (by decide) rfl dX6_readCon_98
          have L101_13 : ∀ (n101_13 : Nat) (x101_7_13 : Int) (h_x101_7_13 : 1 ≤ x101_7_13 ∧ x101_7_13 ≤ 4012000) (x101_6_13 : Int) (h_x101_6_13 : (-1) ≤ x101_6_13 ∧ x101_6_13 ≤ 3) (x101_5_13 : Int) (h_x101_5_13 : (-1) ≤ x101_5_13 ∧ x101_5_13 ≤ 3) (x101_4_13 : Int) (h_x101_4_13 : 0 ≤ x101_4_13 ∧ x101_4_13 ≤ 2) (H101_13 : PH) (hB101_13 : BdX H101_13) (hE101_13 : FrX ([(46, 3), (46, 4), (46, 5), (46, 6), (46, 7), (46, 8)], []) Pc13 H101_13) (i101_0_13 : ∃ q : Int, fldX T K (tE T (tE T p)) = fld T K (2 - x101_4_13).toNat x101_4_13 x101_5_13 x101_6_13 x101_7_13 q ∧ XS T q H101_13 ∧ H101_13 110 3 = P 110 3 ∧ H101_13 110 4 = P 110 4 ∧ 1 ≤ x101_7_13 ∧ (x101_7_13 = 1 ∨ K 2 (K 0 0 - 1) + x101_7_13 ≤ 2000)) (hm101_13 : ((3 - x101_4_13) : Int).toNat < n101_13), Go WSX G 4 iX6_readCon 101 [(0, vR 110), (1, vR (crX o 0)), (2, vI ((P (crX o 0) 9) - 1)), (3, vI (Pc8 111 7)), (4, vI x101_4_13), (5, vI x101_5_13), (6, vI x101_6_13), (7, vI x101_7_13)] [] H101_13 Q := by
            intro n101_13
            induction n101_13 with
            | zero => intro x101_7_13 h_x101_7_13 x101_6_13 h_x101_6_13 x101_5_13 h_x101_5_13 x101_4_13 h_x101_4_13 H101_13 hB101_13 hE101_13 i101_0_13 hm101_13; exact absurd hm101_13 (Nat.not_lt_zero _)
            | succ n101_13 ih101_13 =>
            intro x101_7_13 h_x101_7_13 x101_6_13 h_x101_6_13 x101_5_13 h_x101_5_13 x101_4_13 h_x101_4_13 H101_13 hB101_13 hE101_13 i101_0_13 hm101_13
            obtain ⟨q9, hX9, hS9, hu3, hu4, hi1, hi2⟩ := i101_0_13
            obtain ⟨n9, hn9⟩ : ∃ z : Int, z = x101_4_13 := ⟨_, rfl⟩
            obtain ⟨a9, ha9⟩ : ∃ z : Int, z = x101_5_13 := ⟨_, rfl⟩
            obtain ⟨b9, hb9⟩ : ∃ z : Int, z = x101_6_13 := ⟨_, rfl⟩
            obtain ⟨i9, hi9⟩ : ∃ z : Int, z = x101_7_13 := ⟨_, rfl⟩
            rw [← hn9, ← ha9, ← hb9, ← hi9] at hX9
            have hb9x := hS9.b
            have hi2F := fun (_ : Unit) => hi2
            have hi2b : i9 ≤ 2000 := by (clear hb hmb hkb k2 k5 k7 gc9_n hb9x; omega)
            clear hi2
            have hXe := fun (h : tK T q9 ≠ 1 ∨ (tO T q9 ≠ -1 ∧ tO T q9 ≠ 7)) => hX9.trans (fld_end (kGo_1 h))
            have hXl := fun (h : tK T q9 ≠ 1 ∨ (tO T q9 ≠ -1 ∧ tO T q9 ≠ 7)) => (show (fldX T K (tE T (tE T p))).1 = 0 ∧ (fldX T K (tE T (tE T p))).2.1 = q9 by rw [hXe h]; exact ⟨rfl, rfl⟩)
            have hXb := fun (z : Int) (h : kGo T K (K 0 0 - 1) n9 2 (K 2 (K 0 0 - 1)) i9 2000 q9 = z) (h1 : z ≠ 1) (h0 : z ≠ 0) => (show (fldX T K (tE T (tE T p))).1 = z ∧ (fldX T K (tE T (tE T p))).2.1 = tA T q9 by rw [hX9.trans (fld_bad (by rw [h]; exact h1) (by rw [h]; exact h0))]; exact ⟨h, rfl⟩)
            have iv135 : XS T q9 H101_13 := hS9
            refine g_aload_n dX6_readCon_101 rfl ?_
            refine g_vI (av := []) (o := 110) (st := []) (f_X6_isKindWord G H101_13 T q9  hB101_13 (iv135) _ (fun rc136 hc136 gc136_f => ⟨rc136, rfl, ?_⟩)) cf_X6_isKindWord t_764 rfl (show kx 110 45 from (⟨by decide, rfl⟩ : kx 110 45)).1 ((show kx 110 45 from (⟨by decide, rfl⟩ : kx 110 45)).sh rfl) rfl rfl (Nat.le_of_ble_eq_true rfl) (by decide) rfl dX6_readCon_102
            refine g_if_eq (tgt := 228) dX6_readCon_105 (by decide) ⟨by (clear hb hmb hkb k2 k5 k7 gc9_n hb9x gc136_f; omega), by (clear hb hmb hkb k2 k5 k7 gc9_n hb9x gc136_f; omega)⟩ (fun k137 => ?_) (fun k137 => ?_)
            · have r_gc136_f := (gc136_f.resolve_left (by (clear hb hmb hkb k2 k5 k7 gc9_n hb9x gc136_f; omega)))
              skip
              have hXq : kCo T K p = cNew K (tV T (tE T p)) n9 a9 b9 i9 := by unfold kCo; rw [hXe (by (clear hb hmb hkb k2 k5 k7 gc9_n hb9x gc136_f; omega))]
              refine g_aload_n dX6_readCon_228 rfl ?_
              have hX1 := hXl (by (clear hb hmb hkb k2 k5 k7 gc9_n hb9x gc136_f; omega))
              refine g_iload_n dX6_readCon_229 rfl ?_
              refine g_iload dX6_readCon_230 rfl ?_
              refine g_iload dX6_readCon_232 rfl ?_
              refine g_iload dX6_readCon_234 rfl ?_
              refine g_iload dX6_readCon_236 rfl ?_
              have f138 := bx_46_7 (o := 111) hBc8 (⟨by decide, rfl⟩ : kx 111 46)
              refine g_vV (av := [vI (Pc8 111 7), vI x101_4_13, vI x101_5_13, vI x101_6_13, vI x101_7_13]) (o := (crX o 0)) (st := []) (f_X3_addCon G H101_13 K (crX o 0) (Pc8 111 7) x101_4_13 x101_5_13 x101_6_13 x101_7_13 (ck_28_0 k_o) ⟨by have q0 := bx_46_7 (o := 111) hBc8 (⟨by decide, rfl⟩ : kx 111 46); (clear hb hmb hkb k2 k5 k7 gc9_n hb9x gc136_f; omega), by have q0 := bx_46_7 (o := 111) hBc8 (⟨by decide, rfl⟩ : kx 111 46); (clear hb hmb hkb k2 k5 k7 gc9_n hb9x gc136_f; omega)⟩ ⟨by (clear hb hmb hkb k2 k5 k7 gc9_n hb9x gc136_f; omega), by (clear hb hmb hkb k2 k5 k7 gc9_n hb9x gc136_f; omega)⟩ ⟨by (clear hb hmb hkb k2 k5 k7 gc9_n hb9x gc136_f; omega), by (clear hb hmb hkb k2 k5 k7 gc9_n hb9x gc136_f; omega)⟩ ⟨by (clear hb hmb hkb k2 k5 k7 gc9_n hb9x gc136_f; omega), by (clear hb hmb hkb k2 k5 k7 gc9_n hb9x gc136_f; omega)⟩ ⟨by (clear hb hmb hkb k2 k5 k7 gc9_n hb9x gc136_f; omega), by (clear hb hmb hkb k2 k5 k7 gc9_n hb9x gc136_f; omega)⟩ hB101_13 p_aw (⟨by (omega), by (clear hb hmb hkb k2 k5 k7 gc9_n hb9x gc136_f; omega)⟩) (by have q0 := bx_46_7 (o := 111) hBc8 (⟨by decide, rfl⟩ : kx 111 46); (clear hb hmb hkb k2 k5 k7 gc9_n hb9x gc136_f; omega)) ((XK.fr (F := ([(45, 3), (45, 4), (46, 3), (46, 4), (46, 5), (46, 6), (46, 7), (46, 8)], [])) z2 (FrX.c (FrX.c (FrX.c (FrX.c FrX.rf hFc8 rfl) hFc9 rfl) hFc13 rfl) hE101_13 rfl) rfl)) _ (fun Pc139 hBc139 hFc139 ec139_0 ec139_1 => ⟨rfl, ?_⟩)) cf_X3_addCon t_780 rfl (show kx (crX o 0) 29 from (ck_28_0 k_o)).1 ((show kx (crX o 0) 29 from (ck_28_0 k_o)).sh rfl) rfl rfl (Nat.le_of_ble_eq_true rfl) (by decide) rfl dX6_readCon_238
              have kt140 : KT (tbX o) P Pc139 := KT.t (KT.fr (F := ([(45, 3), (45, 4), (46, 3), (46, 4), (46, 5), (46, 6), (46, 7), (46, 8)], [])) kt0 (FrX.c (FrX.c (FrX.c (FrX.c FrX.rf hFc8 rfl) hFc9 rfl) hFc13 rfl) hE101_13 rfl) rfl) (KT.e ec139_1 (tb28_0 k_o))
              have iv141 : XK (kCo T K p) (crX o 0) Pc139 := by rw [hXq, ← hv3, hn9, ha9, hb9, hi9]; exact ec139_0
              refine g_iconst dX6_readCon_241 ?_
              exact g_retZ dX6_readCon_242 rfl (by decide) (hQ 1 (by decide) _ hBc139 (FrX.c (FrX.c (FrX.c (FrX.c (FrX.c FrX.rf hFc8 rfl) hFc9 rfl) hFc13 rfl) hE101_13 rfl) hFc139 rfl) (by have q0 := (((FrX.g hFc139 (⟨by decide, rfl⟩ : kx 110 45) rfl).trans ((FrX.g hE101_13 (⟨by decide, rfl⟩ : kx 110 45) rfl).trans ((FrX.g hFc13 (⟨by decide, rfl⟩ : kx 110 45) rfl).trans rfl))) : Pc139 110 3 = (Pc9 110 3)); have q1 := bx_45_3 (o := 110) hBc9 (⟨by decide, rfl⟩ : kx 110 45); have q2 := (((FrX.g hFc139 (⟨by decide, rfl⟩ : kx 110 45) rfl).trans ((FrX.g hE101_13 (⟨by decide, rfl⟩ : kx 110 45) rfl).trans ((FrX.g hFc13 (⟨by decide, rfl⟩ : kx 110 45) rfl).trans rfl))) : Pc139 110 4 = (Pc9 110 4)); have q3 := bx_45_4 (o := 110) hBc9 (⟨by decide, rfl⟩ : kx 110 45); (clear hb hmb hkb k2 k5 k7 gc9_n hb9x gc136_f; omega)) ((fun h0 => by first | exact (by first | (rw [show (sCo T K M p).2 = q9 by (clear hb hmb hkb k2 k5 k7 gc9_n hb9x gc136_f; omega)]; exact (XS.fr (F := ([(29, 10)], [32, 33, 34, 35, 36, 37, 38])) iv135 (FrX.c FrX.rf hFc139 rfl) rfl))) | (exfalso; (first | (clear hb hmb hkb k2 k5 k7 gc9_n hb9x gc136_f; omega) | (clear hb hmb hkb k2 k5 k7 gc9_n hb9x; omega) | (clear hb hmb hkb k2 k5 k7 gc9_n gc136_f; omega) | (clear hb hmb hkb k2 k5 k7 hb9x gc136_f; omega) | (clear hb hmb hkb k2 k5 gc9_n hb9x gc136_f; omega) | (clear hb hmb hkb k2 k7 gc9_n hb9x gc136_f; omega) | (clear hb hmb hkb k5 k7 gc9_n hb9x gc136_f; omega) | (clear hb hmb k2 k5 k7 gc9_n hb9x gc136_f; omega) | (clear hb hkb k2 k5 k7 gc9_n hb9x gc136_f; omega) | (clear hb hmb hkb k2 k5 k7 gc9_n; omega) | (clear k5 k2 hkb hmb hb; omega) | omega)))) ((fun h0 => by first | exact iv141 | (exfalso; (first | (clear hb hmb hkb k2 k5 k7 gc9_n hb9x gc136_f; omega) | (clear hb hmb hkb k2 k5 k7 gc9_n hb9x; omega) | (clear hb hmb hkb k2 k5 k7 gc9_n gc136_f; omega) | (clear hb hmb hkb k2 k5 k7 hb9x gc136_f; omega) | (clear hb hmb hkb k2 k5 gc9_n hb9x gc136_f; omega) | (clear hb hmb hkb k2 k7 gc9_n hb9x gc136_f; omega) | (clear hb hmb hkb k5 k7 gc9_n hb9x gc136_f; omega) | (clear hb hmb k2 k5 k7 gc9_n hb9x gc136_f; omega) | (clear hb hkb k2 k5 k7 gc9_n hb9x gc136_f; omega) | (clear hb hmb hkb k2 k5 k7 gc9_n; omega) | (clear k5 k2 hkb hmb hb; omega) | omega)))) (kt140))
            · have k137n : 1 ≤ rc136 := by (clear hb hmb hkb k2 k5 k7 gc9_n hb9x gc136_f; omega)
              clear k137
              have r_gc136_f := (gc136_f.resolve_right (by (clear hb hmb hkb k2 k5 k7 gc9_n hb9x gc136_f; omega)))
              skip
              have hw9 : tK T q9 = 1 ∧ (tO T q9 = -1 ∨ tO T q9 = 7) := by (clear hb hmb hkb k2 k5 k7 gc9_n hb9x gc136_f; omega)
              refine g_iload dX6_readCon_108 rfl ?_
              refine g_iconst dX6_readCon_110 ?_
              refine g_icmp_gt (tgt := 228) dX6_readCon_111 (by decide) ⟨by (clear hb hmb hkb k2 k5 k7 gc9_n hb9x gc136_f hw9; omega), by (clear hb hmb hkb k2 k5 k7 gc9_n hb9x gc136_f hw9; omega)⟩ (by decide) (fun k142 => by exfalso; (clear hb hmb hkb k2 k5 k7 gc9_n hb9x gc136_f hw9; omega)) (fun k142 => ?_)
              skip
              skip
              refine g_iload dX6_readCon_114 rfl ?_
              refine g_iconst dX6_readCon_116 ?_
              refine g_icmp_ne (tgt := 134) dX6_readCon_117 (by decide) ⟨by (clear hb hmb hkb k2 k5 k7 gc9_n hb9x gc136_f hw9; omega), by (clear hb hmb hkb k2 k5 k7 gc9_n hb9x gc136_f hw9; omega)⟩ (by decide) (fun k143 => ?_) (fun k143 => ?_)
              · have k143n : x101_4_13 ≤ 1 := by (clear hb hmb hkb k2 k5 k7 gc9_n hb9x gc136_f hw9; omega)
                clear k143
                skip
                skip
                refine g_aload_n dX6_readCon_134 rfl ?_
                refine g_iload_n dX6_readCon_135 rfl ?_
                refine g_vI (av := [vI ((P (crX o 0) 9) - 1)]) (o := 110) (st := []) (f_X6_isKindHere G H101_13 T K q9 o k_o ((P (crX o 0) 9) - 1) ⟨by have q0 := bx_29_9 (o := (crX o 0)) hB (ck_28_0 k_o); (clear hb hmb hkb k2 k5 k7 gc9_n hb9x gc136_f hw9; omega), by have q0 := bx_29_9 (o := (crX o 0)) hB (ck_28_0 k_o); (clear hb hmb hkb k2 k5 k7 gc9_n hb9x gc136_f hw9; omega)⟩ hB101_13 p_aw (by have q0 := bx_29_9 (o := (crX o 0)) hB (ck_28_0 k_o); (clear hb hmb hkb k2 k5 k7 gc9_n hb9x gc136_f hw9; omega)) (iv135) ((XK.fr (F := ([(45, 3), (45, 4), (46, 3), (46, 4), (46, 5), (46, 6), (46, 7), (46, 8)], [])) z2 (FrX.c (FrX.c (FrX.c (FrX.c FrX.rf hFc8 rfl) hFc9 rfl) hFc13 rfl) hE101_13 rfl) rfl)) ((RT.fr (F := ([(45, 3), (45, 4), (46, 3), (46, 4), (46, 5), (46, 6), (46, 7), (46, 8)], [])) z4 (FrX.c (FrX.c (FrX.c (FrX.c FrX.rf hFc8 rfl) hFc9 rfl) hFc13 rfl) hE101_13 rfl) rfl)) _ (fun rc144 hc144 gc144_k => ⟨rc144, rfl, ?_⟩)) cf_X6_isKindHere t_768 rfl (show kx 110 45 from (⟨by decide, rfl⟩ : kx 110 45)).1 ((show kx 110 45 from (⟨by decide, rfl⟩ : kx 110 45)).sh rfl) rfl rfl (Nat.le_of_ble_eq_true rfl) (by decide) rfl dX6_readCon_136
                refine g_if_ne (tgt := 155) dX6_readCon_139 (by decide) ⟨by (clear hb hmb hkb k2 k5 k7 gc9_n hb9x gc136_f hw9 gc144_k; omega), by (clear hb hmb hkb k2 k5 k7 gc9_n hb9x gc136_f hw9 gc144_k; omega)⟩ (fun k145 => ?_) (fun k145 => ?_)
                · have k145n : 1 ≤ rc144 := by (clear hb hmb hkb k2 k5 k7 gc9_n hb9x gc136_f hw9 gc144_k; omega)
                  clear k145
                  have r_gc144_k := (gc144_k.resolve_right (by (clear hb hmb hkb k2 k5 k7 gc9_n hb9x gc136_f hw9 gc144_k; omega)))
                  skip
                  skip
                  have hk9 : tO T q9 = 7 ∨ (kHe T K q9 ≠ -1 ∧ kHe T K q9 ≠ K 0 0 - 1 ∧ 1 ≤ K 3 (kHe T K q9)) := by (omega)
                  have hzb := szk_b p_aw hk9
                  have hkbb := kHe_b (T := T) p_aw q9
                  refine g_aload_n dX6_readCon_155 rfl ?_
                  refine g_vI (av := []) (o := 110) (st := []) (f_X6_kindHere G H101_13 T K q9 o k_o  hB101_13 (by (clear hb hmb hkb k2 k5 k7 gc9_n hb9x gc136_f hw9 gc144_k hk9; omega)) (iv135) ((XK.fr (F := ([(45, 3), (45, 4), (46, 3), (46, 4), (46, 5), (46, 6), (46, 7), (46, 8)], [])) z2 (FrX.c (FrX.c (FrX.c (FrX.c FrX.rf hFc8 rfl) hFc9 rfl) hFc13 rfl) hE101_13 rfl) rfl)) ((RT.fr (F := ([(45, 3), (45, 4), (46, 3), (46, 4), (46, 5), (46, 6), (46, 7), (46, 8)], [])) z4 (FrX.c (FrX.c (FrX.c (FrX.c FrX.rf hFc8 rfl) hFc9 rfl) hFc13 rfl) hE101_13 rfl) rfl)) _ (fun rc146 hc146 gc146_k => ⟨rc146, rfl, ?_⟩)) cf_X6_kindHere t_772 rfl (show kx 110 45 from (⟨by decide, rfl⟩ : kx 110 45)).1 ((show kx 110 45 from (⟨by decide, rfl⟩ : kx 110 45)).sh rfl) rfl rfl (Nat.le_of_ble_eq_true rfl) (by decide) rfl dX6_readCon_156
                  refine g_istore (l1 := [(8, vI rc146), (0, vR 110), (1, vR (crX o 0)), (2, vI ((P (crX o 0) 9) - 1)), (3, vI (Pc8 111 7)), (4, vI x101_4_13), (5, vI x101_5_13), (6, vI x101_6_13), (7, vI x101_7_13)]) dX6_readCon_159 (by decide) rfl ?_
                  refine g_iload dX6_readCon_161 rfl ?_
                  refine g_aload_n dX6_readCon_163 rfl ?_
                  refine g_iload dX6_readCon_164 rfl ?_
                  refine g_vI (av := [vI rc146]) (o := (crX o 0)) (st := [vI x101_7_13]) (f_X3_sizeOf G H101_13 K (crX o 0) rc146 (ck_28_0 k_o) ⟨by (clear hb hmb hkb k2 k5 k7 gc9_n hb9x gc136_f hw9 gc144_k hk9; omega), by (clear hb hmb hkb k2 k5 k7 gc9_n hb9x gc136_f hw9 gc144_k hk9; omega)⟩ hB101_13 (by (clear hb hmb hkb k2 k5 k7 gc9_n hb9x gc136_f hw9 gc144_k hk9; omega)) ((XK.fr (F := ([(45, 3), (45, 4), (46, 3), (46, 4), (46, 5), (46, 6), (46, 7), (46, 8)], [])) z2 (FrX.c (FrX.c (FrX.c (FrX.c FrX.rf hFc8 rfl) hFc9 rfl) hFc13 rfl) hE101_13 rfl) rfl)) _ (fun rc147 hc147 gc147_s => ⟨rc147, rfl, ?_⟩)) cf_X3_sizeOf t_776 rfl (show kx (crX o 0) 29 from (ck_28_0 k_o)).1 ((show kx (crX o 0) 29 from (ck_28_0 k_o)).sh rfl) rfl rfl (Nat.le_of_ble_eq_true rfl) (by decide) rfl dX6_readCon_166
                  have hz1 : rc147 = sz K (kHe T K q9) := by have q := gc147_s; rw [show rc146 = kHe T K q9 by (clear hb hmb hkb k2 k5 k7 gc9_n hb9x gc136_f hw9 gc144_k hk9; omega)] at q; exact q
                  have hz1b : 1 ≤ rc147 ∧ rc147 ≤ 2006 := by rw [hz1]; exact hzb
                  refine g_imul dX6_readCon_169 ?_
                  refine g_nm (fun w148 e_w148 => ?_)
                  have h_w148 : 1 ≤ w148 ∧ w148 ≤ 4012000 := by rw [e_w148]; exact mul_b (A := 2000) (B := 2006) ⟨by (clear hb hmb hkb k2 k5 k7 gc9_n hb9x gc136_f hw9 gc144_k hk9; omega), by (clear hb hmb hkb k2 k5 k7 gc9_n hb9x gc136_f hw9 gc144_k hk9; omega)⟩ ⟨by (clear hb hmb hkb k2 k5 k7 gc9_n hb9x gc136_f hw9 gc144_k hk9; omega), by (clear hb hmb hkb k2 k5 k7 gc9_n hb9x gc136_f hw9 gc144_k hk9; omega)⟩
                  have hi7 : w148 = i9 * sz K (kHe T K q9) := by rw [e_w148, hz1, hi9]
                  refine g_istore (l1 := [(7, vI w148), (8, vI rc146), (0, vR 110), (1, vR (crX o 0)), (2, vI ((P (crX o 0) 9) - 1)), (3, vI (Pc8 111 7)), (4, vI x101_4_13), (5, vI x101_5_13), (6, vI x101_6_13)]) dX6_readCon_170 (by decide) rfl ?_
                  refine g_aload_n dX6_readCon_172 rfl ?_
                  refine g_iload_n dX6_readCon_173 rfl ?_
                  refine g_vI (av := [vI ((P (crX o 0) 9) - 1)]) (o := (crX o 0)) (st := []) (f_X3_sizeOf G H101_13 K (crX o 0) ((P (crX o 0) 9) - 1) (ck_28_0 k_o) ⟨by have q0 := bx_29_9 (o := (crX o 0)) hB (ck_28_0 k_o); (clear hb hmb hkb k2 k5 k7 gc9_n hb9x gc136_f hw9 gc144_k hk9; omega), by have q0 := bx_29_9 (o := (crX o 0)) hB (ck_28_0 k_o); (clear hb hmb hkb k2 k5 k7 gc9_n hb9x gc136_f hw9 gc144_k hk9; omega)⟩ hB101_13 (by have q0 := bx_29_9 (o := (crX o 0)) hB (ck_28_0 k_o); (omega)) ((XK.fr (F := ([(45, 3), (45, 4), (46, 3), (46, 4), (46, 5), (46, 6), (46, 7), (46, 8)], [])) z2 (FrX.c (FrX.c (FrX.c (FrX.c FrX.rf hFc8 rfl) hFc9 rfl) hFc13 rfl) hE101_13 rfl) rfl)) _ (fun rc149 hc149 gc149_s => ⟨rc149, rfl, ?_⟩)) cf_X3_sizeOf t_776 rfl (show kx (crX o 0) 29 from (ck_28_0 k_o)).1 ((show kx (crX o 0) 29 from (ck_28_0 k_o)).sh rfl) rfl rfl (Nat.le_of_ble_eq_true rfl) (by decide) rfl dX6_readCon_174
                  have hz2 : rc149 = K 2 (K 0 0 - 1) := by have q := gc149_s; rw [show ((P (crX o 0) 9) - 1) = K 0 0 - 1 by (omega)] at q; rw [q]; unfold sz; rw [if_neg (by (omega))]
                  refine g_iload dX6_readCon_177 rfl ?_
                  refine g_iadd dX6_readCon_179 ?_
                  refine g_sipush dX6_readCon_180 (by decide) ?_
                  refine g_icmp_le (tgt := 199) dX6_readCon_183 (by decide) ⟨by (clear hb hmb hkb k2 k5 k7 gc9_n hb9x gc136_f hw9 gc144_k hk9; omega), by (clear hb hmb hkb k2 k5 k7 gc9_n hb9x gc136_f hw9 gc144_k hk9; omega)⟩ (by decide) (fun k150 => ?_) (fun k150 => ?_)
                  · skip
                    skip
                    skip
                    skip
                    have hg0 : kGo T K (K 0 0 - 1) n9 2 (K 2 (K 0 0 - 1)) i9 2000 q9 = 0 := kGo_0 hw9 (by (clear hb hmb hkb k2 k5 k7 gc9_n hb9x gc136_f hw9 gc144_k hk9; omega)) hk9 (by (clear hb hmb hkb k2 k5 k7 gc9_n hb9x gc136_f hw9 gc144_k hk9; omega))
                    refine g_iload dX6_readCon_199 rfl ?_
                    refine g_if_ne (tgt := 211) dX6_readCon_201 (by decide) ⟨by (clear hb hmb hkb k2 k5 k7 gc9_n hb9x gc136_f hw9 gc144_k hk9; omega), by (clear hb hmb hkb k2 k5 k7 gc9_n hb9x gc136_f hw9 gc144_k hk9; omega)⟩ (fun k151 => ?_) (fun k151 => ?_)
                    · have k151n : 1 ≤ x101_4_13 := by (clear hb hmb hkb k2 k5 k7 gc9_n hb9x gc136_f hw9 gc144_k hk9; omega)
                      clear k151
                      skip
                      skip
                      skip
                      skip
                      refine g_iload dX6_readCon_211 rfl ?_
                      refine g_istore (l1 := [(6, vI rc146), (7, vI w148), (8, vI rc146), (0, vR 110), (1, vR (crX o 0)), (2, vI ((P (crX o 0) 9) - 1)), (3, vI (Pc8 111 7)), (4, vI x101_4_13), (5, vI x101_5_13)]) dX6_readCon_213 (by decide) rfl ?_
                      refine g_iinc (l1 := [(4, vI (x101_4_13 + 1)), (6, vI rc146), (7, vI w148), (8, vI rc146), (0, vR 110), (1, vR (crX o 0)), (2, vI ((P (crX o 0) 9) - 1)), (3, vI (Pc8 111 7)), (5, vI x101_5_13)]) dX6_readCon_215 rfl (by decide) rfl ?_
                      refine g_aload_n dX6_readCon_218 rfl ?_
                      refine x_g45_0 (n := 111) (⟨by decide, rfl⟩ : kx 110 45) ffX6_12 dX6_readCon_219 rfl ?_
                      refine g_vV (av := []) (o := 111) (st := []) (f_X7_step G H101_13 T (tE T q9)  hB101_13 ((iv135.stp (by (clear hb hmb hkb k2 k5 k7 gc9_n hb9x gc136_f hw9 gc144_k hk9; omega))).1) ((iv135.stp (by (clear hb hmb hkb k2 k5 k7 gc9_n hb9x gc136_f hw9 gc144_k hk9; omega))).2) (TX.fr (F := ([(45, 3), (45, 4), (46, 3), (46, 4), (46, 5), (46, 6), (46, 7), (46, 8)], [])) v_TX (FrX.c (FrX.c (FrX.c (FrX.c FrX.rf hFc8 rfl) hFc9 rfl) hFc13 rfl) hE101_13 rfl) rfl) (OWN.fr (F := ([(45, 3), (45, 4), (46, 3), (46, 4), (46, 5), (46, 6), (46, 7), (46, 8)], [])) v_OWN (FrX.c (FrX.c (FrX.c (FrX.c FrX.rf hFc8 rfl) hFc9 rfl) hFc13 rfl) hE101_13 rfl) rfl) ((XT.fr (F := ([(45, 3), (45, 4), (46, 3), (46, 4), (46, 5), (46, 6), (46, 7), (46, 8)], [])) z0 (FrX.c (FrX.c (FrX.c (FrX.c FrX.rf hFc8 rfl) hFc9 rfl) hFc13 rfl) hE101_13 rfl) rfl)) _ (fun Pc152 hBc152 hFc152 ec152_0 => ⟨rfl, ?_⟩)) cf_X7_step t_731 rfl (show kx 111 46 from (⟨by decide, rfl⟩ : kx 111 46)).1 ((show kx 111 46 from (⟨by decide, rfl⟩ : kx 111 46)).sh rfl) rfl rfl (Nat.le_of_ble_eq_true rfl) (by decide) rfl dX6_readCon_222
                      have hXg : fldX T K (tE T (tE T p)) = fld T K (2 - (n9 + 1)).toNat (n9 + 1) (if n9 = 0 then kHe T K q9 else a9) (if n9 = 0 then b9 else kHe T K q9) (i9 * sz K (kHe T K q9)) (tE T q9) := by
                        rw [hX9, show (2 - n9).toNat = (2 - (n9 + 1)).toNat + 1 by (clear hb hmb hkb k2 k5 k7 gc9_n hb9x gc136_f hw9 gc144_k hk9; omega)]
                        exact fld_go hg0
                      have e5 : (x101_5_13 : Int) = if n9 = 0 then kHe T K q9 else a9 := by split <;> (clear hb hmb hkb k2 k5 k7 gc9_n hb9x gc136_f hw9 gc144_k hk9; omega)
                      have e6 : (rc146 : Int) = if n9 = 0 then b9 else kHe T K q9 := by split <;> (clear hb hmb hkb k2 k5 k7 gc9_n hb9x gc136_f hw9 gc144_k hk9; omega)
                      have hinv9 : ∃ q : Int, fldX T K (tE T (tE T p)) = fld T K (2 - (x101_4_13 + 1)).toNat (x101_4_13 + 1) x101_5_13 rc146 w148 q ∧ XS T q Pc152 ∧ Pc152 110 3 = P 110 3 ∧ Pc152 110 4 = P 110 4 ∧ 1 ≤ w148 ∧ (w148 = 1 ∨ K 2 (K 0 0 - 1) + w148 ≤ 2000) := ⟨tE T q9, by rw [hXg, ← e5, ← e6, ← hi7, hn9], ec152_0, by have q := (((FrX.g hFc152 (⟨by decide, rfl⟩ : kx 110 45) rfl).trans ((FrX.g hE101_13 (⟨by decide, rfl⟩ : kx 110 45) rfl).trans ((FrX.g hFc13 (⟨by decide, rfl⟩ : kx 110 45) rfl).trans rfl))) : Pc152 110 3 = (Pc9 110 3)); (clear hb hmb hkb k2 k5 k7 gc9_n hb9x gc136_f hw9 gc144_k hk9; omega), by have q := (((FrX.g hFc152 (⟨by decide, rfl⟩ : kx 110 45) rfl).trans ((FrX.g hE101_13 (⟨by decide, rfl⟩ : kx 110 45) rfl).trans ((FrX.g hFc13 (⟨by decide, rfl⟩ : kx 110 45) rfl).trans rfl))) : Pc152 110 4 = (Pc9 110 4)); (clear hb hmb hkb k2 k5 k7 gc9_n hb9x gc136_f hw9 gc144_k hk9; omega), by (clear hb hmb hkb k2 k5 k7 gc9_n hb9x gc136_f hw9 gc144_k hk9; omega), by (clear hb hmb hkb k2 k5 k7 gc9_n hb9x gc136_f hw9 gc144_k hk9; omega)⟩
                      refine g_goto (tgt := 101) dX6_readCon_225 (by decide) ?_
                      refine g_forget (l1 := [(0, vR 110), (1, vR (crX o 0)), (2, vI ((P (crX o 0) 9) - 1)), (3, vI (Pc8 111 7)), (4, vI (x101_4_13 + 1)), (5, vI x101_5_13), (6, vI rc146), (7, vI w148)]) (by intro q hq; simp only [List.mem_cons, List.not_mem_nil, or_false] at hq ⊢; rcases hq with rfl | rfl | rfl | rfl | rfl | rfl | rfl | rfl <;> simp) ?_
                      exact ih101_13 w148 ⟨by (clear hb hmb hkb k2 k5 k7 gc9_n hb9x gc136_f hw9 gc144_k hk9; omega), by (clear hb hmb hkb k2 k5 k7 gc9_n hb9x gc136_f hw9 gc144_k hk9; omega)⟩ rc146 ⟨by (clear hb hmb hkb k2 k5 k7 gc9_n hb9x gc136_f hw9 gc144_k hk9; omega), by (clear hb hmb hkb k2 k5 k7 gc9_n hb9x gc136_f hw9 gc144_k hk9; omega)⟩ x101_5_13 ⟨by (clear hb hmb hkb k2 k5 k7 gc9_n hb9x gc136_f hw9 gc144_k hk9; omega), by (clear hb hmb hkb k2 k5 k7 gc9_n hb9x gc136_f hw9 gc144_k hk9; omega)⟩ (x101_4_13 + 1) ⟨by (clear hb hmb hkb k2 k5 k7 gc9_n hb9x gc136_f hw9 gc144_k hk9; omega), by (clear hb hmb hkb k2 k5 k7 gc9_n hb9x gc136_f hw9 gc144_k hk9; omega)⟩ _ hBc152 (FrX.c (FrX.c FrX.rf hE101_13 rfl) hFc152 rfl) (by first | exact hinv9 | exact ⟨tE T (tE T p), rfl, (by first | (rw [show (tE T (tE T p)) = (tE T q9) by (first | (clear hb hmb hkb k2 k5 k7 gc9_n hb9x gc136_f hw9 gc144_k hk9; omega) | (clear hb hmb hkb k2 k5 k7 gc9_n hb9x gc136_f hw9 gc144_k; omega) | (clear hb hmb hkb k2 k5 k7 gc9_n hb9x gc136_f hw9 hk9; omega) | (clear hb hmb hkb k2 k5 k7 gc9_n hb9x gc136_f gc144_k hk9; omega) | (clear hb hmb hkb k2 k5 k7 gc9_n hb9x hw9 gc144_k hk9; omega) | (clear hb hmb hkb k2 k5 k7 gc9_n gc136_f hw9 gc144_k hk9; omega) | (clear hb hmb hkb k2 k5 k7 hb9x gc136_f hw9 gc144_k hk9; omega) | (clear hb hmb hkb k2 k5 gc9_n hb9x gc136_f hw9 gc144_k hk9; omega) | (clear hb hmb hkb k2 k7 gc9_n hb9x gc136_f hw9 gc144_k hk9; omega) | (clear hb hmb hkb k2 k5 k7 gc9_n hb9x gc136_f hw9; omega) | (clear hb9x gc9_n k7 k5 k2 hkb hmb hb; omega) | omega)]; exact ec152_0)), by have q := (((FrX.g hFc152 (⟨by decide, rfl⟩ : kx 110 45) rfl).trans ((FrX.g hE101_13 (⟨by decide, rfl⟩ : kx 110 45) rfl).trans ((FrX.g hFc13 (⟨by decide, rfl⟩ : kx 110 45) rfl).trans rfl))) : Pc152 110 3 = (Pc9 110 3)); (first | (clear hb hmb hkb k2 k5 k7 gc9_n hb9x gc136_f hw9 gc144_k hk9; omega) | (clear hb hmb hkb k2 k5 k7 gc9_n hb9x gc136_f hw9 gc144_k; omega) | (clear hb hmb hkb k2 k5 k7 gc9_n hb9x gc136_f hw9 hk9; omega) | (clear hb hmb hkb k2 k5 k7 gc9_n hb9x gc136_f gc144_k hk9; omega) | (clear hb hmb hkb k2 k5 k7 gc9_n hb9x hw9 gc144_k hk9; omega) | (clear hb hmb hkb k2 k5 k7 gc9_n gc136_f hw9 gc144_k hk9; omega) | (clear hb hmb hkb k2 k5 k7 hb9x gc136_f hw9 gc144_k hk9; omega) | (clear hb hmb hkb k2 k5 gc9_n hb9x gc136_f hw9 gc144_k hk9; omega) | (clear hb hmb hkb k2 k7 gc9_n hb9x gc136_f hw9 gc144_k hk9; omega) | (clear hb hmb hkb k2 k5 k7 gc9_n hb9x gc136_f hw9; omega) | (clear hb9x gc9_n k7 k5 k2 hkb hmb hb; omega) | omega), by have q := (((FrX.g hFc152 (⟨by decide, rfl⟩ : kx 110 45) rfl).trans ((FrX.g hE101_13 (⟨by decide, rfl⟩ : kx 110 45) rfl).trans ((FrX.g hFc13 (⟨by decide, rfl⟩ : kx 110 45) rfl).trans rfl))) : Pc152 110 4 = (Pc9 110 4)); (first | (clear hb hmb hkb k2 k5 k7 gc9_n hb9x gc136_f hw9 gc144_k hk9; omega) | (clear hb hmb hkb k2 k5 k7 gc9_n hb9x gc136_f hw9 gc144_k; omega) | (clear hb hmb hkb k2 k5 k7 gc9_n hb9x gc136_f hw9 hk9; omega) | (clear hb hmb hkb k2 k5 k7 gc9_n hb9x gc136_f gc144_k hk9; omega) | (clear hb hmb hkb k2 k5 k7 gc9_n hb9x hw9 gc144_k hk9; omega) | (clear hb hmb hkb k2 k5 k7 gc9_n gc136_f hw9 gc144_k hk9; omega) | (clear hb hmb hkb k2 k5 k7 hb9x gc136_f hw9 gc144_k hk9; omega) | (clear hb hmb hkb k2 k5 gc9_n hb9x gc136_f hw9 gc144_k hk9; omega) | (clear hb hmb hkb k2 k7 gc9_n hb9x gc136_f hw9 gc144_k hk9; omega) | (clear hb hmb hkb k2 k5 k7 gc9_n hb9x gc136_f hw9; omega) | (clear hb9x gc9_n k7 k5 k2 hkb hmb hb; omega) | omega), by decide, Or.inl rfl⟩) (by (clear hb hmb hkb k2 k5 k7 gc9_n hb9x gc136_f hw9 gc144_k hk9; omega))
                    · skip
                      skip
                      skip
                      skip
                      refine g_iload dX6_readCon_204 rfl ?_
                      refine g_istore (l1 := [(5, vI rc146), (7, vI w148), (8, vI rc146), (0, vR 110), (1, vR (crX o 0)), (2, vI ((P (crX o 0) 9) - 1)), (3, vI (Pc8 111 7)), (4, vI x101_4_13), (6, vI x101_6_13)]) dX6_readCon_206 (by decide) rfl ?_
                      refine g_goto (tgt := 215) dX6_readCon_208 (by decide) ?_
                      refine g_iinc (l1 := [(4, vI (x101_4_13 + 1)), (5, vI rc146), (7, vI w148), (8, vI rc146), (0, vR 110), (1, vR (crX o 0)), (2, vI ((P (crX o 0) 9) - 1)), (3, vI (Pc8 111 7)), (6, vI x101_6_13)]) dX6_readCon_215 rfl (by decide) rfl ?_
                      refine g_aload_n dX6_readCon_218 rfl ?_
                      refine x_g45_0 (n := 111) (⟨by decide, rfl⟩ : kx 110 45) ffX6_12 dX6_readCon_219 rfl ?_
                      refine g_vV (av := []) (o := 111) (st := []) (f_X7_step G H101_13 T (tE T q9)  hB101_13 ((iv135.stp (by (clear hb hmb hkb k2 k5 k7 gc9_n hb9x gc136_f hw9 gc144_k hk9; omega))).1) ((iv135.stp (by (clear hb hmb hkb k2 k5 k7 gc9_n hb9x gc136_f hw9 gc144_k hk9; omega))).2) (TX.fr (F := ([(45, 3), (45, 4), (46, 3), (46, 4), (46, 5), (46, 6), (46, 7), (46, 8)], [])) v_TX (FrX.c (FrX.c (FrX.c (FrX.c FrX.rf hFc8 rfl) hFc9 rfl) hFc13 rfl) hE101_13 rfl) rfl) (OWN.fr (F := ([(45, 3), (45, 4), (46, 3), (46, 4), (46, 5), (46, 6), (46, 7), (46, 8)], [])) v_OWN (FrX.c (FrX.c (FrX.c (FrX.c FrX.rf hFc8 rfl) hFc9 rfl) hFc13 rfl) hE101_13 rfl) rfl) ((XT.fr (F := ([(45, 3), (45, 4), (46, 3), (46, 4), (46, 5), (46, 6), (46, 7), (46, 8)], [])) z0 (FrX.c (FrX.c (FrX.c (FrX.c FrX.rf hFc8 rfl) hFc9 rfl) hFc13 rfl) hE101_13 rfl) rfl)) _ (fun Pc153 hBc153 hFc153 ec153_0 => ⟨rfl, ?_⟩)) cf_X7_step t_731 rfl (show kx 111 46 from (⟨by decide, rfl⟩ : kx 111 46)).1 ((show kx 111 46 from (⟨by decide, rfl⟩ : kx 111 46)).sh rfl) rfl rfl (Nat.le_of_ble_eq_true rfl) (by decide) rfl dX6_readCon_222
                      have hXg : fldX T K (tE T (tE T p)) = fld T K (2 - (n9 + 1)).toNat (n9 + 1) (if n9 = 0 then kHe T K q9 else a9) (if n9 = 0 then b9 else kHe T K q9) (i9 * sz K (kHe T K q9)) (tE T q9) := by
                        rw [hX9, show (2 - n9).toNat = (2 - (n9 + 1)).toNat + 1 by (clear hb hmb hkb k2 k5 k7 gc9_n hb9x gc136_f hw9 gc144_k hk9; omega)]
                        exact fld_go hg0
                      have e5 : (rc146 : Int) = if n9 = 0 then kHe T K q9 else a9 := by split <;> (clear hb hmb hkb k2 k5 k7 gc9_n hb9x gc136_f hw9 gc144_k hk9; omega)
                      have e6 : (x101_6_13 : Int) = if n9 = 0 then b9 else kHe T K q9 := by split <;> (clear hb hmb hkb k2 k5 k7 gc9_n hb9x gc136_f hw9 gc144_k hk9; omega)
                      have hinv9 : ∃ q : Int, fldX T K (tE T (tE T p)) = fld T K (2 - (x101_4_13 + 1)).toNat (x101_4_13 + 1) rc146 x101_6_13 w148 q ∧ XS T q Pc153 ∧ Pc153 110 3 = P 110 3 ∧ Pc153 110 4 = P 110 4 ∧ 1 ≤ w148 ∧ (w148 = 1 ∨ K 2 (K 0 0 - 1) + w148 ≤ 2000) := ⟨tE T q9, by rw [hXg, ← e5, ← e6, ← hi7, hn9], ec153_0, by have q := (((FrX.g hFc153 (⟨by decide, rfl⟩ : kx 110 45) rfl).trans ((FrX.g hE101_13 (⟨by decide, rfl⟩ : kx 110 45) rfl).trans ((FrX.g hFc13 (⟨by decide, rfl⟩ : kx 110 45) rfl).trans rfl))) : Pc153 110 3 = (Pc9 110 3)); (clear hb hmb hkb k2 k5 k7 gc9_n hb9x gc136_f hw9 gc144_k hk9; omega), by have q := (((FrX.g hFc153 (⟨by decide, rfl⟩ : kx 110 45) rfl).trans ((FrX.g hE101_13 (⟨by decide, rfl⟩ : kx 110 45) rfl).trans ((FrX.g hFc13 (⟨by decide, rfl⟩ : kx 110 45) rfl).trans rfl))) : Pc153 110 4 = (Pc9 110 4)); (clear hb hmb hkb k2 k5 k7 gc9_n hb9x gc136_f hw9 gc144_k hk9; omega), by (clear hb hmb hkb k2 k5 k7 gc9_n hb9x gc136_f hw9 gc144_k hk9; omega), by (clear hb hmb hkb k2 k5 k7 gc9_n hb9x gc136_f hw9 gc144_k hk9; omega)⟩
                      refine g_goto (tgt := 101) dX6_readCon_225 (by decide) ?_
                      refine g_forget (l1 := [(0, vR 110), (1, vR (crX o 0)), (2, vI ((P (crX o 0) 9) - 1)), (3, vI (Pc8 111 7)), (4, vI (x101_4_13 + 1)), (5, vI rc146), (6, vI x101_6_13), (7, vI w148)]) (by intro q hq; simp only [List.mem_cons, List.not_mem_nil, or_false] at hq ⊢; rcases hq with rfl | rfl | rfl | rfl | rfl | rfl | rfl | rfl <;> simp) ?_
                      exact ih101_13 w148 ⟨by (clear hb hmb hkb k2 k5 k7 gc9_n hb9x gc136_f hw9 gc144_k hk9; omega), by (clear hb hmb hkb k2 k5 k7 gc9_n hb9x gc136_f hw9 gc144_k hk9; omega)⟩ x101_6_13 ⟨by (clear hb hmb hkb k2 k5 k7 gc9_n hb9x gc136_f hw9 gc144_k hk9; omega), by (clear hb hmb hkb k2 k5 k7 gc9_n hb9x gc136_f hw9 gc144_k hk9; omega)⟩ rc146 ⟨by (clear hb hmb hkb k2 k5 k7 gc9_n hb9x gc136_f hw9 gc144_k hk9; omega), by (clear hb hmb hkb k2 k5 k7 gc9_n hb9x gc136_f hw9 gc144_k hk9; omega)⟩ (x101_4_13 + 1) ⟨by (clear hb hmb hkb k2 k5 k7 gc9_n hb9x gc136_f hw9 gc144_k hk9; omega), by (clear hb hmb hkb k2 k5 k7 gc9_n hb9x gc136_f hw9 gc144_k hk9; omega)⟩ _ hBc153 (FrX.c (FrX.c FrX.rf hE101_13 rfl) hFc153 rfl) (by first | exact hinv9 | exact ⟨tE T (tE T p), rfl, (by first | (rw [show (tE T (tE T p)) = (tE T q9) by (first | (clear hb hmb hkb k2 k5 k7 gc9_n hb9x gc136_f hw9 gc144_k hk9; omega) | (clear hb hmb hkb k2 k5 k7 gc9_n hb9x gc136_f hw9 gc144_k; omega) | (clear hb hmb hkb k2 k5 k7 gc9_n hb9x gc136_f hw9 hk9; omega) | (clear hb hmb hkb k2 k5 k7 gc9_n hb9x gc136_f gc144_k hk9; omega) | (clear hb hmb hkb k2 k5 k7 gc9_n hb9x hw9 gc144_k hk9; omega) | (clear hb hmb hkb k2 k5 k7 gc9_n gc136_f hw9 gc144_k hk9; omega) | (clear hb hmb hkb k2 k5 k7 hb9x gc136_f hw9 gc144_k hk9; omega) | (clear hb hmb hkb k2 k5 gc9_n hb9x gc136_f hw9 gc144_k hk9; omega) | (clear hb hmb hkb k2 k7 gc9_n hb9x gc136_f hw9 gc144_k hk9; omega) | (clear hb hmb hkb k2 k5 k7 gc9_n hb9x gc136_f hw9; omega) | (clear hb9x gc9_n k7 k5 k2 hkb hmb hb; omega) | omega)]; exact ec153_0)), by have q := (((FrX.g hFc153 (⟨by decide, rfl⟩ : kx 110 45) rfl).trans ((FrX.g hE101_13 (⟨by decide, rfl⟩ : kx 110 45) rfl).trans ((FrX.g hFc13 (⟨by decide, rfl⟩ : kx 110 45) rfl).trans rfl))) : Pc153 110 3 = (Pc9 110 3)); (first | (clear hb hmb hkb k2 k5 k7 gc9_n hb9x gc136_f hw9 gc144_k hk9; omega) | (clear hb hmb hkb k2 k5 k7 gc9_n hb9x gc136_f hw9 gc144_k; omega) | (clear hb hmb hkb k2 k5 k7 gc9_n hb9x gc136_f hw9 hk9; omega) | (clear hb hmb hkb k2 k5 k7 gc9_n hb9x gc136_f gc144_k hk9; omega) | (clear hb hmb hkb k2 k5 k7 gc9_n hb9x hw9 gc144_k hk9; omega) | (clear hb hmb hkb k2 k5 k7 gc9_n gc136_f hw9 gc144_k hk9; omega) | (clear hb hmb hkb k2 k5 k7 hb9x gc136_f hw9 gc144_k hk9; omega) | (clear hb hmb hkb k2 k5 gc9_n hb9x gc136_f hw9 gc144_k hk9; omega) | (clear hb hmb hkb k2 k7 gc9_n hb9x gc136_f hw9 gc144_k hk9; omega) | (clear hb hmb hkb k2 k5 k7 gc9_n hb9x gc136_f hw9; omega) | (clear hb9x gc9_n k7 k5 k2 hkb hmb hb; omega) | omega), by have q := (((FrX.g hFc153 (⟨by decide, rfl⟩ : kx 110 45) rfl).trans ((FrX.g hE101_13 (⟨by decide, rfl⟩ : kx 110 45) rfl).trans ((FrX.g hFc13 (⟨by decide, rfl⟩ : kx 110 45) rfl).trans rfl))) : Pc153 110 4 = (Pc9 110 4)); (first | (clear hb hmb hkb k2 k5 k7 gc9_n hb9x gc136_f hw9 gc144_k hk9; omega) | (clear hb hmb hkb k2 k5 k7 gc9_n hb9x gc136_f hw9 gc144_k; omega) | (clear hb hmb hkb k2 k5 k7 gc9_n hb9x gc136_f hw9 hk9; omega) | (clear hb hmb hkb k2 k5 k7 gc9_n hb9x gc136_f gc144_k hk9; omega) | (clear hb hmb hkb k2 k5 k7 gc9_n hb9x hw9 gc144_k hk9; omega) | (clear hb hmb hkb k2 k5 k7 gc9_n gc136_f hw9 gc144_k hk9; omega) | (clear hb hmb hkb k2 k5 k7 hb9x gc136_f hw9 gc144_k hk9; omega) | (clear hb hmb hkb k2 k5 gc9_n hb9x gc136_f hw9 gc144_k hk9; omega) | (clear hb hmb hkb k2 k7 gc9_n hb9x gc136_f hw9 gc144_k hk9; omega) | (clear hb hmb hkb k2 k5 k7 gc9_n hb9x gc136_f hw9; omega) | (clear hb9x gc9_n k7 k5 k2 hkb hmb hb; omega) | omega), by decide, Or.inl rfl⟩) (by (clear hb hmb hkb k2 k5 k7 gc9_n hb9x gc136_f hw9 gc144_k hk9; omega))
                  · skip
                    skip
                    skip
                    skip
                    have hX1 := hXb 4 (kGo_4 hw9 (by (clear hb hmb hkb k2 k5 k7 gc9_n hb9x gc136_f hw9 gc144_k hk9; omega)) hk9 (by (clear hb hmb hkb k2 k5 k7 gc9_n hb9x gc136_f hw9 gc144_k hk9; omega))) (by decide) (by decide)
                    refine g_aload_n dX6_readCon_186 rfl ?_
                    refine g_iconst dX6_readCon_187 ?_
                    refine g_aload_n dX6_readCon_188 rfl ?_
                    refine x_g45_0 (n := 111) (⟨by decide, rfl⟩ : kx 110 45) ffX6_12 dX6_readCon_189 rfl ?_
                    refine x_g46_5 (z := (H101_13 111 5)) (⟨by decide, rfl⟩ : kx 111 46) ffX6_72 dX6_readCon_192 rfl ?_
                    have f154 := bx_46_5 (o := 111) hB101_13 (⟨by decide, rfl⟩ : kx 111 46)
                    refine g_vI (av := [vI 4, vI (H101_13 111 5)]) (o := 110) (st := []) (f_X6_fail G H101_13 4 (H101_13 111 5) (by decide) ⟨by have q0 := bx_46_5 (o := 111) hB101_13 (⟨by decide, rfl⟩ : kx 111 46); (clear hb hmb hkb k2 k5 k7 gc9_n hb9x gc136_f hw9 gc144_k hk9; omega), by have q0 := bx_46_5 (o := 111) hB101_13 (⟨by decide, rfl⟩ : kx 111 46); (clear hb hmb hkb k2 k5 k7 gc9_n hb9x gc136_f hw9 gc144_k hk9; omega)⟩ hB101_13  _ (fun rc155 hc155 Pc155 hBc155 hFc155 gc155_f => ⟨rc155, rfl, ?_⟩)) cf_X6_fail t_727 rfl (show kx 110 45 from (⟨by decide, rfl⟩ : kx 110 45)).1 ((show kx 110 45 from (⟨by decide, rfl⟩ : kx 110 45)).sh rfl) rfl rfl (Nat.le_of_ble_eq_true rfl) (by decide) rfl dX6_readCon_195
                    exact g_retZ dX6_readCon_198 rfl (by (clear hb hmb hkb k2 k5 k7 gc9_n hb9x gc136_f hw9 gc144_k hk9; omega)) (hQ rc155 ⟨by (clear hb hmb hkb k2 k5 k7 gc9_n hb9x gc136_f hw9 gc144_k hk9; omega), by (clear hb hmb hkb k2 k5 k7 gc9_n hb9x gc136_f hw9 gc144_k hk9; omega)⟩ _ hBc155 (FrX.c (FrX.c (FrX.c (FrX.c (FrX.c FrX.rf hFc8 rfl) hFc9 rfl) hFc13 rfl) hE101_13 rfl) hFc155 rfl) (by have q0 := bx_45_3 (o := 110) hBc155 (⟨by decide, rfl⟩ : kx 110 45); have q1 := bx_45_4 (o := 110) hBc155 (⟨by decide, rfl⟩ : kx 110 45); (clear hb hmb hkb k2 k5 k7 gc9_n gc136_f hw9 gc144_k hk9; omega)) ((fun h0 => by first | exact (by first | (rw [show (sCo T K M p).2 = q9 by (clear hb hmb hkb k2 k5 k7 gc9_n hb9x gc136_f hw9 gc144_k hk9; omega)]; exact (XS.fr (F := ([(45, 3), (45, 4)], [])) iv135 (FrX.c FrX.rf hFc155 rfl) rfl))) | (exfalso; (first | (clear hb hmb hkb k2 k5 k7 gc9_n hb9x gc136_f hw9 gc144_k hk9; omega) | (clear hb hmb hkb k2 k5 k7 gc9_n hb9x gc136_f hw9 gc144_k; omega) | (clear hb hmb hkb k2 k5 k7 gc9_n hb9x gc136_f hw9 hk9; omega) | (clear hb hmb hkb k2 k5 k7 gc9_n hb9x gc136_f gc144_k hk9; omega) | (clear hb hmb hkb k2 k5 k7 gc9_n hb9x hw9 gc144_k hk9; omega) | (clear hb hmb hkb k2 k5 k7 gc9_n gc136_f hw9 gc144_k hk9; omega) | (clear hb hmb hkb k2 k5 k7 hb9x gc136_f hw9 gc144_k hk9; omega) | (clear hb hmb hkb k2 k5 gc9_n hb9x gc136_f hw9 gc144_k hk9; omega) | (clear hb hmb hkb k2 k7 gc9_n hb9x gc136_f hw9 gc144_k hk9; omega) | (clear hb hmb hkb k2 k5 k7 gc9_n hb9x gc136_f hw9; omega) | (clear hb9x gc9_n k7 k5 k2 hkb hmb hb; omega) | omega)))) ((fun h0 => by first | exact hNONE | (exfalso; (clear hb hmb hkb k2 k5 k7 gc9_n hb9x gc136_f hw9 gc144_k hk9; omega)))) ((KT.fr (F := ([(45, 3), (45, 4), (46, 3), (46, 4), (46, 5), (46, 6), (46, 7), (46, 8)], [])) kt0 (FrX.c (FrX.c (FrX.c (FrX.c (FrX.c FrX.rf hFc8 rfl) hFc9 rfl) hFc13 rfl) hE101_13 rfl) hFc155 rfl) rfl)))
                · have r_gc144_k := (gc144_k.resolve_left (by (clear hb hmb hkb k2 k5 k7 gc9_n hb9x gc136_f hw9 gc144_k; omega)))
                  skip
                  skip
                  have hX1 := hXb 3 (kGo_3 hw9 (by (clear hb hmb hkb k2 k5 k7 gc9_n hb9x gc136_f hw9 gc144_k; omega)) (by (omega))) (by decide) (by decide)
                  refine g_aload_n dX6_readCon_142 rfl ?_
                  refine g_iconst dX6_readCon_143 ?_
                  refine g_aload_n dX6_readCon_144 rfl ?_
                  refine x_g45_0 (n := 111) (⟨by decide, rfl⟩ : kx 110 45) ffX6_12 dX6_readCon_145 rfl ?_
                  refine x_g46_5 (z := (H101_13 111 5)) (⟨by decide, rfl⟩ : kx 111 46) ffX6_72 dX6_readCon_148 rfl ?_
                  have f156 := bx_46_5 (o := 111) hB101_13 (⟨by decide, rfl⟩ : kx 111 46)
                  refine g_vI (av := [vI 3, vI (H101_13 111 5)]) (o := 110) (st := []) (f_X6_fail G H101_13 3 (H101_13 111 5) (by decide) ⟨by have q0 := bx_46_5 (o := 111) hB101_13 (⟨by decide, rfl⟩ : kx 111 46); (clear hb hmb hkb k2 k5 k7 gc9_n hb9x gc136_f hw9 gc144_k; omega), by have q0 := bx_46_5 (o := 111) hB101_13 (⟨by decide, rfl⟩ : kx 111 46); (clear hb hmb hkb k2 k5 k7 gc9_n hb9x gc136_f hw9 gc144_k; omega)⟩ hB101_13  _ (fun rc157 hc157 Pc157 hBc157 hFc157 gc157_f => ⟨rc157, rfl, ?_⟩)) cf_X6_fail t_727 rfl (show kx 110 45 from (⟨by decide, rfl⟩ : kx 110 45)).1 ((show kx 110 45 from (⟨by decide, rfl⟩ : kx 110 45)).sh rfl) rfl rfl (Nat.le_of_ble_eq_true rfl) (by decide) rfl dX6_readCon_151
                  exact g_retZ dX6_readCon_154 rfl (by (clear hb hmb hkb k2 k5 k7 gc9_n hb9x gc136_f hw9 gc144_k; omega)) (hQ rc157 ⟨by (clear hb hmb hkb k2 k5 k7 gc9_n hb9x gc136_f hw9 gc144_k; omega), by (clear hb hmb hkb k2 k5 k7 gc9_n hb9x gc136_f hw9 gc144_k; omega)⟩ _ hBc157 (FrX.c (FrX.c (FrX.c (FrX.c (FrX.c FrX.rf hFc8 rfl) hFc9 rfl) hFc13 rfl) hE101_13 rfl) hFc157 rfl) (by have q0 := bx_45_3 (o := 110) hBc157 (⟨by decide, rfl⟩ : kx 110 45); have q1 := bx_45_4 (o := 110) hBc157 (⟨by decide, rfl⟩ : kx 110 45); (clear hb hmb hkb k2 k5 k7 gc9_n gc136_f hw9 gc144_k; omega)) ((fun h0 => by first | exact (by first | (rw [show (sCo T K M p).2 = q9 by (clear hb hmb hkb k2 k5 k7 gc9_n hb9x gc136_f hw9 gc144_k; omega)]; exact (XS.fr (F := ([(45, 3), (45, 4)], [])) iv135 (FrX.c FrX.rf hFc157 rfl) rfl))) | (exfalso; (first | (clear hb hmb hkb k2 k5 k7 gc9_n hb9x gc136_f hw9 gc144_k; omega) | (clear hb hmb hkb k2 k5 k7 gc9_n hb9x gc136_f hw9; omega) | (clear hb hmb hkb k2 k5 k7 gc9_n hb9x gc136_f gc144_k; omega) | (clear hb hmb hkb k2 k5 k7 gc9_n hb9x hw9 gc144_k; omega) | (clear hb hmb hkb k2 k5 k7 gc9_n gc136_f hw9 gc144_k; omega) | (clear hb hmb hkb k2 k5 k7 hb9x gc136_f hw9 gc144_k; omega) | (clear hb hmb hkb k2 k5 gc9_n hb9x gc136_f hw9 gc144_k; omega) | (clear hb hmb hkb k2 k7 gc9_n hb9x gc136_f hw9 gc144_k; omega) | (clear hb hmb hkb k5 k7 gc9_n hb9x gc136_f hw9 gc144_k; omega) | (clear hb hmb hkb k2 k5 k7 gc9_n hb9x gc136_f; omega) | (clear gc9_n k7 k5 k2 hkb hmb hb; omega) | omega)))) ((fun h0 => by first | exact hNONE | (exfalso; (clear hb hmb hkb k2 k5 k7 gc9_n hb9x gc136_f hw9 gc144_k; omega)))) ((KT.fr (F := ([(45, 3), (45, 4), (46, 3), (46, 4), (46, 5), (46, 6), (46, 7), (46, 8)], [])) kt0 (FrX.c (FrX.c (FrX.c (FrX.c (FrX.c FrX.rf hFc8 rfl) hFc9 rfl) hFc13 rfl) hE101_13 rfl) hFc157 rfl) rfl)))
              · skip
                skip
                have hX1 := hXb 6 (kGo_6 hw9 (by (clear hb hmb hkb k2 k5 k7 gc9_n hb9x gc136_f hw9; omega))) (by decide) (by decide)
                refine g_aload_n dX6_readCon_120 rfl ?_
                refine g_bipush dX6_readCon_121 (by decide) ?_
                refine g_aload_n dX6_readCon_123 rfl ?_
                refine x_g45_0 (n := 111) (⟨by decide, rfl⟩ : kx 110 45) ffX6_12 dX6_readCon_124 rfl ?_
                refine x_g46_5 (z := (H101_13 111 5)) (⟨by decide, rfl⟩ : kx 111 46) ffX6_72 dX6_readCon_127 rfl ?_
                have f158 := bx_46_5 (o := 111) hB101_13 (⟨by decide, rfl⟩ : kx 111 46)
                refine g_vI (av := [vI 6, vI (H101_13 111 5)]) (o := 110) (st := []) (f_X6_fail G H101_13 6 (H101_13 111 5) (by decide) ⟨by have q0 := bx_46_5 (o := 111) hB101_13 (⟨by decide, rfl⟩ : kx 111 46); (clear hb hmb hkb k2 k5 k7 gc9_n hb9x gc136_f hw9; omega), by have q0 := bx_46_5 (o := 111) hB101_13 (⟨by decide, rfl⟩ : kx 111 46); (clear hb hmb hkb k2 k5 k7 gc9_n hb9x gc136_f hw9; omega)⟩ hB101_13  _ (fun rc159 hc159 Pc159 hBc159 hFc159 gc159_f => ⟨rc159, rfl, ?_⟩)) cf_X6_fail t_727 rfl (show kx 110 45 from (⟨by decide, rfl⟩ : kx 110 45)).1 ((show kx 110 45 from (⟨by decide, rfl⟩ : kx 110 45)).sh rfl) rfl rfl (Nat.le_of_ble_eq_true rfl) (by decide) rfl dX6_readCon_130
                exact g_retZ dX6_readCon_133 rfl (by (clear hb hmb hkb k2 k5 k7 gc9_n hb9x gc136_f hw9; omega)) (hQ rc159 ⟨by (clear hb hmb hkb k2 k5 k7 gc9_n hb9x gc136_f hw9; omega), by (clear hb hmb hkb k2 k5 k7 gc9_n hb9x gc136_f hw9; omega)⟩ _ hBc159 (FrX.c (FrX.c (FrX.c (FrX.c (FrX.c FrX.rf hFc8 rfl) hFc9 rfl) hFc13 rfl) hE101_13 rfl) hFc159 rfl) (by have q0 := bx_45_3 (o := 110) hBc159 (⟨by decide, rfl⟩ : kx 110 45); have q1 := bx_45_4 (o := 110) hBc159 (⟨by decide, rfl⟩ : kx 110 45); (clear hb hmb hkb k2 k5 k7 gc9_n gc136_f hw9; omega)) ((fun h0 => by first | exact (by first | (rw [show (sCo T K M p).2 = q9 by (clear hb hmb hkb k2 k5 k7 gc9_n hb9x gc136_f hw9; omega)]; exact (XS.fr (F := ([(45, 3), (45, 4)], [])) iv135 (FrX.c FrX.rf hFc159 rfl) rfl))) | (exfalso; (first | (clear hb hmb hkb k2 k5 k7 gc9_n hb9x gc136_f hw9; omega) | (clear hb hmb hkb k2 k5 k7 gc9_n hb9x gc136_f; omega) | (clear hb hmb hkb k2 k5 k7 gc9_n hb9x hw9; omega) | (clear hb hmb hkb k2 k5 k7 gc9_n gc136_f hw9; omega) | (clear hb hmb hkb k2 k5 k7 hb9x gc136_f hw9; omega) | (clear hb hmb hkb k2 k5 gc9_n hb9x gc136_f hw9; omega) | (clear hb hmb hkb k2 k7 gc9_n hb9x gc136_f hw9; omega) | (clear hb hmb hkb k5 k7 gc9_n hb9x gc136_f hw9; omega) | (clear hb hmb k2 k5 k7 gc9_n hb9x gc136_f hw9; omega) | (clear hb hmb hkb k2 k5 k7 gc9_n hb9x; omega) | (clear k7 k5 k2 hkb hmb hb; omega) | omega)))) ((fun h0 => by first | exact hNONE | (exfalso; (clear hb hmb hkb k2 k5 k7 gc9_n hb9x gc136_f hw9; omega)))) ((KT.fr (F := ([(45, 3), (45, 4), (46, 3), (46, 4), (46, 5), (46, 6), (46, 7), (46, 8)], [])) kt0 (FrX.c (FrX.c (FrX.c (FrX.c (FrX.c FrX.rf hFc8 rfl) hFc9 rfl) hFc13 rfl) hE101_13 rfl) hFc159 rfl) rfl)))
          refine g_forget (l1 := [(0, vR 110), (1, vR (crX o 0)), (2, vI ((P (crX o 0) 9) - 1)), (3, vI (Pc8 111 7)), (4, vI 0), (5, vI (-1)), (6, vI (-1)), (7, vI 1)]) (by intro q hq; simp only [List.mem_cons, List.not_mem_nil, or_false] at hq ⊢; rcases hq with rfl | rfl | rfl | rfl | rfl | rfl | rfl | rfl <;> simp) ?_
          exact L101_13 _ 1 (by decide) (-1) (by decide) (-1) (by decide) 0 (by decide) _ hBc13 FrX.rf (by first | exact hinv9 | exact ⟨tE T (tE T p), rfl, ec13_0, by have q := (((FrX.g hFc13 (⟨by decide, rfl⟩ : kx 110 45) rfl).trans rfl) : Pc13 110 3 = (Pc9 110 3)); (clear hb hmb hkb k2 k5 k7 gc9_n; omega), by have q := (((FrX.g hFc13 (⟨by decide, rfl⟩ : kx 110 45) rfl).trans rfl) : Pc13 110 4 = (Pc9 110 4)); (clear hb hmb hkb k2 k5 k7 gc9_n; omega), by decide, Or.inl rfl⟩) (Nat.lt_succ_self _)
        · have r_gc9_n := (gc9_n.resolve_left (by (clear hb hsc hmb hkb hfr k2 k5 hcn9 k7 gc9_n; omega)))
          skip
          skip
          skip
          refine g_iconst dX6_readCon_72 ?_
          exact g_retZ dX6_readCon_73 rfl (by decide) (hQ 0 (by decide) _ hBc9 (FrX.c (FrX.c FrX.rf hFc8 rfl) hFc9 rfl) (by have q0 := bx_45_3 (o := 110) hBc9 (⟨by decide, rfl⟩ : kx 110 45); have q1 := bx_45_4 (o := 110) hBc9 (⟨by decide, rfl⟩ : kx 110 45); (omega)) ((fun h0 => by first | exact (by first | (rw [show (sCo T K M p).2 = (tE T p) by (omega)]; exact (XS.fr (F := ([(45, 3), (45, 4)], [])) ec8_0 (FrX.c FrX.rf hFc9 rfl) rfl))) | (exfalso; (first | (clear hb hsc hmb hkb hfr k2 k5 hcn9 k7 gc9_n; omega) | (clear hb hsc hmb hkb hfr k2 k5 hcn9 k7; omega) | (clear hb hsc hmb hkb hfr k2 k5 hcn9 gc9_n; omega) | (clear hb hsc hmb hkb hfr k2 k5 k7 gc9_n; omega) | (clear hb hsc hmb hkb hfr k2 hcn9 k7 gc9_n; omega) | (clear hb hsc hmb hkb hfr k5 hcn9 k7 gc9_n; omega) | (clear hb hsc hmb hkb k2 k5 hcn9 k7 gc9_n; omega) | (clear hb hsc hmb hfr k2 k5 hcn9 k7 gc9_n; omega) | (clear hb hsc hkb hfr k2 k5 hcn9 k7 gc9_n; omega) | (clear hb hsc hmb hkb hfr k2 k5 hcn9; omega) | (clear k2 hfr hkb hmb hsc hb; omega) | omega)))) ((fun h0 => by first | exact hNONE | (exfalso; (omega)))) ((KT.fr (F := ([(45, 3), (45, 4), (46, 3), (46, 4), (46, 5), (46, 6), (46, 7), (46, 8)], [])) kt0 (FrX.c (FrX.c FrX.rf hFc8 rfl) hFc9 rfl) rfl)))
      · skip
        skip
        skip
        refine g_aload_n dX6_readCon_44 rfl ?_
        refine g_bipush dX6_readCon_45 (by decide) ?_
        refine g_aload_n dX6_readCon_47 rfl ?_
        refine x_g45_0 (n := 111) (⟨by decide, rfl⟩ : kx 110 45) ffX6_12 dX6_readCon_48 rfl ?_
        refine x_g46_5 (z := (P 111 5)) (⟨by decide, rfl⟩ : kx 111 46) ffX6_72 dX6_readCon_51 rfl ?_
        have f160 := bx_46_5 (o := 111) hB (⟨by decide, rfl⟩ : kx 111 46)
        refine g_vI (av := [vI 6, vI (P 111 5)]) (o := 110) (st := []) (f_X6_fail G P 6 (P 111 5) (by decide) ⟨by have q0 := bx_46_5 (o := 111) hB (⟨by decide, rfl⟩ : kx 111 46); (clear hb hsc hmb hkb hfr k2 k5 hcn9 k7; omega), by have q0 := bx_46_5 (o := 111) hB (⟨by decide, rfl⟩ : kx 111 46); (clear hb hsc hmb hkb hfr k2 k5 hcn9 k7; omega)⟩ hB  _ (fun rc161 hc161 Pc161 hBc161 hFc161 gc161_f => ⟨rc161, rfl, ?_⟩)) cf_X6_fail t_727 rfl (show kx 110 45 from (⟨by decide, rfl⟩ : kx 110 45)).1 ((show kx 110 45 from (⟨by decide, rfl⟩ : kx 110 45)).sh rfl) rfl rfl (Nat.le_of_ble_eq_true rfl) (by decide) rfl dX6_readCon_54
        exact g_retZ dX6_readCon_57 rfl (by (clear hb hsc hmb hkb hfr k2 k5 hcn9 k7; omega)) (hQ rc161 ⟨by (clear hb hsc hmb hkb hfr k2 k5 hcn9 k7; omega), by (clear hb hsc hmb hkb hfr k2 k5 hcn9 k7; omega)⟩ _ hBc161 (FrX.c FrX.rf hFc161 rfl) (by have q0 := bx_45_3 (o := 110) hBc161 (⟨by decide, rfl⟩ : kx 110 45); have q1 := bx_45_4 (o := 110) hBc161 (⟨by decide, rfl⟩ : kx 110 45); (omega)) ((fun h0 => by first | exact (by first | (rw [show (sCo T K M p).2 = p by (omega)]; exact (XS.fr (F := ([(45, 3), (45, 4)], [])) z1 (FrX.c FrX.rf hFc161 rfl) rfl))) | (exfalso; (first | (clear hb hsc hmb hkb hfr k2 k5 hcn9 k7; omega) | (clear hb hsc hmb hkb hfr k2 k5 hcn9; omega) | (clear hb hsc hmb hkb hfr k2 k5 k7; omega) | (clear hb hsc hmb hkb hfr k2 hcn9 k7; omega) | (clear hb hsc hmb hkb hfr k5 hcn9 k7; omega) | (clear hb hsc hmb hkb k2 k5 hcn9 k7; omega) | (clear hb hsc hmb hfr k2 k5 hcn9 k7; omega) | (clear hb hsc hkb hfr k2 k5 hcn9 k7; omega) | (clear hb hmb hkb hfr k2 k5 hcn9 k7; omega) | (clear hb hsc hmb hkb hfr k2 k5; omega) | (clear hfr hkb hmb hsc hb; omega) | omega)))) ((fun h0 => by first | exact hNONE | (exfalso; (omega)))) ((KT.fr (F := ([(45, 3), (45, 4)], [])) kt0 (FrX.c FrX.rf hFc161 rfl) rfl)))
    · skip
      skip
      refine g_aload_n dX6_readCon_29 rfl ?_
      refine g_vI (av := []) (o := 110) (st := []) (f_X6_failHere G P T p  hB (z1) _ (fun rc162 hc162 Pc162 hBc162 hFc162 gc162_f => ⟨rc162, rfl, ?_⟩)) cf_X6_failHere t_723 rfl (show kx 110 45 from (⟨by decide, rfl⟩ : kx 110 45)).1 ((show kx 110 45 from (⟨by decide, rfl⟩ : kx 110 45)).sh rfl) rfl rfl (Nat.le_of_ble_eq_true rfl) (by decide) rfl dX6_readCon_30
      exact g_retZ dX6_readCon_33 rfl (by (clear hb hsc hmb hkb hfr k2 k5; omega)) (hQ rc162 ⟨by (clear hb hsc hmb hkb hfr k2 k5; omega), by (clear hb hsc hmb hkb hfr k2 k5; omega)⟩ _ hBc162 (FrX.c FrX.rf hFc162 rfl) (by have q0 := bx_45_3 (o := 110) hBc162 (⟨by decide, rfl⟩ : kx 110 45); have q1 := bx_45_4 (o := 110) hBc162 (⟨by decide, rfl⟩ : kx 110 45); (omega)) ((fun h0 => by first | exact (by first | (rw [show (sCo T K M p).2 = p by (omega)]; exact (XS.fr (F := ([(45, 3), (45, 4)], [])) z1 (FrX.c FrX.rf hFc162 rfl) rfl))) | (exfalso; (first | (clear hb hsc hmb hkb hfr k2 k5; omega) | (clear hb hsc hmb hkb hfr k2; omega) | (clear hb hsc hmb hkb hfr k5; omega) | (clear hb hsc hmb hkb k2 k5; omega) | (clear hb hsc hmb hfr k2 k5; omega) | (clear hb hsc hkb hfr k2 k5; omega) | (clear hb hmb hkb hfr k2 k5; omega) | (clear hsc hmb hkb hfr k2 k5; omega) | (clear hb hsc hmb hkb hfr; omega) | (clear hmb hsc hb; omega) | omega)))) ((fun h0 => by first | exact hNONE | (exfalso; (omega)))) ((KT.fr (F := ([(45, 3), (45, 4)], [])) kt0 (FrX.c FrX.rf hFc162 rfl) rfl)))
/-! What the class answers: X6_readColumns. -/
set_option maxRecDepth 100000 in
set_option maxHeartbeats 4000000 in
theorem f_X6_readColumns (G : GT) (P : PH) (T : TT) (K : PH) (M : PH) (F : FT) (p : Int) (o : Nat) (k_o : kx o 28) (hB : BdX P) (p_aw : AW K) (p_av : AV K M) (p_k0 : tO T p = 2) (p_na : NA M) (v_TX : TX P) (v_OWN : OWN P) (z0 : XT T P) (z1 : XS T p P) (z2 : XK K (crX o 0) P) (z3 : XM M o P) (z4 : RT o P) (z5 : XZ K M o P) (z6 : XFb K M F o P) (Q : Option PV → PH → Prop) (hQ : ∀ (r : Int) (_ : 0 ≤ r ∧ r ≤ 1) (P1 : PH) (_ : BdX P1) (_ : FrX ([(28, 6), (28, 7), (45, 3), (45, 4), (46, 3), (46, 4), (46, 5), (46, 6), (46, 7), (46, 8)], [39, 40, 41, 44]) P P1) (_ : (r = 1 ∧ (sMa T K M p).1 = 0 ∧ P1 110 3 = P 110 3 ∧ P1 110 4 = P 110 4) ∨ (r = 0 ∧ (sMa T K M p).1 ≠ 0 ∧ P1 110 3 = (sMa T K M p).1 ∧ P1 110 4 = (sMa T K M p).2.1)) (_ : CP (sMa T K M p).1 (XS T (sMa T K M p).2.1) P1) (_ : CP (sMa T K M p).1 (XM (sMa T K M p).2.2 o) P1) (_ : KT (tbX o) P P1) (_ : CP (sMa T K M p).1 (XZ K (sMa T K M p).2.2 o) P1) (_ : CP (sMa T K M p).1 (XFz K (sMa T K M p).2.2 F o) P1), Q (some (vI r)) P1) : Ct WSX G 4 iX6_readColumns [vR 110] P Q := by
  refine Ct.of (by decide) (l0 := [(0, vR 110)]) rfl (Nat.le_of_ble_eq_true rfl) ?_
  have kt0 : KT (tbX o) P P := KT.rf
  have hk1 : tK T p = 1 := by have q := tO_r T p; omega
  have hb := z1.b
  have hmb := z3.b
  have hkb := z2.b
  have hk0 := p_aw.1
  have hfh := fh_ok (T := T) (p := p) (by (clear hb hmb hkb; omega))
  have hsm := sMa_s T K M p
  have hf1 := fh_s T (tE T p)
  have hav := p_av.1
  refine g_aload_n dX6_readColumns_0 rfl ?_
  refine x_g45_2 (n := o) (⟨by decide, rfl⟩ : kx 110 45) ffX6_27 dX6_readColumns_1 z4 ?_
  refine x_g28_6 (z := (P o 6)) k_o ffX6_79 dX6_readColumns_4 rfl ?_
  have f1 := bx_28_6 (o := o) hB k_o
  refine g_if_le (tgt := 24) dX6_readColumns_7 (by decide) ⟨by have q0 := bx_28_6 (o := o) hB k_o; (clear hb hmb hkb hsm hf1; omega), by have q0 := bx_28_6 (o := o) hB k_o; (clear hb hmb hkb hsm hf1; omega)⟩ (fun k2 => ?_) (fun k2 => ?_)
  · skip
    skip
    refine g_aload_n dX6_readColumns_24 rfl ?_
    refine x_g45_0 (n := 111) (⟨by decide, rfl⟩ : kx 110 45) ffX6_12 dX6_readColumns_25 rfl ?_
    refine g_vV (av := []) (o := 111) (st := []) (f_X7_step G P T (tE T p)  hB ((z1.stp (by (clear hb hmb hkb hsm hf1 k2; omega))).1) ((z1.stp (by (clear hb hmb hkb hsm hf1 k2; omega))).2) v_TX v_OWN (z0) _ (fun Pc3 hBc3 hFc3 ec3_0 => ⟨rfl, ?_⟩)) cf_X7_step t_731 rfl (show kx 111 46 from (⟨by decide, rfl⟩ : kx 111 46)).1 ((show kx 111 46 from (⟨by decide, rfl⟩ : kx 111 46)).sh rfl) rfl rfl (Nat.le_of_ble_eq_true rfl) (by decide) rfl dX6_readColumns_28
    refine g_aload_n dX6_readColumns_31 rfl ?_
    refine g_vI (av := []) (o := 110) (st := []) (f_X6_isKindWord G Pc3 T (tE T p)  hBc3 (ec3_0) _ (fun rc4 hc4 gc4_f => ⟨rc4, rfl, ?_⟩)) cf_X6_isKindWord t_764 rfl (show kx 110 45 from (⟨by decide, rfl⟩ : kx 110 45)).1 ((show kx 110 45 from (⟨by decide, rfl⟩ : kx 110 45)).sh rfl) rfl rfl (Nat.le_of_ble_eq_true rfl) (by decide) rfl dX6_readColumns_32
    refine g_if_ne (tgt := 43) dX6_readColumns_35 (by decide) ⟨by (clear hb hmb hkb hsm hf1 k2 gc4_f; omega), by (clear hb hmb hkb hsm hf1 k2 gc4_f; omega)⟩ (fun k5 => ?_) (fun k5 => ?_)
    · have k5n : 1 ≤ rc4 := by (clear hb hmb hkb hsm hf1 k2 gc4_f; omega)
      clear k5
      have r_gc4_f := (gc4_f.resolve_right (by (clear hb hmb hkb hsm hf1 k2 gc4_f; omega)))
      have r_hf1 := (hf1.resolve_left (by (clear hb hmb hkb hsm hf1 k2 gc4_f; omega)))
      skip
      refine g_iconst dX6_readColumns_43 ?_
      refine g_istore_n (l1 := [(1, vI 1), (0, vR 110)]) dX6_readColumns_44 (by decide) rfl ?_
      refine g_iconst dX6_readColumns_45 ?_
      refine g_istore_n (l1 := [(2, vI 0), (1, vI 1), (0, vR 110)]) dX6_readColumns_46 (by decide) rfl ?_
      have L47_5 : ∀ (n47_5 : Nat) (x47_2_5 : Int) (h_x47_2_5 : 0 ≤ x47_2_5 ∧ x47_2_5 ≤ 4) (x47_1_5 : Int) (h_x47_1_5 : 1 ≤ x47_1_5 ∧ x47_1_5 ≤ 20000) (H47_5 : PH) (hB47_5 : BdX H47_5) (hE47_5 : FrX ([(28, 6), (28, 7), (46, 3), (46, 4), (46, 5), (46, 6), (46, 7), (46, 8)], [39, 40, 41, 44]) Pc3 H47_5) (i47_0_5 : ∃ (q : Int) (N : PH), sMa T K M p = col T K (4 - N 0 0).toNat N x47_1_5 q ∧ x47_2_5 = N 0 0 ∧ 0 ≤ N 0 0 ∧ N 0 0 ≤ 4 ∧ XM N o H47_5 ∧ XFz K N F o H47_5 ∧ XZ K N o H47_5 ∧ XS T q H47_5 ∧ H47_5 110 3 = P 110 3 ∧ H47_5 110 4 = P 110 4 ∧ 1 ≤ x47_1_5 ∧ x47_1_5 ≤ 20000 ∧ ((N 0 0 = 0 ∧ x47_1_5 = 1) ∨ (1 ≤ N 0 0 ∧ x47_1_5 = N 0 1)) ∧ (N 0 0 = 0 → tK T q = 1 ∧ (tO T q = -1 ∨ tO T q = 7))) (w47_q1_5 : KT (tbX o) P H47_5) (hm47_5 : ((5 - x47_2_5) : Int).toNat < n47_5), Go WSX G 4 iX6_readColumns 47 [(0, vR 110), (1, vI x47_1_5), (2, vI x47_2_5)] [] H47_5 Q := by
        intro n47_5
        induction n47_5 with
        | zero => intro x47_2_5 h_x47_2_5 x47_1_5 h_x47_1_5 H47_5 hB47_5 hE47_5 i47_0_5 w47_q1_5 hm47_5; exact absurd hm47_5 (Nat.not_lt_zero _)
        | succ n47_5 ih47_5 =>
        intro x47_2_5 h_x47_2_5 x47_1_5 h_x47_1_5 H47_5 hB47_5 hE47_5 i47_0_5 w47_q1_5 hm47_5
        obtain ⟨q9, N9, hX9, hl9, hn0, hn4, hM9, hF9z, hZ9, hS9, hu3, hu4, hi1, hi2, hri, hz9⟩ := i47_0_5
        obtain ⟨i9, hi9⟩ : ∃ z : Int, z = x47_1_5 := ⟨_, rfl⟩
        rw [← hi9] at hX9
        have hb9x := hS9.b
        have hz9F := fun (_ : Unit) => hz9
        have hriF := fun (_ : Unit) => hri
        clear hri hz9
        have hXe := fun (h : tK T q9 ≠ 1 ∨ (tO T q9 ≠ -1 ∧ tO T q9 ≠ 7)) => hX9.trans (col_end (kGo_1 h))
        have hXl := fun (h : tK T q9 ≠ 1 ∨ (tO T q9 ≠ -1 ∧ tO T q9 ≠ 7)) => (show (sMa T K M p).1 = 0 ∧ (sMa T K M p).2.1 = q9 by rw [hXe h]; exact ⟨rfl, rfl⟩)
        have hXb := fun (z : Int) (h : kGo T K (-1) (N9 0 0) 4 0 i9 20000 q9 = z) (h1 : z ≠ 1) (h0 : z ≠ 0) => (show (sMa T K M p).1 = z ∧ (sMa T K M p).2.1 = tA T q9 by rw [hX9.trans (col_bad (by rw [h]; exact h1) (by rw [h]; exact h0))]; exact ⟨h, rfl⟩)
        have iv181 : XS T q9 H47_5 := hS9
        have iv182 : XM N9 o H47_5 := hM9
        have iv183 : XZ K N9 o H47_5 := hZ9
        have iv184 : XFz K N9 F o H47_5 := hF9z
        refine g_iload_n dX6_readColumns_47 rfl ?_
        refine g_iconst dX6_readColumns_48 ?_
        refine g_icmp_gt (tgt := 159) dX6_readColumns_49 (by decide) ⟨by (clear hb hmb hkb hsm hf1 k2 gc4_f hb9x; omega), by (clear hb hmb hkb hsm hf1 k2 gc4_f hb9x; omega)⟩ (by decide) (fun k185 => by exfalso; (clear hb hmb hkb hsm hf1 k2 gc4_f hb9x; omega)) (fun k185 => ?_)
        skip
        skip
        skip
        refine g_aload_n dX6_readColumns_52 rfl ?_
        refine g_vI (av := []) (o := 110) (st := []) (f_X6_isKindWord G H47_5 T q9  hB47_5 (iv181) _ (fun rc186 hc186 gc186_f => ⟨rc186, rfl, ?_⟩)) cf_X6_isKindWord t_764 rfl (show kx 110 45 from (⟨by decide, rfl⟩ : kx 110 45)).1 ((show kx 110 45 from (⟨by decide, rfl⟩ : kx 110 45)).sh rfl) rfl rfl (Nat.le_of_ble_eq_true rfl) (by decide) rfl dX6_readColumns_53
        refine g_if_eq (tgt := 159) dX6_readColumns_56 (by decide) ⟨by (clear hb hmb hkb hsm hf1 k2 gc4_f hb9x gc186_f; omega), by (clear hb hmb hkb hsm hf1 k2 gc4_f hb9x gc186_f; omega)⟩ (fun k187 => ?_) (fun k187 => ?_)
        · skip
          skip
          skip
          skip
          have hX1 := hXl (by have q := hz9F (); (clear hb hmb hkb hsm hf1 k2 gc4_f hb9x; omega))
          refine g_iconst dX6_readColumns_159 ?_
          exact g_retZ dX6_readColumns_160 rfl (by decide) (hQ 1 (by decide) _ hB47_5 (FrX.c (FrX.c FrX.rf hFc3 rfl) hE47_5 rfl) (by have q0 := (((FrX.g hE47_5 (⟨by decide, rfl⟩ : kx 110 45) rfl).trans ((FrX.g hFc3 (⟨by decide, rfl⟩ : kx 110 45) rfl).trans rfl)) : H47_5 110 3 = (P 110 3)); have q1 := bx_45_3 (o := 110) hB (⟨by decide, rfl⟩ : kx 110 45); have q2 := (((FrX.g hE47_5 (⟨by decide, rfl⟩ : kx 110 45) rfl).trans ((FrX.g hFc3 (⟨by decide, rfl⟩ : kx 110 45) rfl).trans rfl)) : H47_5 110 4 = (P 110 4)); have q3 := bx_45_4 (o := 110) hB (⟨by decide, rfl⟩ : kx 110 45); (clear hb hmb hkb hsm hf1 k2 gc4_f hb9x gc186_f k187; omega)) ((fun h0 => by first | exact (by first | (rw [show (sMa T K M p).2.1 = q9 by (clear hb hmb hkb hsm hf1 k2 gc4_f hb9x gc186_f k187; omega)]; exact iv181)) | (exfalso; (first | (clear hb hmb hkb hsm hf1 k2 gc4_f hb9x gc186_f k187; omega) | (clear hb hmb hkb hsm hf1 k2 gc4_f hb9x gc186_f; omega) | (clear hb hmb hkb hsm hf1 k2 gc4_f hb9x k187; omega) | (clear hb hmb hkb hsm hf1 k2 gc4_f gc186_f k187; omega) | (clear hb hmb hkb hsm hf1 k2 hb9x gc186_f k187; omega) | (clear hb hmb hkb hsm hf1 gc4_f hb9x gc186_f k187; omega) | (clear hb hmb hkb hsm k2 gc4_f hb9x gc186_f k187; omega) | (clear hb hmb hkb hf1 k2 gc4_f hb9x gc186_f k187; omega) | (clear hb hmb hsm hf1 k2 gc4_f hb9x gc186_f k187; omega) | (clear hb hmb hkb hsm hf1 k2 gc4_f hb9x; omega) | (clear k2 hf1 hsm hkb hmb hb; omega) | omega)))) (fun h0 => by first | (exfalso; (first | (clear hb hmb hkb hsm hf1 k2 gc4_f hb9x gc186_f k187; omega) | (clear hb hmb hkb hsm hf1 k2 gc4_f hb9x gc186_f; omega) | (clear hb hmb hkb hsm hf1 k2 gc4_f hb9x k187; omega) | (clear hb hmb hkb hsm hf1 k2 gc4_f gc186_f k187; omega) | (clear hb hmb hkb hsm hf1 k2 hb9x gc186_f k187; omega) | (clear hb hmb hkb hsm hf1 gc4_f hb9x gc186_f k187; omega) | (clear hb hmb hkb hsm k2 gc4_f hb9x gc186_f k187; omega) | (clear hb hmb hkb hf1 k2 gc4_f hb9x gc186_f k187; omega) | (clear hb hmb hsm hf1 k2 gc4_f hb9x gc186_f k187; omega) | (clear hb hmb hkb hsm hf1 k2 gc4_f hb9x; omega) | (clear k2 hf1 hsm hkb hmb hb; omega) | omega)) | (rw [hXe (by (clear hb hmb hkb hsm hf1 k2 gc4_f hb9x; omega))]; exact iv182)) (w47_q1_5) (fun h0 => by first | (exfalso; (first | (clear hb hmb hkb hsm hf1 k2 gc4_f hb9x gc186_f k187; omega) | (clear hb hmb hkb hsm hf1 k2 gc4_f hb9x gc186_f; omega) | (clear hb hmb hkb hsm hf1 k2 gc4_f hb9x k187; omega) | (clear hb hmb hkb hsm hf1 k2 gc4_f gc186_f k187; omega) | (clear hb hmb hkb hsm hf1 k2 hb9x gc186_f k187; omega) | (clear hb hmb hkb hsm hf1 gc4_f hb9x gc186_f k187; omega) | (clear hb hmb hkb hsm k2 gc4_f hb9x gc186_f k187; omega) | (clear hb hmb hkb hf1 k2 gc4_f hb9x gc186_f k187; omega) | (clear hb hmb hsm hf1 k2 gc4_f hb9x gc186_f k187; omega) | (clear hb hmb hkb hsm hf1 k2 gc4_f hb9x; omega) | (clear k2 hf1 hsm hkb hmb hb; omega) | omega)) | (rw [hXe (by (clear hb hmb hkb hsm hf1 k2 gc4_f hb9x; omega))]; exact iv183)) (fun h0 => by first | (exfalso; (first | (clear hb hmb hkb hsm hf1 k2 gc4_f hb9x gc186_f k187; omega) | (clear hb hmb hkb hsm hf1 k2 gc4_f hb9x gc186_f; omega) | (clear hb hmb hkb hsm hf1 k2 gc4_f hb9x k187; omega) | (clear hb hmb hkb hsm hf1 k2 gc4_f gc186_f k187; omega) | (clear hb hmb hkb hsm hf1 k2 hb9x gc186_f k187; omega) | (clear hb hmb hkb hsm hf1 gc4_f hb9x gc186_f k187; omega) | (clear hb hmb hkb hsm k2 gc4_f hb9x gc186_f k187; omega) | (clear hb hmb hkb hf1 k2 gc4_f hb9x gc186_f k187; omega) | (clear hb hmb hsm hf1 k2 gc4_f hb9x gc186_f k187; omega) | (clear hb hmb hkb hsm hf1 k2 gc4_f hb9x; omega) | (clear k2 hf1 hsm hkb hmb hb; omega) | omega)) | (rw [hXe (by (clear hb hmb hkb hsm hf1 k2 gc4_f hb9x; omega))]; exact iv184)))
        · have k187n : 1 ≤ rc186 := by (clear hb hmb hkb hsm hf1 k2 gc4_f hb9x gc186_f; omega)
          clear k187
          have r_gc186_f := (gc186_f.resolve_right (by (clear hb hmb hkb hsm hf1 k2 gc4_f hb9x gc186_f; omega)))
          skip
          skip
          skip
          have hw9 : tK T q9 = 1 ∧ (tO T q9 = -1 ∨ tO T q9 = 7) := by (clear hb hmb hkb hsm hf1 k2 gc4_f hb9x gc186_f; omega)
          refine g_iload_n dX6_readColumns_59 rfl ?_
          refine g_iconst dX6_readColumns_60 ?_
          refine g_icmp_ne (tgt := 78) dX6_readColumns_61 (by decide) ⟨by (clear hb hmb hkb hsm hf1 k2 gc4_f hb9x gc186_f hw9; omega), by (clear hb hmb hkb hsm hf1 k2 gc4_f hb9x gc186_f hw9; omega)⟩ (by decide) (fun k188 => ?_) (fun k188 => ?_)
          · have k188n : x47_2_5 ≤ 3 := by (clear hb hmb hkb hsm hf1 k2 gc4_f hb9x gc186_f hw9; omega)
            clear k188
            skip
            skip
            skip
            skip
            refine g_aload_n dX6_readColumns_78 rfl ?_
            refine g_iconst dX6_readColumns_79 ?_
            refine g_vI (av := [vI (-1)]) (o := 110) (st := []) (f_X6_isKindHere G H47_5 T K q9 o k_o (-1) (by decide) hB47_5 p_aw (by (clear hb hmb hkb hsm hf1 k2 gc4_f hb9x gc186_f hw9; omega)) (iv181) ((XK.fr (F := ([(28, 6), (28, 7), (46, 3), (46, 4), (46, 5), (46, 6), (46, 7), (46, 8)], [39, 40, 41, 44])) z2 (FrX.c (FrX.c FrX.rf hFc3 rfl) hE47_5 rfl) rfl)) ((RT.fr (F := ([(28, 6), (28, 7), (46, 3), (46, 4), (46, 5), (46, 6), (46, 7), (46, 8)], [39, 40, 41, 44])) z4 (FrX.c (FrX.c FrX.rf hFc3 rfl) hE47_5 rfl) rfl)) _ (fun rc189 hc189 gc189_k => ⟨rc189, rfl, ?_⟩)) cf_X6_isKindHere t_768 rfl (show kx 110 45 from (⟨by decide, rfl⟩ : kx 110 45)).1 ((show kx 110 45 from (⟨by decide, rfl⟩ : kx 110 45)).sh rfl) rfl rfl (Nat.le_of_ble_eq_true rfl) (by decide) rfl dX6_readColumns_80
            refine g_if_ne (tgt := 99) dX6_readColumns_83 (by decide) ⟨by (clear hb hmb hkb hsm hf1 k2 gc4_f hb9x gc186_f hw9 gc189_k; omega), by (clear hb hmb hkb hsm hf1 k2 gc4_f hb9x gc186_f hw9 gc189_k; omega)⟩ (fun k190 => ?_) (fun k190 => ?_)
            · have k190n : 1 ≤ rc189 := by (clear hb hmb hkb hsm hf1 k2 gc4_f hb9x gc186_f hw9 gc189_k; omega)
              clear k190
              have r_gc189_k := (gc189_k.resolve_right (by (clear hb hmb hkb hsm hf1 k2 gc4_f hb9x gc186_f hw9 gc189_k; omega)))
              skip
              skip
              skip
              skip
              have hk9 : tO T q9 = 7 ∨ (kHe T K q9 ≠ -1 ∧ kHe T K q9 ≠ -1 ∧ 1 ≤ K 3 (kHe T K q9)) := by (clear hb hmb hkb hsm hf1 k2 gc4_f hb9x gc186_f hw9 gc189_k; omega)
              have hzb := szk_b p_aw hk9
              have hkbb := kHe_b (T := T) p_aw q9
              refine g_aload_n dX6_readColumns_99 rfl ?_
              refine g_vI (av := []) (o := 110) (st := []) (f_X6_kindHere G H47_5 T K q9 o k_o  hB47_5 (by (clear hb hmb hkb hsm hf1 k2 gc4_f hb9x gc186_f hw9 gc189_k hk9; omega)) (iv181) ((XK.fr (F := ([(28, 6), (28, 7), (46, 3), (46, 4), (46, 5), (46, 6), (46, 7), (46, 8)], [39, 40, 41, 44])) z2 (FrX.c (FrX.c FrX.rf hFc3 rfl) hE47_5 rfl) rfl)) ((RT.fr (F := ([(28, 6), (28, 7), (46, 3), (46, 4), (46, 5), (46, 6), (46, 7), (46, 8)], [39, 40, 41, 44])) z4 (FrX.c (FrX.c FrX.rf hFc3 rfl) hE47_5 rfl) rfl)) _ (fun rc191 hc191 gc191_k => ⟨rc191, rfl, ?_⟩)) cf_X6_kindHere t_772 rfl (show kx 110 45 from (⟨by decide, rfl⟩ : kx 110 45)).1 ((show kx 110 45 from (⟨by decide, rfl⟩ : kx 110 45)).sh rfl) rfl rfl (Nat.le_of_ble_eq_true rfl) (by decide) rfl dX6_readColumns_100
              refine g_istore_n (l1 := [(3, vI rc191), (0, vR 110), (1, vI x47_1_5), (2, vI x47_2_5)]) dX6_readColumns_103 (by decide) rfl ?_
              refine g_iload_n dX6_readColumns_104 rfl ?_
              refine g_aload_n dX6_readColumns_105 rfl ?_
              refine x_g45_2 (n := o) (⟨by decide, rfl⟩ : kx 110 45) ffX6_27 dX6_readColumns_106 (RT.fr (F := ([(28, 6), (28, 7), (46, 3), (46, 4), (46, 5), (46, 6), (46, 7), (46, 8)], [39, 40, 41, 44])) z4 (FrX.c (FrX.c FrX.rf hFc3 rfl) hE47_5 rfl) rfl) ?_
              refine x_g28_0 (n := (crX o 0)) k_o ffX6_108 dX6_readColumns_109 rfl ?_
              refine g_iload_n dX6_readColumns_112 rfl ?_
              refine g_vI (av := [vI rc191]) (o := (crX o 0)) (st := [vI x47_1_5]) (f_X3_sizeOf G H47_5 K (crX o 0) rc191 (ck_28_0 k_o) ⟨by (clear hb hmb hkb hsm hf1 k2 gc4_f hb9x gc186_f hw9 gc189_k hk9; omega), by (clear hb hmb hkb hsm hf1 k2 gc4_f hb9x gc186_f hw9 gc189_k hk9; omega)⟩ hB47_5 (by (clear hb hmb hkb hsm hf1 k2 gc4_f hb9x gc186_f hw9 gc189_k hk9; omega)) ((XK.fr (F := ([(28, 6), (28, 7), (46, 3), (46, 4), (46, 5), (46, 6), (46, 7), (46, 8)], [39, 40, 41, 44])) z2 (FrX.c (FrX.c FrX.rf hFc3 rfl) hE47_5 rfl) rfl)) _ (fun rc192 hc192 gc192_s => ⟨rc192, rfl, ?_⟩)) cf_X3_sizeOf t_776 rfl (show kx (crX o 0) 29 from (ck_28_0 k_o)).1 ((show kx (crX o 0) 29 from (ck_28_0 k_o)).sh rfl) rfl rfl (Nat.le_of_ble_eq_true rfl) (by decide) rfl dX6_readColumns_113
              have hz1 : rc192 = sz K (kHe T K q9) := by have q := gc192_s; rw [show rc191 = kHe T K q9 by (clear hb hmb hkb hsm hf1 k2 gc4_f hb9x gc186_f hw9 gc189_k hk9; omega)] at q; exact q
              have hz1b : 1 ≤ rc192 ∧ rc192 ≤ 2006 := by rw [hz1]; exact hzb
              refine g_imul dX6_readColumns_116 ?_
              refine g_nm (fun w193 e_w193 => ?_)
              have h_w193 : 1 ≤ w193 ∧ w193 ≤ 40120000 := by rw [e_w193]; exact mul_b (A := 20000) (B := 2006) ⟨by (clear hb hmb hkb hsm hf1 k2 gc4_f hb9x gc186_f hw9 gc189_k hk9; omega), by (clear hb hmb hkb hsm hf1 k2 gc4_f hb9x gc186_f hw9 gc189_k hk9; omega)⟩ ⟨by (clear hb hmb hkb hsm hf1 k2 gc4_f hb9x gc186_f hw9 gc189_k hk9; omega), by (clear hb hmb hkb hsm hf1 k2 gc4_f hb9x gc186_f hw9 gc189_k hk9; omega)⟩
              have hi7 : w193 = i9 * sz K (kHe T K q9) := by rw [e_w193, hz1, hi9]
              refine g_istore_n (l1 := [(1, vI w193), (3, vI rc191), (0, vR 110), (2, vI x47_2_5)]) dX6_readColumns_117 (by decide) rfl ?_
              refine g_iload_n dX6_readColumns_118 rfl ?_
              refine g_sipush dX6_readColumns_119 (by decide) ?_
              refine g_icmp_le (tgt := 138) dX6_readColumns_122 (by decide) ⟨by (clear hb hmb hkb hsm hf1 k2 gc4_f hb9x gc186_f hw9 gc189_k hk9; omega), by (clear hb hmb hkb hsm hf1 k2 gc4_f hb9x gc186_f hw9 gc189_k hk9; omega)⟩ (by decide) (fun k194 => ?_) (fun k194 => ?_)
              · skip
                skip
                skip
                skip
                skip
                skip
                have hg0 : kGo T K (-1) (N9 0 0) 4 0 i9 20000 q9 = 0 := kGo_0 hw9 (by (clear hb hmb hkb hsm hf1 k2 gc4_f hb9x gc186_f hw9 gc189_k hk9 k194; omega)) hk9 (by (clear hb hmb hkb hsm hf1 k2 gc4_f hb9x gc186_f hw9 gc189_k hk9; omega))
                refine g_aload_n dX6_readColumns_138 rfl ?_
                refine x_g45_2 (n := o) (⟨by decide, rfl⟩ : kx 110 45) ffX6_27 dX6_readColumns_139 (RT.fr (F := ([(28, 6), (28, 7), (46, 3), (46, 4), (46, 5), (46, 6), (46, 7), (46, 8)], [39, 40, 41, 44])) z4 (FrX.c (FrX.c FrX.rf hFc3 rfl) hE47_5 rfl) rfl) ?_
                refine g_iload_n dX6_readColumns_142 rfl ?_
                refine g_vV (av := [vI rc191]) (o := o) (st := []) (f_X9_addColumn G H47_5 K N9 i9 F o rc191 k_o ⟨by (clear hb hmb hkb hsm hf1 k2 gc4_f hb9x gc186_f hw9 gc189_k hk9 k194; omega), by (clear hb hmb hkb hsm hf1 k2 gc4_f hb9x gc186_f hw9 gc189_k hk9 k194; omega)⟩ hB47_5 p_aw (by (clear hb hmb hkb hsm hf1 k2 gc4_f hb9x gc186_f hw9 gc189_k hk9 k194; omega)) (by (clear hb hmb hkb hsm hf1 k2 gc4_f hb9x gc186_f hw9 gc189_k hk9 k194; omega)) (hriF () |> (fun q => by (clear hb hmb hkb hsm hf1 k2 gc4_f hb9x gc186_f hw9 gc189_k hk9 k194; omega))) (by rw [show rc191 = kHe T K q9 by (clear hb hmb hkb hsm hf1 k2 gc4_f hb9x gc186_f hw9 gc189_k hk9 k194; omega)]; (clear hb hmb hkb hsm hf1 k2 gc4_f hb9x gc186_f hw9 gc189_k hk9 k194; omega)) ((XK.fr (F := ([(28, 6), (28, 7), (46, 3), (46, 4), (46, 5), (46, 6), (46, 7), (46, 8)], [39, 40, 41, 44])) z2 (FrX.c (FrX.c FrX.rf hFc3 rfl) hE47_5 rfl) rfl)) (iv182) (iv183) (iv184) _ (fun Pc195 hBc195 hFc195 ec195_0 ec195_1 ec195_2 ec195_3 => ⟨rfl, ?_⟩)) cf_X9_addColumn t_788 rfl (show kx o 28 from k_o).1 ((show kx o 28 from k_o).sh rfl) rfl rfl (Nat.le_of_ble_eq_true rfl) (by decide) rfl dX6_readColumns_143
                have kt196 : KT (tbX o) P Pc195 := KT.t w47_q1_5 ec195_1
                have iv197 : XM (mCol N9 (kHe T K q9) (i9 * sz K (kHe T K q9))) o Pc195 := by have q := ec195_0; rw [show rc191 = kHe T K q9 by (clear hb hmb hkb hsm hf1 k2 gc4_f hb9x gc186_f hw9 gc189_k hk9 k194; omega)] at q; exact q
                have iv198 : XZ K (mCol N9 (kHe T K q9) (i9 * sz K (kHe T K q9))) o Pc195 := by have q := ec195_2; rw [show rc191 = kHe T K q9 by (clear hb hmb hkb hsm hf1 k2 gc4_f hb9x gc186_f hw9 gc189_k hk9 k194; omega)] at q; exact q
                have iv199 : XFz K (mCol N9 (kHe T K q9) (i9 * sz K (kHe T K q9))) F o Pc195 := by have q := ec195_3; rw [show rc191 = kHe T K q9 by (clear hb hmb hkb hsm hf1 k2 gc4_f hb9x gc186_f hw9 gc189_k hk9 k194; omega)] at q; exact q
                refine g_aload_n dX6_readColumns_146 rfl ?_
                refine x_g45_0 (n := 111) (⟨by decide, rfl⟩ : kx 110 45) ffX6_12 dX6_readColumns_147 rfl ?_
                refine g_vV (av := []) (o := 111) (st := []) (f_X7_step G Pc195 T (tE T q9)  hBc195 (((XS.fr (F := ([(28, 6), (28, 7)], [39, 40, 41, 44])) iv181 (FrX.c FrX.rf hFc195 rfl) rfl).stp (by (clear hb hmb hkb hsm hf1 k2 gc4_f hb9x gc186_f hw9 gc189_k hk9 k194; omega))).1) (((XS.fr (F := ([(28, 6), (28, 7)], [39, 40, 41, 44])) iv181 (FrX.c FrX.rf hFc195 rfl) rfl).stp (by (clear hb hmb hkb hsm hf1 k2 gc4_f hb9x gc186_f hw9 gc189_k hk9 k194; omega))).2) (TX.fr (F := ([(28, 6), (28, 7), (46, 3), (46, 4), (46, 5), (46, 6), (46, 7), (46, 8)], [39, 40, 41, 44])) v_TX (FrX.c (FrX.c (FrX.c FrX.rf hFc3 rfl) hE47_5 rfl) hFc195 rfl) rfl) (OWN.fr (F := ([(28, 6), (28, 7), (46, 3), (46, 4), (46, 5), (46, 6), (46, 7), (46, 8)], [39, 40, 41, 44])) v_OWN (FrX.c (FrX.c (FrX.c FrX.rf hFc3 rfl) hE47_5 rfl) hFc195 rfl) rfl) ((XT.fr (F := ([(28, 6), (28, 7), (46, 3), (46, 4), (46, 5), (46, 6), (46, 7), (46, 8)], [39, 40, 41, 44])) z0 (FrX.c (FrX.c (FrX.c FrX.rf hFc3 rfl) hE47_5 rfl) hFc195 rfl) rfl)) _ (fun Pc200 hBc200 hFc200 ec200_0 => ⟨rfl, ?_⟩)) cf_X7_step t_731 rfl (show kx 111 46 from (⟨by decide, rfl⟩ : kx 111 46)).1 ((show kx 111 46 from (⟨by decide, rfl⟩ : kx 111 46)).sh rfl) rfl rfl (Nat.le_of_ble_eq_true rfl) (by decide) rfl dX6_readColumns_150
                have hmc0 := mCol_0 (M := N9) (k := kHe T K q9) (r := i9 * sz K (kHe T K q9))
                have hinv9 : ∃ (q : Int) (N : PH), sMa T K M p = col T K (4 - N 0 0).toNat N w193 q ∧ (x47_2_5 + 1) = N 0 0 ∧ 0 ≤ N 0 0 ∧ N 0 0 ≤ 4 ∧ XM N o Pc200 ∧ XFz K N F o Pc200 ∧ XZ K N o Pc200 ∧ XS T q Pc200 ∧ Pc200 110 3 = P 110 3 ∧ Pc200 110 4 = P 110 4 ∧ 1 ≤ w193 ∧ w193 ≤ 20000 ∧ ((N 0 0 = 0 ∧ w193 = 1) ∨ (1 ≤ N 0 0 ∧ w193 = N 0 1)) ∧ (N 0 0 = 0 → tK T q = 1 ∧ (tO T q = -1 ∨ tO T q = 7)) := ⟨tE T q9, mCol N9 (kHe T K q9) (i9 * sz K (kHe T K q9)), by
                  rw [hi7, hX9, show (4 - N9 0 0).toNat = (4 - (mCol N9 (kHe T K q9) (i9 * sz K (kHe T K q9))) 0 0).toNat + 1 by (clear hb hmb hkb hsm hf1 k2 gc4_f hb9x gc186_f hw9 gc189_k hk9 k194; omega)]
                  exact col_go hg0, by (clear hb hmb hkb hsm hf1 k2 gc4_f hb9x gc186_f hw9 gc189_k hk9 k194; omega), by (clear hb hmb hkb hsm hf1 k2 gc4_f hb9x gc186_f hw9 gc189_k hk9 k194; omega), by (clear hb hmb hkb hsm hf1 k2 gc4_f hb9x gc186_f hw9 gc189_k hk9 k194; omega), (XM.fr (F := ([(46, 3), (46, 4), (46, 5), (46, 6), (46, 7), (46, 8)], [])) iv197 (FrX.c FrX.rf hFc200 rfl) rfl), (XFz.fr iv199 (show FrX ([(46, 3), (46, 4), (46, 5), (46, 6), (46, 7), (46, 8)], []) _ _ from (FrX.c FrX.rf hFc200 rfl)) rfl), (XZ.fr (F := ([(46, 3), (46, 4), (46, 5), (46, 6), (46, 7), (46, 8)], [])) iv198 (FrX.c FrX.rf hFc200 rfl) rfl), ec200_0, by have q := (((FrX.g hFc200 (⟨by decide, rfl⟩ : kx 110 45) rfl).trans ((FrX.g hFc195 (⟨by decide, rfl⟩ : kx 110 45) rfl).trans ((FrX.g hE47_5 (⟨by decide, rfl⟩ : kx 110 45) rfl).trans ((FrX.g hFc3 (⟨by decide, rfl⟩ : kx 110 45) rfl).trans rfl)))) : Pc200 110 3 = (P 110 3)); (clear hb hmb hkb hsm hf1 k2 gc4_f hb9x gc186_f hw9 gc189_k hk9 k194; omega), by have q := (((FrX.g hFc200 (⟨by decide, rfl⟩ : kx 110 45) rfl).trans ((FrX.g hFc195 (⟨by decide, rfl⟩ : kx 110 45) rfl).trans ((FrX.g hE47_5 (⟨by decide, rfl⟩ : kx 110 45) rfl).trans ((FrX.g hFc3 (⟨by decide, rfl⟩ : kx 110 45) rfl).trans rfl)))) : Pc200 110 4 = (P 110 4)); (clear hb hmb hkb hsm hf1 k2 gc4_f hb9x gc186_f hw9 gc189_k hk9 k194; omega), by (clear hb hmb hkb hsm hf1 k2 gc4_f hb9x gc186_f hw9 gc189_k hk9 k194; omega), by (clear hb hmb hkb hsm hf1 k2 gc4_f hb9x gc186_f hw9 gc189_k hk9; omega), Or.inr ⟨by (clear hb hmb hkb hsm hf1 k2 gc4_f hb9x gc186_f hw9 gc189_k hk9 k194; omega), by (clear hb hmb hkb hsm hf1 k2 gc4_f hb9x gc186_f hw9 gc189_k hk9 k194; omega)⟩, fun h => by exfalso; (clear hb hmb hkb hsm hf1 k2 gc4_f hb9x gc186_f hw9 gc189_k hk9 k194; omega)⟩
                refine g_iinc (l1 := [(2, vI (x47_2_5 + 1)), (1, vI w193), (3, vI rc191), (0, vR 110)]) dX6_readColumns_153 rfl (by decide) rfl ?_
                refine g_goto (tgt := 47) dX6_readColumns_156 (by decide) ?_
                refine g_forget (l1 := [(0, vR 110), (1, vI w193), (2, vI (x47_2_5 + 1))]) (by intro q hq; simp only [List.mem_cons, List.not_mem_nil, or_false] at hq ⊢; rcases hq with rfl | rfl | rfl <;> simp) ?_
                exact ih47_5 (x47_2_5 + 1) ⟨by (clear hb hmb hkb hsm hf1 k2 gc4_f hb9x gc186_f hw9 gc189_k hk9 k194; omega), by (clear hb hmb hkb hsm hf1 k2 gc4_f hb9x gc186_f hw9 gc189_k hk9 k194; omega)⟩ w193 ⟨by (clear hb hmb hkb hsm hf1 k2 gc4_f hb9x gc186_f hw9 gc189_k hk9 k194; omega), by (clear hb hmb hkb hsm hf1 k2 gc4_f hb9x gc186_f hw9 gc189_k hk9 k194; omega)⟩ _ hBc200 (FrX.c (FrX.c (FrX.c FrX.rf hE47_5 rfl) hFc195 rfl) hFc200 rfl) (by first | exact hinv9 | exact ⟨tE T p, M, by rw [show (4 - M 0 0).toNat = 4 by (first | (clear hb hmb hkb hsm hf1 k2 gc4_f hb9x gc186_f hw9 gc189_k hk9 k194; omega) | (clear hb hmb hkb hsm hf1 k2 gc4_f hb9x gc186_f hw9 gc189_k hk9; omega) | (clear hb hmb hkb hsm hf1 k2 gc4_f hb9x gc186_f hw9 gc189_k k194; omega) | (clear hb hmb hkb hsm hf1 k2 gc4_f hb9x gc186_f hw9 hk9 k194; omega) | (clear hb hmb hkb hsm hf1 k2 gc4_f hb9x gc186_f gc189_k hk9 k194; omega) | (clear hb hmb hkb hsm hf1 k2 gc4_f hb9x hw9 gc189_k hk9 k194; omega) | (clear hb hmb hkb hsm hf1 k2 gc4_f gc186_f hw9 gc189_k hk9 k194; omega) | (clear hb hmb hkb hsm hf1 k2 hb9x gc186_f hw9 gc189_k hk9 k194; omega) | (clear hb hmb hkb hsm hf1 gc4_f hb9x gc186_f hw9 gc189_k hk9 k194; omega) | (clear hb hmb hkb hsm hf1 k2 gc4_f hb9x gc186_f hw9 gc189_k; omega) | (clear gc186_f hb9x gc4_f k2 hf1 hsm hkb hmb hb; omega) | omega)]; exact sMa_M (by (first | (clear hb hmb hkb hsm hf1 k2 gc4_f hb9x gc186_f hw9 gc189_k hk9 k194; omega) | (clear hb hmb hkb hsm hf1 k2 gc4_f hb9x gc186_f hw9 gc189_k hk9; omega) | (clear hb hmb hkb hsm hf1 k2 gc4_f hb9x gc186_f hw9 gc189_k k194; omega) | (clear hb hmb hkb hsm hf1 k2 gc4_f hb9x gc186_f hw9 hk9 k194; omega) | (clear hb hmb hkb hsm hf1 k2 gc4_f hb9x gc186_f gc189_k hk9 k194; omega) | (clear hb hmb hkb hsm hf1 k2 gc4_f hb9x hw9 gc189_k hk9 k194; omega) | (clear hb hmb hkb hsm hf1 k2 gc4_f gc186_f hw9 gc189_k hk9 k194; omega) | (clear hb hmb hkb hsm hf1 k2 hb9x gc186_f hw9 gc189_k hk9 k194; omega) | (clear hb hmb hkb hsm hf1 gc4_f hb9x gc186_f hw9 gc189_k hk9 k194; omega) | (clear hb hmb hkb hsm hf1 k2 gc4_f hb9x gc186_f hw9 gc189_k; omega) | (clear gc186_f hb9x gc4_f k2 hf1 hsm hkb hmb hb; omega) | omega)) (by (first | (clear hb hmb hkb hsm hf1 k2 gc4_f hb9x gc186_f hw9 gc189_k hk9 k194; omega) | (clear hb hmb hkb hsm hf1 k2 gc4_f hb9x gc186_f hw9 gc189_k hk9; omega) | (clear hb hmb hkb hsm hf1 k2 gc4_f hb9x gc186_f hw9 gc189_k k194; omega) | (clear hb hmb hkb hsm hf1 k2 gc4_f hb9x gc186_f hw9 hk9 k194; omega) | (clear hb hmb hkb hsm hf1 k2 gc4_f hb9x gc186_f gc189_k hk9 k194; omega) | (clear hb hmb hkb hsm hf1 k2 gc4_f hb9x hw9 gc189_k hk9 k194; omega) | (clear hb hmb hkb hsm hf1 k2 gc4_f gc186_f hw9 gc189_k hk9 k194; omega) | (clear hb hmb hkb hsm hf1 k2 hb9x gc186_f hw9 gc189_k hk9 k194; omega) | (clear hb hmb hkb hsm hf1 gc4_f hb9x gc186_f hw9 gc189_k hk9 k194; omega) | (clear hb hmb hkb hsm hf1 k2 gc4_f hb9x gc186_f hw9 gc189_k; omega) | (clear gc186_f hb9x gc4_f k2 hf1 hsm hkb hmb hb; omega) | omega)), by (first | (clear hb hmb hkb hsm hf1 k2 gc4_f hb9x gc186_f hw9 gc189_k hk9 k194; omega) | (clear hb hmb hkb hsm hf1 k2 gc4_f hb9x gc186_f hw9 gc189_k hk9; omega) | (clear hb hmb hkb hsm hf1 k2 gc4_f hb9x gc186_f hw9 gc189_k k194; omega) | (clear hb hmb hkb hsm hf1 k2 gc4_f hb9x gc186_f hw9 hk9 k194; omega) | (clear hb hmb hkb hsm hf1 k2 gc4_f hb9x gc186_f gc189_k hk9 k194; omega) | (clear hb hmb hkb hsm hf1 k2 gc4_f hb9x hw9 gc189_k hk9 k194; omega) | (clear hb hmb hkb hsm hf1 k2 gc4_f gc186_f hw9 gc189_k hk9 k194; omega) | (clear hb hmb hkb hsm hf1 k2 hb9x gc186_f hw9 gc189_k hk9 k194; omega) | (clear hb hmb hkb hsm hf1 gc4_f hb9x gc186_f hw9 gc189_k hk9 k194; omega) | (clear hb hmb hkb hsm hf1 k2 gc4_f hb9x gc186_f hw9 gc189_k; omega) | (clear gc186_f hb9x gc4_f k2 hf1 hsm hkb hmb hb; omega) | omega), by (first | (clear hb hmb hkb hsm hf1 k2 gc4_f hb9x gc186_f hw9 gc189_k hk9 k194; omega) | (clear hb hmb hkb hsm hf1 k2 gc4_f hb9x gc186_f hw9 gc189_k hk9; omega) | (clear hb hmb hkb hsm hf1 k2 gc4_f hb9x gc186_f hw9 gc189_k k194; omega) | (clear hb hmb hkb hsm hf1 k2 gc4_f hb9x gc186_f hw9 hk9 k194; omega) | (clear hb hmb hkb hsm hf1 k2 gc4_f hb9x gc186_f gc189_k hk9 k194; omega) | (clear hb hmb hkb hsm hf1 k2 gc4_f hb9x hw9 gc189_k hk9 k194; omega) | (clear hb hmb hkb hsm hf1 k2 gc4_f gc186_f hw9 gc189_k hk9 k194; omega) | (clear hb hmb hkb hsm hf1 k2 hb9x gc186_f hw9 gc189_k hk9 k194; omega) | (clear hb hmb hkb hsm hf1 gc4_f hb9x gc186_f hw9 gc189_k hk9 k194; omega) | (clear hb hmb hkb hsm hf1 k2 gc4_f hb9x gc186_f hw9 gc189_k; omega) | (clear gc186_f hb9x gc4_f k2 hf1 hsm hkb hmb hb; omega) | omega), by (first | (clear hb hmb hkb hsm hf1 k2 gc4_f hb9x gc186_f hw9 gc189_k hk9 k194; omega) | (clear hb hmb hkb hsm hf1 k2 gc4_f hb9x gc186_f hw9 gc189_k hk9; omega) | (clear hb hmb hkb hsm hf1 k2 gc4_f hb9x gc186_f hw9 gc189_k k194; omega) | (clear hb hmb hkb hsm hf1 k2 gc4_f hb9x gc186_f hw9 hk9 k194; omega) | (clear hb hmb hkb hsm hf1 k2 gc4_f hb9x gc186_f gc189_k hk9 k194; omega) | (clear hb hmb hkb hsm hf1 k2 gc4_f hb9x hw9 gc189_k hk9 k194; omega) | (clear hb hmb hkb hsm hf1 k2 gc4_f gc186_f hw9 gc189_k hk9 k194; omega) | (clear hb hmb hkb hsm hf1 k2 hb9x gc186_f hw9 gc189_k hk9 k194; omega) | (clear hb hmb hkb hsm hf1 gc4_f hb9x gc186_f hw9 gc189_k hk9 k194; omega) | (clear hb hmb hkb hsm hf1 k2 gc4_f hb9x gc186_f hw9 gc189_k; omega) | (clear gc186_f hb9x gc4_f k2 hf1 hsm hkb hmb hb; omega) | omega), hNONE, ⟨p_na (by (first | (clear hb hmb hkb hsm hf1 k2 gc4_f hb9x gc186_f hw9 gc189_k hk9 k194; omega) | (clear hb hmb hkb hsm hf1 k2 gc4_f hb9x gc186_f hw9 gc189_k hk9; omega) | (clear hb hmb hkb hsm hf1 k2 gc4_f hb9x gc186_f hw9 gc189_k k194; omega) | (clear hb hmb hkb hsm hf1 k2 gc4_f hb9x gc186_f hw9 hk9 k194; omega) | (clear hb hmb hkb hsm hf1 k2 gc4_f hb9x gc186_f gc189_k hk9 k194; omega) | (clear hb hmb hkb hsm hf1 k2 gc4_f hb9x hw9 gc189_k hk9 k194; omega) | (clear hb hmb hkb hsm hf1 k2 gc4_f gc186_f hw9 gc189_k hk9 k194; omega) | (clear hb hmb hkb hsm hf1 k2 hb9x gc186_f hw9 gc189_k hk9 k194; omega) | (clear hb hmb hkb hsm hf1 gc4_f hb9x gc186_f hw9 gc189_k hk9 k194; omega) | (clear hb hmb hkb hsm hf1 k2 gc4_f hb9x gc186_f hw9 gc189_k; omega) | (clear gc186_f hb9x gc4_f k2 hf1 hsm hkb hmb hb; omega) | omega)), hNONE⟩, hNONE, (by first | (rw [show (tE T p) = (tE T q9) by (first | (clear hb hmb hkb hsm hf1 k2 gc4_f hb9x gc186_f hw9 gc189_k hk9 k194; omega) | (clear hb hmb hkb hsm hf1 k2 gc4_f hb9x gc186_f hw9 gc189_k hk9; omega) | (clear hb hmb hkb hsm hf1 k2 gc4_f hb9x gc186_f hw9 gc189_k k194; omega) | (clear hb hmb hkb hsm hf1 k2 gc4_f hb9x gc186_f hw9 hk9 k194; omega) | (clear hb hmb hkb hsm hf1 k2 gc4_f hb9x gc186_f gc189_k hk9 k194; omega) | (clear hb hmb hkb hsm hf1 k2 gc4_f hb9x hw9 gc189_k hk9 k194; omega) | (clear hb hmb hkb hsm hf1 k2 gc4_f gc186_f hw9 gc189_k hk9 k194; omega) | (clear hb hmb hkb hsm hf1 k2 hb9x gc186_f hw9 gc189_k hk9 k194; omega) | (clear hb hmb hkb hsm hf1 gc4_f hb9x gc186_f hw9 gc189_k hk9 k194; omega) | (clear hb hmb hkb hsm hf1 k2 gc4_f hb9x gc186_f hw9 gc189_k; omega) | (clear gc186_f hb9x gc4_f k2 hf1 hsm hkb hmb hb; omega) | omega)]; exact ec200_0)), by have q := (((FrX.g hFc200 (⟨by decide, rfl⟩ : kx 110 45) rfl).trans ((FrX.g hFc195 (⟨by decide, rfl⟩ : kx 110 45) rfl).trans ((FrX.g hE47_5 (⟨by decide, rfl⟩ : kx 110 45) rfl).trans ((FrX.g hFc3 (⟨by decide, rfl⟩ : kx 110 45) rfl).trans rfl)))) : Pc200 110 3 = (P 110 3)); (first | (clear hb hmb hkb hsm hf1 k2 gc4_f hb9x gc186_f hw9 gc189_k hk9 k194; omega) | (clear hb hmb hkb hsm hf1 k2 gc4_f hb9x gc186_f hw9 gc189_k hk9; omega) | (clear hb hmb hkb hsm hf1 k2 gc4_f hb9x gc186_f hw9 gc189_k k194; omega) | (clear hb hmb hkb hsm hf1 k2 gc4_f hb9x gc186_f hw9 hk9 k194; omega) | (clear hb hmb hkb hsm hf1 k2 gc4_f hb9x gc186_f gc189_k hk9 k194; omega) | (clear hb hmb hkb hsm hf1 k2 gc4_f hb9x hw9 gc189_k hk9 k194; omega) | (clear hb hmb hkb hsm hf1 k2 gc4_f gc186_f hw9 gc189_k hk9 k194; omega) | (clear hb hmb hkb hsm hf1 k2 hb9x gc186_f hw9 gc189_k hk9 k194; omega) | (clear hb hmb hkb hsm hf1 gc4_f hb9x gc186_f hw9 gc189_k hk9 k194; omega) | (clear hb hmb hkb hsm hf1 k2 gc4_f hb9x gc186_f hw9 gc189_k; omega) | (clear gc186_f hb9x gc4_f k2 hf1 hsm hkb hmb hb; omega) | omega), by have q := (((FrX.g hFc200 (⟨by decide, rfl⟩ : kx 110 45) rfl).trans ((FrX.g hFc195 (⟨by decide, rfl⟩ : kx 110 45) rfl).trans ((FrX.g hE47_5 (⟨by decide, rfl⟩ : kx 110 45) rfl).trans ((FrX.g hFc3 (⟨by decide, rfl⟩ : kx 110 45) rfl).trans rfl)))) : Pc200 110 4 = (P 110 4)); (first | (clear hb hmb hkb hsm hf1 k2 gc4_f hb9x gc186_f hw9 gc189_k hk9 k194; omega) | (clear hb hmb hkb hsm hf1 k2 gc4_f hb9x gc186_f hw9 gc189_k hk9; omega) | (clear hb hmb hkb hsm hf1 k2 gc4_f hb9x gc186_f hw9 gc189_k k194; omega) | (clear hb hmb hkb hsm hf1 k2 gc4_f hb9x gc186_f hw9 hk9 k194; omega) | (clear hb hmb hkb hsm hf1 k2 gc4_f hb9x gc186_f gc189_k hk9 k194; omega) | (clear hb hmb hkb hsm hf1 k2 gc4_f hb9x hw9 gc189_k hk9 k194; omega) | (clear hb hmb hkb hsm hf1 k2 gc4_f gc186_f hw9 gc189_k hk9 k194; omega) | (clear hb hmb hkb hsm hf1 k2 hb9x gc186_f hw9 gc189_k hk9 k194; omega) | (clear hb hmb hkb hsm hf1 gc4_f hb9x gc186_f hw9 gc189_k hk9 k194; omega) | (clear hb hmb hkb hsm hf1 k2 gc4_f hb9x gc186_f hw9 gc189_k; omega) | (clear gc186_f hb9x gc4_f k2 hf1 hsm hkb hmb hb; omega) | omega), by decide, by decide, Or.inl ⟨by (first | (clear hb hmb hkb hsm hf1 k2 gc4_f hb9x gc186_f hw9 gc189_k hk9 k194; omega) | (clear hb hmb hkb hsm hf1 k2 gc4_f hb9x gc186_f hw9 gc189_k hk9; omega) | (clear hb hmb hkb hsm hf1 k2 gc4_f hb9x gc186_f hw9 gc189_k k194; omega) | (clear hb hmb hkb hsm hf1 k2 gc4_f hb9x gc186_f hw9 hk9 k194; omega) | (clear hb hmb hkb hsm hf1 k2 gc4_f hb9x gc186_f gc189_k hk9 k194; omega) | (clear hb hmb hkb hsm hf1 k2 gc4_f hb9x hw9 gc189_k hk9 k194; omega) | (clear hb hmb hkb hsm hf1 k2 gc4_f gc186_f hw9 gc189_k hk9 k194; omega) | (clear hb hmb hkb hsm hf1 k2 hb9x gc186_f hw9 gc189_k hk9 k194; omega) | (clear hb hmb hkb hsm hf1 gc4_f hb9x gc186_f hw9 gc189_k hk9 k194; omega) | (clear hb hmb hkb hsm hf1 k2 gc4_f hb9x gc186_f hw9 gc189_k; omega) | (clear gc186_f hb9x gc4_f k2 hf1 hsm hkb hmb hb; omega) | omega), rfl⟩, fun _ => ⟨by (first | (clear hb hmb hkb hsm hf1 k2 gc4_f hb9x gc186_f hw9 gc189_k hk9 k194; omega) | (clear hb hmb hkb hsm hf1 k2 gc4_f hb9x gc186_f hw9 gc189_k hk9; omega) | (clear hb hmb hkb hsm hf1 k2 gc4_f hb9x gc186_f hw9 gc189_k k194; omega) | (clear hb hmb hkb hsm hf1 k2 gc4_f hb9x gc186_f hw9 hk9 k194; omega) | (clear hb hmb hkb hsm hf1 k2 gc4_f hb9x gc186_f gc189_k hk9 k194; omega) | (clear hb hmb hkb hsm hf1 k2 gc4_f hb9x hw9 gc189_k hk9 k194; omega) | (clear hb hmb hkb hsm hf1 k2 gc4_f gc186_f hw9 gc189_k hk9 k194; omega) | (clear hb hmb hkb hsm hf1 k2 hb9x gc186_f hw9 gc189_k hk9 k194; omega) | (clear hb hmb hkb hsm hf1 gc4_f hb9x gc186_f hw9 gc189_k hk9 k194; omega) | (clear hb hmb hkb hsm hf1 k2 gc4_f hb9x gc186_f hw9 gc189_k; omega) | (clear gc186_f hb9x gc4_f k2 hf1 hsm hkb hmb hb; omega) | omega), by (first | (clear hb hmb hkb hsm hf1 k2 gc4_f hb9x gc186_f hw9 gc189_k hk9 k194; omega) | (clear hb hmb hkb hsm hf1 k2 gc4_f hb9x gc186_f hw9 gc189_k hk9; omega) | (clear hb hmb hkb hsm hf1 k2 gc4_f hb9x gc186_f hw9 gc189_k k194; omega) | (clear hb hmb hkb hsm hf1 k2 gc4_f hb9x gc186_f hw9 hk9 k194; omega) | (clear hb hmb hkb hsm hf1 k2 gc4_f hb9x gc186_f gc189_k hk9 k194; omega) | (clear hb hmb hkb hsm hf1 k2 gc4_f hb9x hw9 gc189_k hk9 k194; omega) | (clear hb hmb hkb hsm hf1 k2 gc4_f gc186_f hw9 gc189_k hk9 k194; omega) | (clear hb hmb hkb hsm hf1 k2 hb9x gc186_f hw9 gc189_k hk9 k194; omega) | (clear hb hmb hkb hsm hf1 gc4_f hb9x gc186_f hw9 gc189_k hk9 k194; omega) | (clear hb hmb hkb hsm hf1 k2 gc4_f hb9x gc186_f hw9 gc189_k; omega) | (clear gc186_f hb9x gc4_f k2 hf1 hsm hkb hmb hb; omega) | omega)⟩⟩) (KT.fr (F := ([(46, 3), (46, 4), (46, 5), (46, 6), (46, 7), (46, 8)], [])) kt196 (FrX.c FrX.rf hFc200 rfl) rfl) (by (clear hb hmb hkb hsm hf1 k2 gc4_f hb9x gc186_f hw9 gc189_k hk9 k194; omega))
              · skip
                skip
                skip
                skip
                skip
                skip
                have hX1 := hXb 4 (kGo_4 hw9 (by (clear hb hmb hkb hsm hf1 k2 gc4_f hb9x gc186_f hw9 gc189_k hk9 k194; omega)) hk9 (by (clear hb hmb hkb hsm hf1 k2 gc4_f hb9x gc186_f hw9 gc189_k hk9; omega))) (by decide) (by decide)
                refine g_aload_n dX6_readColumns_125 rfl ?_
                refine g_iconst dX6_readColumns_126 ?_
                refine g_aload_n dX6_readColumns_127 rfl ?_
                refine x_g45_0 (n := 111) (⟨by decide, rfl⟩ : kx 110 45) ffX6_12 dX6_readColumns_128 rfl ?_
                refine x_g46_5 (z := (H47_5 111 5)) (⟨by decide, rfl⟩ : kx 111 46) ffX6_72 dX6_readColumns_131 rfl ?_
                have f201 := bx_46_5 (o := 111) hB47_5 (⟨by decide, rfl⟩ : kx 111 46)
                refine g_vI (av := [vI 4, vI (H47_5 111 5)]) (o := 110) (st := []) (f_X6_fail G H47_5 4 (H47_5 111 5) (by decide) ⟨by have q0 := bx_46_5 (o := 111) hB47_5 (⟨by decide, rfl⟩ : kx 111 46); (clear hb hmb hkb hsm hf1 k2 gc4_f hb9x gc186_f hw9 gc189_k hk9 k194; omega), by have q0 := bx_46_5 (o := 111) hB47_5 (⟨by decide, rfl⟩ : kx 111 46); (clear hb hmb hkb hsm hf1 k2 gc4_f hb9x gc186_f hw9 gc189_k hk9 k194; omega)⟩ hB47_5  _ (fun rc202 hc202 Pc202 hBc202 hFc202 gc202_f => ⟨rc202, rfl, ?_⟩)) cf_X6_fail t_727 rfl (show kx 110 45 from (⟨by decide, rfl⟩ : kx 110 45)).1 ((show kx 110 45 from (⟨by decide, rfl⟩ : kx 110 45)).sh rfl) rfl rfl (Nat.le_of_ble_eq_true rfl) (by decide) rfl dX6_readColumns_134
                exact g_retZ dX6_readColumns_137 rfl (by (clear hb hmb hkb hsm hf1 k2 gc4_f hb9x gc186_f hw9 gc189_k hk9 k194; omega)) (hQ rc202 ⟨by (clear hb hmb hkb hsm hf1 k2 gc4_f hb9x gc186_f hw9 gc189_k hk9 k194; omega), by (clear hb hmb hkb hsm hf1 k2 gc4_f hb9x gc186_f hw9 gc189_k hk9 k194; omega)⟩ _ hBc202 (FrX.c (FrX.c (FrX.c FrX.rf hFc3 rfl) hE47_5 rfl) hFc202 rfl) (by have q0 := bx_45_3 (o := 110) hBc202 (⟨by decide, rfl⟩ : kx 110 45); have q1 := bx_45_4 (o := 110) hBc202 (⟨by decide, rfl⟩ : kx 110 45); (clear hb hmb hkb hsm hf1 k2 gc4_f gc186_f hw9 gc189_k hk9 k194; omega)) ((fun h0 => by first | exact (by first | (rw [show (sMa T K M p).2.1 = q9 by (clear hb hmb hkb hsm hf1 k2 gc4_f hb9x gc186_f hw9 gc189_k hk9 k194; omega)]; exact (XS.fr (F := ([(45, 3), (45, 4)], [])) iv181 (FrX.c FrX.rf hFc202 rfl) rfl))) | (exfalso; (first | (clear hb hmb hkb hsm hf1 k2 gc4_f hb9x gc186_f hw9 gc189_k hk9 k194; omega) | (clear hb hmb hkb hsm hf1 k2 gc4_f hb9x gc186_f hw9 gc189_k hk9; omega) | (clear hb hmb hkb hsm hf1 k2 gc4_f hb9x gc186_f hw9 gc189_k k194; omega) | (clear hb hmb hkb hsm hf1 k2 gc4_f hb9x gc186_f hw9 hk9 k194; omega) | (clear hb hmb hkb hsm hf1 k2 gc4_f hb9x gc186_f gc189_k hk9 k194; omega) | (clear hb hmb hkb hsm hf1 k2 gc4_f hb9x hw9 gc189_k hk9 k194; omega) | (clear hb hmb hkb hsm hf1 k2 gc4_f gc186_f hw9 gc189_k hk9 k194; omega) | (clear hb hmb hkb hsm hf1 k2 hb9x gc186_f hw9 gc189_k hk9 k194; omega) | (clear hb hmb hkb hsm hf1 gc4_f hb9x gc186_f hw9 gc189_k hk9 k194; omega) | (clear hb hmb hkb hsm hf1 k2 gc4_f hb9x gc186_f hw9 gc189_k; omega) | (clear gc186_f hb9x gc4_f k2 hf1 hsm hkb hmb hb; omega) | omega)))) (fun h0 => by first | (exfalso; (clear hb hmb hkb hsm hf1 k2 gc4_f hb9x gc186_f hw9 gc189_k hk9 k194; omega)) | (rw [hXe (by (first | (clear hb hmb hkb hsm hf1 k2 gc4_f hb9x gc186_f hw9 gc189_k hk9 k194; omega) | (clear hb hmb hkb hsm hf1 k2 gc4_f hb9x gc186_f hw9 gc189_k hk9; omega) | (clear hb hmb hkb hsm hf1 k2 gc4_f hb9x gc186_f hw9 gc189_k k194; omega) | (clear hb hmb hkb hsm hf1 k2 gc4_f hb9x gc186_f hw9 hk9 k194; omega) | (clear hb hmb hkb hsm hf1 k2 gc4_f hb9x gc186_f gc189_k hk9 k194; omega) | (clear hb hmb hkb hsm hf1 k2 gc4_f hb9x hw9 gc189_k hk9 k194; omega) | (clear hb hmb hkb hsm hf1 k2 gc4_f gc186_f hw9 gc189_k hk9 k194; omega) | (clear hb hmb hkb hsm hf1 k2 hb9x gc186_f hw9 gc189_k hk9 k194; omega) | (clear hb hmb hkb hsm hf1 gc4_f hb9x gc186_f hw9 gc189_k hk9 k194; omega) | (clear hb hmb hkb hsm hf1 k2 gc4_f hb9x gc186_f hw9 gc189_k; omega) | (clear gc186_f hb9x gc4_f k2 hf1 hsm hkb hmb hb; omega) | omega))]; exact (XM.fr (F := ([(45, 3), (45, 4)], [])) iv182 (FrX.c FrX.rf hFc202 rfl) rfl))) ((KT.fr (F := ([(45, 3), (45, 4)], [])) w47_q1_5 (FrX.c FrX.rf hFc202 rfl) rfl)) (fun h0 => by first | (exfalso; (clear hb hmb hkb hsm hf1 k2 gc4_f hb9x gc186_f hw9 gc189_k hk9 k194; omega)) | (rw [hXe (by (first | (clear hb hmb hkb hsm hf1 k2 gc4_f hb9x gc186_f hw9 gc189_k hk9 k194; omega) | (clear hb hmb hkb hsm hf1 k2 gc4_f hb9x gc186_f hw9 gc189_k hk9; omega) | (clear hb hmb hkb hsm hf1 k2 gc4_f hb9x gc186_f hw9 gc189_k k194; omega) | (clear hb hmb hkb hsm hf1 k2 gc4_f hb9x gc186_f hw9 hk9 k194; omega) | (clear hb hmb hkb hsm hf1 k2 gc4_f hb9x gc186_f gc189_k hk9 k194; omega) | (clear hb hmb hkb hsm hf1 k2 gc4_f hb9x hw9 gc189_k hk9 k194; omega) | (clear hb hmb hkb hsm hf1 k2 gc4_f gc186_f hw9 gc189_k hk9 k194; omega) | (clear hb hmb hkb hsm hf1 k2 hb9x gc186_f hw9 gc189_k hk9 k194; omega) | (clear hb hmb hkb hsm hf1 gc4_f hb9x gc186_f hw9 gc189_k hk9 k194; omega) | (clear hb hmb hkb hsm hf1 k2 gc4_f hb9x gc186_f hw9 gc189_k; omega) | (clear gc186_f hb9x gc4_f k2 hf1 hsm hkb hmb hb; omega) | omega))]; exact (XZ.fr (F := ([(45, 3), (45, 4)], [])) iv183 (FrX.c FrX.rf hFc202 rfl) rfl))) (fun h0 => by first | (exfalso; (clear hb hmb hkb hsm hf1 k2 gc4_f hb9x gc186_f hw9 gc189_k hk9 k194; omega)) | (rw [hXe (by (first | (clear hb hmb hkb hsm hf1 k2 gc4_f hb9x gc186_f hw9 gc189_k hk9 k194; omega) | (clear hb hmb hkb hsm hf1 k2 gc4_f hb9x gc186_f hw9 gc189_k hk9; omega) | (clear hb hmb hkb hsm hf1 k2 gc4_f hb9x gc186_f hw9 gc189_k k194; omega) | (clear hb hmb hkb hsm hf1 k2 gc4_f hb9x gc186_f hw9 hk9 k194; omega) | (clear hb hmb hkb hsm hf1 k2 gc4_f hb9x gc186_f gc189_k hk9 k194; omega) | (clear hb hmb hkb hsm hf1 k2 gc4_f hb9x hw9 gc189_k hk9 k194; omega) | (clear hb hmb hkb hsm hf1 k2 gc4_f gc186_f hw9 gc189_k hk9 k194; omega) | (clear hb hmb hkb hsm hf1 k2 hb9x gc186_f hw9 gc189_k hk9 k194; omega) | (clear hb hmb hkb hsm hf1 gc4_f hb9x gc186_f hw9 gc189_k hk9 k194; omega) | (clear hb hmb hkb hsm hf1 k2 gc4_f hb9x gc186_f hw9 gc189_k; omega) | (clear gc186_f hb9x gc4_f k2 hf1 hsm hkb hmb hb; omega) | omega))]; exact (XFz.fr iv184 (show FrX ([(45, 3), (45, 4)], []) _ _ from (FrX.c FrX.rf hFc202 rfl)) rfl))))
            · have r_gc189_k := (gc189_k.resolve_left (by (clear hb hmb hkb hsm hf1 k2 gc4_f hb9x gc186_f hw9 gc189_k; omega)))
              skip
              skip
              skip
              skip
              have hX1 := hXb 3 (kGo_3 hw9 (by (clear hb hmb hkb hsm hf1 k2 gc4_f hb9x gc186_f hw9 gc189_k; omega)) (by (clear hb hmb hkb hsm hf1 k2 gc4_f hb9x gc186_f hw9 gc189_k; omega))) (by decide) (by decide)
              refine g_aload_n dX6_readColumns_86 rfl ?_
              refine g_iconst dX6_readColumns_87 ?_
              refine g_aload_n dX6_readColumns_88 rfl ?_
              refine x_g45_0 (n := 111) (⟨by decide, rfl⟩ : kx 110 45) ffX6_12 dX6_readColumns_89 rfl ?_
              refine x_g46_5 (z := (H47_5 111 5)) (⟨by decide, rfl⟩ : kx 111 46) ffX6_72 dX6_readColumns_92 rfl ?_
              have f203 := bx_46_5 (o := 111) hB47_5 (⟨by decide, rfl⟩ : kx 111 46)
              refine g_vI (av := [vI 3, vI (H47_5 111 5)]) (o := 110) (st := []) (f_X6_fail G H47_5 3 (H47_5 111 5) (by decide) ⟨by have q0 := bx_46_5 (o := 111) hB47_5 (⟨by decide, rfl⟩ : kx 111 46); (clear hb hmb hkb hsm hf1 k2 gc4_f hb9x gc186_f hw9 gc189_k; omega), by have q0 := bx_46_5 (o := 111) hB47_5 (⟨by decide, rfl⟩ : kx 111 46); (clear hb hmb hkb hsm hf1 k2 gc4_f hb9x gc186_f hw9 gc189_k; omega)⟩ hB47_5  _ (fun rc204 hc204 Pc204 hBc204 hFc204 gc204_f => ⟨rc204, rfl, ?_⟩)) cf_X6_fail t_727 rfl (show kx 110 45 from (⟨by decide, rfl⟩ : kx 110 45)).1 ((show kx 110 45 from (⟨by decide, rfl⟩ : kx 110 45)).sh rfl) rfl rfl (Nat.le_of_ble_eq_true rfl) (by decide) rfl dX6_readColumns_95
              exact g_retZ dX6_readColumns_98 rfl (by (clear hb hmb hkb hsm hf1 k2 gc4_f hb9x gc186_f hw9 gc189_k; omega)) (hQ rc204 ⟨by (clear hb hmb hkb hsm hf1 k2 gc4_f hb9x gc186_f hw9 gc189_k; omega), by (clear hb hmb hkb hsm hf1 k2 gc4_f hb9x gc186_f hw9 gc189_k; omega)⟩ _ hBc204 (FrX.c (FrX.c (FrX.c FrX.rf hFc3 rfl) hE47_5 rfl) hFc204 rfl) (by have q0 := bx_45_3 (o := 110) hBc204 (⟨by decide, rfl⟩ : kx 110 45); have q1 := bx_45_4 (o := 110) hBc204 (⟨by decide, rfl⟩ : kx 110 45); (clear hb hmb hkb hsm hf1 k2 gc4_f gc186_f hw9 gc189_k; omega)) ((fun h0 => by first | exact (by first | (rw [show (sMa T K M p).2.1 = q9 by (clear hb hmb hkb hsm hf1 k2 gc4_f hb9x gc186_f hw9 gc189_k; omega)]; exact (XS.fr (F := ([(45, 3), (45, 4)], [])) iv181 (FrX.c FrX.rf hFc204 rfl) rfl))) | (exfalso; (first | (clear hb hmb hkb hsm hf1 k2 gc4_f hb9x gc186_f hw9 gc189_k; omega) | (clear hb hmb hkb hsm hf1 k2 gc4_f hb9x gc186_f hw9; omega) | (clear hb hmb hkb hsm hf1 k2 gc4_f hb9x gc186_f gc189_k; omega) | (clear hb hmb hkb hsm hf1 k2 gc4_f hb9x hw9 gc189_k; omega) | (clear hb hmb hkb hsm hf1 k2 gc4_f gc186_f hw9 gc189_k; omega) | (clear hb hmb hkb hsm hf1 k2 hb9x gc186_f hw9 gc189_k; omega) | (clear hb hmb hkb hsm hf1 gc4_f hb9x gc186_f hw9 gc189_k; omega) | (clear hb hmb hkb hsm k2 gc4_f hb9x gc186_f hw9 gc189_k; omega) | (clear hb hmb hkb hf1 k2 gc4_f hb9x gc186_f hw9 gc189_k; omega) | (clear hb hmb hkb hsm hf1 k2 gc4_f hb9x gc186_f; omega) | (clear gc4_f k2 hf1 hsm hkb hmb hb; omega) | omega)))) (fun h0 => by first | (exfalso; (clear hb hmb hkb hsm hf1 k2 gc4_f hb9x gc186_f hw9 gc189_k; omega)) | (rw [hXe (by (first | (clear hb hmb hkb hsm hf1 k2 gc4_f hb9x gc186_f hw9 gc189_k; omega) | (clear hb hmb hkb hsm hf1 k2 gc4_f hb9x gc186_f hw9; omega) | (clear hb hmb hkb hsm hf1 k2 gc4_f hb9x gc186_f gc189_k; omega) | (clear hb hmb hkb hsm hf1 k2 gc4_f hb9x hw9 gc189_k; omega) | (clear hb hmb hkb hsm hf1 k2 gc4_f gc186_f hw9 gc189_k; omega) | (clear hb hmb hkb hsm hf1 k2 hb9x gc186_f hw9 gc189_k; omega) | (clear hb hmb hkb hsm hf1 gc4_f hb9x gc186_f hw9 gc189_k; omega) | (clear hb hmb hkb hsm k2 gc4_f hb9x gc186_f hw9 gc189_k; omega) | (clear hb hmb hkb hf1 k2 gc4_f hb9x gc186_f hw9 gc189_k; omega) | (clear hb hmb hkb hsm hf1 k2 gc4_f hb9x gc186_f; omega) | (clear gc4_f k2 hf1 hsm hkb hmb hb; omega) | omega))]; exact (XM.fr (F := ([(45, 3), (45, 4)], [])) iv182 (FrX.c FrX.rf hFc204 rfl) rfl))) ((KT.fr (F := ([(45, 3), (45, 4)], [])) w47_q1_5 (FrX.c FrX.rf hFc204 rfl) rfl)) (fun h0 => by first | (exfalso; (clear hb hmb hkb hsm hf1 k2 gc4_f hb9x gc186_f hw9 gc189_k; omega)) | (rw [hXe (by (first | (clear hb hmb hkb hsm hf1 k2 gc4_f hb9x gc186_f hw9 gc189_k; omega) | (clear hb hmb hkb hsm hf1 k2 gc4_f hb9x gc186_f hw9; omega) | (clear hb hmb hkb hsm hf1 k2 gc4_f hb9x gc186_f gc189_k; omega) | (clear hb hmb hkb hsm hf1 k2 gc4_f hb9x hw9 gc189_k; omega) | (clear hb hmb hkb hsm hf1 k2 gc4_f gc186_f hw9 gc189_k; omega) | (clear hb hmb hkb hsm hf1 k2 hb9x gc186_f hw9 gc189_k; omega) | (clear hb hmb hkb hsm hf1 gc4_f hb9x gc186_f hw9 gc189_k; omega) | (clear hb hmb hkb hsm k2 gc4_f hb9x gc186_f hw9 gc189_k; omega) | (clear hb hmb hkb hf1 k2 gc4_f hb9x gc186_f hw9 gc189_k; omega) | (clear hb hmb hkb hsm hf1 k2 gc4_f hb9x gc186_f; omega) | (clear gc4_f k2 hf1 hsm hkb hmb hb; omega) | omega))]; exact (XZ.fr (F := ([(45, 3), (45, 4)], [])) iv183 (FrX.c FrX.rf hFc204 rfl) rfl))) (fun h0 => by first | (exfalso; (clear hb hmb hkb hsm hf1 k2 gc4_f hb9x gc186_f hw9 gc189_k; omega)) | (rw [hXe (by (first | (clear hb hmb hkb hsm hf1 k2 gc4_f hb9x gc186_f hw9 gc189_k; omega) | (clear hb hmb hkb hsm hf1 k2 gc4_f hb9x gc186_f hw9; omega) | (clear hb hmb hkb hsm hf1 k2 gc4_f hb9x gc186_f gc189_k; omega) | (clear hb hmb hkb hsm hf1 k2 gc4_f hb9x hw9 gc189_k; omega) | (clear hb hmb hkb hsm hf1 k2 gc4_f gc186_f hw9 gc189_k; omega) | (clear hb hmb hkb hsm hf1 k2 hb9x gc186_f hw9 gc189_k; omega) | (clear hb hmb hkb hsm hf1 gc4_f hb9x gc186_f hw9 gc189_k; omega) | (clear hb hmb hkb hsm k2 gc4_f hb9x gc186_f hw9 gc189_k; omega) | (clear hb hmb hkb hf1 k2 gc4_f hb9x gc186_f hw9 gc189_k; omega) | (clear hb hmb hkb hsm hf1 k2 gc4_f hb9x gc186_f; omega) | (clear gc4_f k2 hf1 hsm hkb hmb hb; omega) | omega))]; exact (XFz.fr iv184 (show FrX ([(45, 3), (45, 4)], []) _ _ from (FrX.c FrX.rf hFc204 rfl)) rfl))))
          · skip
            skip
            skip
            skip
            have hX1 := hXb 6 (kGo_6 hw9 (by (clear hb hmb hkb hsm hf1 k2 gc4_f hb9x gc186_f hw9; omega))) (by decide) (by decide)
            refine g_aload_n dX6_readColumns_64 rfl ?_
            refine g_bipush dX6_readColumns_65 (by decide) ?_
            refine g_aload_n dX6_readColumns_67 rfl ?_
            refine x_g45_0 (n := 111) (⟨by decide, rfl⟩ : kx 110 45) ffX6_12 dX6_readColumns_68 rfl ?_
            refine x_g46_5 (z := (H47_5 111 5)) (⟨by decide, rfl⟩ : kx 111 46) ffX6_72 dX6_readColumns_71 rfl ?_
            have f205 := bx_46_5 (o := 111) hB47_5 (⟨by decide, rfl⟩ : kx 111 46)
            refine g_vI (av := [vI 6, vI (H47_5 111 5)]) (o := 110) (st := []) (f_X6_fail G H47_5 6 (H47_5 111 5) (by decide) ⟨by have q0 := bx_46_5 (o := 111) hB47_5 (⟨by decide, rfl⟩ : kx 111 46); (clear hb hmb hkb hsm hf1 k2 gc4_f hb9x gc186_f hw9; omega), by have q0 := bx_46_5 (o := 111) hB47_5 (⟨by decide, rfl⟩ : kx 111 46); (clear hb hmb hkb hsm hf1 k2 gc4_f hb9x gc186_f hw9; omega)⟩ hB47_5  _ (fun rc206 hc206 Pc206 hBc206 hFc206 gc206_f => ⟨rc206, rfl, ?_⟩)) cf_X6_fail t_727 rfl (show kx 110 45 from (⟨by decide, rfl⟩ : kx 110 45)).1 ((show kx 110 45 from (⟨by decide, rfl⟩ : kx 110 45)).sh rfl) rfl rfl (Nat.le_of_ble_eq_true rfl) (by decide) rfl dX6_readColumns_74
            exact g_retZ dX6_readColumns_77 rfl (by (clear hb hmb hkb hsm hf1 k2 gc4_f hb9x gc186_f hw9; omega)) (hQ rc206 ⟨by (clear hb hmb hkb hsm hf1 k2 gc4_f hb9x gc186_f hw9; omega), by (clear hb hmb hkb hsm hf1 k2 gc4_f hb9x gc186_f hw9; omega)⟩ _ hBc206 (FrX.c (FrX.c (FrX.c FrX.rf hFc3 rfl) hE47_5 rfl) hFc206 rfl) (by have q0 := bx_45_3 (o := 110) hBc206 (⟨by decide, rfl⟩ : kx 110 45); have q1 := bx_45_4 (o := 110) hBc206 (⟨by decide, rfl⟩ : kx 110 45); (clear hb hmb hkb hsm hf1 k2 gc4_f gc186_f hw9; omega)) ((fun h0 => by first | exact (by first | (rw [show (sMa T K M p).2.1 = q9 by (clear hb hmb hkb hsm hf1 k2 gc4_f hb9x gc186_f hw9; omega)]; exact (XS.fr (F := ([(45, 3), (45, 4)], [])) iv181 (FrX.c FrX.rf hFc206 rfl) rfl))) | (exfalso; (first | (clear hb hmb hkb hsm hf1 k2 gc4_f hb9x gc186_f hw9; omega) | (clear hb hmb hkb hsm hf1 k2 gc4_f hb9x gc186_f; omega) | (clear hb hmb hkb hsm hf1 k2 gc4_f hb9x hw9; omega) | (clear hb hmb hkb hsm hf1 k2 gc4_f gc186_f hw9; omega) | (clear hb hmb hkb hsm hf1 k2 hb9x gc186_f hw9; omega) | (clear hb hmb hkb hsm hf1 gc4_f hb9x gc186_f hw9; omega) | (clear hb hmb hkb hsm k2 gc4_f hb9x gc186_f hw9; omega) | (clear hb hmb hkb hf1 k2 gc4_f hb9x gc186_f hw9; omega) | (clear hb hmb hsm hf1 k2 gc4_f hb9x gc186_f hw9; omega) | (clear hb hmb hkb hsm hf1 k2 gc4_f hb9x; omega) | (clear k2 hf1 hsm hkb hmb hb; omega) | omega)))) (fun h0 => by first | (exfalso; (clear hb hmb hkb hsm hf1 k2 gc4_f hb9x gc186_f hw9; omega)) | (rw [hXe (by (first | (clear hb hmb hkb hsm hf1 k2 gc4_f hb9x gc186_f hw9; omega) | (clear hb hmb hkb hsm hf1 k2 gc4_f hb9x gc186_f; omega) | (clear hb hmb hkb hsm hf1 k2 gc4_f hb9x hw9; omega) | (clear hb hmb hkb hsm hf1 k2 gc4_f gc186_f hw9; omega) | (clear hb hmb hkb hsm hf1 k2 hb9x gc186_f hw9; omega) | (clear hb hmb hkb hsm hf1 gc4_f hb9x gc186_f hw9; omega) | (clear hb hmb hkb hsm k2 gc4_f hb9x gc186_f hw9; omega) | (clear hb hmb hkb hf1 k2 gc4_f hb9x gc186_f hw9; omega) | (clear hb hmb hsm hf1 k2 gc4_f hb9x gc186_f hw9; omega) | (clear hb hmb hkb hsm hf1 k2 gc4_f hb9x; omega) | (clear k2 hf1 hsm hkb hmb hb; omega) | omega))]; exact (XM.fr (F := ([(45, 3), (45, 4)], [])) iv182 (FrX.c FrX.rf hFc206 rfl) rfl))) ((KT.fr (F := ([(45, 3), (45, 4)], [])) w47_q1_5 (FrX.c FrX.rf hFc206 rfl) rfl)) (fun h0 => by first | (exfalso; (clear hb hmb hkb hsm hf1 k2 gc4_f hb9x gc186_f hw9; omega)) | (rw [hXe (by (first | (clear hb hmb hkb hsm hf1 k2 gc4_f hb9x gc186_f hw9; omega) | (clear hb hmb hkb hsm hf1 k2 gc4_f hb9x gc186_f; omega) | (clear hb hmb hkb hsm hf1 k2 gc4_f hb9x hw9; omega) | (clear hb hmb hkb hsm hf1 k2 gc4_f gc186_f hw9; omega) | (clear hb hmb hkb hsm hf1 k2 hb9x gc186_f hw9; omega) | (clear hb hmb hkb hsm hf1 gc4_f hb9x gc186_f hw9; omega) | (clear hb hmb hkb hsm k2 gc4_f hb9x gc186_f hw9; omega) | (clear hb hmb hkb hf1 k2 gc4_f hb9x gc186_f hw9; omega) | (clear hb hmb hsm hf1 k2 gc4_f hb9x gc186_f hw9; omega) | (clear hb hmb hkb hsm hf1 k2 gc4_f hb9x; omega) | (clear k2 hf1 hsm hkb hmb hb; omega) | omega))]; exact (XZ.fr (F := ([(45, 3), (45, 4)], [])) iv183 (FrX.c FrX.rf hFc206 rfl) rfl))) (fun h0 => by first | (exfalso; (clear hb hmb hkb hsm hf1 k2 gc4_f hb9x gc186_f hw9; omega)) | (rw [hXe (by (first | (clear hb hmb hkb hsm hf1 k2 gc4_f hb9x gc186_f hw9; omega) | (clear hb hmb hkb hsm hf1 k2 gc4_f hb9x gc186_f; omega) | (clear hb hmb hkb hsm hf1 k2 gc4_f hb9x hw9; omega) | (clear hb hmb hkb hsm hf1 k2 gc4_f gc186_f hw9; omega) | (clear hb hmb hkb hsm hf1 k2 hb9x gc186_f hw9; omega) | (clear hb hmb hkb hsm hf1 gc4_f hb9x gc186_f hw9; omega) | (clear hb hmb hkb hsm k2 gc4_f hb9x gc186_f hw9; omega) | (clear hb hmb hkb hf1 k2 gc4_f hb9x gc186_f hw9; omega) | (clear hb hmb hsm hf1 k2 gc4_f hb9x gc186_f hw9; omega) | (clear hb hmb hkb hsm hf1 k2 gc4_f hb9x; omega) | (clear k2 hf1 hsm hkb hmb hb; omega) | omega))]; exact (XFz.fr iv184 (show FrX ([(45, 3), (45, 4)], []) _ _ from (FrX.c FrX.rf hFc206 rfl)) rfl))))
      refine g_forget (l1 := [(0, vR 110), (1, vI 1), (2, vI 0)]) (by intro q hq; simp only [List.mem_cons, List.not_mem_nil, or_false] at hq ⊢; rcases hq with rfl | rfl | rfl <;> simp) ?_
      exact L47_5 _ 0 (by decide) 1 (by decide) _ hBc3 FrX.rf (by first | exact hinv9 | exact ⟨tE T p, M, by rw [show (4 - M 0 0).toNat = 4 by (omega)]; exact sMa_M (by (omega)) (by (clear hb hmb hkb hsm hf1 k2 gc4_f; omega)), by (omega), by (clear hb hmb hkb hsm hf1 k2 gc4_f; omega), by (clear hb hkb hsm hf1 k2 gc4_f; omega), (XM.fr (F := ([(46, 3), (46, 4), (46, 5), (46, 6), (46, 7), (46, 8)], [])) z3 (FrX.c FrX.rf hFc3 rfl) rfl), ⟨p_na (by (omega)), (XFb.fr z6 (show FrX ([(46, 3), (46, 4), (46, 5), (46, 6), (46, 7), (46, 8)], []) _ _ from (FrX.c FrX.rf hFc3 rfl)) rfl)⟩, (XZ.fr (F := ([(46, 3), (46, 4), (46, 5), (46, 6), (46, 7), (46, 8)], [])) z5 (FrX.c FrX.rf hFc3 rfl) rfl), ec3_0, by have q := (((FrX.g hFc3 (⟨by decide, rfl⟩ : kx 110 45) rfl).trans rfl) : Pc3 110 3 = (P 110 3)); (clear hb hmb hkb hsm hf1 k2 gc4_f; omega), by have q := (((FrX.g hFc3 (⟨by decide, rfl⟩ : kx 110 45) rfl).trans rfl) : Pc3 110 4 = (P 110 4)); (clear hb hmb hkb hsm hf1 k2 gc4_f; omega), by decide, by decide, Or.inl ⟨by (omega), rfl⟩, fun _ => ⟨by (clear hb hmb hkb hsm hf1 k2 gc4_f; omega), by (clear hb hmb hkb hsm hf1 k2 gc4_f; omega)⟩⟩) (KT.fr (F := ([(46, 3), (46, 4), (46, 5), (46, 6), (46, 7), (46, 8)], [])) kt0 (FrX.c FrX.rf hFc3 rfl) rfl) (Nat.lt_succ_self _)
    · skip
      skip
      skip
      refine g_aload_n dX6_readColumns_38 rfl ?_
      refine g_vI (av := []) (o := 110) (st := []) (f_X6_failHere G Pc3 T (tE T p)  hBc3 (ec3_0) _ (fun rc207 hc207 Pc207 hBc207 hFc207 gc207_f => ⟨rc207, rfl, ?_⟩)) cf_X6_failHere t_723 rfl (show kx 110 45 from (⟨by decide, rfl⟩ : kx 110 45)).1 ((show kx 110 45 from (⟨by decide, rfl⟩ : kx 110 45)).sh rfl) rfl rfl (Nat.le_of_ble_eq_true rfl) (by decide) rfl dX6_readColumns_39
      exact g_retZ dX6_readColumns_42 rfl (by (clear hb hmb hkb hsm hf1 k2 gc4_f k5; omega)) (hQ rc207 ⟨by (clear hb hmb hkb hsm hf1 k2 gc4_f k5; omega), by (clear hb hmb hkb hsm hf1 k2 gc4_f k5; omega)⟩ _ hBc207 (FrX.c (FrX.c FrX.rf hFc3 rfl) hFc207 rfl) (by have q0 := bx_45_3 (o := 110) hBc207 (⟨by decide, rfl⟩ : kx 110 45); have q1 := bx_45_4 (o := 110) hBc207 (⟨by decide, rfl⟩ : kx 110 45); (omega)) ((fun h0 => by first | exact (by first | (rw [show (sMa T K M p).2.1 = (tE T p) by (omega)]; exact (XS.fr (F := ([(45, 3), (45, 4)], [])) ec3_0 (FrX.c FrX.rf hFc207 rfl) rfl))) | (exfalso; (first | (clear hb hmb hkb hsm hf1 k2 gc4_f k5; omega) | (clear hb hmb hkb hsm hf1 k2 gc4_f; omega) | (clear hb hmb hkb hsm hf1 k2 k5; omega) | (clear hb hmb hkb hsm hf1 gc4_f k5; omega) | (clear hb hmb hkb hsm k2 gc4_f k5; omega) | (clear hb hmb hkb hf1 k2 gc4_f k5; omega) | (clear hb hmb hsm hf1 k2 gc4_f k5; omega) | (clear hb hkb hsm hf1 k2 gc4_f k5; omega) | (clear hmb hkb hsm hf1 k2 gc4_f k5; omega) | (clear hb hmb hkb hsm hf1 k2; omega) | (clear hsm hkb hmb hb; omega) | omega)))) (fun h0 => by first | (exfalso; (omega)) | (rw [hXe (by (first | (clear hb hmb hkb hsm hf1 k2 gc4_f k5; omega) | (clear hb hmb hkb hsm hf1 k2 gc4_f; omega) | (clear hb hmb hkb hsm hf1 k2 k5; omega) | (clear hb hmb hkb hsm hf1 gc4_f k5; omega) | (clear hb hmb hkb hsm k2 gc4_f k5; omega) | (clear hb hmb hkb hf1 k2 gc4_f k5; omega) | (clear hb hmb hsm hf1 k2 gc4_f k5; omega) | (clear hb hkb hsm hf1 k2 gc4_f k5; omega) | (clear hmb hkb hsm hf1 k2 gc4_f k5; omega) | (clear hb hmb hkb hsm hf1 k2; omega) | (clear hsm hkb hmb hb; omega) | omega))]; exact hNONE)) ((KT.fr (F := ([(45, 3), (45, 4), (46, 3), (46, 4), (46, 5), (46, 6), (46, 7), (46, 8)], [])) kt0 (FrX.c (FrX.c FrX.rf hFc3 rfl) hFc207 rfl) rfl)) (fun h0 => by first | (exfalso; (omega)) | (rw [hXe (by (first | (clear hb hmb hkb hsm hf1 k2 gc4_f k5; omega) | (clear hb hmb hkb hsm hf1 k2 gc4_f; omega) | (clear hb hmb hkb hsm hf1 k2 k5; omega) | (clear hb hmb hkb hsm hf1 gc4_f k5; omega) | (clear hb hmb hkb hsm k2 gc4_f k5; omega) | (clear hb hmb hkb hf1 k2 gc4_f k5; omega) | (clear hb hmb hsm hf1 k2 gc4_f k5; omega) | (clear hb hkb hsm hf1 k2 gc4_f k5; omega) | (clear hmb hkb hsm hf1 k2 gc4_f k5; omega) | (clear hb hmb hkb hsm hf1 k2; omega) | (clear hsm hkb hmb hb; omega) | omega))]; exact hNONE)) (fun h0 => by first | (exfalso; (omega)) | (rw [hXe (by (first | (clear hb hmb hkb hsm hf1 k2 gc4_f k5; omega) | (clear hb hmb hkb hsm hf1 k2 gc4_f; omega) | (clear hb hmb hkb hsm hf1 k2 k5; omega) | (clear hb hmb hkb hsm hf1 gc4_f k5; omega) | (clear hb hmb hkb hsm k2 gc4_f k5; omega) | (clear hb hmb hkb hf1 k2 gc4_f k5; omega) | (clear hb hmb hsm hf1 k2 gc4_f k5; omega) | (clear hb hkb hsm hf1 k2 gc4_f k5; omega) | (clear hmb hkb hsm hf1 k2 gc4_f k5; omega) | (clear hb hmb hkb hsm hf1 k2; omega) | (clear hsm hkb hmb hb; omega) | omega))]; exact hNONE)))
  · skip
    skip
    refine g_aload_n dX6_readColumns_10 rfl ?_
    refine g_bipush dX6_readColumns_11 (by decide) ?_
    refine g_aload_n dX6_readColumns_13 rfl ?_
    refine x_g45_0 (n := 111) (⟨by decide, rfl⟩ : kx 110 45) ffX6_12 dX6_readColumns_14 rfl ?_
    refine x_g46_5 (z := (P 111 5)) (⟨by decide, rfl⟩ : kx 111 46) ffX6_72 dX6_readColumns_17 rfl ?_
    have f208 := bx_46_5 (o := 111) hB (⟨by decide, rfl⟩ : kx 111 46)
    refine g_vI (av := [vI 6, vI (P 111 5)]) (o := 110) (st := []) (f_X6_fail G P 6 (P 111 5) (by decide) ⟨by have q0 := bx_46_5 (o := 111) hB (⟨by decide, rfl⟩ : kx 111 46); (clear hb hmb hkb hsm hf1 k2; omega), by have q0 := bx_46_5 (o := 111) hB (⟨by decide, rfl⟩ : kx 111 46); (clear hb hmb hkb hsm hf1 k2; omega)⟩ hB  _ (fun rc209 hc209 Pc209 hBc209 hFc209 gc209_f => ⟨rc209, rfl, ?_⟩)) cf_X6_fail t_727 rfl (show kx 110 45 from (⟨by decide, rfl⟩ : kx 110 45)).1 ((show kx 110 45 from (⟨by decide, rfl⟩ : kx 110 45)).sh rfl) rfl rfl (Nat.le_of_ble_eq_true rfl) (by decide) rfl dX6_readColumns_20
    exact g_retZ dX6_readColumns_23 rfl (by (clear hb hmb hkb hsm hf1 k2; omega)) (hQ rc209 ⟨by (clear hb hmb hkb hsm hf1 k2; omega), by (clear hb hmb hkb hsm hf1 k2; omega)⟩ _ hBc209 (FrX.c FrX.rf hFc209 rfl) (by have q0 := bx_45_3 (o := 110) hBc209 (⟨by decide, rfl⟩ : kx 110 45); have q1 := bx_45_4 (o := 110) hBc209 (⟨by decide, rfl⟩ : kx 110 45); (omega)) ((fun h0 => by first | exact (by first | (rw [show (sMa T K M p).2.1 = p by (omega)]; exact (XS.fr (F := ([(45, 3), (45, 4)], [])) z1 (FrX.c FrX.rf hFc209 rfl) rfl))) | (exfalso; (first | (clear hb hmb hkb hsm hf1 k2; omega) | (clear hb hmb hkb hsm hf1; omega) | (clear hb hmb hkb hsm k2; omega) | (clear hb hmb hkb hf1 k2; omega) | (clear hb hmb hsm hf1 k2; omega) | (clear hb hkb hsm hf1 k2; omega) | (clear hmb hkb hsm hf1 k2; omega) | (clear hb hmb hkb hsm; omega) | (clear hmb hb; omega) | omega)))) (fun h0 => by first | (exfalso; (omega)) | (rw [hXe (by (first | (clear hb hmb hkb hsm hf1 k2; omega) | (clear hb hmb hkb hsm hf1; omega) | (clear hb hmb hkb hsm k2; omega) | (clear hb hmb hkb hf1 k2; omega) | (clear hb hmb hsm hf1 k2; omega) | (clear hb hkb hsm hf1 k2; omega) | (clear hmb hkb hsm hf1 k2; omega) | (clear hb hmb hkb hsm; omega) | (clear hmb hb; omega) | omega))]; exact hNONE)) ((KT.fr (F := ([(45, 3), (45, 4)], [])) kt0 (FrX.c FrX.rf hFc209 rfl) rfl)) (fun h0 => by first | (exfalso; (omega)) | (rw [hXe (by (first | (clear hb hmb hkb hsm hf1 k2; omega) | (clear hb hmb hkb hsm hf1; omega) | (clear hb hmb hkb hsm k2; omega) | (clear hb hmb hkb hf1 k2; omega) | (clear hb hmb hsm hf1 k2; omega) | (clear hb hkb hsm hf1 k2; omega) | (clear hmb hkb hsm hf1 k2; omega) | (clear hb hmb hkb hsm; omega) | (clear hmb hb; omega) | omega))]; exact hNONE)) (fun h0 => by first | (exfalso; (omega)) | (rw [hXe (by (first | (clear hb hmb hkb hsm hf1 k2; omega) | (clear hb hmb hkb hsm hf1; omega) | (clear hb hmb hkb hsm k2; omega) | (clear hb hmb hkb hf1 k2; omega) | (clear hb hmb hsm hf1 k2; omega) | (clear hb hkb hsm hf1 k2; omega) | (clear hmb hkb hsm hf1 k2; omega) | (clear hb hmb hkb hsm; omega) | (clear hmb hb; omega) | omega))]; exact hNONE)))
/-! What the class answers: X0_clear. -/
set_option maxRecDepth 100000 in
set_option maxHeartbeats 4000000 in
theorem f_X0_clear (G : GT) (P : PH) (hB : BdX P) (Q : Option PV → PH → Prop) (hQ : ∀ (P1 : PH) (_ : BdX P1) (_ : FrX ([(16, 5), (16, 7)], []) P P1) (_ : P1 18 5 = 0) (_ : P1 18 7 = 0), Q none P1) : Ct WSX G 1 iX0_clear [vR 18] P Q := by
  refine Ct.of (by decide) (l0 := [(0, vR 18)]) rfl (Nat.le_of_ble_eq_true rfl) ?_
  refine g_aload_n dX0_clear_0 rfl ?_
  refine g_iconst dX0_clear_1 ?_
  refine x_p16_5 (⟨by decide, rfl⟩ : kx 18 16) pfX0_31 dX0_clear_2 ?_
  have hB1 := by_16_5 (z := 0) hB (⟨by decide, rfl⟩ : kx 18 16) (by decide)
  refine g_aload_n dX0_clear_5 rfl ?_
  refine g_iconst dX0_clear_6 ?_
  refine x_p16_7 (⟨by decide, rfl⟩ : kx 18 16) pfX0_35 dX0_clear_7 ?_
  have hB2 := by_16_7 (z := 0) hB1 (⟨by decide, rfl⟩ : kx 18 16) (by decide)
  exact g_retV dX0_clear_10 rfl (hQ _ hB2 (FrX.s (FrX.s FrX.rf (⟨by decide, rfl⟩ : kx 18 16) rfl) (⟨by decide, rfl⟩ : kx 18 16) rfl) (by have q0 := (((up_k (by decide)).trans up_same) : (up (up P 18 5 0) 18 7 0) 18 5 = 0); omega) (by have q0 := (up_same : (up (up P 18 5 0) 18 7 0) 18 7 = 0); omega))
/-! What the class answers: X0_keep. -/
set_option maxRecDepth 100000 in
set_option maxHeartbeats 4000000 in
theorem f_X0_keep (G : GT) (P : PH) (a1 : Int) (a2 : Int) (a3 : Int) (h_a1 : (-2147483648) ≤ a1 ∧ a1 ≤ 2147483647) (h_a2 : (-2147483648) ≤ a2 ∧ a2 ≤ 2147483647) (h_a3 : (-2147483648) ≤ a3 ∧ a3 ≤ 2147483647) (hB : BdX P) (p_kb : 0 ≤ P 18 5 ∧ P 18 5 ≤ 2000000) (Q : Option PV → PH → Prop) (hQ : ∀ (P1 : PH) (_ : BdX P1) (_ : FrX ([(16, 5)], [17, 18, 19]) P P1) (_ : P1 18 5 = P 18 5 + 1), Q none P1) : Ct WSX G 2 iX0_keep [vR 18, vI a1, vI a2, vI a3] P Q := by
  refine Ct.of (by decide) (l0 := [(0, vR 18), (1, vI a1), (2, vI a2), (3, vI a3)]) rfl (Nat.le_of_ble_eq_true rfl) ?_
  refine g_aload_n dX0_keep_0 rfl ?_
  refine x_g16_5 (z := (P 18 5)) (⟨by decide, rfl⟩ : kx 18 16) ffX0_31 dX0_keep_1 rfl ?_
  refine g_sipush dX0_keep_4 (by decide) ?_
  have f1 := bx_16_5 (o := 18) hB (⟨by decide, rfl⟩ : kx 18 16)
  refine g_sI (av := [vI (P 18 5), vI 1024]) (st := []) (f_J9_floorMod_7cf53 G P (P 18 5) 1024 ⟨by have q0 := bx_16_5 (o := 18) hB (⟨by decide, rfl⟩ : kx 18 16); omega, by have q0 := bx_16_5 (o := 18) hB (⟨by decide, rfl⟩ : kx 18 16); omega⟩ (by decide) hB (by have q0 := bx_16_5 (o := 18) hB (⟨by decide, rfl⟩ : kx 18 16); omega) _ (fun rc2 hc2 gc2_m gc2_fm => ⟨rc2, rfl, ?_⟩)) cf_J9_floorMod_7cf53 t_1262 rfl (Nat.le_of_ble_eq_true rfl) (by decide) rfl dX0_keep_7
  refine g_istore (l1 := [(4, vI rc2), (0, vR 18), (1, vI a1), (2, vI a2), (3, vI a3)]) dX0_keep_10 (by decide) rfl ?_
  refine g_aload_n dX0_keep_12 rfl ?_
  refine x_g16_0 (n := 19) (⟨by decide, rfl⟩ : kx 18 16) ffX0_9 dX0_keep_13 rfl ?_
  refine g_iload dX0_keep_16 rfl ?_
  refine g_iload_n dX0_keep_18 rfl ?_
  refine x_s17 (⟨by decide, rfl⟩ : kx 19 17) dX0_keep_19 ⟨by omega, by omega⟩ ?_
  have hB3 := by_17 (z := a1) (k := rc2) hB (⟨by decide, rfl⟩ : kx 19 17) ⟨by omega, by omega⟩
  refine g_aload_n dX0_keep_20 rfl ?_
  refine x_g16_1 (n := 20) (⟨by decide, rfl⟩ : kx 18 16) ffX0_15 dX0_keep_21 rfl ?_
  refine g_iload dX0_keep_24 rfl ?_
  refine g_iload_n dX0_keep_26 rfl ?_
  refine x_s18 (⟨by decide, rfl⟩ : kx 20 18) dX0_keep_27 ⟨by omega, by omega⟩ ?_
  have hB4 := by_18 (z := a2) (k := rc2) hB3 (⟨by decide, rfl⟩ : kx 20 18) ⟨by omega, by omega⟩
  refine g_aload_n dX0_keep_28 rfl ?_
  refine x_g16_2 (n := 21) (⟨by decide, rfl⟩ : kx 18 16) ffX0_18 dX0_keep_29 rfl ?_
  refine g_iload dX0_keep_32 rfl ?_
  refine g_iload_n dX0_keep_34 rfl ?_
  refine x_s19 (⟨by decide, rfl⟩ : kx 21 19) dX0_keep_35 ⟨by omega, by omega⟩ ?_
  have hB5 := by_19 (z := a3) (k := rc2) hB4 (⟨by decide, rfl⟩ : kx 21 19) ⟨by omega, by omega⟩
  refine g_aload_n dX0_keep_36 rfl ?_
  refine g_dup dX0_keep_37 rfl ?_
  refine x_g16_5 (z := (P 18 5)) (⟨by decide, rfl⟩ : kx 18 16) ffX0_31 dX0_keep_38 ((up_o (kx.ne (⟨by decide, rfl⟩ : kx 18 16) (⟨by decide, rfl⟩ : kx 21 19) rfl)).trans ((up_o (kx.ne (⟨by decide, rfl⟩ : kx 18 16) (⟨by decide, rfl⟩ : kx 20 18) rfl)).trans ((up_o (kx.ne (⟨by decide, rfl⟩ : kx 18 16) (⟨by decide, rfl⟩ : kx 19 17) rfl)).trans rfl))) ?_
  refine g_iconst dX0_keep_41 ?_
  refine g_iadd dX0_keep_42 ?_
  refine g_norm (fun r6 h_r6 e_r6 => ?_)
  have hk9 := of_inj e_r6 ⟨by omega, by omega⟩ ⟨by omega, by omega⟩
  refine x_p16_5 (⟨by decide, rfl⟩ : kx 18 16) pfX0_31 dX0_keep_43 ?_
  have hB7 := by_16_5 (z := r6) hB5 (⟨by decide, rfl⟩ : kx 18 16) ⟨by omega, by omega⟩
  exact g_retV dX0_keep_46 rfl (hQ _ hB7 (FrX.s (FrX.s (FrX.s (FrX.s FrX.rf (⟨by decide, rfl⟩ : kx 19 17) rfl) (⟨by decide, rfl⟩ : kx 20 18) rfl) (⟨by decide, rfl⟩ : kx 21 19) rfl) (⟨by decide, rfl⟩ : kx 18 16) rfl) (by have q0 := (up_same : (up (up (up (up P 19 rc2 a1) 20 rc2 a2) 21 rc2 a3) 18 5 r6) 18 5 = r6); omega))
/-! What the class answers: X0_keptTold. -/
set_option maxRecDepth 100000 in
set_option maxHeartbeats 4000000 in
theorem f_X0_keptTold (G : GT) (P : PH) (hB : BdX P) (Q : Option PV → PH → Prop) (hQ : ∀ (r : Int) (_ : (-2147483648) ≤ r ∧ r ≤ 40) (_ : r = m40 (P 18 5)), Q (some (vI r)) P) : Ct WSX G 2 iX0_keptTold [vR 18] P Q := by
  refine Ct.of (by decide) (l0 := [(0, vR 18)]) rfl (Nat.le_of_ble_eq_true rfl) ?_
  have hm4 := m40_s (P 18 5)
  refine g_aload_n dX0_keptTold_0 rfl ?_
  refine x_g16_5 (z := (P 18 5)) (⟨by decide, rfl⟩ : kx 18 16) ffX0_31 dX0_keptTold_1 rfl ?_
  refine g_bipush dX0_keptTold_4 (by decide) ?_
  have f1 := bx_16_5 (o := 18) hB (⟨by decide, rfl⟩ : kx 18 16)
  refine g_sI (av := [vI (P 18 5), vI 40]) (st := []) (m_J9_min_7cf53 G P (P 18 5) 40 ⟨by have q0 := bx_16_5 (o := 18) hB (⟨by decide, rfl⟩ : kx 18 16); (first | (clear hm4; omega) | omega), by have q0 := bx_16_5 (o := 18) hB (⟨by decide, rfl⟩ : kx 18 16); (first | (clear hm4; omega) | omega)⟩ (by decide) hB  _ (fun rc2 hc2 gc2_m => ⟨rc2, rfl, ?_⟩)) cf_J9_min_7cf53 t_923 rfl (Nat.le_of_ble_eq_true rfl) (by decide) rfl dX0_keptTold_6
  exact g_retI dX0_keptTold_9 rfl (hQ rc2 ⟨by (first | (clear hm4 gc2_m; omega) | omega), by (first | (clear hm4 gc2_m; omega) | omega)⟩ (by have q0 := bx_16_5 (o := 18) hB (⟨by decide, rfl⟩ : kx 18 16); (first | (clear hm4 gc2_m; omega) | (clear hm4; omega) | (clear gc2_m; omega) | omega)))
/-! What the class answers: X11_draw. -/
set_option maxRecDepth 100000 in
set_option maxHeartbeats 4000000 in
theorem f_X11_draw (G : GT) (P : PH) (A : PH) (a1 : Int) (h_a1 : (-2147483648) ≤ a1 ∧ a1 ≤ 2147483647) (hB : BdX P) (z0 : AX A P) (Q : Option PV → PH → Prop) (hQ : ∀ (r : Int) (_ : (-2147483648) ≤ r ∧ r ≤ 2147483647) (P1 : PH) (_ : BdX P1) (_ : FrX ([(0, 14)], []) P P1) (_ : a1 ≤ 0 ∨ r = drw (A 0 5) / 64 % a1) (_ : AX (up A 0 5 (drw (A 0 5))) P1), Q (some (vI r)) P1) : Ct WSX G 1 iX11_draw [vR 0, vI a1] P Q := by
  refine Ct.of (by decide) (l0 := [(0, vR 0), (1, vI a1)]) rfl (Nat.le_of_ble_eq_true rfl) ?_
  have hb := z0.b
  refine g_aload_n dX11_draw_0 rfl ?_
  refine g_ldcw (z := 1103515245) dX11_draw_1 t_1287 (by decide) ?_
  refine g_aload_n dX11_draw_4 rfl ?_
  refine x_g0_14 (z := (P 0 14)) (⟨by decide, rfl⟩ : kx 0 0) ffX11_96 dX11_draw_5 rfl ?_
  refine g_imul dX11_draw_8 ?_
  refine g_norm (fun r1 h_r1 e_r1 => ?_)
  have he1 := e_r1
  refine g_sipush dX11_draw_9 (by decide) ?_
  refine g_iadd dX11_draw_12 ?_
  refine g_norm (fun r2 h_r2 e_r2 => ?_)
  have he2 := e_r2
  refine g_ldcw (z := 2147483647) dX11_draw_13 t_1288 (by decide) ?_
  refine g_iand dX11_draw_16 ?_
  refine g_nm (fun b3 e_b3 => ?_)
  have h_b3 := iand_r (x := r2) (y := 2147483647) ⟨by (first | (clear hb; omega) | omega), by (first | (clear hb; omega) | omega)⟩
  rw [← e_b3] at h_b3
  have hd9 : b3 = drw (A 0 5) := by rw [e_b3, ← hb.2.2.2.2.2.1]; exact drw_i he1 he2
  have hdb := drw_b (A 0 5)
  refine x_p0_14 (⟨by decide, rfl⟩ : kx 0 0) pfX11_96 dX11_draw_17 ?_
  have hB4 := by_0_14 (z := b3) hB (⟨by decide, rfl⟩ : kx 0 0) ⟨by (first | (clear hb; omega) | omega), by (first | (clear hb; omega) | omega)⟩
  refine g_iload_n dX11_draw_20 rfl ?_
  refine g_if_le (tgt := 36) dX11_draw_21 (by decide) ⟨by (first | (clear hb; omega) | omega), by (first | (clear hb; omega) | omega)⟩ (fun k5 => ?_) (fun k5 => ?_)
  · refine g_iconst dX11_draw_36 ?_
    exact g_retI dX11_draw_37 rfl (hQ 0 (by decide) _ hB4 (FrX.s FrX.rf (⟨by decide, rfl⟩ : kx 0 0) rfl) (by (first | (clear hb k5; omega) | (clear hb; omega) | (clear k5; omega) | omega)) (by rw [← hd9]; exact z0.sd up_same (FrX.s FrX.rf (⟨by decide, rfl⟩ : kx 0 0) rfl)))
  · refine g_aload_n dX11_draw_24 rfl ?_
    refine x_g0_14 (z := b3) (⟨by decide, rfl⟩ : kx 0 0) ffX11_96 dX11_draw_25 up_same ?_
    refine g_bipush dX11_draw_28 (by decide) ?_
    refine g_ishr dX11_draw_30 ?_
    refine g_nm (fun b6 e_b6 => ?_)
    have h_b6 : (ishr b3 6) = b3 / 64 := ishr_c 6 (by decide) (x := b3) ⟨by (first | (clear hb k5; omega) | omega), by (first | (clear hb k5; omega) | omega)⟩
    rw [← e_b6] at h_b6
    refine g_iload_n dX11_draw_31 rfl ?_
    refine g_irem dX11_draw_32 ⟨⟨by (first | (clear hb k5; omega) | omega), by (first | (clear hb k5; omega) | omega)⟩, by (first | (clear hb k5; omega) | (clear hb; omega) | (clear k5; omega) | omega)⟩ ?_
    refine g_nm (fun b7 e_b7 => ?_)
    have h_b7 := irem_b (x := b6) (y := a1) ⟨by (first | (clear hb k5; omega) | omega), by (first | (clear hb k5; omega) | omega)⟩ ⟨by (first | (clear hb k5; omega) | omega), by (first | (clear hb k5; omega) | omega)⟩
    rw [← e_b7] at h_b7
    have hr9 : b7 = drw (A 0 5) / 64 % a1 := by rw [e_b7, irem_p ⟨by (first | (clear hb k5; omega) | (clear hb; omega) | (clear k5; omega) | omega), by (first | (clear hb k5; omega) | (clear hb; omega) | (clear k5; omega) | omega)⟩ ⟨by (first | (clear hb k5; omega) | (clear hb; omega) | (clear k5; omega) | omega), by (first | (clear hb k5; omega) | (clear hb; omega) | (clear k5; omega) | omega)⟩]; congr 1; (first | (clear hb k5; omega) | (clear hb; omega) | (clear k5; omega) | omega)
    refine g_goto (tgt := 37) dX11_draw_33 (by decide) ?_
    exact g_retI dX11_draw_37 rfl (hQ b7 ⟨by (first | (clear hb k5; omega) | omega), by (first | (clear hb k5; omega) | omega)⟩ _ hB4 (FrX.s FrX.rf (⟨by decide, rfl⟩ : kx 0 0) rfl) (by (first | (clear hb k5; omega) | (clear hb; omega) | (clear k5; omega) | omega)) (by rw [← hd9]; exact z0.sd up_same (FrX.s FrX.rf (⟨by decide, rfl⟩ : kx 0 0) rfl)))
/-! What the class answers: X11_fault. -/
set_option maxRecDepth 100000 in
set_option maxHeartbeats 4000000 in
theorem f_X11_fault (G : GT) (P : PH) (a1 : Int) (h_a1 : (-2147483648) ≤ a1 ∧ a1 ≤ 2147483647) (hB : BdX P) (Q : Option PV → PH → Prop) (hQ : ∀ (r : Int) (_ : (-2147483648) ≤ r ∧ r ≤ 2147483647) (_ : (a1 = 0 ∧ r = P 110 3) ∨ (a1 = 1 ∧ r = P 110 4) ∨ (a1 ≠ 0 ∧ a1 ≠ 1 ∧ r = -1)), Q (some (vI r)) P) : Ct WSX G 1 iX11_fault [vR 0, vI a1] P Q := by
  refine Ct.of (by decide) (l0 := [(0, vR 0), (1, vI a1)]) rfl (Nat.le_of_ble_eq_true rfl) ?_
  refine g_iload_n dX11_fault_0 rfl ?_
  refine g_if_ne (tgt := 12) dX11_fault_1 (by decide) ⟨by omega, by omega⟩ (fun k1 => ?_) (fun k1 => ?_)
  · refine g_iload_n dX11_fault_12 rfl ?_
    refine g_iconst dX11_fault_13 ?_
    refine g_icmp_ne (tgt := 27) dX11_fault_14 (by decide) ⟨by (first | (clear k1; omega) | omega), by (first | (clear k1; omega) | omega)⟩ (by decide) (fun k2 => ?_) (fun k2 => ?_)
    · refine g_iconst dX11_fault_27 ?_
      exact g_retI dX11_fault_28 rfl (hQ (-1) (by decide) (by have q0 := bx_45_3 (o := 110) hB (⟨by decide, rfl⟩ : kx 110 45); have q1 := bx_45_4 (o := 110) hB (⟨by decide, rfl⟩ : kx 110 45); (first | (clear k1 k2; omega) | (clear k1; omega) | (clear k2; omega) | omega)))
    · refine g_aload_n dX11_fault_17 rfl ?_
      refine x_g0_12 (n := 110) (⟨by decide, rfl⟩ : kx 0 0) ffX11_83 dX11_fault_18 rfl ?_
      refine x_g45_4 (z := (P 110 4)) (⟨by decide, rfl⟩ : kx 110 45) ffX11_159 dX11_fault_21 rfl ?_
      refine g_goto (tgt := 28) dX11_fault_24 (by decide) ?_
      exact g_retI dX11_fault_28 rfl (hQ (P 110 4) ⟨by have q0 := bx_45_4 (o := 110) hB (⟨by decide, rfl⟩ : kx 110 45); (first | (clear k1 k2; omega) | omega), by have q0 := bx_45_4 (o := 110) hB (⟨by decide, rfl⟩ : kx 110 45); (first | (clear k1 k2; omega) | omega)⟩ (by have q0 := bx_45_4 (o := 110) hB (⟨by decide, rfl⟩ : kx 110 45); have q1 := bx_45_3 (o := 110) hB (⟨by decide, rfl⟩ : kx 110 45); (first | (clear k1 k2; omega) | (clear k1; omega) | (clear k2; omega) | omega)))
  · refine g_aload_n dX11_fault_4 rfl ?_
    refine x_g0_12 (n := 110) (⟨by decide, rfl⟩ : kx 0 0) ffX11_83 dX11_fault_5 rfl ?_
    refine x_g45_3 (z := (P 110 3)) (⟨by decide, rfl⟩ : kx 110 45) ffX11_156 dX11_fault_8 rfl ?_
    exact g_retI dX11_fault_11 rfl (hQ (P 110 3) ⟨by have q0 := bx_45_3 (o := 110) hB (⟨by decide, rfl⟩ : kx 110 45); (first | (clear k1; omega) | omega), by have q0 := bx_45_3 (o := 110) hB (⟨by decide, rfl⟩ : kx 110 45); (first | (clear k1; omega) | omega)⟩ (by have q0 := bx_45_3 (o := 110) hB (⟨by decide, rfl⟩ : kx 110 45); have q1 := bx_45_4 (o := 110) hB (⟨by decide, rfl⟩ : kx 110 45); (first | (clear k1; omega) | omega)))
/-! What the class answers: X11_has. -/
set_option maxRecDepth 100000 in
set_option maxHeartbeats 4000000 in
theorem f_X11_has (G : GT) (P : PH) (A : PH) (K : PH) (M : PH) (a1 : Int) (h_a1 : (-2147483648) ≤ a1 ∧ a1 ≤ 2147483647) (hB : BdX P) (z0 : AX A P) (z1 : XTB K M P) (Q : Option PV → PH → Prop) (hQ : ∀ (r : Int) (_ : (-2147483648) ≤ r ∧ r ≤ 2147483647) (_ : r = hasV K M A a1), Q (some (vI r)) P) : Ct WSX G 3 iX11_has [vR 0, vI a1] P Q := by
  refine Ct.of (by decide) (l0 := [(0, vR 0), (1, vI a1)]) rfl (Nat.le_of_ble_eq_true rfl) ?_
  have hb := z0.b
  have hxk := z1.1
  have hk9 := hxk.2.1
  have hk10 := hxk.2.2.1
  have hxm := z1.2
  have hx6 := hxm.2.1
  have hx7 := hxm.2.2.1
  refine g_iload_n dX11_has_0 rfl ?_
  by_cases k1 : a1 = 0
  · refine g_tswI (tgt := 60) 0 dX11_has_1 ⟨by (first | (clear hb; omega) | omega), by (first | (clear hb; omega) | omega)⟩ (by (first | (clear hb; omega) | omega)) (by (first | (clear hb; omega) | omega)) rfl (by decide) ?_
    refine g_aload_n dX11_has_60 rfl ?_
    refine x_g0_10 (n := (P 0 10).toNat) (⟨by decide, rfl⟩ : kx 0 0) ffX11_71 dX11_has_61 (br_0_10 hB) ?_
    refine x_g28_0 (n := (crX (P 0 10).toNat 0)) (bk_0_10 hB) ffX11_162 dX11_has_64 rfl ?_
    refine x_g29_9 (z := (P (crX (P 0 10).toNat 0) 9)) (ck_28_0 (bk_0_10 hB)) ffX11_166 dX11_has_67 rfl ?_
    exact g_retI dX11_has_70 rfl (hQ (P (crX (P 0 10).toNat 0) 9) ⟨by have q0 := bx_29_9 (o := (crX (P 0 10).toNat 0)) hB (ck_28_0 (bk_0_10 hB)); (first | (clear hb; omega) | omega), by have q0 := bx_29_9 (o := (crX (P 0 10).toNat 0)) hB (ck_28_0 (bk_0_10 hB)); (first | (clear hb; omega) | omega)⟩ (by unfold hasV; (repeat (first | rw [if_pos (by (first | (clear hb; omega) | omega))] | rw [if_neg (by (first | (clear hb; omega) | omega))])); (try (first | (clear hb; omega) | omega))))
  by_cases k2 : a1 = 1
  · refine g_tswI (tgt := 71) 1 dX11_has_1 ⟨by (first | (clear hb; omega) | omega), by (first | (clear hb; omega) | omega)⟩ (by (first | (clear hb; omega) | omega)) (by (first | (clear hb; omega) | omega)) rfl (by decide) ?_
    refine g_aload_n dX11_has_71 rfl ?_
    refine x_g0_10 (n := (P 0 10).toNat) (⟨by decide, rfl⟩ : kx 0 0) ffX11_71 dX11_has_72 (br_0_10 hB) ?_
    refine x_g28_0 (n := (crX (P 0 10).toNat 0)) (bk_0_10 hB) ffX11_162 dX11_has_75 rfl ?_
    refine x_g29_10 (z := (P (crX (P 0 10).toNat 0) 10)) (ck_28_0 (bk_0_10 hB)) ffX11_170 dX11_has_78 rfl ?_
    exact g_retI dX11_has_81 rfl (hQ (P (crX (P 0 10).toNat 0) 10) ⟨by have q0 := bx_29_10 (o := (crX (P 0 10).toNat 0)) hB (ck_28_0 (bk_0_10 hB)); (first | (clear hb; omega) | omega), by have q0 := bx_29_10 (o := (crX (P 0 10).toNat 0)) hB (ck_28_0 (bk_0_10 hB)); (first | (clear hb; omega) | omega)⟩ (by unfold hasV; (repeat (first | rw [if_pos (by (first | (clear hb; omega) | omega))] | rw [if_neg (by (first | (clear hb; omega) | omega))])); (try (first | (clear hb; omega) | omega))))
  by_cases k3 : a1 = 2
  · refine g_tswI (tgt := 82) 2 dX11_has_1 ⟨by (first | (clear hb; omega) | omega), by (first | (clear hb; omega) | omega)⟩ (by (first | (clear hb; omega) | omega)) (by (first | (clear hb; omega) | omega)) rfl (by decide) ?_
    refine g_aload_n dX11_has_82 rfl ?_
    refine x_g0_10 (n := (P 0 10).toNat) (⟨by decide, rfl⟩ : kx 0 0) ffX11_71 dX11_has_83 (br_0_10 hB) ?_
    refine x_g28_6 (z := (P (P 0 10).toNat 6)) (bk_0_10 hB) ffX11_130 dX11_has_86 rfl ?_
    exact g_retI dX11_has_89 rfl (hQ (P (P 0 10).toNat 6) ⟨by have q0 := bx_28_6 (o := (P 0 10).toNat) hB (bk_0_10 hB); (first | (clear hb; omega) | omega), by have q0 := bx_28_6 (o := (P 0 10).toNat) hB (bk_0_10 hB); (first | (clear hb; omega) | omega)⟩ (by unfold hasV; (repeat (first | rw [if_pos (by (first | (clear hb; omega) | omega))] | rw [if_neg (by (first | (clear hb; omega) | omega))])); (try (first | (clear hb; omega) | omega))))
  by_cases k4 : a1 = 3
  · refine g_tswI (tgt := 90) 3 dX11_has_1 ⟨by (first | (clear hb; omega) | omega), by (first | (clear hb; omega) | omega)⟩ (by (first | (clear hb; omega) | omega)) (by (first | (clear hb; omega) | omega)) rfl (by decide) ?_
    refine g_aload_n dX11_has_90 rfl ?_
    refine x_g0_10 (n := (P 0 10).toNat) (⟨by decide, rfl⟩ : kx 0 0) ffX11_71 dX11_has_91 (br_0_10 hB) ?_
    refine x_g28_7 (z := (P (P 0 10).toNat 7)) (bk_0_10 hB) ffX11_173 dX11_has_94 rfl ?_
    exact g_retI dX11_has_97 rfl (hQ (P (P 0 10).toNat 7) ⟨by have q0 := bx_28_7 (o := (P 0 10).toNat) hB (bk_0_10 hB); (first | (clear hb; omega) | omega), by have q0 := bx_28_7 (o := (P 0 10).toNat) hB (bk_0_10 hB); (first | (clear hb; omega) | omega)⟩ (by unfold hasV; (repeat (first | rw [if_pos (by (first | (clear hb; omega) | omega))] | rw [if_neg (by (first | (clear hb; omega) | omega))])); (try (first | (clear hb; omega) | omega))))
  by_cases k5 : a1 = 4
  · refine g_tswI (tgt := 98) 4 dX11_has_1 ⟨by (first | (clear hb; omega) | omega), by (first | (clear hb; omega) | omega)⟩ (by (first | (clear hb; omega) | omega)) (by (first | (clear hb; omega) | omega)) rfl (by decide) ?_
    refine g_aload_n dX11_has_98 rfl ?_
    refine x_g0_5 (n := 14) (⟨by decide, rfl⟩ : kx 0 0) ffX11_43 dX11_has_99 rfl ?_
    refine x_g14_1 (z := (P 14 1)) (⟨by decide, rfl⟩ : kx 14 14) ffX11_176 dX11_has_102 rfl ?_
    exact g_retI dX11_has_105 rfl (hQ (P 14 1) ⟨by have q0 := bx_14_1 (o := 14) hB (⟨by decide, rfl⟩ : kx 14 14); (first | (clear hb; omega) | omega), by have q0 := bx_14_1 (o := 14) hB (⟨by decide, rfl⟩ : kx 14 14); (first | (clear hb; omega) | omega)⟩ (by unfold hasV; (repeat (first | rw [if_pos (by (first | (clear hb; omega) | omega))] | rw [if_neg (by (first | (clear hb; omega) | omega))])); (try (first | (clear hb; omega) | omega))))
  by_cases k6 : a1 = 5
  · refine g_tswI (tgt := 106) 5 dX11_has_1 ⟨by (first | (clear hb; omega) | omega), by (first | (clear hb; omega) | omega)⟩ (by (first | (clear hb; omega) | omega)) (by (first | (clear hb; omega) | omega)) rfl (by decide) ?_
    refine g_aload_n dX11_has_106 rfl ?_
    refine x_g0_5 (n := 14) (⟨by decide, rfl⟩ : kx 0 0) ffX11_43 dX11_has_107 rfl ?_
    refine x_g14_2 (z := (P 14 2)) (⟨by decide, rfl⟩ : kx 14 14) ffX11_177 dX11_has_110 rfl ?_
    exact g_retI dX11_has_113 rfl (hQ (P 14 2) ⟨by have q0 := bx_14_2 (o := 14) hB (⟨by decide, rfl⟩ : kx 14 14); (first | (clear hb; omega) | omega), by have q0 := bx_14_2 (o := 14) hB (⟨by decide, rfl⟩ : kx 14 14); (first | (clear hb; omega) | omega)⟩ (by unfold hasV; (repeat (first | rw [if_pos (by (first | (clear hb; omega) | omega))] | rw [if_neg (by (first | (clear hb; omega) | omega))])); (try (first | (clear hb; omega) | omega))))
  by_cases k7 : a1 = 6
  · refine g_tswI (tgt := 114) 6 dX11_has_1 ⟨by (first | (clear hb; omega) | omega), by (first | (clear hb; omega) | omega)⟩ (by (first | (clear hb; omega) | omega)) (by (first | (clear hb; omega) | omega)) rfl (by decide) ?_
    refine g_aload_n dX11_has_114 rfl ?_
    refine x_g0_5 (n := 14) (⟨by decide, rfl⟩ : kx 0 0) ffX11_43 dX11_has_115 rfl ?_
    refine x_g14_3 (z := (P 14 3)) (⟨by decide, rfl⟩ : kx 14 14) ffX11_180 dX11_has_118 rfl ?_
    exact g_retI dX11_has_121 rfl (hQ (P 14 3) ⟨by have q0 := bx_14_3 (o := 14) hB (⟨by decide, rfl⟩ : kx 14 14); (first | (clear hb; omega) | omega), by have q0 := bx_14_3 (o := 14) hB (⟨by decide, rfl⟩ : kx 14 14); (first | (clear hb; omega) | omega)⟩ (by unfold hasV; (repeat (first | rw [if_pos (by (first | (clear hb; omega) | omega))] | rw [if_neg (by (first | (clear hb; omega) | omega))])); (try (first | (clear hb; omega) | omega))))
  by_cases k8 : a1 = 7
  · refine g_tswI (tgt := 122) 7 dX11_has_1 ⟨by (first | (clear hb; omega) | omega), by (first | (clear hb; omega) | omega)⟩ (by (first | (clear hb; omega) | omega)) (by (first | (clear hb; omega) | omega)) rfl (by decide) ?_
    refine g_aload_n dX11_has_122 rfl ?_
    refine x_g0_7 (n := 18) (⟨by decide, rfl⟩ : kx 0 0) ffX11_53 dX11_has_123 rfl ?_
    refine g_vI (av := []) (o := 18) (st := []) (f_X0_keptTold G P  hB  _ (fun rc9 hc9 gc9_k => ⟨rc9, rfl, ?_⟩)) cf_X0_keptTold t_919 rfl (show kx 18 16 from (⟨by decide, rfl⟩ : kx 18 16)).1 ((show kx 18 16 from (⟨by decide, rfl⟩ : kx 18 16)).sh rfl) rfl rfl (Nat.le_of_ble_eq_true rfl) (by decide) rfl dX11_has_126
    have hm4 := gc9_k
    rw [hb.2.2.2.1] at hm4
    exact g_retI dX11_has_129 rfl (hQ rc9 ⟨by (first | (clear hb; omega) | omega), by (first | (clear hb; omega) | omega)⟩ (by unfold hasV; (repeat (first | rw [if_pos (by (first | (clear hb; omega) | omega))] | rw [if_neg (by (first | (clear hb; omega) | omega))])); (try (first | (clear hb; omega) | omega))))
  by_cases k10 : a1 = 8
  · refine g_tswI (tgt := 130) 8 dX11_has_1 ⟨by (first | (clear hb; omega) | omega), by (first | (clear hb; omega) | omega)⟩ (by (first | (clear hb; omega) | omega)) (by (first | (clear hb; omega) | omega)) rfl (by decide) ?_
    refine g_aload_n dX11_has_130 rfl ?_
    refine x_g0_8 (n := 64) (⟨by decide, rfl⟩ : kx 0 0) ffX11_60 dX11_has_131 rfl ?_
    refine x_g22_2 (z := (P 64 2)) (⟨by decide, rfl⟩ : kx 64 22) ffX11_153 dX11_has_134 rfl ?_
    exact g_retI dX11_has_137 rfl (hQ (P 64 2) ⟨by have q0 := bx_22_2 (o := 64) hB (⟨by decide, rfl⟩ : kx 64 22); (first | (clear hb; omega) | omega), by have q0 := bx_22_2 (o := 64) hB (⟨by decide, rfl⟩ : kx 64 22); (first | (clear hb; omega) | omega)⟩ (by unfold hasV; (repeat (first | rw [if_pos (by (first | (clear hb; omega) | omega))] | rw [if_neg (by (first | (clear hb; omega) | omega))])); (try (first | (clear hb; omega) | omega))))
  by_cases k11 : a1 = 9
  · refine g_tswI (tgt := 138) 9 dX11_has_1 ⟨by (first | (clear hb; omega) | omega), by (first | (clear hb; omega) | omega)⟩ (by (first | (clear hb; omega) | omega)) (by (first | (clear hb; omega) | omega)) rfl (by decide) ?_
    refine g_aload_n dX11_has_138 rfl ?_
    refine x_g0_7 (n := 18) (⟨by decide, rfl⟩ : kx 0 0) ffX11_53 dX11_has_139 rfl ?_
    refine x_g16_7 (z := (P 18 7)) (⟨by decide, rfl⟩ : kx 18 16) ffX11_185 dX11_has_142 rfl ?_
    exact g_retI dX11_has_145 rfl (hQ (P 18 7) ⟨by have q0 := bx_16_7 (o := 18) hB (⟨by decide, rfl⟩ : kx 18 16); (first | (clear hb; omega) | omega), by have q0 := bx_16_7 (o := 18) hB (⟨by decide, rfl⟩ : kx 18 16); (first | (clear hb; omega) | omega)⟩ (by unfold hasV; (repeat (first | rw [if_pos (by (first | (clear hb; omega) | omega))] | rw [if_neg (by (first | (clear hb; omega) | omega))])); (try (first | (clear hb; omega) | omega))))
  by_cases k12 : a1 = 10
  · refine g_tswI (tgt := 146) 10 dX11_has_1 ⟨by (first | (clear hb; omega) | omega), by (first | (clear hb; omega) | omega)⟩ (by (first | (clear hb; omega) | omega)) (by (first | (clear hb; omega) | omega)) rfl (by decide) ?_
    refine g_aload_n dX11_has_146 rfl ?_
    refine x_g0_14 (z := (P 0 14)) (⟨by decide, rfl⟩ : kx 0 0) ffX11_96 dX11_has_147 rfl ?_
    exact g_retI dX11_has_150 rfl (hQ (P 0 14) ⟨by have q0 := bx_0_14 (o := 0) hB (⟨by decide, rfl⟩ : kx 0 0); (first | (clear hb; omega) | omega), by have q0 := bx_0_14 (o := 0) hB (⟨by decide, rfl⟩ : kx 0 0); (first | (clear hb; omega) | omega)⟩ (by unfold hasV; (repeat (first | rw [if_pos (by (first | (clear hb; omega) | omega))] | rw [if_neg (by (first | (clear hb; omega) | omega))])); (try (first | (clear hb; omega) | omega))))
  refine g_tswO (tgt := 151) dX11_has_1 ⟨by (first | (clear hb; omega) | omega), by (first | (clear hb; omega) | omega)⟩ (by (first | (clear hb; omega) | omega)) (by decide) ?_
  refine g_iconst dX11_has_151 ?_
  exact g_retI dX11_has_152 rfl (hQ (-1) (by decide) (by unfold hasV; (repeat (first | rw [if_pos (by (first | (clear hb; omega) | omega))] | rw [if_neg (by (first | (clear hb; omega) | omega))])); (try (first | (clear hb; omega) | omega))))
/-! What the class answers: X11_isIn. -/
set_option maxRecDepth 100000 in
set_option maxHeartbeats 4000000 in
theorem f_X11_isIn (G : GT) (P : PH) (a1 : Int) (a2 : Int) (h_a1 : (-2147483648) ≤ a1 ∧ a1 ≤ 2147483647) (h_a2 : (-2147483648) ≤ a2 ∧ a2 ≤ 2147483647) (hB : BdX P) (Q : Option PV → PH → Prop) (hQ : ∀ (r : Int) (_ : 0 ≤ r ∧ r ≤ 1) (_ : (r = 1 ∧ iand (ishr a1 a2) 1 ≠ 0) ∨ (r = 0 ∧ iand (ishr a1 a2) 1 = 0)), Q (some (vI r)) P) : Ct WSX G 1 iX11_isIn [vI a1, vI a2] P Q := by
  refine Ct.of (by decide) (l0 := [(0, vI a1), (1, vI a2)]) rfl (Nat.le_of_ble_eq_true rfl) ?_
  refine g_iload_n dX11_isIn_0 rfl ?_
  refine g_iload_n dX11_isIn_1 rfl ?_
  refine g_ishr dX11_isIn_2 ?_
  refine g_nm (fun b1 e_b1 => ?_)
  have h_b1 := ishr_ir a1 a2
  rw [← e_b1] at h_b1
  refine g_iconst dX11_isIn_3 ?_
  refine g_iand dX11_isIn_4 ?_
  refine g_nm (fun b2 e_b2 => ?_)
  have h_b2 := iand_r (x := b1) (y := 1) ⟨by omega, by omega⟩
  rw [← e_b2] at h_b2
  have hi9 : b2 = iand (ishr a1 a2) 1 := by rw [e_b2, e_b1]
  refine g_if_eq (tgt := 12) dX11_isIn_5 (by decide) ⟨by omega, by omega⟩ (fun k3 => ?_) (fun k3 => ?_)
  · refine g_iconst dX11_isIn_12 ?_
    exact g_retZ dX11_isIn_13 rfl (by decide) (hQ 0 (by decide) (by (first | (clear k3; omega) | omega)))
  · have k3n : 1 ≤ b2 := by (first | (clear k3; omega) | omega)
    clear k3
    refine g_iconst dX11_isIn_8 ?_
    refine g_goto (tgt := 13) dX11_isIn_9 (by decide) ?_
    exact g_retZ dX11_isIn_13 rfl (by decide) (hQ 1 (by decide) (by omega))
/-! What the class answers: X11_isRule. -/
set_option maxRecDepth 100000 in
set_option maxHeartbeats 4000000 in
theorem f_X11_isRule (G : GT) (P : PH) (a1 : Int) (h_a1 : (-2147483648) ≤ a1 ∧ a1 ≤ 2147483647) (hB : BdX P) (Q : Option PV → PH → Prop) (hQ : ∀ (r : Int) (_ : 0 ≤ r ∧ r ≤ 1) (_ : r = 0 ∨ (0 ≤ a1 ∧ a1 ≤ 3)) (_ : (r = 1 ∧ 0 ≤ a1 ∧ a1 ≤ 3) ∨ (r = 0 ∧ (a1 < 0 ∨ 3 < a1))), Q (some (vI r)) P) : Ct WSX G 1 iX11_isRule [vI a1] P Q := by
  refine Ct.of (by decide) (l0 := [(0, vI a1)]) rfl (Nat.le_of_ble_eq_true rfl) ?_
  refine g_iload_n dX11_isRule_0 rfl ?_
  refine g_if_lt (tgt := 13) dX11_isRule_1 (by decide) ⟨by omega, by omega⟩ (fun k1 => ?_) (fun k1 => ?_)
  · refine g_iconst dX11_isRule_13 ?_
    exact g_retZ dX11_isRule_14 rfl (by decide) (hQ 0 (by decide) (by (first | (clear k1; omega) | omega)) (by (first | (clear k1; omega) | omega)))
  · refine g_iload_n dX11_isRule_4 rfl ?_
    refine g_iconst dX11_isRule_5 ?_
    refine g_icmp_ge (tgt := 13) dX11_isRule_6 (by decide) ⟨by (first | (clear k1; omega) | omega), by (first | (clear k1; omega) | omega)⟩ (by decide) (fun k2 => ?_) (fun k2 => ?_)
    · refine g_iconst dX11_isRule_13 ?_
      exact g_retZ dX11_isRule_14 rfl (by decide) (hQ 0 (by decide) (by (first | (clear k1 k2; omega) | (clear k1; omega) | (clear k2; omega) | omega)) (by (first | (clear k1 k2; omega) | (clear k1; omega) | (clear k2; omega) | omega)))
    · refine g_iconst dX11_isRule_9 ?_
      refine g_goto (tgt := 14) dX11_isRule_10 (by decide) ?_
      exact g_retZ dX11_isRule_14 rfl (by decide) (hQ 1 (by decide) (by (first | (clear k1 k2; omega) | (clear k1; omega) | (clear k2; omega) | omega)) (by (first | (clear k1 k2; omega) | (clear k1; omega) | (clear k2; omega) | omega)))
/-! What the class answers: X11_letterOf. -/
set_option maxRecDepth 100000 in
set_option maxHeartbeats 4000000 in
theorem f_X11_letterOf (G : GT) (P : PH) (a1 : Int) (a2 : Int) (h_a1 : (-2147483648) ≤ a1 ∧ a1 ≤ 2147483647) (h_a2 : (-2147483648) ≤ a2 ∧ a2 ≤ 2147483647) (hB : BdX P) (p_n : 0 ≤ a1) (p_k : 0 ≤ a2 ∧ a2 ≤ 5) (Q : Option PV → PH → Prop) (hQ : ∀ (r : Int) (_ : (-2147483648) ≤ r ∧ r ≤ 2147483647) (_ : r = lt a1 a2), Q (some (vI r)) P) : Ct WSX G 1 iX11_letterOf [vI a1, vI a2] P Q := by
  refine Ct.of (by decide) (l0 := [(0, vI a1), (1, vI a2)]) rfl (Nat.le_of_ble_eq_true rfl) ?_
  refine g_iload_n dX11_letterOf_0 rfl ?_
  refine g_istore_n (l1 := [(2, vI a1), (0, vI a1), (1, vI a2)]) dX11_letterOf_1 (by decide) rfl ?_
  refine g_iconst dX11_letterOf_2 ?_
  refine g_istore_n (l1 := [(3, vI 5), (2, vI a1), (0, vI a1), (1, vI a2)]) dX11_letterOf_3 (by decide) rfl ?_
  have L4_0 : ∀ (n4_0 : Nat) (x4_3_0 : Int) (h_x4_3_0 : (-2147483648) ≤ x4_3_0 ∧ x4_3_0 ≤ 5) (x4_2_0 : Int) (h_x4_2_0 : 0 ≤ x4_2_0 ∧ x4_2_0 ≤ 2147483647) (i4_0_0 : x4_2_0 = lr a1 (5 - x4_3_0).toNat) (i4_1_0 : a2 ≤ x4_3_0) (hm4_0 : ((x4_3_0 - (-2147483649)) : Int).toNat < n4_0), Go WSX G 1 iX11_letterOf 4 [(1, vI a2), (2, vI x4_2_0), (3, vI x4_3_0)] [] P Q := by
    intro n4_0
    induction n4_0 with
    | zero => intro x4_3_0 h_x4_3_0 x4_2_0 h_x4_2_0 i4_0_0 i4_1_0 hm4_0; exact absurd hm4_0 (Nat.not_lt_zero _)
    | succ n4_0 ih4_0 =>
    intro x4_3_0 h_x4_3_0 x4_2_0 h_x4_2_0 i4_0_0 i4_1_0 hm4_0
    refine g_iload_n dX11_letterOf_4 rfl ?_
    refine g_iload_n dX11_letterOf_5 rfl ?_
    refine g_icmp_le (tgt := 20) dX11_letterOf_6 (by decide) ⟨by omega, by omega⟩ ⟨by omega, by omega⟩ (fun k35 => ?_) (fun k35 => ?_)
    · have hq9 := (lr_b (v := a1) p_n (5 - x4_3_0).toNat)
      have hk9 : x4_3_0 = a2 := by omega
      refine g_iload_n dX11_letterOf_20 rfl ?_
      refine g_bipush dX11_letterOf_21 (by decide) ?_
      refine g_irem dX11_letterOf_23 ⟨(by decide), by decide⟩ ?_
      refine g_nm (fun b36 e_b36 => ?_)
      have h_b36 := irem_b (x := x4_2_0) (y := 27) ⟨by omega, by omega⟩ ⟨by omega, by omega⟩
      rw [← e_b36] at h_b36
      exact g_retI dX11_letterOf_24 rfl (hQ b36 ⟨by omega, by omega⟩ (by unfold lt; have q := i4_0_0; rw [hk9] at q; rw [e_b36, irem_p ⟨by omega, by omega⟩ ⟨by decide, by decide⟩, q]))
    · have hq9 := (lr_b (v := a1) p_n (5 - x4_3_0).toNat)
      refine g_iload_n dX11_letterOf_9 rfl ?_
      refine g_bipush dX11_letterOf_10 (by decide) ?_
      refine g_idiv dX11_letterOf_12 ⟨(by decide), by decide⟩ ?_
      refine g_nm (fun b37 e_b37 => ?_)
      have h_b37 := idiv_p (x := x4_2_0) (y := 27) ⟨by omega, by omega⟩ ⟨by omega, by omega⟩
      rw [← e_b37] at h_b37
      refine g_istore_n (l1 := [(2, vI b37), (1, vI a2), (3, vI x4_3_0)]) dX11_letterOf_13 (by decide) rfl ?_
      refine g_iinc (l1 := [(3, vI (x4_3_0 + (-1))), (2, vI b37), (1, vI a2)]) dX11_letterOf_14 rfl (by decide) rfl ?_
      have hnx9 : b37 = lr a1 (5 - (x4_3_0 + (-1))).toNat := by
        obtain ⟨m9, hm9⟩ : ∃ m9 : Nat, (5 - (x4_3_0 + (-1))).toNat = m9 + 1 := ⟨(5 - (x4_3_0 + (-1))).toNat - 1, by omega⟩
        rw [hm9]
        show _ = lr a1 m9 / 27
        have q := i4_0_0
        rw [show m9 = (5 - ((x4_3_0 + (-1)) + 1)).toNat by omega] 
        rw [show ∀ z : Int, 5 - (z + -1 + 1) = 5 - z from fun z => by omega]
        omega
      refine g_goto (tgt := 4) dX11_letterOf_17 (by decide) ?_
      refine g_forget (l1 := [(1, vI a2), (2, vI b37), (3, vI (x4_3_0 + (-1)))]) (by intro q hq; simp only [List.mem_cons, List.not_mem_nil, or_false] at hq ⊢; rcases hq with rfl | rfl | rfl <;> simp) ?_
      exact ih4_0 (x4_3_0 + (-1)) ⟨by omega, by omega⟩ b37 ⟨by omega, by omega⟩ (by first | exact hnx9 | rfl) (by omega) (by omega)
  refine g_forget (l1 := [(1, vI a2), (2, vI a1), (3, vI 5)]) (by intro q hq; simp only [List.mem_cons, List.not_mem_nil, or_false] at hq ⊢; rcases hq with rfl | rfl | rfl <;> simp) ?_
  exact L4_0 _ 5 (by decide) a1 ⟨by omega, by omega⟩ (by first | exact hnx9 | rfl) (by omega) (Nat.lt_succ_self _)
/-! What the class answers: X11_matched. -/
set_option maxRecDepth 100000 in
set_option maxHeartbeats 4000000 in
theorem f_X11_matched (G : GT) (P : PH) (K : PH) (M : PH) (hB : BdX P) (z0 : XTB K M P) (Q : Option PV → PH → Prop) (hQ : ∀ (r : Int) (_ : 0 ≤ r ∧ r ≤ 1) (_ : (r = 1 ∧ 0 < M 0 0) ∨ (r = 0 ∧ M 0 0 ≤ 0)), Q (some (vI r)) P) : Ct WSX G 1 iX11_matched [vR 0] P Q := by
  refine Ct.of (by decide) (l0 := [(0, vR 0)]) rfl (Nat.le_of_ble_eq_true rfl) ?_
  have hb := z0.2.b
  refine g_aload_n dX11_matched_0 rfl ?_
  refine x_g0_10 (n := (P 0 10).toNat) (⟨by decide, rfl⟩ : kx 0 0) ffX11_71 dX11_matched_1 (br_0_10 hB) ?_
  refine x_g28_6 (z := (P (P 0 10).toNat 6)) (bk_0_10 hB) ffX11_130 dX11_matched_4 rfl ?_
  have f1 := bx_28_6 (o := (P 0 10).toNat) hB (bk_0_10 hB)
  refine g_if_le (tgt := 14) dX11_matched_7 (by decide) ⟨by have q0 := bx_28_6 (o := (P 0 10).toNat) hB (bk_0_10 hB); (first | (clear hb; omega) | omega), by have q0 := bx_28_6 (o := (P 0 10).toNat) hB (bk_0_10 hB); (first | (clear hb; omega) | omega)⟩ (fun k2 => ?_) (fun k2 => ?_)
  · refine g_iconst dX11_matched_14 ?_
    exact g_retZ dX11_matched_15 rfl (by decide) (hQ 0 (by decide) (by (first | (clear hb k2; omega) | (clear hb; omega) | (clear k2; omega) | omega)))
  · refine g_iconst dX11_matched_10 ?_
    refine g_goto (tgt := 15) dX11_matched_11 (by decide) ?_
    exact g_retZ dX11_matched_15 rfl (by decide) (hQ 1 (by decide) (by (first | (clear hb k2; omega) | (clear hb; omega) | (clear k2; omega) | omega)))
/-! What the class answers: X11_seed. -/
set_option maxRecDepth 100000 in
set_option maxHeartbeats 4000000 in
theorem f_X11_seed (G : GT) (P : PH) (A : PH) (a1 : Int) (h_a1 : (-2147483648) ≤ a1 ∧ a1 ≤ 2147483647) (hB : BdX P) (z0 : AX A P) (Q : Option PV → PH → Prop) (hQ : ∀ (r : Int) (_ : 0 ≤ r ∧ r ≤ 1) (P1 : PH) (_ : BdX P1) (_ : FrX ([(0, 14)], [27]) P P1) (_ : (a1 < 0 ∧ r = 0) ∨ (0 ≤ a1 ∧ r = 1)) (_ : AX (aSeed A a1) P1), Q (some (vI r)) P1) : Ct WSX G 2 iX11_seed [vR 0, vI a1] P Q := by
  refine Ct.of (by decide) (l0 := [(0, vR 0), (1, vI a1)]) rfl (Nat.le_of_ble_eq_true rfl) ?_
  refine g_iload_n dX11_seed_0 rfl ?_
  refine g_if_ge (tgt := 10) dX11_seed_1 (by decide) ⟨by omega, by omega⟩ (fun k1 => ?_) (fun k1 => ?_)
  · refine g_aload_n dX11_seed_10 rfl ?_
    refine g_iload_n dX11_seed_11 rfl ?_
    refine x_p0_14 (⟨by decide, rfl⟩ : kx 0 0) pfX11_96 dX11_seed_12 ?_
    have hB2 := by_0_14 (z := a1) hB (⟨by decide, rfl⟩ : kx 0 0) ⟨by (first | (clear k1; omega) | omega), by (first | (clear k1; omega) | omega)⟩
    refine g_iconst dX11_seed_15 ?_
    exact g_retZ dX11_seed_16 rfl (by decide) (hQ 1 (by decide) _ hB2 (FrX.s FrX.rf (⟨by decide, rfl⟩ : kx 0 0) rfl) (by (first | (clear k1; omega) | omega)) (by rw [aSeed_y (by (first | (clear k1; omega) | omega))]; exact z0.sd up_same (FrX.s FrX.rf (⟨by decide, rfl⟩ : kx 0 0) rfl)))
  · refine g_aload_n dX11_seed_4 rfl ?_
    refine g_iconst dX11_seed_5 ?_
    refine g_vI (av := [vI 5]) (o := 0) (st := []) (m_X11_refuse G P 5 (by decide) hB  _ (fun rc3 hc3 Pc3 hBc3 hFc3 => ⟨rc3, rfl, ?_⟩)) cf_X11_refuse t_663 rfl (show kx 0 0 from (⟨by decide, rfl⟩ : kx 0 0)).1 ((show kx 0 0 from (⟨by decide, rfl⟩ : kx 0 0)).sh rfl) rfl rfl (Nat.le_of_ble_eq_true rfl) (by decide) rfl dX11_seed_6
    exact g_retZ dX11_seed_9 rfl (by (first | (clear k1; omega) | omega)) (hQ rc3 ⟨by (first | (clear k1; omega) | omega), by (first | (clear k1; omega) | omega)⟩ _ hBc3 (FrX.c FrX.rf hFc3 rfl) (by (first | (clear k1; omega) | omega)) (by rw [aSeed_n (by (first | (clear k1; omega) | omega))]; exact (AX.fr (F := ([], [27])) z0 (FrX.c FrX.rf hFc3 rfl) rfl)))
/-! What the class answers: X11_values. -/
set_option maxRecDepth 100000 in
set_option maxHeartbeats 4000000 in
theorem f_X11_values (G : GT) (P : PH) (K : PH) (M : PH) (a1 : Int) (h_a1 : (-2147483648) ≤ a1 ∧ a1 ≤ 2147483647) (hB : BdX P) (p_aw : AW K) (z0 : XTB K M P) (Q : Option PV → PH → Prop) (hQ : ∀ (r : Int) (_ : (-2147483648) ≤ r ∧ r ≤ 2147483647) (_ : r = vls K M a1), Q (some (vI r)) P) : Ct WSX G 2 iX11_values [vR 0, vI a1] P Q := by
  refine Ct.of (by decide) (l0 := [(0, vR 0), (1, vI a1)]) rfl (Nat.le_of_ble_eq_true rfl) ?_
  have hb := z0.1.b
  have hvs := vls_s K M a1
  have hsz := sz_s K a1
  have haw := p_aw.1
  have iv1 : XK K (crX (P 0 10).toNat 0) P := z0.1
  refine g_aload_n dX11_values_0 rfl ?_
  refine g_vI (av := []) (o := 0) (st := []) (f_X11_matched G P K M  hB (z0) _ (fun rc2 hc2 gc2_m => ⟨rc2, rfl, ?_⟩)) cf_X11_matched t_937 rfl (show kx 0 0 from (⟨by decide, rfl⟩ : kx 0 0)).1 ((show kx 0 0 from (⟨by decide, rfl⟩ : kx 0 0)).sh rfl) rfl rfl (Nat.le_of_ble_eq_true rfl) (by decide) rfl dX11_values_1
  refine g_if_eq (tgt := 26) dX11_values_4 (by decide) ⟨by (first | (clear hb hvs hsz gc2_m; omega) | omega), by (first | (clear hb hvs hsz gc2_m; omega) | omega)⟩ (fun k3 => ?_) (fun k3 => ?_)
  · first | (revert r_gc2_m; intro r_gc2_m) | have r_gc2_m := (gc2_m.resolve_right (by (clear hb hvs hsz gc2_m k3; omega))) | have r_gc2_m := (gc2_m.resolve_left (by (clear hb hvs hsz gc2_m k3; omega))) | skip
    first | (revert r_hsz; intro r_hsz) | have r_hsz := (hsz.resolve_right (by (clear hb hvs hsz gc2_m k3; omega))) | have r_hsz := (hsz.resolve_left (by (clear hb hvs hsz gc2_m k3; omega))) | skip
    first | (revert r_hvs; intro r_hvs) | have r_hvs := (hvs.resolve_right (by (clear hb hvs hsz gc2_m k3; omega))) | have r_hvs := (hvs.resolve_left (by (clear hb hvs hsz gc2_m k3; omega))) | skip
    refine g_iconst dX11_values_26 ?_
    exact g_retI dX11_values_27 rfl (hQ (-1) (by decide) (by (first | (clear hb hvs hsz gc2_m k3; omega) | (clear hb hvs hsz gc2_m; omega) | (clear hb hvs hsz k3; omega) | (clear hb hvs gc2_m k3; omega) | (clear hb hsz gc2_m k3; omega) | (clear hvs hsz gc2_m k3; omega) | (clear hb hvs hsz; omega) | (clear hb; omega) | omega)))
  · have k3n : 1 ≤ rc2 := by (first | (clear hb hvs hsz gc2_m k3; omega) | (clear hb hvs hsz gc2_m; omega) | (clear hb hvs hsz k3; omega) | (clear hb hvs gc2_m k3; omega) | (clear hb hsz gc2_m k3; omega) | (clear hvs hsz gc2_m k3; omega) | (clear hb hvs hsz; omega) | (clear hb; omega) | omega)
    clear k3
    first | (revert r_gc2_m; intro r_gc2_m) | have r_gc2_m := (gc2_m.resolve_right (by (clear hb hvs hsz gc2_m; omega))) | have r_gc2_m := (gc2_m.resolve_left (by (clear hb hvs hsz gc2_m; omega))) | skip
    first | (revert r_hsz; intro r_hsz) | have r_hsz := (hsz.resolve_right (by (clear hb hvs hsz gc2_m; omega))) | have r_hsz := (hsz.resolve_left (by (clear hb hvs hsz gc2_m; omega))) | skip
    first | (revert r_hvs; intro r_hvs) | have r_hvs := (hvs.resolve_right (by (clear hb hvs hsz gc2_m; omega))) | have r_hvs := (hvs.resolve_left (by (clear hb hvs hsz gc2_m; omega))) | skip
    refine g_iload_n dX11_values_7 rfl ?_
    refine g_iconst dX11_values_8 ?_
    refine g_icmp_eq (tgt := 28) dX11_values_9 (by decide) ⟨by (first | (clear hb hvs hsz gc2_m; omega) | omega), by (first | (clear hb hvs hsz gc2_m; omega) | omega)⟩ (by decide) (fun k4 => ?_) (fun k4 => ?_)
    · first | (revert r_gc2_m; intro r_gc2_m) | have r_gc2_m := (gc2_m.resolve_right (by (clear hb hvs hsz gc2_m k4; omega))) | have r_gc2_m := (gc2_m.resolve_left (by (clear hb hvs hsz gc2_m k4; omega))) | skip
      first | (revert r_hsz; intro r_hsz) | have r_hsz := (hsz.resolve_right (by (clear hb hvs hsz gc2_m k4; omega))) | have r_hsz := (hsz.resolve_left (by (clear hb hvs hsz gc2_m k4; omega))) | skip
      first | (revert r_hvs; intro r_hvs) | have r_hvs := (hvs.resolve_right (by (clear hb hvs hsz gc2_m k4; omega))) | have r_hvs := (hvs.resolve_left (by (clear hb hvs hsz gc2_m k4; omega))) | skip
      refine g_aload_n dX11_values_28 rfl ?_
      refine x_g0_10 (n := (P 0 10).toNat) (⟨by decide, rfl⟩ : kx 0 0) ffX11_71 dX11_values_29 (br_0_10 hB) ?_
      refine x_g28_0 (n := (crX (P 0 10).toNat 0)) (bk_0_10 hB) ffX11_162 dX11_values_32 rfl ?_
      refine g_iload_n dX11_values_35 rfl ?_
      refine g_vI (av := [vI a1]) (o := (crX (P 0 10).toNat 0)) (st := []) (f_X3_sizeOf G P K (crX (P 0 10).toNat 0) a1 (ck_28_0 (bk_0_10 hB)) ⟨by (first | (clear hb hvs hsz gc2_m k4; omega) | omega), by (first | (clear hb hvs hsz gc2_m k4; omega) | omega)⟩ hB (by (first | (clear hb hvs hsz gc2_m k4; omega) | (clear hb hvs hsz gc2_m; omega) | (clear hb hvs hsz k4; omega) | (clear hb hvs gc2_m k4; omega) | (clear hb hsz gc2_m k4; omega) | (clear hvs hsz gc2_m k4; omega) | (clear hb hvs hsz; omega) | (clear hb; omega) | omega)) (iv1) _ (fun rc5 hc5 gc5_s => ⟨rc5, rfl, ?_⟩)) cf_X3_sizeOf t_941 rfl (show kx (crX (P 0 10).toNat 0) 29 from (ck_28_0 (bk_0_10 hB))).1 ((show kx (crX (P 0 10).toNat 0) 29 from (ck_28_0 (bk_0_10 hB))).sh rfl) rfl rfl (Nat.le_of_ble_eq_true rfl) (by decide) rfl dX11_values_36
      exact g_retI dX11_values_39 rfl (hQ rc5 ⟨by (first | (clear hb hvs hsz gc2_m k4; omega) | omega), by (first | (clear hb hvs hsz gc2_m k4; omega) | omega)⟩ (by (first | (clear hb hvs hsz gc2_m k4; omega) | (clear hb hvs hsz gc2_m; omega) | (clear hb hvs hsz k4; omega) | (clear hb hvs gc2_m k4; omega) | (clear hb hsz gc2_m k4; omega) | (clear hvs hsz gc2_m k4; omega) | (clear hb hvs hsz; omega) | (clear hb; omega) | omega)))
    · first | (revert r_gc2_m; intro r_gc2_m) | have r_gc2_m := (gc2_m.resolve_right (by (clear hb hvs hsz gc2_m k4; omega))) | have r_gc2_m := (gc2_m.resolve_left (by (clear hb hvs hsz gc2_m k4; omega))) | skip
      first | (revert r_hsz; intro r_hsz) | have r_hsz := (hsz.resolve_right (by (clear hb hvs hsz gc2_m k4; omega))) | have r_hsz := (hsz.resolve_left (by (clear hb hvs hsz gc2_m k4; omega))) | skip
      first | (revert r_hvs; intro r_hvs) | have r_hvs := (hvs.resolve_right (by (clear hb hvs hsz gc2_m k4; omega))) | have r_hvs := (hvs.resolve_left (by (clear hb hvs hsz gc2_m k4; omega))) | skip
      refine g_aload_n dX11_values_12 rfl ?_
      refine x_g0_10 (n := (P 0 10).toNat) (⟨by decide, rfl⟩ : kx 0 0) ffX11_71 dX11_values_13 (br_0_10 hB) ?_
      refine x_g28_0 (n := (crX (P 0 10).toNat 0)) (bk_0_10 hB) ffX11_162 dX11_values_16 rfl ?_
      refine g_iload_n dX11_values_19 rfl ?_
      refine g_vI (av := [vI a1]) (o := (crX (P 0 10).toNat 0)) (st := []) (f_X3_isKind G P (crX (P 0 10).toNat 0) a1 (ck_28_0 (bk_0_10 hB)) ⟨by (first | (clear hb hvs hsz gc2_m k4; omega) | omega), by (first | (clear hb hvs hsz gc2_m k4; omega) | omega)⟩ hB  _ (fun rc6 hc6 gc6_k gc6_f => ⟨rc6, rfl, ?_⟩)) cf_X3_isKind t_928 rfl (show kx (crX (P 0 10).toNat 0) 29 from (ck_28_0 (bk_0_10 hB))).1 ((show kx (crX (P 0 10).toNat 0) 29 from (ck_28_0 (bk_0_10 hB))).sh rfl) rfl rfl (Nat.le_of_ble_eq_true rfl) (by decide) rfl dX11_values_20
      have f7 := bx_29_9 (o := (crX (P 0 10).toNat 0)) hB (ck_28_0 (bk_0_10 hB))
      refine g_if_ne (tgt := 28) dX11_values_23 (by decide) ⟨by (first | (clear hb hvs hsz gc2_m k4 gc6_k gc6_f; omega) | omega), by (first | (clear hb hvs hsz gc2_m k4 gc6_k gc6_f; omega) | omega)⟩ (fun k8 => ?_) (fun k8 => ?_)
      · have k8n : 1 ≤ rc6 := by (first | (clear hb hvs hsz gc2_m k4 gc6_k gc6_f k8; omega) | (clear hb hvs hsz gc2_m k4 gc6_k gc6_f; omega) | (clear hb hvs hsz gc2_m k4 gc6_k k8; omega) | (clear hb hvs hsz gc2_m k4 gc6_f k8; omega) | (clear hb hvs hsz gc2_m gc6_k gc6_f k8; omega) | (clear hb hvs hsz k4 gc6_k gc6_f k8; omega) | (clear hb hvs gc2_m k4 gc6_k gc6_f k8; omega) | (clear hb hsz gc2_m k4 gc6_k gc6_f k8; omega) | (clear hvs hsz gc2_m k4 gc6_k gc6_f k8; omega) | (clear hb hvs hsz gc2_m k4 gc6_k; omega) | (clear gc2_m hsz hvs hb; omega) | omega)
        clear k8
        first | (revert r_gc6_f; intro r_gc6_f) | have r_gc6_f := (gc6_f.resolve_right (by (clear hb hvs hsz gc2_m k4 gc6_k gc6_f; omega))) | have r_gc6_f := (gc6_f.resolve_left (by (clear hb hvs hsz gc2_m k4 gc6_k gc6_f; omega))) | skip
        first | (revert r_gc6_k; intro r_gc6_k) | have r_gc6_k := (gc6_k.resolve_right (by (clear hb hvs hsz gc2_m k4 gc6_k gc6_f; omega))) | have r_gc6_k := (gc6_k.resolve_left (by (clear hb hvs hsz gc2_m k4 gc6_k gc6_f; omega))) | skip
        first | (revert r_gc2_m; intro r_gc2_m) | have r_gc2_m := (gc2_m.resolve_right (by (clear hb hvs hsz gc2_m k4 gc6_k gc6_f; omega))) | have r_gc2_m := (gc2_m.resolve_left (by (clear hb hvs hsz gc2_m k4 gc6_k gc6_f; omega))) | skip
        first | (revert r_hsz; intro r_hsz) | have r_hsz := (hsz.resolve_right (by (clear hb hvs hsz gc2_m k4 gc6_k gc6_f; omega))) | have r_hsz := (hsz.resolve_left (by (clear hb hvs hsz gc2_m k4 gc6_k gc6_f; omega))) | skip
        first | (revert r_hvs; intro r_hvs) | have r_hvs := (hvs.resolve_right (by (clear hb hvs hsz gc2_m k4 gc6_k gc6_f; omega))) | have r_hvs := (hvs.resolve_left (by (clear hb hvs hsz gc2_m k4 gc6_k gc6_f; omega))) | skip
        refine g_aload_n dX11_values_28 rfl ?_
        refine x_g0_10 (n := (P 0 10).toNat) (⟨by decide, rfl⟩ : kx 0 0) ffX11_71 dX11_values_29 (br_0_10 hB) ?_
        refine x_g28_0 (n := (crX (P 0 10).toNat 0)) (bk_0_10 hB) ffX11_162 dX11_values_32 rfl ?_
        refine g_iload_n dX11_values_35 rfl ?_
        refine g_vI (av := [vI a1]) (o := (crX (P 0 10).toNat 0)) (st := []) (f_X3_sizeOf G P K (crX (P 0 10).toNat 0) a1 (ck_28_0 (bk_0_10 hB)) ⟨by (first | (clear hb hvs hsz gc2_m k4 gc6_k gc6_f; omega) | omega), by (first | (clear hb hvs hsz gc2_m k4 gc6_k gc6_f; omega) | omega)⟩ hB (by (first | (clear hb hvs hsz gc2_m k4 gc6_k gc6_f; omega) | (clear hb hvs hsz gc2_m k4 gc6_k; omega) | (clear hb hvs hsz gc2_m k4 gc6_f; omega) | (clear hb hvs hsz gc2_m gc6_k gc6_f; omega) | (clear hb hvs hsz k4 gc6_k gc6_f; omega) | (clear hb hvs gc2_m k4 gc6_k gc6_f; omega) | (clear hb hsz gc2_m k4 gc6_k gc6_f; omega) | (clear hvs hsz gc2_m k4 gc6_k gc6_f; omega) | (clear hb hvs hsz gc2_m k4; omega) | (clear hsz hvs hb; omega) | omega)) (iv1) _ (fun rc9 hc9 gc9_s => ⟨rc9, rfl, ?_⟩)) cf_X3_sizeOf t_941 rfl (show kx (crX (P 0 10).toNat 0) 29 from (ck_28_0 (bk_0_10 hB))).1 ((show kx (crX (P 0 10).toNat 0) 29 from (ck_28_0 (bk_0_10 hB))).sh rfl) rfl rfl (Nat.le_of_ble_eq_true rfl) (by decide) rfl dX11_values_36
        exact g_retI dX11_values_39 rfl (hQ rc9 ⟨by (first | (clear hb hvs hsz gc2_m k4 gc6_k gc6_f; omega) | omega), by (first | (clear hb hvs hsz gc2_m k4 gc6_k gc6_f; omega) | omega)⟩ (by (first | (clear hb hvs hsz gc2_m k4 gc6_k gc6_f; omega) | (clear hb hvs hsz gc2_m k4 gc6_k; omega) | (clear hb hvs hsz gc2_m k4 gc6_f; omega) | (clear hb hvs hsz gc2_m gc6_k gc6_f; omega) | (clear hb hvs hsz k4 gc6_k gc6_f; omega) | (clear hb hvs gc2_m k4 gc6_k gc6_f; omega) | (clear hb hsz gc2_m k4 gc6_k gc6_f; omega) | (clear hvs hsz gc2_m k4 gc6_k gc6_f; omega) | (clear hb hvs hsz gc2_m k4; omega) | (clear hsz hvs hb; omega) | omega)))
      · first | (revert r_gc6_f; intro r_gc6_f) | have r_gc6_f := (gc6_f.resolve_right (by (clear hb hvs hsz gc2_m k4 gc6_k gc6_f k8; omega))) | have r_gc6_f := (gc6_f.resolve_left (by (clear hb hvs hsz gc2_m k4 gc6_k gc6_f k8; omega))) | skip
        first | (revert r_gc6_k; intro r_gc6_k) | have r_gc6_k := (gc6_k.resolve_right (by (clear hb hvs hsz gc2_m k4 gc6_k gc6_f k8; omega))) | have r_gc6_k := (gc6_k.resolve_left (by (clear hb hvs hsz gc2_m k4 gc6_k gc6_f k8; omega))) | skip
        first | (revert r_gc2_m; intro r_gc2_m) | have r_gc2_m := (gc2_m.resolve_right (by (clear hb hvs hsz gc2_m k4 gc6_k gc6_f k8; omega))) | have r_gc2_m := (gc2_m.resolve_left (by (clear hb hvs hsz gc2_m k4 gc6_k gc6_f k8; omega))) | skip
        first | (revert r_hsz; intro r_hsz) | have r_hsz := (hsz.resolve_right (by (clear hb hvs hsz gc2_m k4 gc6_k gc6_f k8; omega))) | have r_hsz := (hsz.resolve_left (by (clear hb hvs hsz gc2_m k4 gc6_k gc6_f k8; omega))) | skip
        first | (revert r_hvs; intro r_hvs) | have r_hvs := (hvs.resolve_right (by (clear hb hvs hsz gc2_m k4 gc6_k gc6_f k8; omega))) | have r_hvs := (hvs.resolve_left (by (clear hb hvs hsz gc2_m k4 gc6_k gc6_f k8; omega))) | skip
        refine g_iconst dX11_values_26 ?_
        exact g_retI dX11_values_27 rfl (hQ (-1) (by decide) (by (first | (clear hb hvs hsz gc2_m k4 gc6_k gc6_f k8; omega) | (clear hb hvs hsz gc2_m k4 gc6_k gc6_f; omega) | (clear hb hvs hsz gc2_m k4 gc6_k k8; omega) | (clear hb hvs hsz gc2_m k4 gc6_f k8; omega) | (clear hb hvs hsz gc2_m gc6_k gc6_f k8; omega) | (clear hb hvs hsz k4 gc6_k gc6_f k8; omega) | (clear hb hvs gc2_m k4 gc6_k gc6_f k8; omega) | (clear hb hsz gc2_m k4 gc6_k gc6_f k8; omega) | (clear hvs hsz gc2_m k4 gc6_k gc6_f k8; omega) | (clear hb hvs hsz gc2_m k4 gc6_k; omega) | (clear gc2_m hsz hvs hb; omega) | omega)))
/-! What the class answers: X1_add_B10. -/
set_option maxRecDepth 100000 in
set_option maxHeartbeats 4000000 in
theorem f_X1_add_B10 (G : GT) (P : PH) (a1 : Int) (h_a1 : (-2147483648) ≤ a1 ∧ a1 ≤ 2147483647) (hB : BdX P) (Q : Option PV → PH → Prop) (hQ : ∀ (P1 : PH) (_ : BdX P1) (_ : FrX ([(3, 1)], [4]) P P1) (_ : (P 3 1 ≤ 1023 ∧ P1 3 1 = P 3 1 + 1) ∨ (1024 ≤ P 3 1 ∧ P1 3 1 = P 3 1)), Q none P1) : Ct WSX G 1 iX1_add [vR 3, vI a1] P Q := by
  refine Ct.of (by decide) (l0 := [(0, vR 3), (1, vI a1)]) rfl (Nat.le_of_ble_eq_true rfl) ?_
  refine g_aload_n dX1_add_0 rfl ?_
  refine x_g3_1 (z := (P 3 1)) (⟨by decide, rfl⟩ : kx 3 3) ffX1_21 dX1_add_1 rfl ?_
  have f1 := bx_3_1 (o := 3) hB (⟨by decide, rfl⟩ : kx 3 3)
  refine g_if_lt (tgt := 43) dX1_add_4 (by decide) ⟨by have q0 := bx_3_1 (o := 3) hB (⟨by decide, rfl⟩ : kx 3 3); omega, by have q0 := bx_3_1 (o := 3) hB (⟨by decide, rfl⟩ : kx 3 3); omega⟩ (fun k2 => by exfalso; have q0 := bx_3_1 (o := 3) hB (⟨by decide, rfl⟩ : kx 3 3); omega) (fun k2 => ?_)
  refine g_aload_n dX1_add_7 rfl ?_
  refine x_g3_1 (z := (P 3 1)) (⟨by decide, rfl⟩ : kx 3 3) ffX1_21 dX1_add_8 rfl ?_
  refine g_aload_n dX1_add_11 rfl ?_
  refine x_g3_0 (n := 4) (⟨by decide, rfl⟩ : kx 3 3) ffX1_15 dX1_add_12 rfl ?_
  refine x_n4 (⟨by decide, rfl⟩ : kx 4 4) dX1_add_15 ?_
  refine g_icmp_ge (tgt := 43) dX1_add_16 (by decide) ⟨by have q0 := bx_3_1 (o := 3) hB (⟨by decide, rfl⟩ : kx 3 3); (first | (clear k2; omega) | omega), by have q0 := bx_3_1 (o := 3) hB (⟨by decide, rfl⟩ : kx 3 3); (first | (clear k2; omega) | omega)⟩ (by decide) (fun k3 => ?_) (fun k3 => ?_)
  · exact g_retV dX1_add_43 rfl (hQ _ hB FrX.rf (by have q0 := bx_3_1 (o := 3) hB (⟨by decide, rfl⟩ : kx 3 3); (first | (clear k2 k3; omega) | (clear k2; omega) | (clear k3; omega) | omega)))
  · refine g_aload_n dX1_add_19 rfl ?_
    refine x_g3_0 (n := 4) (⟨by decide, rfl⟩ : kx 3 3) ffX1_15 dX1_add_20 rfl ?_
    refine g_aload_n dX1_add_23 rfl ?_
    refine x_g3_1 (z := (P 3 1)) (⟨by decide, rfl⟩ : kx 3 3) ffX1_21 dX1_add_24 rfl ?_
    refine g_iload_n dX1_add_27 rfl ?_
    refine g_sipush dX1_add_28 (by decide) ?_
    refine g_iand dX1_add_31 ?_
    refine g_nm (fun b4 e_b4 => ?_)
    have h_b4 := iand_r (x := a1) (y := 255) ⟨by (first | (clear k2 k3; omega) | omega), by (first | (clear k2 k3; omega) | omega)⟩
    rw [← e_b4] at h_b4
    refine x_s4 (⟨by decide, rfl⟩ : kx 4 4) dX1_add_32 ⟨by have q0 := bx_3_1 (o := 3) hB (⟨by decide, rfl⟩ : kx 3 3); (first | (clear k2 k3; omega) | omega), by have q0 := bx_3_1 (o := 3) hB (⟨by decide, rfl⟩ : kx 3 3); (first | (clear k2 k3; omega) | omega)⟩ ?_
    have hB5 := by_4 (z := b4) (k := (P 3 1)) hB (⟨by decide, rfl⟩ : kx 4 4) ⟨by (first | (clear k2 k3; omega) | omega), by (first | (clear k2 k3; omega) | omega)⟩
    refine g_aload_n dX1_add_33 rfl ?_
    refine g_dup dX1_add_34 rfl ?_
    refine x_g3_1 (z := (P 3 1)) (⟨by decide, rfl⟩ : kx 3 3) ffX1_21 dX1_add_35 ((up_o (kx.ne (⟨by decide, rfl⟩ : kx 3 3) (⟨by decide, rfl⟩ : kx 4 4) rfl)).trans rfl) ?_
    refine g_iconst dX1_add_38 ?_
    refine g_iadd dX1_add_39 ?_
    refine x_p3_1 (⟨by decide, rfl⟩ : kx 3 3) pfX1_21 dX1_add_40 ?_
    have hB6 := by_3_1 (z := ((P 3 1) + 1)) hB5 (⟨by decide, rfl⟩ : kx 3 3) ⟨by have q0 := bx_3_1 (o := 3) hB (⟨by decide, rfl⟩ : kx 3 3); (first | (clear k2 k3; omega) | omega), by have q0 := bx_3_1 (o := 3) hB (⟨by decide, rfl⟩ : kx 3 3); (first | (clear k2 k3; omega) | omega)⟩
    exact g_retV dX1_add_43 rfl (hQ _ hB6 (FrX.s (FrX.s FrX.rf (⟨by decide, rfl⟩ : kx 4 4) rfl) (⟨by decide, rfl⟩ : kx 3 3) rfl) (by have q0 := (up_same : (up (up P 4 (P 3 1) b4) 3 1 ((P 3 1) + 1)) 3 1 = ((P 3 1) + 1)); have q1 := bx_3_1 (o := 3) hB (⟨by decide, rfl⟩ : kx 3 3); (first | (clear k2 k3; omega) | (clear k2; omega) | (clear k3; omega) | omega)))
/-! What the class answers: X11_image. -/
set_option maxRecDepth 100000 in
set_option maxHeartbeats 4000000 in
theorem f_X11_image (G : GT) (P : PH) (A : PH) (hB : BdX P) (z0 : AX A P) (Q : Option PV → PH → Prop) (hQ : ∀ (r : Int) (_ : (-2147483648) ≤ r ∧ r ≤ 2147483647) (P1 : PH) (_ : BdX P1) (_ : FrX ([(3, 1)], [4]) P P1) (_ : r = A 0 0 + 4), Q (some (vI r)) P1) : Ct WSX G 2 iX11_image [vR 0] P Q := by
  refine Ct.of (by decide) (l0 := [(0, vR 0)]) rfl (Nat.le_of_ble_eq_true rfl) ?_
  have hb := z0.b
  have q14 := bx_14_1 (o := 14) hB ⟨by decide, rfl⟩
  refine g_aload_n dX11_image_0 rfl ?_
  refine x_g0_1 (n := 3) (⟨by decide, rfl⟩ : kx 0 0) ffX11_18 dX11_image_1 rfl ?_
  refine g_iconst dX11_image_4 ?_
  refine x_p3_1 (⟨by decide, rfl⟩ : kx 3 3) pfX11_100 dX11_image_5 ?_
  have hB1 := by_3_1 (z := 0) hB (⟨by decide, rfl⟩ : kx 3 3) (by decide)
  refine g_aload_n dX11_image_8 rfl ?_
  refine x_g0_1 (n := 3) (⟨by decide, rfl⟩ : kx 0 0) ffX11_18 dX11_image_9 rfl ?_
  refine g_aload_n dX11_image_12 rfl ?_
  refine x_g0_5 (n := 14) (⟨by decide, rfl⟩ : kx 0 0) ffX11_43 dX11_image_13 rfl ?_
  refine x_g14_1 (z := (P 14 1)) (⟨by decide, rfl⟩ : kx 14 14) ffX11_176 dX11_image_16 ((up_o (kx.ne (⟨by decide, rfl⟩ : kx 14 14) (⟨by decide, rfl⟩ : kx 3 3) rfl)).trans rfl) ?_
  have f2 := bx_14_1 (o := 14) hB (⟨by decide, rfl⟩ : kx 14 14)
  refine g_vV (av := [vI (P 14 1)]) (o := 3) (st := []) (f_X1_add_B10 G (up P 3 1 0) (P 14 1) ⟨by have q0 := bx_14_1 (o := 14) hB (⟨by decide, rfl⟩ : kx 14 14); (first | (clear hb; omega) | omega), by have q0 := bx_14_1 (o := 14) hB (⟨by decide, rfl⟩ : kx 14 14); (first | (clear hb; omega) | omega)⟩ hB1  _ (fun Pc3 hBc3 hFc3 gc3_t => ⟨rfl, ?_⟩)) cf_X1_add t_1033 rfl (show kx 3 3 from (⟨by decide, rfl⟩ : kx 3 3)).1 ((show kx 3 3 from (⟨by decide, rfl⟩ : kx 3 3)).sh rfl) rfl rfl (Nat.le_of_ble_eq_true rfl) (by decide) rfl dX11_image_19
  have zq4 : (up P 3 1 0) 3 1 = 0 := up_same
  refine g_iconst dX11_image_22 ?_
  refine g_istore_n (l1 := [(1, vI 0), (0, vR 0)]) dX11_image_23 (by decide) rfl ?_
  have L24_4 : ∀ (n24_4 : Nat) (x24_1_4 : Int) (h_x24_1_4 : 0 ≤ x24_1_4 ∧ x24_1_4 ≤ 12) (H24_4 : PH) (hB24_4 : BdX H24_4) (hE24_4 : FrX ([(3, 1)], [4]) Pc3 H24_4) (i24_0_4 : H24_4 3 1 = 1 + x24_1_4) (i24_1_4 : x24_1_4 ≤ A 0 0) (hm24_4 : ((13 - x24_1_4) : Int).toNat < n24_4), Go WSX G 2 iX11_image 24 [(0, vR 0), (1, vI x24_1_4)] [] H24_4 Q := by
    intro n24_4
    induction n24_4 with
    | zero => intro x24_1_4 h_x24_1_4 H24_4 hB24_4 hE24_4 i24_0_4 i24_1_4 hm24_4; exact absurd hm24_4 (Nat.not_lt_zero _)
    | succ n24_4 ih24_4 =>
    intro x24_1_4 h_x24_1_4 H24_4 hB24_4 hE24_4 i24_0_4 i24_1_4 hm24_4
    refine g_iload_n dX11_image_24 rfl ?_
    refine g_aload_n dX11_image_25 rfl ?_
    refine x_g0_5 (n := 14) (⟨by decide, rfl⟩ : kx 0 0) ffX11_43 dX11_image_26 rfl ?_
    refine x_g14_1 (z := (P 14 1)) (⟨by decide, rfl⟩ : kx 14 14) ffX11_176 dX11_image_29 ((FrX.g hE24_4 (⟨by decide, rfl⟩ : kx 14 14) rfl).trans ((FrX.g hFc3 (⟨by decide, rfl⟩ : kx 14 14) rfl).trans ((up_o (kx.ne (⟨by decide, rfl⟩ : kx 14 14) (⟨by decide, rfl⟩ : kx 3 3) rfl)).trans rfl))) ?_
    refine g_icmp_ge (tgt := 57) dX11_image_32 (by decide) ⟨by (first | (clear hb gc3_t; omega) | omega), by (first | (clear hb gc3_t; omega) | omega)⟩ ⟨by have q0 := bx_14_1 (o := 14) hB (⟨by decide, rfl⟩ : kx 14 14); (first | (clear hb gc3_t; omega) | omega), by have q0 := bx_14_1 (o := 14) hB (⟨by decide, rfl⟩ : kx 14 14); (first | (clear hb gc3_t; omega) | omega)⟩ (fun k96 => ?_) (fun k96 => ?_)
    · first | (revert r_gc3_t; intro r_gc3_t) | have r_gc3_t := (gc3_t.resolve_right (by (clear hb gc3_t k96; omega))) | have r_gc3_t := (gc3_t.resolve_left (by (clear hb gc3_t k96; omega))) | skip
      refine g_aload_n dX11_image_57 rfl ?_
      refine x_g0_1 (n := 3) (⟨by decide, rfl⟩ : kx 0 0) ffX11_18 dX11_image_58 rfl ?_
      refine g_aload_n dX11_image_61 rfl ?_
      refine x_g0_5 (n := 14) (⟨by decide, rfl⟩ : kx 0 0) ffX11_43 dX11_image_62 rfl ?_
      refine x_g14_2 (z := (P 14 2)) (⟨by decide, rfl⟩ : kx 14 14) ffX11_177 dX11_image_65 ((FrX.g hE24_4 (⟨by decide, rfl⟩ : kx 14 14) rfl).trans ((FrX.g hFc3 (⟨by decide, rfl⟩ : kx 14 14) rfl).trans ((up_o (kx.ne (⟨by decide, rfl⟩ : kx 14 14) (⟨by decide, rfl⟩ : kx 3 3) rfl)).trans rfl))) ?_
      have f97 := bx_14_2 (o := 14) hB (⟨by decide, rfl⟩ : kx 14 14)
      refine g_vV (av := [vI (P 14 2)]) (o := 3) (st := []) (f_X1_add_B10 G H24_4 (P 14 2) ⟨by have q0 := bx_14_2 (o := 14) hB (⟨by decide, rfl⟩ : kx 14 14); (first | (clear hb gc3_t k96; omega) | omega), by have q0 := bx_14_2 (o := 14) hB (⟨by decide, rfl⟩ : kx 14 14); (first | (clear hb gc3_t k96; omega) | omega)⟩ hB24_4  _ (fun Pc98 hBc98 hFc98 gc98_t => ⟨rfl, ?_⟩)) cf_X1_add t_1033 rfl (show kx 3 3 from (⟨by decide, rfl⟩ : kx 3 3)).1 ((show kx 3 3 from (⟨by decide, rfl⟩ : kx 3 3)).sh rfl) rfl rfl (Nat.le_of_ble_eq_true rfl) (by decide) rfl dX11_image_68
      refine g_aload_n dX11_image_71 rfl ?_
      refine x_g0_1 (n := 3) (⟨by decide, rfl⟩ : kx 0 0) ffX11_18 dX11_image_72 rfl ?_
      refine g_aload_n dX11_image_75 rfl ?_
      refine x_g0_5 (n := 14) (⟨by decide, rfl⟩ : kx 0 0) ffX11_43 dX11_image_76 rfl ?_
      refine x_g14_3 (z := (P 14 3)) (⟨by decide, rfl⟩ : kx 14 14) ffX11_180 dX11_image_79 ((FrX.g hFc98 (⟨by decide, rfl⟩ : kx 14 14) rfl).trans ((FrX.g hE24_4 (⟨by decide, rfl⟩ : kx 14 14) rfl).trans ((FrX.g hFc3 (⟨by decide, rfl⟩ : kx 14 14) rfl).trans ((up_o (kx.ne (⟨by decide, rfl⟩ : kx 14 14) (⟨by decide, rfl⟩ : kx 3 3) rfl)).trans rfl)))) ?_
      have f99 := bx_14_3 (o := 14) hB (⟨by decide, rfl⟩ : kx 14 14)
      refine g_vV (av := [vI (P 14 3)]) (o := 3) (st := []) (f_X1_add_B10 G Pc98 (P 14 3) ⟨by have q0 := bx_14_3 (o := 14) hB (⟨by decide, rfl⟩ : kx 14 14); (first | (clear hb gc3_t k96 gc98_t; omega) | omega), by have q0 := bx_14_3 (o := 14) hB (⟨by decide, rfl⟩ : kx 14 14); (first | (clear hb gc3_t k96 gc98_t; omega) | omega)⟩ hBc98  _ (fun Pc100 hBc100 hFc100 gc100_t => ⟨rfl, ?_⟩)) cf_X1_add t_1033 rfl (show kx 3 3 from (⟨by decide, rfl⟩ : kx 3 3)).1 ((show kx 3 3 from (⟨by decide, rfl⟩ : kx 3 3)).sh rfl) rfl rfl (Nat.le_of_ble_eq_true rfl) (by decide) rfl dX11_image_82
      refine g_aload_n dX11_image_85 rfl ?_
      refine x_g0_1 (n := 3) (⟨by decide, rfl⟩ : kx 0 0) ffX11_18 dX11_image_86 rfl ?_
      refine g_aload_n dX11_image_89 rfl ?_
      refine x_g0_1 (n := 3) (⟨by decide, rfl⟩ : kx 0 0) ffX11_18 dX11_image_90 rfl ?_
      refine g_aload_n dX11_image_93 rfl ?_
      refine x_g0_1 (n := 3) (⟨by decide, rfl⟩ : kx 0 0) ffX11_18 dX11_image_94 rfl ?_
      refine x_g3_1 (z := (Pc100 3 1)) (⟨by decide, rfl⟩ : kx 3 3) ffX11_100 dX11_image_97 rfl ?_
      have f101 := bx_3_1 (o := 3) hBc100 (⟨by decide, rfl⟩ : kx 3 3)
      refine g_vI (av := [vI (Pc100 3 1)]) (o := 3) (st := [vR 3]) (m_X1_checkByte_B10 G Pc100 (Pc100 3 1) ⟨by have q0 := bx_3_1 (o := 3) hBc100 (⟨by decide, rfl⟩ : kx 3 3); (first | (clear hb gc3_t k96 gc98_t gc100_t; omega) | omega), by have q0 := bx_3_1 (o := 3) hBc100 (⟨by decide, rfl⟩ : kx 3 3); (first | (clear hb gc3_t k96 gc98_t gc100_t; omega) | omega)⟩ hBc100  _ (fun rc102 hc102 => ⟨rc102, rfl, ?_⟩)) cf_X1_checkByte t_1335 rfl (show kx 3 3 from (⟨by decide, rfl⟩ : kx 3 3)).1 ((show kx 3 3 from (⟨by decide, rfl⟩ : kx 3 3)).sh rfl) rfl rfl (Nat.le_of_ble_eq_true rfl) (by decide) rfl dX11_image_100
      refine g_vV (av := [vI rc102]) (o := 3) (st := []) (f_X1_add_B10 G Pc100 rc102 ⟨by (first | (clear hb gc3_t k96 gc98_t gc100_t; omega) | omega), by (first | (clear hb gc3_t k96 gc98_t gc100_t; omega) | omega)⟩ hBc100  _ (fun Pc103 hBc103 hFc103 gc103_t => ⟨rfl, ?_⟩)) cf_X1_add t_1033 rfl (show kx 3 3 from (⟨by decide, rfl⟩ : kx 3 3)).1 ((show kx 3 3 from (⟨by decide, rfl⟩ : kx 3 3)).sh rfl) rfl rfl (Nat.le_of_ble_eq_true rfl) (by decide) rfl dX11_image_103
      refine g_aload_n dX11_image_106 rfl ?_
      refine x_g0_1 (n := 3) (⟨by decide, rfl⟩ : kx 0 0) ffX11_18 dX11_image_107 rfl ?_
      refine x_g3_1 (z := (Pc103 3 1)) (⟨by decide, rfl⟩ : kx 3 3) ffX11_100 dX11_image_110 rfl ?_
      exact g_retI dX11_image_113 rfl (hQ (Pc103 3 1) ⟨by have q0 := bx_3_1 (o := 3) hBc103 (⟨by decide, rfl⟩ : kx 3 3); (first | (clear hb gc3_t k96 gc98_t gc100_t gc103_t; omega) | omega), by have q0 := bx_3_1 (o := 3) hBc103 (⟨by decide, rfl⟩ : kx 3 3); (first | (clear hb gc3_t k96 gc98_t gc100_t gc103_t; omega) | omega)⟩ _ hBc103 (FrX.c (FrX.c (FrX.c (FrX.c (FrX.c (FrX.s FrX.rf (⟨by decide, rfl⟩ : kx 3 3) rfl) hFc3 rfl) hE24_4 rfl) hFc98 rfl) hFc100 rfl) hFc103 rfl) (by have q0 := bx_3_1 (o := 3) hBc103 (⟨by decide, rfl⟩ : kx 3 3); (first | (clear hb gc3_t k96 gc98_t gc100_t gc103_t; omega) | (clear hb gc3_t k96 gc98_t gc100_t; omega) | (clear hb gc3_t k96 gc98_t gc103_t; omega) | (clear hb gc3_t k96 gc100_t gc103_t; omega) | (clear hb gc3_t gc98_t gc100_t gc103_t; omega) | (clear hb k96 gc98_t gc100_t gc103_t; omega) | (clear gc3_t k96 gc98_t gc100_t gc103_t; omega) | (clear hb gc3_t k96 gc98_t; omega) | (clear gc3_t hb; omega) | omega)))
    · first | (revert r_gc3_t; intro r_gc3_t) | have r_gc3_t := (gc3_t.resolve_right (by (clear hb gc3_t k96; omega))) | have r_gc3_t := (gc3_t.resolve_left (by (clear hb gc3_t k96; omega))) | skip
      refine g_aload_n dX11_image_35 rfl ?_
      refine x_g0_1 (n := 3) (⟨by decide, rfl⟩ : kx 0 0) ffX11_18 dX11_image_36 rfl ?_
      refine g_aload_n dX11_image_39 rfl ?_
      refine x_g0_5 (n := 14) (⟨by decide, rfl⟩ : kx 0 0) ffX11_43 dX11_image_40 rfl ?_
      refine x_g14_0 (n := 15) (⟨by decide, rfl⟩ : kx 14 14) ffX11_417 dX11_image_43 rfl ?_
      refine g_iload_n dX11_image_46 rfl ?_
      refine x_l15 (z := (P 15 x24_1_4)) (⟨by decide, rfl⟩ : kx 15 15) dX11_image_47 ⟨by (first | (clear hb gc3_t k96; omega) | omega), by (first | (clear hb gc3_t k96; omega) | omega)⟩ ((FrX.g hE24_4 (⟨by decide, rfl⟩ : kx 15 15) rfl).trans ((FrX.g hFc3 (⟨by decide, rfl⟩ : kx 15 15) rfl).trans ((up_o (kx.ne (⟨by decide, rfl⟩ : kx 15 15) (⟨by decide, rfl⟩ : kx 3 3) rfl)).trans rfl))) ?_
      have f104 := bx_15 (o := 15) (k := x24_1_4) hB (⟨by decide, rfl⟩ : kx 15 15)
      refine g_vV (av := [vI (P 15 x24_1_4)]) (o := 3) (st := []) (f_X1_add_B10 G H24_4 (P 15 x24_1_4) ⟨by have q0 := bx_15 (o := 15) (k := x24_1_4) hB (⟨by decide, rfl⟩ : kx 15 15); (first | (clear hb gc3_t k96; omega) | omega), by have q0 := bx_15 (o := 15) (k := x24_1_4) hB (⟨by decide, rfl⟩ : kx 15 15); (first | (clear hb gc3_t k96; omega) | omega)⟩ hB24_4  _ (fun Pc105 hBc105 hFc105 gc105_t => ⟨rfl, ?_⟩)) cf_X1_add t_1033 rfl (show kx 3 3 from (⟨by decide, rfl⟩ : kx 3 3)).1 ((show kx 3 3 from (⟨by decide, rfl⟩ : kx 3 3)).sh rfl) rfl rfl (Nat.le_of_ble_eq_true rfl) (by decide) rfl dX11_image_48
      refine g_iinc (l1 := [(1, vI (x24_1_4 + 1)), (0, vR 0)]) dX11_image_51 rfl (by decide) rfl ?_
      refine g_goto (tgt := 24) dX11_image_54 (by decide) ?_
      refine g_forget (l1 := [(0, vR 0), (1, vI (x24_1_4 + 1))]) (by intro q hq; simp only [List.mem_cons, List.not_mem_nil, or_false] at hq ⊢; rcases hq with rfl | rfl <;> simp) ?_
      exact ih24_4 (x24_1_4 + 1) ⟨by (first | (clear hb gc3_t k96 gc105_t; omega) | omega), by (first | (clear hb gc3_t k96 gc105_t; omega) | omega)⟩ _ hBc105 (FrX.c (FrX.c FrX.rf hE24_4 rfl) hFc105 rfl) (by have q0 := bx_3_1 (o := 3) hBc105 (⟨by decide, rfl⟩ : kx 3 3); (first | (clear hb gc3_t k96 gc105_t; omega) | (clear hb gc3_t k96; omega) | (clear hb gc3_t gc105_t; omega) | (clear hb k96 gc105_t; omega) | (clear gc3_t k96 gc105_t; omega) | (clear hb gc3_t; omega) | omega)) (by (first | (clear hb gc3_t k96 gc105_t; omega) | (clear hb gc3_t k96; omega) | (clear hb gc3_t gc105_t; omega) | (clear hb k96 gc105_t; omega) | (clear gc3_t k96 gc105_t; omega) | (clear hb gc3_t; omega) | omega)) (by (first | (clear hb gc3_t k96 gc105_t; omega) | (clear hb gc3_t k96; omega) | (clear hb gc3_t gc105_t; omega) | (clear hb k96 gc105_t; omega) | (clear gc3_t k96 gc105_t; omega) | (clear hb gc3_t; omega) | omega))
  refine g_forget (l1 := [(0, vR 0), (1, vI 0)]) (by intro q hq; simp only [List.mem_cons, List.not_mem_nil, or_false] at hq ⊢; rcases hq with rfl | rfl <;> simp) ?_
  exact L24_4 _ 0 (by decide) _ hBc3 FrX.rf (by have q0 := bx_3_1 (o := 3) hBc3 (⟨by decide, rfl⟩ : kx 3 3); (first | (clear hb gc3_t; omega) | (clear hb; omega) | (clear gc3_t; omega) | omega)) (by (first | (clear hb gc3_t; omega) | (clear hb; omega) | (clear gc3_t; omega) | omega)) (Nat.lt_succ_self _)
/-! What the class answers: X1_byteAt_B16. -/
set_option maxRecDepth 100000 in
set_option maxHeartbeats 4000000 in
theorem f_X1_byteAt_B16 (G : GT) (P : PH) (a1 : Int) (h_a1 : (-2147483648) ≤ a1 ∧ a1 ≤ 2147483647) (hB : BdX P) (Q : Option PV → PH → Prop) (hQ : ∀ (r : Int) (_ : (-1) ≤ r ∧ r ≤ 255) (_ : (0 ≤ a1 ∧ a1 < P 1 1 ∧ r = P 2 a1) ∨ ((a1 < 0 ∨ P 1 1 ≤ a1) ∧ r = -1)), Q (some (vI r)) P) : Ct WSX G 1 iX1_byteAt [vR 1, vI a1] P Q := by
  refine Ct.of (by decide) (l0 := [(0, vR 1), (1, vI a1)]) rfl (Nat.le_of_ble_eq_true rfl) ?_
  have q11 := bx_1_1 (o := 1) hB ⟨by decide, rfl⟩
  refine g_iload_n dX1_byteAt_0 rfl ?_
  refine g_if_lt (tgt := 30) dX1_byteAt_1 (by decide) ⟨by omega, by omega⟩ (fun k1 => ?_) (fun k1 => ?_)
  · refine g_iconst dX1_byteAt_30 ?_
    exact g_retI dX1_byteAt_31 rfl (hQ (-1) (by decide) (by have q0 := bx_1_1 (o := 1) hB (⟨by decide, rfl⟩ : kx 1 1); have q1 := bx_2 (o := 2) (k := a1) hB (⟨by decide, rfl⟩ : kx 2 2); (first | (clear k1; omega) | omega)))
  · refine g_iload_n dX1_byteAt_4 rfl ?_
    refine g_aload_n dX1_byteAt_5 rfl ?_
    refine x_g1_1 (z := (P 1 1)) (⟨by decide, rfl⟩ : kx 1 1) ffX1_21 dX1_byteAt_6 rfl ?_
    have f2 := bx_1_1 (o := 1) hB (⟨by decide, rfl⟩ : kx 1 1)
    refine g_icmp_ge (tgt := 30) dX1_byteAt_9 (by decide) ⟨by (first | (clear k1; omega) | omega), by (first | (clear k1; omega) | omega)⟩ ⟨by have q0 := bx_1_1 (o := 1) hB (⟨by decide, rfl⟩ : kx 1 1); (first | (clear k1; omega) | omega), by have q0 := bx_1_1 (o := 1) hB (⟨by decide, rfl⟩ : kx 1 1); (first | (clear k1; omega) | omega)⟩ (fun k3 => ?_) (fun k3 => ?_)
    · refine g_iconst dX1_byteAt_30 ?_
      exact g_retI dX1_byteAt_31 rfl (hQ (-1) (by decide) (by have q0 := bx_1_1 (o := 1) hB (⟨by decide, rfl⟩ : kx 1 1); have q1 := bx_2 (o := 2) (k := a1) hB (⟨by decide, rfl⟩ : kx 2 2); (first | (clear k1 k3; omega) | (clear k1; omega) | (clear k3; omega) | omega)))
    · refine g_iload_n dX1_byteAt_12 rfl ?_
      refine g_aload_n dX1_byteAt_13 rfl ?_
      refine x_g1_0 (n := 2) (⟨by decide, rfl⟩ : kx 1 1) ffX1_15 dX1_byteAt_14 rfl ?_
      refine x_n2 (⟨by decide, rfl⟩ : kx 2 2) dX1_byteAt_17 ?_
      refine g_icmp_ge (tgt := 30) dX1_byteAt_18 (by decide) ⟨by (first | (clear k1 k3; omega) | omega), by (first | (clear k1 k3; omega) | omega)⟩ (by decide) (fun k4 => by exfalso; (first | (clear k1 k3; omega) | (clear k1; omega) | (clear k3; omega) | omega)) (fun k4 => ?_)
      refine g_aload_n dX1_byteAt_21 rfl ?_
      refine x_g1_0 (n := 2) (⟨by decide, rfl⟩ : kx 1 1) ffX1_15 dX1_byteAt_22 rfl ?_
      refine g_iload_n dX1_byteAt_25 rfl ?_
      refine x_l2 (z := (P 2 a1)) (⟨by decide, rfl⟩ : kx 2 2) dX1_byteAt_26 ⟨by (first | (clear k1 k3 k4; omega) | omega), by (first | (clear k1 k3 k4; omega) | omega)⟩ rfl ?_
      refine g_goto (tgt := 31) dX1_byteAt_27 (by decide) ?_
      exact g_retI dX1_byteAt_31 rfl (hQ (P 2 a1) ⟨by have q0 := bx_2 (o := 2) (k := a1) hB (⟨by decide, rfl⟩ : kx 2 2); (first | (clear k1 k3 k4; omega) | omega), by have q0 := bx_2 (o := 2) (k := a1) hB (⟨by decide, rfl⟩ : kx 2 2); (first | (clear k1 k3 k4; omega) | omega)⟩ (by have q0 := bx_2 (o := 2) (k := a1) hB (⟨by decide, rfl⟩ : kx 2 2); have q1 := bx_1_1 (o := 1) hB (⟨by decide, rfl⟩ : kx 1 1); (first | (clear k1 k3 k4; omega) | (clear k1 k3; omega) | (clear k1 k4; omega) | (clear k3 k4; omega) | (clear k1; omega) | omega)))
