/-! What the class answers: X11_letterOf. -/
set_option maxRecDepth 100000 in
set_option maxHeartbeats 4000000 in
theorem f_X11_letterOf (G : GT) (P : PH) (a1 : Int) (a2 : Int) (h_a1 : (-2147483648) ≤ a1 ∧ a1 ≤ 2147483647) (h_a2 : (-2147483648) ≤ a2 ∧ a2 ≤ 2147483647) (hB : BdX P) (p_n : 0 ≤ a1) (p_k : 0 ≤ a2 ∧ a2 ≤ 5) (Q : Option PV → PH → Prop) (hQ : ∀ (r : Int) (_ : (-2147483648) ≤ r ∧ r ≤ 2147483647) (_ : r = lt a1 a2), Q (some (vI r)) P) : Ct WSX G 1 iX11_letterOf [vI a1, vI a2] P Q := by
  refine Ct.of (by decide) (l0 := [(0, vI a1), (1, vI a2)]) rfl (Nat.le_of_ble_eq_true rfl) ?_
  refine g_iload_n dX11_letterOf_0 rfl ?_
  refine g_istore_n (l1 := [(2, vI a1), (0, vI a1), (1, vI a2)]) dX11_letterOf_1 (by decide) rfl ?_
  refine g_iconst dX11_letterOf_2 ?_
  refine g_istore_n (l1 := [(3, vI 5), (2, vI a1), (0, vI a1), (1, vI a2)]) dX11_letterOf_3 (by decide) rfl ?_
  have L4_0 : ∀ (n4_0 : Nat) (x4_3_0 : Int) (h_x4_3_0 : (-2147483648) ≤ x4_3_0 ∧ x4_3_0 ≤ 5) (x4_2_0 : Int) (h_x4_2_0 : 0 ≤ x4_2_0 ∧ x4_2_0 ≤ 2147483647) (i4_0_0 : x4_2_0 = lr a1 (5 - x4_3_0).toNat) (i4_1_0 : a2 ≤ x4_3_0) (hm4_0 : ((x4_3_0 - (-2147483649)) : Int).toNat < n4_0), Go WSX G 1 iX11_letterOf 4 [(1, vI a2), (2, vI x4_2_0), (3, vI x4_3_0)] [] P Q := by
    intro n4_0
    induction n4_0 with
    | zero => intro x4_3_0 h_x4_3_0 x4_2_0 h_x4_2_0 i4_0_0 i4_1_0 hm4_0; exact absurd hm4_0 (Nat.not_lt_zero _)
    | succ n4_0 ih4_0 =>
    intro x4_3_0 h_x4_3_0 x4_2_0 h_x4_2_0 i4_0_0 i4_1_0 hm4_0
    refine g_iload_n dX11_letterOf_4 rfl ?_
    refine g_iload_n dX11_letterOf_5 rfl ?_
    refine g_icmp_le (tgt := 20) dX11_letterOf_6 (by decide) ⟨by omega, by omega⟩ ⟨by omega, by omega⟩ (fun k35 => ?_) (fun k35 => ?_)
    · have hq9 := (lr_b (v := a1) p_n (5 - x4_3_0).toNat)
      have hk9 : x4_3_0 = a2 := by omega
      refine g_iload_n dX11_letterOf_20 rfl ?_
      refine g_bipush dX11_letterOf_21 (by decide) ?_
      refine g_irem dX11_letterOf_23 ⟨(by decide), by decide⟩ ?_
      refine g_nm (fun b36 e_b36 => ?_)
      have h_b36 := irem_b (x := x4_2_0) (y := 27) ⟨by omega, by omega⟩ ⟨by omega, by omega⟩
      rw [← e_b36] at h_b36
      exact g_retI dX11_letterOf_24 rfl (hQ b36 ⟨by omega, by omega⟩ (by unfold lt; have q := i4_0_0; rw [hk9] at q; rw [e_b36, irem_p ⟨by omega, by omega⟩ ⟨by decide, by decide⟩, q]))
    · have hq9 := (lr_b (v := a1) p_n (5 - x4_3_0).toNat)
      refine g_iload_n dX11_letterOf_9 rfl ?_
      refine g_bipush dX11_letterOf_10 (by decide) ?_
      refine g_idiv dX11_letterOf_12 ⟨(by decide), by decide⟩ ?_
      refine g_nm (fun b37 e_b37 => ?_)
      have h_b37 := idiv_p (x := x4_2_0) (y := 27) ⟨by omega, by omega⟩ ⟨by omega, by omega⟩
      rw [← e_b37] at h_b37
      refine g_istore_n (l1 := [(2, vI b37), (1, vI a2), (3, vI x4_3_0)]) dX11_letterOf_13 (by decide) rfl ?_
      refine g_iinc (l1 := [(3, vI (x4_3_0 + (-1))), (2, vI b37), (1, vI a2)]) dX11_letterOf_14 rfl (by decide) rfl ?_
      have hnx9 : b37 = lr a1 (5 - (x4_3_0 + (-1))).toNat := by
        obtain ⟨m9, hm9⟩ : ∃ m9 : Nat, (5 - (x4_3_0 + (-1))).toNat = m9 + 1 := ⟨(5 - (x4_3_0 + (-1))).toNat - 1, by omega⟩
        rw [hm9]
        show _ = lr a1 m9 / 27
        have q := i4_0_0
        rw [show m9 = (5 - ((x4_3_0 + (-1)) + 1)).toNat by omega] 
        rw [show ∀ z : Int, 5 - (z + -1 + 1) = 5 - z from fun z => by omega]
        omega
      refine g_goto (tgt := 4) dX11_letterOf_17 (by decide) ?_
      refine g_forget (l1 := [(1, vI a2), (2, vI b37), (3, vI (x4_3_0 + (-1)))]) (by intro q hq; simp only [List.mem_cons, List.not_mem_nil, or_false] at hq ⊢; rcases hq with rfl | rfl | rfl <;> simp) ?_
      exact ih4_0 (x4_3_0 + (-1)) ⟨by omega, by omega⟩ b37 ⟨by omega, by omega⟩ (by first | exact hnx9 | rfl) (by omega) (by omega)
  refine g_forget (l1 := [(1, vI a2), (2, vI a1), (3, vI 5)]) (by intro q hq; simp only [List.mem_cons, List.not_mem_nil, or_false] at hq ⊢; rcases hq with rfl | rfl | rfl <;> simp) ?_
  exact L4_0 _ 5 (by decide) a1 ⟨by omega, by omega⟩ (by first | exact hnx9 | rfl) (by omega) (Nat.lt_succ_self _)
/-! What the class answers: X11_matched. -/
set_option maxRecDepth 100000 in
set_option maxHeartbeats 4000000 in
theorem f_X11_matched (G : GT) (P : PH) (K : PH) (M : PH) (hB : BdX P) (z0 : XTB K M P) (Q : Option PV → PH → Prop) (hQ : ∀ (r : Int) (_ : 0 ≤ r ∧ r ≤ 1) (_ : (r = 1 ∧ 0 < M 0 0) ∨ (r = 0 ∧ M 0 0 ≤ 0)), Q (some (vI r)) P) : Ct WSX G 1 iX11_matched [vR 0] P Q := by
  refine Ct.of (by decide) (l0 := [(0, vR 0)]) rfl (Nat.le_of_ble_eq_true rfl) ?_
  have hb := z0.2.b
  refine g_aload_n dX11_matched_0 rfl ?_
  refine x_g0_10 (n := (P 0 10).toNat) (⟨by decide, rfl⟩ : kx 0 0) ffX11_71 dX11_matched_1 (br_0_10 hB) ?_
  refine x_g28_6 (z := (P (P 0 10).toNat 6)) (bk_0_10 hB) ffX11_130 dX11_matched_4 rfl ?_
  have f1 := bx_28_6 (o := (P 0 10).toNat) hB (bk_0_10 hB)
  refine g_if_le (tgt := 14) dX11_matched_7 (by decide) ⟨by have q0 := bx_28_6 (o := (P 0 10).toNat) hB (bk_0_10 hB); (first | (clear hb; omega) | omega), by have q0 := bx_28_6 (o := (P 0 10).toNat) hB (bk_0_10 hB); (first | (clear hb; omega) | omega)⟩ (fun k2 => ?_) (fun k2 => ?_)
  · refine g_iconst dX11_matched_14 ?_
    exact g_retZ dX11_matched_15 rfl (by decide) (hQ 0 (by decide) (by (first | (clear hb k2; omega) | (clear hb; omega) | (clear k2; omega) | omega)))
  · refine g_iconst dX11_matched_10 ?_
    refine g_goto (tgt := 15) dX11_matched_11 (by decide) ?_
    exact g_retZ dX11_matched_15 rfl (by decide) (hQ 1 (by decide) (by (first | (clear hb k2; omega) | (clear hb; omega) | (clear k2; omega) | omega)))
/-! What the class answers: X11_values. -/
set_option maxRecDepth 100000 in
set_option maxHeartbeats 4000000 in
theorem f_X11_values (G : GT) (P : PH) (K : PH) (M : PH) (a1 : Int) (h_a1 : (-2147483648) ≤ a1 ∧ a1 ≤ 2147483647) (hB : BdX P) (p_aw : AW K) (z0 : XTB K M P) (Q : Option PV → PH → Prop) (hQ : ∀ (r : Int) (_ : (-2147483648) ≤ r ∧ r ≤ 2147483647) (_ : r = vls K M a1), Q (some (vI r)) P) : Ct WSX G 2 iX11_values [vR 0, vI a1] P Q := by
  refine Ct.of (by decide) (l0 := [(0, vR 0), (1, vI a1)]) rfl (Nat.le_of_ble_eq_true rfl) ?_
  have hb := z0.1.b
  have hvs := vls_s K M a1
  have hsz := sz_s K a1
  have haw := p_aw.1
  have iv1 : XK K (crX (P 0 10).toNat 0) P := z0.1
  refine g_aload_n dX11_values_0 rfl ?_
  refine g_vI (av := []) (o := 0) (st := []) (f_X11_matched G P K M  hB (z0) _ (fun rc2 hc2 gc2_m => ⟨rc2, rfl, ?_⟩)) cf_X11_matched t_937 rfl (show kx 0 0 from (⟨by decide, rfl⟩ : kx 0 0)).1 ((show kx 0 0 from (⟨by decide, rfl⟩ : kx 0 0)).sh rfl) rfl rfl (Nat.le_of_ble_eq_true rfl) (by decide) rfl dX11_values_1
  refine g_if_eq (tgt := 26) dX11_values_4 (by decide) ⟨by (first | (clear hb hvs hsz gc2_m; omega) | omega), by (first | (clear hb hvs hsz gc2_m; omega) | omega)⟩ (fun k3 => ?_) (fun k3 => ?_)
  · first | (revert r_gc2_m; intro r_gc2_m) | have r_gc2_m := (gc2_m.resolve_right (by (clear hb hvs hsz gc2_m k3; omega))) | have r_gc2_m := (gc2_m.resolve_left (by (clear hb hvs hsz gc2_m k3; omega))) | skip
    first | (revert r_hsz; intro r_hsz) | have r_hsz := (hsz.resolve_right (by (clear hb hvs hsz gc2_m k3; omega))) | have r_hsz := (hsz.resolve_left (by (clear hb hvs hsz gc2_m k3; omega))) | skip
    first | (revert r_hvs; intro r_hvs) | have r_hvs := (hvs.resolve_right (by (clear hb hvs hsz gc2_m k3; omega))) | have r_hvs := (hvs.resolve_left (by (clear hb hvs hsz gc2_m k3; omega))) | skip
    refine g_iconst dX11_values_26 ?_
    exact g_retI dX11_values_27 rfl (hQ (-1) (by decide) (by (first | (clear hb hvs hsz gc2_m k3; omega) | (clear hb hvs hsz gc2_m; omega) | (clear hb hvs hsz k3; omega) | (clear hb hvs gc2_m k3; omega) | (clear hb hsz gc2_m k3; omega) | (clear hvs hsz gc2_m k3; omega) | (clear hb hvs hsz; omega) | (clear hb; omega) | omega)))
  · have k3n : 1 ≤ rc2 := by (first | (clear hb hvs hsz gc2_m k3; omega) | (clear hb hvs hsz gc2_m; omega) | (clear hb hvs hsz k3; omega) | (clear hb hvs gc2_m k3; omega) | (clear hb hsz gc2_m k3; omega) | (clear hvs hsz gc2_m k3; omega) | (clear hb hvs hsz; omega) | (clear hb; omega) | omega)
    clear k3
    first | (revert r_gc2_m; intro r_gc2_m) | have r_gc2_m := (gc2_m.resolve_right (by (clear hb hvs hsz gc2_m; omega))) | have r_gc2_m := (gc2_m.resolve_left (by (clear hb hvs hsz gc2_m; omega))) | skip
    first | (revert r_hsz; intro r_hsz) | have r_hsz := (hsz.resolve_right (by (clear hb hvs hsz gc2_m; omega))) | have r_hsz := (hsz.resolve_left (by (clear hb hvs hsz gc2_m; omega))) | skip
    first | (revert r_hvs; intro r_hvs) | have r_hvs := (hvs.resolve_right (by (clear hb hvs hsz gc2_m; omega))) | have r_hvs := (hvs.resolve_left (by (clear hb hvs hsz gc2_m; omega))) | skip
    refine g_iload_n dX11_values_7 rfl ?_
    refine g_iconst dX11_values_8 ?_
    refine g_icmp_eq (tgt := 28) dX11_values_9 (by decide) ⟨by (first | (clear hb hvs hsz gc2_m; omega) | omega), by (first | (clear hb hvs hsz gc2_m; omega) | omega)⟩ (by decide) (fun k4 => ?_) (fun k4 => ?_)
    · first | (revert r_gc2_m; intro r_gc2_m) | have r_gc2_m := (gc2_m.resolve_right (by (clear hb hvs hsz gc2_m k4; omega))) | have r_gc2_m := (gc2_m.resolve_left (by (clear hb hvs hsz gc2_m k4; omega))) | skip
      first | (revert r_hsz; intro r_hsz) | have r_hsz := (hsz.resolve_right (by (clear hb hvs hsz gc2_m k4; omega))) | have r_hsz := (hsz.resolve_left (by (clear hb hvs hsz gc2_m k4; omega))) | skip
      first | (revert r_hvs; intro r_hvs) | have r_hvs := (hvs.resolve_right (by (clear hb hvs hsz gc2_m k4; omega))) | have r_hvs := (hvs.resolve_left (by (clear hb hvs hsz gc2_m k4; omega))) | skip
      refine g_aload_n dX11_values_28 rfl ?_
      refine x_g0_10 (n := (P 0 10).toNat) (⟨by decide, rfl⟩ : kx 0 0) ffX11_71 dX11_values_29 (br_0_10 hB) ?_
      refine x_g28_0 (n := (crX (P 0 10).toNat 0)) (bk_0_10 hB) ffX11_162 dX11_values_32 rfl ?_
      refine g_iload_n dX11_values_35 rfl ?_
      refine g_vI (av := [vI a1]) (o := (crX (P 0 10).toNat 0)) (st := []) (f_X3_sizeOf G P K (crX (P 0 10).toNat 0) a1 (ck_28_0 (bk_0_10 hB)) ⟨by (first | (clear hb hvs hsz gc2_m k4; omega) | omega), by (first | (clear hb hvs hsz gc2_m k4; omega) | omega)⟩ hB (by (first | (clear hb hvs hsz gc2_m k4; omega) | (clear hb hvs hsz gc2_m; omega) | (clear hb hvs hsz k4; omega) | (clear hb hvs gc2_m k4; omega) | (clear hb hsz gc2_m k4; omega) | (clear hvs hsz gc2_m k4; omega) | (clear hb hvs hsz; omega) | (clear hb; omega) | omega)) (iv1) _ (fun rc5 hc5 gc5_s => ⟨rc5, rfl, ?_⟩)) cf_X3_sizeOf t_941 rfl (show kx (crX (P 0 10).toNat 0) 29 from (ck_28_0 (bk_0_10 hB))).1 ((show kx (crX (P 0 10).toNat 0) 29 from (ck_28_0 (bk_0_10 hB))).sh rfl) rfl rfl (Nat.le_of_ble_eq_true rfl) (by decide) rfl dX11_values_36
      exact g_retI dX11_values_39 rfl (hQ rc5 ⟨by (first | (clear hb hvs hsz gc2_m k4; omega) | omega), by (first | (clear hb hvs hsz gc2_m k4; omega) | omega)⟩ (by (first | (clear hb hvs hsz gc2_m k4; omega) | (clear hb hvs hsz gc2_m; omega) | (clear hb hvs hsz k4; omega) | (clear hb hvs gc2_m k4; omega) | (clear hb hsz gc2_m k4; omega) | (clear hvs hsz gc2_m k4; omega) | (clear hb hvs hsz; omega) | (clear hb; omega) | omega)))
    · first | (revert r_gc2_m; intro r_gc2_m) | have r_gc2_m := (gc2_m.resolve_right (by (clear hb hvs hsz gc2_m k4; omega))) | have r_gc2_m := (gc2_m.resolve_left (by (clear hb hvs hsz gc2_m k4; omega))) | skip
      first | (revert r_hsz; intro r_hsz) | have r_hsz := (hsz.resolve_right (by (clear hb hvs hsz gc2_m k4; omega))) | have r_hsz := (hsz.resolve_left (by (clear hb hvs hsz gc2_m k4; omega))) | skip
      first | (revert r_hvs; intro r_hvs) | have r_hvs := (hvs.resolve_right (by (clear hb hvs hsz gc2_m k4; omega))) | have r_hvs := (hvs.resolve_left (by (clear hb hvs hsz gc2_m k4; omega))) | skip
      refine g_aload_n dX11_values_12 rfl ?_
      refine x_g0_10 (n := (P 0 10).toNat) (⟨by decide, rfl⟩ : kx 0 0) ffX11_71 dX11_values_13 (br_0_10 hB) ?_
      refine x_g28_0 (n := (crX (P 0 10).toNat 0)) (bk_0_10 hB) ffX11_162 dX11_values_16 rfl ?_
      refine g_iload_n dX11_values_19 rfl ?_
      refine g_vI (av := [vI a1]) (o := (crX (P 0 10).toNat 0)) (st := []) (f_X3_isKind G P (crX (P 0 10).toNat 0) a1 (ck_28_0 (bk_0_10 hB)) ⟨by (first | (clear hb hvs hsz gc2_m k4; omega) | omega), by (first | (clear hb hvs hsz gc2_m k4; omega) | omega)⟩ hB  _ (fun rc6 hc6 gc6_k gc6_f => ⟨rc6, rfl, ?_⟩)) cf_X3_isKind t_928 rfl (show kx (crX (P 0 10).toNat 0) 29 from (ck_28_0 (bk_0_10 hB))).1 ((show kx (crX (P 0 10).toNat 0) 29 from (ck_28_0 (bk_0_10 hB))).sh rfl) rfl rfl (Nat.le_of_ble_eq_true rfl) (by decide) rfl dX11_values_20
      have f7 := bx_29_9 (o := (crX (P 0 10).toNat 0)) hB (ck_28_0 (bk_0_10 hB))
      refine g_if_ne (tgt := 28) dX11_values_23 (by decide) ⟨by (first | (clear hb hvs hsz gc2_m k4 gc6_k gc6_f; omega) | omega), by (first | (clear hb hvs hsz gc2_m k4 gc6_k gc6_f; omega) | omega)⟩ (fun k8 => ?_) (fun k8 => ?_)
      · have k8n : 1 ≤ rc6 := by (first | (clear hb hvs hsz gc2_m k4 gc6_k gc6_f k8; omega) | (clear hb hvs hsz gc2_m k4 gc6_k gc6_f; omega) | (clear hb hvs hsz gc2_m k4 gc6_k k8; omega) | (clear hb hvs hsz gc2_m k4 gc6_f k8; omega) | (clear hb hvs hsz gc2_m gc6_k gc6_f k8; omega) | (clear hb hvs hsz k4 gc6_k gc6_f k8; omega) | (clear hb hvs gc2_m k4 gc6_k gc6_f k8; omega) | (clear hb hsz gc2_m k4 gc6_k gc6_f k8; omega) | (clear hvs hsz gc2_m k4 gc6_k gc6_f k8; omega) | (clear hb hvs hsz gc2_m k4 gc6_k; omega) | (clear gc2_m hsz hvs hb; omega) | omega)
        clear k8
        first | (revert r_gc6_f; intro r_gc6_f) | have r_gc6_f := (gc6_f.resolve_right (by (clear hb hvs hsz gc2_m k4 gc6_k gc6_f; omega))) | have r_gc6_f := (gc6_f.resolve_left (by (clear hb hvs hsz gc2_m k4 gc6_k gc6_f; omega))) | skip
        first | (revert r_gc6_k; intro r_gc6_k) | have r_gc6_k := (gc6_k.resolve_right (by (clear hb hvs hsz gc2_m k4 gc6_k gc6_f; omega))) | have r_gc6_k := (gc6_k.resolve_left (by (clear hb hvs hsz gc2_m k4 gc6_k gc6_f; omega))) | skip
        first | (revert r_gc2_m; intro r_gc2_m) | have r_gc2_m := (gc2_m.resolve_right (by (clear hb hvs hsz gc2_m k4 gc6_k gc6_f; omega))) | have r_gc2_m := (gc2_m.resolve_left (by (clear hb hvs hsz gc2_m k4 gc6_k gc6_f; omega))) | skip
        first | (revert r_hsz; intro r_hsz) | have r_hsz := (hsz.resolve_right (by (clear hb hvs hsz gc2_m k4 gc6_k gc6_f; omega))) | have r_hsz := (hsz.resolve_left (by (clear hb hvs hsz gc2_m k4 gc6_k gc6_f; omega))) | skip
        first | (revert r_hvs; intro r_hvs) | have r_hvs := (hvs.resolve_right (by (clear hb hvs hsz gc2_m k4 gc6_k gc6_f; omega))) | have r_hvs := (hvs.resolve_left (by (clear hb hvs hsz gc2_m k4 gc6_k gc6_f; omega))) | skip
        refine g_aload_n dX11_values_28 rfl ?_
        refine x_g0_10 (n := (P 0 10).toNat) (⟨by decide, rfl⟩ : kx 0 0) ffX11_71 dX11_values_29 (br_0_10 hB) ?_
        refine x_g28_0 (n := (crX (P 0 10).toNat 0)) (bk_0_10 hB) ffX11_162 dX11_values_32 rfl ?_
        refine g_iload_n dX11_values_35 rfl ?_
        refine g_vI (av := [vI a1]) (o := (crX (P 0 10).toNat 0)) (st := []) (f_X3_sizeOf G P K (crX (P 0 10).toNat 0) a1 (ck_28_0 (bk_0_10 hB)) ⟨by (first | (clear hb hvs hsz gc2_m k4 gc6_k gc6_f; omega) | omega), by (first | (clear hb hvs hsz gc2_m k4 gc6_k gc6_f; omega) | omega)⟩ hB (by (first | (clear hb hvs hsz gc2_m k4 gc6_k gc6_f; omega) | (clear hb hvs hsz gc2_m k4 gc6_k; omega) | (clear hb hvs hsz gc2_m k4 gc6_f; omega) | (clear hb hvs hsz gc2_m gc6_k gc6_f; omega) | (clear hb hvs hsz k4 gc6_k gc6_f; omega) | (clear hb hvs gc2_m k4 gc6_k gc6_f; omega) | (clear hb hsz gc2_m k4 gc6_k gc6_f; omega) | (clear hvs hsz gc2_m k4 gc6_k gc6_f; omega) | (clear hb hvs hsz gc2_m k4; omega) | (clear hsz hvs hb; omega) | omega)) (iv1) _ (fun rc9 hc9 gc9_s => ⟨rc9, rfl, ?_⟩)) cf_X3_sizeOf t_941 rfl (show kx (crX (P 0 10).toNat 0) 29 from (ck_28_0 (bk_0_10 hB))).1 ((show kx (crX (P 0 10).toNat 0) 29 from (ck_28_0 (bk_0_10 hB))).sh rfl) rfl rfl (Nat.le_of_ble_eq_true rfl) (by decide) rfl dX11_values_36
        exact g_retI dX11_values_39 rfl (hQ rc9 ⟨by (first | (clear hb hvs hsz gc2_m k4 gc6_k gc6_f; omega) | omega), by (first | (clear hb hvs hsz gc2_m k4 gc6_k gc6_f; omega) | omega)⟩ (by (first | (clear hb hvs hsz gc2_m k4 gc6_k gc6_f; omega) | (clear hb hvs hsz gc2_m k4 gc6_k; omega) | (clear hb hvs hsz gc2_m k4 gc6_f; omega) | (clear hb hvs hsz gc2_m gc6_k gc6_f; omega) | (clear hb hvs hsz k4 gc6_k gc6_f; omega) | (clear hb hvs gc2_m k4 gc6_k gc6_f; omega) | (clear hb hsz gc2_m k4 gc6_k gc6_f; omega) | (clear hvs hsz gc2_m k4 gc6_k gc6_f; omega) | (clear hb hvs hsz gc2_m k4; omega) | (clear hsz hvs hb; omega) | omega)))
      · first | (revert r_gc6_f; intro r_gc6_f) | have r_gc6_f := (gc6_f.resolve_right (by (clear hb hvs hsz gc2_m k4 gc6_k gc6_f k8; omega))) | have r_gc6_f := (gc6_f.resolve_left (by (clear hb hvs hsz gc2_m k4 gc6_k gc6_f k8; omega))) | skip
        first | (revert r_gc6_k; intro r_gc6_k) | have r_gc6_k := (gc6_k.resolve_right (by (clear hb hvs hsz gc2_m k4 gc6_k gc6_f k8; omega))) | have r_gc6_k := (gc6_k.resolve_left (by (clear hb hvs hsz gc2_m k4 gc6_k gc6_f k8; omega))) | skip
        first | (revert r_gc2_m; intro r_gc2_m) | have r_gc2_m := (gc2_m.resolve_right (by (clear hb hvs hsz gc2_m k4 gc6_k gc6_f k8; omega))) | have r_gc2_m := (gc2_m.resolve_left (by (clear hb hvs hsz gc2_m k4 gc6_k gc6_f k8; omega))) | skip
        first | (revert r_hsz; intro r_hsz) | have r_hsz := (hsz.resolve_right (by (clear hb hvs hsz gc2_m k4 gc6_k gc6_f k8; omega))) | have r_hsz := (hsz.resolve_left (by (clear hb hvs hsz gc2_m k4 gc6_k gc6_f k8; omega))) | skip
        first | (revert r_hvs; intro r_hvs) | have r_hvs := (hvs.resolve_right (by (clear hb hvs hsz gc2_m k4 gc6_k gc6_f k8; omega))) | have r_hvs := (hvs.resolve_left (by (clear hb hvs hsz gc2_m k4 gc6_k gc6_f k8; omega))) | skip
        refine g_iconst dX11_values_26 ?_
        exact g_retI dX11_values_27 rfl (hQ (-1) (by decide) (by (first | (clear hb hvs hsz gc2_m k4 gc6_k gc6_f k8; omega) | (clear hb hvs hsz gc2_m k4 gc6_k gc6_f; omega) | (clear hb hvs hsz gc2_m k4 gc6_k k8; omega) | (clear hb hvs hsz gc2_m k4 gc6_f k8; omega) | (clear hb hvs hsz gc2_m gc6_k gc6_f k8; omega) | (clear hb hvs hsz k4 gc6_k gc6_f k8; omega) | (clear hb hvs gc2_m k4 gc6_k gc6_f k8; omega) | (clear hb hsz gc2_m k4 gc6_k gc6_f k8; omega) | (clear hvs hsz gc2_m k4 gc6_k gc6_f k8; omega) | (clear hb hvs hsz gc2_m k4 gc6_k; omega) | (clear gc2_m hsz hvs hb; omega) | omega)))
/-! What the class answers: X3_isCon. -/
set_option maxRecDepth 100000 in
set_option maxHeartbeats 4000000 in
theorem f_X3_isCon (G : GT) (P : PH) (o0 : Nat) (a1 : Int) (k_o0 : kx o0 29) (h_a1 : (-2147483648) ≤ a1 ∧ a1 ≤ 2147483647) (hB : BdX P) (Q : Option PV → PH → Prop) (hQ : ∀ (r : Int) (_ : 0 ≤ r ∧ r ≤ 1) (_ : r = 0 ∨ (0 ≤ a1 ∧ a1 < P o0 10)) (_ : (r = 1 ∧ 0 ≤ a1 ∧ a1 < P o0 10) ∨ (r = 0 ∧ (a1 < 0 ∨ P o0 10 ≤ a1))), Q (some (vI r)) P) : Ct WSX G 1 iX3_isCon [vR o0, vI a1] P Q := by
  refine Ct.of (by decide) (l0 := [(0, vR o0), (1, vI a1)]) rfl (Nat.le_of_ble_eq_true rfl) ?_
  refine g_iload_n dX3_isCon_0 rfl ?_
  refine g_if_lt (tgt := 16) dX3_isCon_1 (by decide) ⟨by omega, by omega⟩ (fun k1 => ?_) (fun k1 => ?_)
  · refine g_iconst dX3_isCon_16 ?_
    exact g_retZ dX3_isCon_17 rfl (by decide) (hQ 0 (by decide) (by (first | (clear k1; omega) | omega)) (by (first | (clear k1; omega) | omega)))
  · refine g_iload_n dX3_isCon_4 rfl ?_
    refine g_aload_n dX3_isCon_5 rfl ?_
    refine x_g29_10 (z := (P o0 10)) k_o0 ffX3_43 dX3_isCon_6 rfl ?_
    have f2 := bx_29_10 (o := o0) hB k_o0
    refine g_icmp_ge (tgt := 16) dX3_isCon_9 (by decide) ⟨by (first | (clear k1; omega) | omega), by (first | (clear k1; omega) | omega)⟩ ⟨by have q0 := bx_29_10 (o := o0) hB k_o0; (first | (clear k1; omega) | omega), by have q0 := bx_29_10 (o := o0) hB k_o0; (first | (clear k1; omega) | omega)⟩ (fun k3 => ?_) (fun k3 => ?_)
    · refine g_iconst dX3_isCon_16 ?_
      exact g_retZ dX3_isCon_17 rfl (by decide) (hQ 0 (by decide) (by (first | (clear k1 k3; omega) | (clear k1; omega) | (clear k3; omega) | omega)) (by (first | (clear k1 k3; omega) | (clear k1; omega) | (clear k3; omega) | omega)))
    · refine g_iconst dX3_isCon_12 ?_
      refine g_goto (tgt := 17) dX3_isCon_13 (by decide) ?_
      exact g_retZ dX3_isCon_17 rfl (by decide) (hQ 1 (by decide) (by (first | (clear k1 k3; omega) | (clear k1; omega) | (clear k3; omega) | omega)) (by (first | (clear k1 k3; omega) | (clear k1; omega) | (clear k3; omega) | omega)))
/-! What the class answers: X11_letter. -/
set_option maxRecDepth 100000 in
set_option maxHeartbeats 4000000 in
theorem f_X11_letter (G : GT) (P : PH) (K : PH) (M : PH) (a1 : Int) (a2 : Int) (a3 : Int) (h_a1 : (-2147483648) ≤ a1 ∧ a1 ≤ 2147483647) (h_a2 : (-2147483648) ≤ a2 ∧ a2 ≤ 2147483647) (h_a3 : (-2147483648) ≤ a3 ∧ a3 ≤ 2147483647) (hB : BdX P) (p_aw : AW K) (p_an : AN K) (z0 : XTB K M P) (Q : Option PV → PH → Prop) (hQ : ∀ (r : Int) (_ : (-2147483648) ≤ r ∧ r ≤ 2147483647) (_ : r = ltr K a1 a2 a3), Q (some (vI r)) P) : Ct WSX G 2 iX11_letter [vR 0, vI a1, vI a2, vI a3] P Q := by
  refine Ct.of (by decide) (l0 := [(0, vR 0), (1, vI a1), (2, vI a2), (3, vI a3)]) rfl (Nat.le_of_ble_eq_true rfl) ?_
  have hb := z0.1.b
  have hls := ltr_s K a1 a2 a3
  have haw := p_aw.1
  have iv1 : XK K (crX (P 0 10).toNat 0) P := z0.1
  refine g_aload_n dX11_letter_0 rfl ?_
  refine x_g0_10 (n := (P 0 10).toNat) (⟨by decide, rfl⟩ : kx 0 0) ffX11_71 dX11_letter_1 (br_0_10 hB) ?_
  refine x_g28_0 (n := (crX (P 0 10).toNat 0)) (bk_0_10 hB) ffX11_162 dX11_letter_4 rfl ?_
  refine g_astore (l1 := [(4, vR (crX (P 0 10).toNat 0)), (0, vR 0), (1, vI a1), (2, vI a2), (3, vI a3)]) dX11_letter_7 (by decide) rfl ?_
  refine g_iload_n dX11_letter_9 rfl ?_
  refine g_if_lt (tgt := 23) dX11_letter_10 (by decide) ⟨by (first | (clear hb hls; omega) | omega), by (first | (clear hb hls; omega) | omega)⟩ (fun k2 => ?_) (fun k2 => ?_)
  · first | (revert r_hls; intro r_hls) | have r_hls := (hls.resolve_right (by (clear hb hls k2; omega))) | have r_hls := ((hls.resolve_left (by (clear hb hls k2; omega))).resolve_right (by (clear hb hls k2; omega))) | have r_hls := ((hls.resolve_left (by (clear hb hls k2; omega))).resolve_left (by (clear hb hls k2; omega))) | skip
    refine g_iconst dX11_letter_23 ?_
    exact g_retI dX11_letter_24 rfl (hQ (-1) (by decide) (by (first | (clear hb hls k2; omega) | (clear hb hls; omega) | (clear hb k2; omega) | (clear hls k2; omega) | (clear hb; omega) | omega)))
  · first | (revert r_hls; intro r_hls) | have r_hls := (hls.resolve_right (by (clear hb hls k2; omega))) | have r_hls := ((hls.resolve_left (by (clear hb hls k2; omega))).resolve_right (by (clear hb hls k2; omega))) | have r_hls := ((hls.resolve_left (by (clear hb hls k2; omega))).resolve_left (by (clear hb hls k2; omega))) | skip
    refine g_iload_n dX11_letter_13 rfl ?_
    refine g_bipush dX11_letter_14 (by decide) ?_
    refine g_icmp_ge (tgt := 23) dX11_letter_16 (by decide) ⟨by (first | (clear hb hls k2; omega) | omega), by (first | (clear hb hls k2; omega) | omega)⟩ (by decide) (fun k3 => ?_) (fun k3 => ?_)
    · first | (revert r_hls; intro r_hls) | have r_hls := (hls.resolve_right (by (clear hb hls k2 k3; omega))) | have r_hls := ((hls.resolve_left (by (clear hb hls k2 k3; omega))).resolve_right (by (clear hb hls k2 k3; omega))) | have r_hls := ((hls.resolve_left (by (clear hb hls k2 k3; omega))).resolve_left (by (clear hb hls k2 k3; omega))) | skip
      refine g_iconst dX11_letter_23 ?_
      exact g_retI dX11_letter_24 rfl (hQ (-1) (by decide) (by (first | (clear hb hls k2 k3; omega) | (clear hb hls k2; omega) | (clear hb hls k3; omega) | (clear hb k2 k3; omega) | (clear hls k2 k3; omega) | (clear hb hls; omega) | omega)))
    · first | (revert r_hls; intro r_hls) | have r_hls := (hls.resolve_right (by (clear hb hls k2 k3; omega))) | have r_hls := ((hls.resolve_left (by (clear hb hls k2 k3; omega))).resolve_right (by (clear hb hls k2 k3; omega))) | have r_hls := ((hls.resolve_left (by (clear hb hls k2 k3; omega))).resolve_left (by (clear hb hls k2 k3; omega))) | skip
      refine g_iload_n dX11_letter_19 rfl ?_
      refine g_if_ge (tgt := 25) dX11_letter_20 (by decide) ⟨by (first | (clear hb hls k2 k3; omega) | omega), by (first | (clear hb hls k2 k3; omega) | omega)⟩ (fun k4 => ?_) (fun k4 => ?_)
      · first | (revert r_hls; intro r_hls) | have r_hls := (hls.resolve_right (by (clear hb hls k2 k3 k4; omega))) | have r_hls := ((hls.resolve_left (by (clear hb hls k2 k3 k4; omega))).resolve_right (by (clear hb hls k2 k3 k4; omega))) | have r_hls := ((hls.resolve_left (by (clear hb hls k2 k3 k4; omega))).resolve_left (by (clear hb hls k2 k3 k4; omega))) | skip
        refine g_iload_n dX11_letter_25 rfl ?_
        refine g_if_ne (tgt := 50) dX11_letter_26 (by decide) ⟨by (first | (clear hb hls k2 k3 k4; omega) | omega), by (first | (clear hb hls k2 k3 k4; omega) | omega)⟩ (fun k5 => ?_) (fun k5 => ?_)
        · first | (revert r_hls; intro r_hls) | have r_hls := (hls.resolve_right (by (clear hb hls k2 k3 k4 k5; omega))) | have r_hls := ((hls.resolve_left (by (clear hb hls k2 k3 k4 k5; omega))).resolve_right (by (clear hb hls k2 k3 k4 k5; omega))) | have r_hls := ((hls.resolve_left (by (clear hb hls k2 k3 k4 k5; omega))).resolve_left (by (clear hb hls k2 k3 k4 k5; omega))) | skip
          refine g_iload_n dX11_letter_50 rfl ?_
          refine g_iconst dX11_letter_51 ?_
          refine g_icmp_ne (tgt := 76) dX11_letter_52 (by decide) ⟨by (first | (clear hb hls k2 k3 k4 k5; omega) | omega), by (first | (clear hb hls k2 k3 k4 k5; omega) | omega)⟩ (by decide) (fun k6 => ?_) (fun k6 => ?_)
          · first | (revert r_hls; intro r_hls) | have r_hls := (hls.resolve_right (by (clear hb hls k2 k3 k4 k5 k6; omega))) | have r_hls := ((hls.resolve_left (by (clear hb hls k2 k3 k4 k5 k6; omega))).resolve_right (by (clear hb hls k2 k3 k4 k5 k6; omega))) | have r_hls := ((hls.resolve_left (by (clear hb hls k2 k3 k4 k5 k6; omega))).resolve_left (by (clear hb hls k2 k3 k4 k5 k6; omega))) | skip
            refine g_iconst dX11_letter_76 ?_
            exact g_retI dX11_letter_77 rfl (hQ (-1) (by decide) (by (first | (clear hb hls k2 k3 k4 k5 k6; omega) | (clear hb hls k2 k3 k4 k5; omega) | (clear hb hls k2 k3 k4 k6; omega) | (clear hb hls k2 k3 k5 k6; omega) | (clear hb hls k2 k4 k5 k6; omega) | (clear hb hls k3 k4 k5 k6; omega) | (clear hb k2 k3 k4 k5 k6; omega) | (clear hls k2 k3 k4 k5 k6; omega) | (clear hb hls k2 k3 k4; omega) | (clear k2 hls hb; omega) | omega)))
          · first | (revert r_hls; intro r_hls) | have r_hls := (hls.resolve_right (by (clear hb hls k2 k3 k4 k5 k6; omega))) | have r_hls := ((hls.resolve_left (by (clear hb hls k2 k3 k4 k5 k6; omega))).resolve_right (by (clear hb hls k2 k3 k4 k5 k6; omega))) | have r_hls := ((hls.resolve_left (by (clear hb hls k2 k3 k4 k5 k6; omega))).resolve_left (by (clear hb hls k2 k3 k4 k5 k6; omega))) | skip
            refine g_aload dX11_letter_55 rfl ?_
            refine g_iload_n dX11_letter_57 rfl ?_
            refine g_vI (av := [vI a2]) (o := (crX (P 0 10).toNat 0)) (st := []) (f_X3_isCon G P (crX (P 0 10).toNat 0) a2 (ck_28_0 (bk_0_10 hB)) ⟨by (first | (clear hb hls k2 k3 k4 k5 k6; omega) | omega), by (first | (clear hb hls k2 k3 k4 k5 k6; omega) | omega)⟩ hB  _ (fun rc7 hc7 gc7_k gc7_f => ⟨rc7, rfl, ?_⟩)) cf_X3_isCon t_932 rfl (show kx (crX (P 0 10).toNat 0) 29 from (ck_28_0 (bk_0_10 hB))).1 ((show kx (crX (P 0 10).toNat 0) 29 from (ck_28_0 (bk_0_10 hB))).sh rfl) rfl rfl (Nat.le_of_ble_eq_true rfl) (by decide) rfl dX11_letter_58
            have f8 := bx_29_10 (o := (crX (P 0 10).toNat 0)) hB (ck_28_0 (bk_0_10 hB))
            refine g_if_eq (tgt := 76) dX11_letter_61 (by decide) ⟨by (first | (clear hb hls k2 k3 k4 k5 k6 gc7_k gc7_f; omega) | omega), by (first | (clear hb hls k2 k3 k4 k5 k6 gc7_k gc7_f; omega) | omega)⟩ (fun k9 => ?_) (fun k9 => ?_)
            · first | (revert r_gc7_f; intro r_gc7_f) | have r_gc7_f := (gc7_f.resolve_right (by (clear hb hls k2 k3 k4 k5 k6 gc7_k gc7_f k9; omega))) | have r_gc7_f := (gc7_f.resolve_left (by (clear hb hls k2 k3 k4 k5 k6 gc7_k gc7_f k9; omega))) | skip
              first | (revert r_gc7_k; intro r_gc7_k) | have r_gc7_k := (gc7_k.resolve_right (by (clear hb hls k2 k3 k4 k5 k6 gc7_k gc7_f k9; omega))) | have r_gc7_k := (gc7_k.resolve_left (by (clear hb hls k2 k3 k4 k5 k6 gc7_k gc7_f k9; omega))) | skip
              first | (revert r_hls; intro r_hls) | have r_hls := (hls.resolve_right (by (clear hb hls k2 k3 k4 k5 k6 gc7_k gc7_f k9; omega))) | have r_hls := ((hls.resolve_left (by (clear hb hls k2 k3 k4 k5 k6 gc7_k gc7_f k9; omega))).resolve_right (by (clear hb hls k2 k3 k4 k5 k6 gc7_k gc7_f k9; omega))) | have r_hls := ((hls.resolve_left (by (clear hb hls k2 k3 k4 k5 k6 gc7_k gc7_f k9; omega))).resolve_left (by (clear hb hls k2 k3 k4 k5 k6 gc7_k gc7_f k9; omega))) | skip
              refine g_iconst dX11_letter_76 ?_
              exact g_retI dX11_letter_77 rfl (hQ (-1) (by decide) (by (first | (clear hb hls k2 k3 k4 k5 k6 gc7_k gc7_f k9; omega) | (clear hb hls k2 k3 k4 k5 k6 gc7_k gc7_f; omega) | (clear hb hls k2 k3 k4 k5 k6 gc7_k k9; omega) | (clear hb hls k2 k3 k4 k5 k6 gc7_f k9; omega) | (clear hb hls k2 k3 k4 k5 gc7_k gc7_f k9; omega) | (clear hb hls k2 k3 k4 k6 gc7_k gc7_f k9; omega) | (clear hb hls k2 k3 k5 k6 gc7_k gc7_f k9; omega) | (clear hb hls k2 k4 k5 k6 gc7_k gc7_f k9; omega) | (clear hb hls k3 k4 k5 k6 gc7_k gc7_f k9; omega) | (clear hb hls k2 k3 k4 k5 k6 gc7_k; omega) | (clear k5 k4 k3 k2 hls hb; omega) | omega)))
            · have k9n : 1 ≤ rc7 := by (first | (clear hb hls k2 k3 k4 k5 k6 gc7_k gc7_f k9; omega) | (clear hb hls k2 k3 k4 k5 k6 gc7_k gc7_f; omega) | (clear hb hls k2 k3 k4 k5 k6 gc7_k k9; omega) | (clear hb hls k2 k3 k4 k5 k6 gc7_f k9; omega) | (clear hb hls k2 k3 k4 k5 gc7_k gc7_f k9; omega) | (clear hb hls k2 k3 k4 k6 gc7_k gc7_f k9; omega) | (clear hb hls k2 k3 k5 k6 gc7_k gc7_f k9; omega) | (clear hb hls k2 k4 k5 k6 gc7_k gc7_f k9; omega) | (clear hb hls k3 k4 k5 k6 gc7_k gc7_f k9; omega) | (clear hb hls k2 k3 k4 k5 k6 gc7_k; omega) | (clear k5 k4 k3 k2 hls hb; omega) | omega)
              clear k9
              first | (revert r_gc7_f; intro r_gc7_f) | have r_gc7_f := (gc7_f.resolve_right (by (clear hb hls k2 k3 k4 k5 k6 gc7_k gc7_f; omega))) | have r_gc7_f := (gc7_f.resolve_left (by (clear hb hls k2 k3 k4 k5 k6 gc7_k gc7_f; omega))) | skip
              first | (revert r_gc7_k; intro r_gc7_k) | have r_gc7_k := (gc7_k.resolve_right (by (clear hb hls k2 k3 k4 k5 k6 gc7_k gc7_f; omega))) | have r_gc7_k := (gc7_k.resolve_left (by (clear hb hls k2 k3 k4 k5 k6 gc7_k gc7_f; omega))) | skip
              first | (revert r_hls; intro r_hls) | have r_hls := (hls.resolve_right (by (clear hb hls k2 k3 k4 k5 k6 gc7_k gc7_f; omega))) | have r_hls := ((hls.resolve_left (by (clear hb hls k2 k3 k4 k5 k6 gc7_k gc7_f; omega))).resolve_right (by (clear hb hls k2 k3 k4 k5 k6 gc7_k gc7_f; omega))) | have r_hls := ((hls.resolve_left (by (clear hb hls k2 k3 k4 k5 k6 gc7_k gc7_f; omega))).resolve_left (by (clear hb hls k2 k3 k4 k5 k6 gc7_k gc7_f; omega))) | skip
              have hcn := (z0.1.c (c := a2) (by (first | (clear hb hls k2 k3 k4 k5 k6 gc7_k gc7_f; omega) | (clear hb hls k2 k3 k4 k5 k6 gc7_k; omega) | (clear hb hls k2 k3 k4 k5 k6 gc7_f; omega) | (clear hb hls k2 k3 k4 k5 gc7_k gc7_f; omega) | (clear hb hls k2 k3 k4 k6 gc7_k gc7_f; omega) | (clear hb hls k2 k3 k5 k6 gc7_k gc7_f; omega) | (clear hb hls k2 k4 k5 k6 gc7_k gc7_f; omega) | (clear hb hls k3 k4 k5 k6 gc7_k gc7_f; omega) | (clear hb k2 k3 k4 k5 k6 gc7_k gc7_f; omega) | (clear hb hls k2 k3 k4 k5 k6; omega) | (clear k4 k3 k2 hls hb; omega) | omega)) (by (first | (clear hb hls k2 k3 k4 k5 k6 gc7_k gc7_f; omega) | (clear hb hls k2 k3 k4 k5 k6 gc7_k; omega) | (clear hb hls k2 k3 k4 k5 k6 gc7_f; omega) | (clear hb hls k2 k3 k4 k5 gc7_k gc7_f; omega) | (clear hb hls k2 k3 k4 k6 gc7_k gc7_f; omega) | (clear hb hls k2 k3 k5 k6 gc7_k gc7_f; omega) | (clear hb hls k2 k4 k5 k6 gc7_k gc7_f; omega) | (clear hb hls k3 k4 k5 k6 gc7_k gc7_f; omega) | (clear hb k2 k3 k4 k5 k6 gc7_k gc7_f; omega) | (clear hb hls k2 k3 k4 k5 k6; omega) | (clear k4 k3 k2 hls hb; omega) | omega))).1
              have hnn := p_an.2 a2 (by (first | (clear hb hls k2 k3 k4 k5 k6 gc7_k gc7_f; omega) | (clear hb hls k2 k3 k4 k5 k6 gc7_k; omega) | (clear hb hls k2 k3 k4 k5 k6 gc7_f; omega) | (clear hb hls k2 k3 k4 k5 gc7_k gc7_f; omega) | (clear hb hls k2 k3 k4 k6 gc7_k gc7_f; omega) | (clear hb hls k2 k3 k5 k6 gc7_k gc7_f; omega) | (clear hb hls k2 k4 k5 k6 gc7_k gc7_f; omega) | (clear hb hls k3 k4 k5 k6 gc7_k gc7_f; omega) | (clear hb k2 k3 k4 k5 k6 gc7_k gc7_f; omega) | (clear hb hls k2 k3 k4 k5 k6; omega) | (clear k4 k3 k2 hls hb; omega) | omega)) (by (first | (clear hb hls k2 k3 k4 k5 k6 gc7_k gc7_f; omega) | (clear hb hls k2 k3 k4 k5 k6 gc7_k; omega) | (clear hb hls k2 k3 k4 k5 k6 gc7_f; omega) | (clear hb hls k2 k3 k4 k5 gc7_k gc7_f; omega) | (clear hb hls k2 k3 k4 k6 gc7_k gc7_f; omega) | (clear hb hls k2 k3 k5 k6 gc7_k gc7_f; omega) | (clear hb hls k2 k4 k5 k6 gc7_k gc7_f; omega) | (clear hb hls k3 k4 k5 k6 gc7_k gc7_f; omega) | (clear hb k2 k3 k4 k5 k6 gc7_k gc7_f; omega) | (clear hb hls k2 k3 k4 k5 k6; omega) | (clear k4 k3 k2 hls hb; omega) | omega))
              refine g_aload dX11_letter_64 rfl ?_
              refine x_g29_4 (n := (crX (crX (P 0 10).toNat 0) 4)) (ck_28_0 (bk_0_10 hB)) ffX11_201 dX11_letter_66 rfl ?_
              refine g_iload_n dX11_letter_69 rfl ?_
              refine x_l34 (z := (P (crX (crX (P 0 10).toNat 0) 4) a2)) (ck_29_4 (ck_28_0 (bk_0_10 hB))) dX11_letter_70 ⟨by (first | (clear hb hls k2 k3 k4 k5 k6 gc7_k gc7_f; omega) | omega), by (first | (clear hb hls k2 k3 k4 k5 k6 gc7_k gc7_f; omega) | omega)⟩ rfl ?_
              refine g_iload_n dX11_letter_71 rfl ?_
              have f10 := bx_34 (o := (crX (crX (P 0 10).toNat 0) 4)) (k := a2) hB (ck_29_4 (ck_28_0 (bk_0_10 hB)))
              refine g_sI (av := [vI (P (crX (crX (P 0 10).toNat 0) 4) a2), vI a3]) (st := []) (f_X11_letterOf G P (P (crX (crX (P 0 10).toNat 0) 4) a2) a3 ⟨by have q0 := bx_34 (o := (crX (crX (P 0 10).toNat 0) 4)) (k := a2) hB (ck_29_4 (ck_28_0 (bk_0_10 hB))); (first | (clear hb hls k2 k3 k4 k5 k6 gc7_k gc7_f; omega) | omega), by have q0 := bx_34 (o := (crX (crX (P 0 10).toNat 0) 4)) (k := a2) hB (ck_29_4 (ck_28_0 (bk_0_10 hB))); (first | (clear hb hls k2 k3 k4 k5 k6 gc7_k gc7_f; omega) | omega)⟩ ⟨by (first | (clear hb hls k2 k3 k4 k5 k6 gc7_k gc7_f; omega) | omega), by (first | (clear hb hls k2 k3 k4 k5 k6 gc7_k gc7_f; omega) | omega)⟩ hB (by have q0 := bx_34 (o := (crX (crX (P 0 10).toNat 0) 4)) (k := a2) hB (ck_29_4 (ck_28_0 (bk_0_10 hB))); (first | (clear hb hls k2 k3 k4 k5 k6 gc7_k gc7_f; omega) | (clear hb hls k2 k3 k4 k5 k6 gc7_k; omega) | (clear hb hls k2 k3 k4 k5 k6 gc7_f; omega) | (clear hb hls k2 k3 k4 k5 gc7_k gc7_f; omega) | (clear hb hls k2 k3 k4 k6 gc7_k gc7_f; omega) | (clear hb hls k2 k3 k5 k6 gc7_k gc7_f; omega) | (clear hb hls k2 k4 k5 k6 gc7_k gc7_f; omega) | (clear hb hls k3 k4 k5 k6 gc7_k gc7_f; omega) | (clear hb k2 k3 k4 k5 k6 gc7_k gc7_f; omega) | (clear hb hls k2 k3 k4 k5 k6; omega) | (clear k4 k3 k2 hls hb; omega) | omega)) (by have q0 := bx_34 (o := (crX (crX (P 0 10).toNat 0) 4)) (k := a2) hB (ck_29_4 (ck_28_0 (bk_0_10 hB))); (first | (clear hb hls k2 k3 k4 k5 k6 gc7_k gc7_f; omega) | (clear hb hls k2 k3 k4 k5 k6 gc7_k; omega) | (clear hb hls k2 k3 k4 k5 k6 gc7_f; omega) | (clear hb hls k2 k3 k4 k5 gc7_k gc7_f; omega) | (clear hb hls k2 k3 k4 k6 gc7_k gc7_f; omega) | (clear hb hls k2 k3 k5 k6 gc7_k gc7_f; omega) | (clear hb hls k2 k4 k5 k6 gc7_k gc7_f; omega) | (clear hb hls k3 k4 k5 k6 gc7_k gc7_f; omega) | (clear hb k2 k3 k4 k5 k6 gc7_k gc7_f; omega) | (clear hb hls k2 k3 k4 k5 k6; omega) | (clear k4 k3 k2 hls hb; omega) | omega)) _ (fun rc11 hc11 gc11_l => ⟨rc11, rfl, ?_⟩)) cf_X11_letterOf t_929 rfl (Nat.le_of_ble_eq_true rfl) (by decide) rfl dX11_letter_72
              have hlt9 := gc11_l
              rw [hcn] at hlt9
              exact g_retI dX11_letter_75 rfl (hQ rc11 ⟨by (first | (clear hb hls k2 k3 k4 k5 k6 gc7_k gc7_f; omega) | omega), by (first | (clear hb hls k2 k3 k4 k5 k6 gc7_k gc7_f; omega) | omega)⟩ (by (first | (clear hb hls k2 k3 k4 k5 k6 gc7_k gc7_f; omega) | (clear hb hls k2 k3 k4 k5 k6 gc7_k; omega) | (clear hb hls k2 k3 k4 k5 k6 gc7_f; omega) | (clear hb hls k2 k3 k4 k5 gc7_k gc7_f; omega) | (clear hb hls k2 k3 k4 k6 gc7_k gc7_f; omega) | (clear hb hls k2 k3 k5 k6 gc7_k gc7_f; omega) | (clear hb hls k2 k4 k5 k6 gc7_k gc7_f; omega) | (clear hb hls k3 k4 k5 k6 gc7_k gc7_f; omega) | (clear hb k2 k3 k4 k5 k6 gc7_k gc7_f; omega) | (clear hb hls k2 k3 k4 k5 k6; omega) | (clear k4 k3 k2 hls hb; omega) | omega)))
        · first | (revert r_hls; intro r_hls) | have r_hls := (hls.resolve_right (by (clear hb hls k2 k3 k4 k5; omega))) | have r_hls := ((hls.resolve_left (by (clear hb hls k2 k3 k4 k5; omega))).resolve_right (by (clear hb hls k2 k3 k4 k5; omega))) | have r_hls := ((hls.resolve_left (by (clear hb hls k2 k3 k4 k5; omega))).resolve_left (by (clear hb hls k2 k3 k4 k5; omega))) | skip
          refine g_aload dX11_letter_29 rfl ?_
          refine g_iload_n dX11_letter_31 rfl ?_
          refine g_vI (av := [vI a2]) (o := (crX (P 0 10).toNat 0)) (st := []) (f_X3_isKind G P (crX (P 0 10).toNat 0) a2 (ck_28_0 (bk_0_10 hB)) ⟨by (first | (clear hb hls k2 k3 k4 k5; omega) | omega), by (first | (clear hb hls k2 k3 k4 k5; omega) | omega)⟩ hB  _ (fun rc12 hc12 gc12_k gc12_f => ⟨rc12, rfl, ?_⟩)) cf_X3_isKind t_928 rfl (show kx (crX (P 0 10).toNat 0) 29 from (ck_28_0 (bk_0_10 hB))).1 ((show kx (crX (P 0 10).toNat 0) 29 from (ck_28_0 (bk_0_10 hB))).sh rfl) rfl rfl (Nat.le_of_ble_eq_true rfl) (by decide) rfl dX11_letter_32
          have f13 := bx_29_9 (o := (crX (P 0 10).toNat 0)) hB (ck_28_0 (bk_0_10 hB))
          refine g_if_eq (tgt := 50) dX11_letter_35 (by decide) ⟨by (first | (clear hb hls k2 k3 k4 k5 gc12_k gc12_f; omega) | omega), by (first | (clear hb hls k2 k3 k4 k5 gc12_k gc12_f; omega) | omega)⟩ (fun k14 => ?_) (fun k14 => ?_)
          · first | (revert r_gc12_f; intro r_gc12_f) | have r_gc12_f := (gc12_f.resolve_right (by (clear hb hls k2 k3 k4 k5 gc12_k gc12_f k14; omega))) | have r_gc12_f := (gc12_f.resolve_left (by (clear hb hls k2 k3 k4 k5 gc12_k gc12_f k14; omega))) | skip
            first | (revert r_gc12_k; intro r_gc12_k) | have r_gc12_k := (gc12_k.resolve_right (by (clear hb hls k2 k3 k4 k5 gc12_k gc12_f k14; omega))) | have r_gc12_k := (gc12_k.resolve_left (by (clear hb hls k2 k3 k4 k5 gc12_k gc12_f k14; omega))) | skip
            first | (revert r_hls; intro r_hls) | have r_hls := (hls.resolve_right (by (clear hb hls k2 k3 k4 k5 gc12_k gc12_f k14; omega))) | have r_hls := ((hls.resolve_left (by (clear hb hls k2 k3 k4 k5 gc12_k gc12_f k14; omega))).resolve_right (by (clear hb hls k2 k3 k4 k5 gc12_k gc12_f k14; omega))) | have r_hls := ((hls.resolve_left (by (clear hb hls k2 k3 k4 k5 gc12_k gc12_f k14; omega))).resolve_left (by (clear hb hls k2 k3 k4 k5 gc12_k gc12_f k14; omega))) | skip
            refine g_iload_n dX11_letter_50 rfl ?_
            refine g_iconst dX11_letter_51 ?_
            refine g_icmp_ne (tgt := 76) dX11_letter_52 (by decide) ⟨by (first | (clear hb hls k2 k3 k4 k5 gc12_k gc12_f k14; omega) | omega), by (first | (clear hb hls k2 k3 k4 k5 gc12_k gc12_f k14; omega) | omega)⟩ (by decide) (fun k15 => ?_) (fun k15 => by exfalso; (first | (clear hb hls k2 k3 k4 k5 gc12_k gc12_f k14; omega) | (clear hb hls k2 k3 k4 k5 gc12_k gc12_f; omega) | (clear hb hls k2 k3 k4 k5 gc12_k k14; omega) | (clear hb hls k2 k3 k4 k5 gc12_f k14; omega) | (clear hb hls k2 k3 k4 gc12_k gc12_f k14; omega) | (clear hb hls k2 k3 k5 gc12_k gc12_f k14; omega) | (clear hb hls k2 k4 k5 gc12_k gc12_f k14; omega) | (clear hb hls k3 k4 k5 gc12_k gc12_f k14; omega) | (clear hb k2 k3 k4 k5 gc12_k gc12_f k14; omega) | (clear hb hls k2 k3 k4 k5 gc12_k; omega) | (clear k4 k3 k2 hls hb; omega) | omega))
            first | (revert r_gc12_f; intro r_gc12_f) | have r_gc12_f := (gc12_f.resolve_right (by (clear hb hls k2 k3 k4 k5 gc12_k gc12_f k14 k15; omega))) | have r_gc12_f := (gc12_f.resolve_left (by (clear hb hls k2 k3 k4 k5 gc12_k gc12_f k14 k15; omega))) | skip
            first | (revert r_gc12_k; intro r_gc12_k) | have r_gc12_k := (gc12_k.resolve_right (by (clear hb hls k2 k3 k4 k5 gc12_k gc12_f k14 k15; omega))) | have r_gc12_k := (gc12_k.resolve_left (by (clear hb hls k2 k3 k4 k5 gc12_k gc12_f k14 k15; omega))) | skip
            first | (revert r_hls; intro r_hls) | have r_hls := (hls.resolve_right (by (clear hb hls k2 k3 k4 k5 gc12_k gc12_f k14 k15; omega))) | have r_hls := ((hls.resolve_left (by (clear hb hls k2 k3 k4 k5 gc12_k gc12_f k14 k15; omega))).resolve_right (by (clear hb hls k2 k3 k4 k5 gc12_k gc12_f k14 k15; omega))) | have r_hls := ((hls.resolve_left (by (clear hb hls k2 k3 k4 k5 gc12_k gc12_f k14 k15; omega))).resolve_left (by (clear hb hls k2 k3 k4 k5 gc12_k gc12_f k14 k15; omega))) | skip
            refine g_iconst dX11_letter_76 ?_
            exact g_retI dX11_letter_77 rfl (hQ (-1) (by decide) (by (first | (clear hb hls k2 k3 k4 k5 gc12_k gc12_f k14 k15; omega) | (clear hb hls k2 k3 k4 k5 gc12_k gc12_f k14; omega) | (clear hb hls k2 k3 k4 k5 gc12_k gc12_f k15; omega) | (clear hb hls k2 k3 k4 k5 gc12_k k14 k15; omega) | (clear hb hls k2 k3 k4 k5 gc12_f k14 k15; omega) | (clear hb hls k2 k3 k4 gc12_k gc12_f k14 k15; omega) | (clear hb hls k2 k3 k5 gc12_k gc12_f k14 k15; omega) | (clear hb hls k2 k4 k5 gc12_k gc12_f k14 k15; omega) | (clear hb hls k3 k4 k5 gc12_k gc12_f k14 k15; omega) | (clear hb hls k2 k3 k4 k5 gc12_k gc12_f; omega) | (clear k5 k4 k3 k2 hls hb; omega) | omega)))
          · have k14n : 1 ≤ rc12 := by (first | (clear hb hls k2 k3 k4 k5 gc12_k gc12_f k14; omega) | (clear hb hls k2 k3 k4 k5 gc12_k gc12_f; omega) | (clear hb hls k2 k3 k4 k5 gc12_k k14; omega) | (clear hb hls k2 k3 k4 k5 gc12_f k14; omega) | (clear hb hls k2 k3 k4 gc12_k gc12_f k14; omega) | (clear hb hls k2 k3 k5 gc12_k gc12_f k14; omega) | (clear hb hls k2 k4 k5 gc12_k gc12_f k14; omega) | (clear hb hls k3 k4 k5 gc12_k gc12_f k14; omega) | (clear hb k2 k3 k4 k5 gc12_k gc12_f k14; omega) | (clear hb hls k2 k3 k4 k5 gc12_k; omega) | (clear k4 k3 k2 hls hb; omega) | omega)
            clear k14
            first | (revert r_gc12_f; intro r_gc12_f) | have r_gc12_f := (gc12_f.resolve_right (by (clear hb hls k2 k3 k4 k5 gc12_k gc12_f; omega))) | have r_gc12_f := (gc12_f.resolve_left (by (clear hb hls k2 k3 k4 k5 gc12_k gc12_f; omega))) | skip
            first | (revert r_gc12_k; intro r_gc12_k) | have r_gc12_k := (gc12_k.resolve_right (by (clear hb hls k2 k3 k4 k5 gc12_k gc12_f; omega))) | have r_gc12_k := (gc12_k.resolve_left (by (clear hb hls k2 k3 k4 k5 gc12_k gc12_f; omega))) | skip
            first | (revert r_hls; intro r_hls) | have r_hls := (hls.resolve_right (by (clear hb hls k2 k3 k4 k5 gc12_k gc12_f; omega))) | have r_hls := ((hls.resolve_left (by (clear hb hls k2 k3 k4 k5 gc12_k gc12_f; omega))).resolve_right (by (clear hb hls k2 k3 k4 k5 gc12_k gc12_f; omega))) | have r_hls := ((hls.resolve_left (by (clear hb hls k2 k3 k4 k5 gc12_k gc12_f; omega))).resolve_left (by (clear hb hls k2 k3 k4 k5 gc12_k gc12_f; omega))) | skip
            have hkn := (z0.1.k (k := a2) (by (first | (clear hb hls k2 k3 k4 k5 gc12_k gc12_f; omega) | (clear hb hls k2 k3 k4 k5 gc12_k; omega) | (clear hb hls k2 k3 k4 k5 gc12_f; omega) | (clear hb hls k2 k3 k4 gc12_k gc12_f; omega) | (clear hb hls k2 k3 k5 gc12_k gc12_f; omega) | (clear hb hls k2 k4 k5 gc12_k gc12_f; omega) | (clear hb hls k3 k4 k5 gc12_k gc12_f; omega) | (clear hb k2 k3 k4 k5 gc12_k gc12_f; omega) | (clear hls k2 k3 k4 k5 gc12_k gc12_f; omega) | (clear hb hls k2 k3 k4 k5; omega) | (clear k3 k2 hls hb; omega) | omega)) (by (first | (clear hb hls k2 k3 k4 k5 gc12_k gc12_f; omega) | (clear hb hls k2 k3 k4 k5 gc12_k; omega) | (clear hb hls k2 k3 k4 k5 gc12_f; omega) | (clear hb hls k2 k3 k4 gc12_k gc12_f; omega) | (clear hb hls k2 k3 k5 gc12_k gc12_f; omega) | (clear hb hls k2 k4 k5 gc12_k gc12_f; omega) | (clear hb hls k3 k4 k5 gc12_k gc12_f; omega) | (clear hb k2 k3 k4 k5 gc12_k gc12_f; omega) | (clear hls k2 k3 k4 k5 gc12_k gc12_f; omega) | (clear hb hls k2 k3 k4 k5; omega) | (clear k3 k2 hls hb; omega) | omega))).1
            have hnn := p_an.1 a2 (by (first | (clear hb hls k2 k3 k4 k5 gc12_k gc12_f; omega) | (clear hb hls k2 k3 k4 k5 gc12_k; omega) | (clear hb hls k2 k3 k4 k5 gc12_f; omega) | (clear hb hls k2 k3 k4 gc12_k gc12_f; omega) | (clear hb hls k2 k3 k5 gc12_k gc12_f; omega) | (clear hb hls k2 k4 k5 gc12_k gc12_f; omega) | (clear hb hls k3 k4 k5 gc12_k gc12_f; omega) | (clear hb k2 k3 k4 k5 gc12_k gc12_f; omega) | (clear hls k2 k3 k4 k5 gc12_k gc12_f; omega) | (clear hb hls k2 k3 k4 k5; omega) | (clear k3 k2 hls hb; omega) | omega)) (by (first | (clear hb hls k2 k3 k4 k5 gc12_k gc12_f; omega) | (clear hb hls k2 k3 k4 k5 gc12_k; omega) | (clear hb hls k2 k3 k4 k5 gc12_f; omega) | (clear hb hls k2 k3 k4 gc12_k gc12_f; omega) | (clear hb hls k2 k3 k5 gc12_k gc12_f; omega) | (clear hb hls k2 k4 k5 gc12_k gc12_f; omega) | (clear hb hls k3 k4 k5 gc12_k gc12_f; omega) | (clear hb k2 k3 k4 k5 gc12_k gc12_f; omega) | (clear hls k2 k3 k4 k5 gc12_k gc12_f; omega) | (clear hb hls k2 k3 k4 k5; omega) | (clear k3 k2 hls hb; omega) | omega))
            refine g_aload dX11_letter_38 rfl ?_
            refine x_g29_0 (n := (crX (crX (P 0 10).toNat 0) 0)) (ck_28_0 (bk_0_10 hB)) ffX11_191 dX11_letter_40 rfl ?_
            refine g_iload_n dX11_letter_43 rfl ?_
            refine x_l30 (z := (P (crX (crX (P 0 10).toNat 0) 0) a2)) (ck_29_0 (ck_28_0 (bk_0_10 hB))) dX11_letter_44 ⟨by (first | (clear hb hls k2 k3 k4 k5 gc12_k gc12_f; omega) | omega), by (first | (clear hb hls k2 k3 k4 k5 gc12_k gc12_f; omega) | omega)⟩ rfl ?_
            refine g_iload_n dX11_letter_45 rfl ?_
            have f16 := bx_30 (o := (crX (crX (P 0 10).toNat 0) 0)) (k := a2) hB (ck_29_0 (ck_28_0 (bk_0_10 hB)))
            refine g_sI (av := [vI (P (crX (crX (P 0 10).toNat 0) 0) a2), vI a3]) (st := []) (f_X11_letterOf G P (P (crX (crX (P 0 10).toNat 0) 0) a2) a3 ⟨by have q0 := bx_30 (o := (crX (crX (P 0 10).toNat 0) 0)) (k := a2) hB (ck_29_0 (ck_28_0 (bk_0_10 hB))); (first | (clear hb hls k2 k3 k4 k5 gc12_k gc12_f; omega) | omega), by have q0 := bx_30 (o := (crX (crX (P 0 10).toNat 0) 0)) (k := a2) hB (ck_29_0 (ck_28_0 (bk_0_10 hB))); (first | (clear hb hls k2 k3 k4 k5 gc12_k gc12_f; omega) | omega)⟩ ⟨by (first | (clear hb hls k2 k3 k4 k5 gc12_k gc12_f; omega) | omega), by (first | (clear hb hls k2 k3 k4 k5 gc12_k gc12_f; omega) | omega)⟩ hB (by have q0 := bx_30 (o := (crX (crX (P 0 10).toNat 0) 0)) (k := a2) hB (ck_29_0 (ck_28_0 (bk_0_10 hB))); (first | (clear hb hls k2 k3 k4 k5 gc12_k gc12_f; omega) | (clear hb hls k2 k3 k4 k5 gc12_k; omega) | (clear hb hls k2 k3 k4 k5 gc12_f; omega) | (clear hb hls k2 k3 k4 gc12_k gc12_f; omega) | (clear hb hls k2 k3 k5 gc12_k gc12_f; omega) | (clear hb hls k2 k4 k5 gc12_k gc12_f; omega) | (clear hb hls k3 k4 k5 gc12_k gc12_f; omega) | (clear hb k2 k3 k4 k5 gc12_k gc12_f; omega) | (clear hls k2 k3 k4 k5 gc12_k gc12_f; omega) | (clear hb hls k2 k3 k4 k5; omega) | (clear k3 k2 hls hb; omega) | omega)) (by have q0 := bx_30 (o := (crX (crX (P 0 10).toNat 0) 0)) (k := a2) hB (ck_29_0 (ck_28_0 (bk_0_10 hB))); (first | (clear hb hls k2 k3 k4 k5 gc12_k gc12_f; omega) | (clear hb hls k2 k3 k4 k5 gc12_k; omega) | (clear hb hls k2 k3 k4 k5 gc12_f; omega) | (clear hb hls k2 k3 k4 gc12_k gc12_f; omega) | (clear hb hls k2 k3 k5 gc12_k gc12_f; omega) | (clear hb hls k2 k4 k5 gc12_k gc12_f; omega) | (clear hb hls k3 k4 k5 gc12_k gc12_f; omega) | (clear hb k2 k3 k4 k5 gc12_k gc12_f; omega) | (clear hls k2 k3 k4 k5 gc12_k gc12_f; omega) | (clear hb hls k2 k3 k4 k5; omega) | (clear k3 k2 hls hb; omega) | omega)) _ (fun rc17 hc17 gc17_l => ⟨rc17, rfl, ?_⟩)) cf_X11_letterOf t_929 rfl (Nat.le_of_ble_eq_true rfl) (by decide) rfl dX11_letter_46
            have hlt9 := gc17_l
            rw [hkn] at hlt9
            exact g_retI dX11_letter_49 rfl (hQ rc17 ⟨by (first | (clear hb hls k2 k3 k4 k5 gc12_k gc12_f; omega) | omega), by (first | (clear hb hls k2 k3 k4 k5 gc12_k gc12_f; omega) | omega)⟩ (by (first | (clear hb hls k2 k3 k4 k5 gc12_k gc12_f; omega) | (clear hb hls k2 k3 k4 k5 gc12_k; omega) | (clear hb hls k2 k3 k4 k5 gc12_f; omega) | (clear hb hls k2 k3 k4 gc12_k gc12_f; omega) | (clear hb hls k2 k3 k5 gc12_k gc12_f; omega) | (clear hb hls k2 k4 k5 gc12_k gc12_f; omega) | (clear hb hls k3 k4 k5 gc12_k gc12_f; omega) | (clear hb k2 k3 k4 k5 gc12_k gc12_f; omega) | (clear hls k2 k3 k4 k5 gc12_k gc12_f; omega) | (clear hb hls k2 k3 k4 k5; omega) | (clear k3 k2 hls hb; omega) | omega)))
      · first | (revert r_hls; intro r_hls) | have r_hls := (hls.resolve_right (by (clear hb hls k2 k3 k4; omega))) | have r_hls := ((hls.resolve_left (by (clear hb hls k2 k3 k4; omega))).resolve_right (by (clear hb hls k2 k3 k4; omega))) | have r_hls := ((hls.resolve_left (by (clear hb hls k2 k3 k4; omega))).resolve_left (by (clear hb hls k2 k3 k4; omega))) | skip
        refine g_iconst dX11_letter_23 ?_
        exact g_retI dX11_letter_24 rfl (hQ (-1) (by decide) (by (first | (clear hb hls k2 k3 k4; omega) | (clear hb hls k2 k3; omega) | (clear hb hls k2 k4; omega) | (clear hb hls k3 k4; omega) | (clear hb k2 k3 k4; omega) | (clear hls k2 k3 k4; omega) | (clear hb hls k2; omega) | (clear hb; omega) | omega)))
