/-! What the class answers: X11_isImage. -/
set_option maxRecDepth 100000 in
set_option maxHeartbeats 4000000 in
theorem f_X11_isImage (G : GT) (P : PH) (T : TT) (K : PH) (M : PH) (hB : BdX P) (p_m : 0 < M 0 0) (p_v : M 0 2 ≤ 12) (z0 : CX T P) (z1 : XTB K M P) (Q : Option PV → PH → Prop) (hQ : ∀ (r : Int) (_ : 0 ≤ r ∧ r ≤ 1) (_ : (r = 1 ∧ onOk T M) ∨ (r = 0 ∧ ¬ onOk T M)), Q (some (vI r)) P) : Ct WSX G 2 iX11_isImage [vR 0] P Q := by
  refine Ct.of (by decide) (l0 := [(0, vR 0)]) rfl (Nat.le_of_ble_eq_true rfl) ?_
  have ht := z0.1
  have hTv := z0.2
  have q11 := bx_1_1 (o := 1) hB ⟨by decide, rfl⟩
  have hx8 := z1.2.b
  have ht0 : 0 < T.2 → P 2 0 = T.1 0 := fun h => hTv 0 (by decide) h
  refine g_aload_n dX11_isImage_0 rfl ?_
  refine x_g0_0 (n := 1) (⟨by decide, rfl⟩ : kx 0 0) ffX11_14 dX11_isImage_1 rfl ?_
  refine g_iconst dX11_isImage_4 ?_
  refine g_vI (av := [vI 0]) (o := 1) (st := []) (f_X1_byteAt_B16 G P 0 (by decide) hB  _ (fun rc1 hc1 gc1_t => ⟨rc1, rfl, ?_⟩)) cf_X1_byteAt t_1059 rfl (show kx 1 1 from (⟨by decide, rfl⟩ : kx 1 1)).1 ((show kx 1 1 from (⟨by decide, rfl⟩ : kx 1 1)).sh rfl) rfl rfl (Nat.le_of_ble_eq_true rfl) (by decide) rfl dX11_isImage_5
  refine g_istore_n (l1 := [(1, vI rc1), (0, vR 0)]) dX11_isImage_8 (by decide) rfl ?_
  refine g_iload_n dX11_isImage_9 rfl ?_
  refine g_if_lt (tgt := 37) dX11_isImage_10 (by decide) ⟨by (first | (clear hx8 ht0 gc1_t; omega) | omega), by (first | (clear hx8 ht0 gc1_t; omega) | omega)⟩ (fun k2 => ?_) (fun k2 => ?_)
  · first | (revert r_gc1_t; intro r_gc1_t) | have r_gc1_t := (gc1_t.resolve_right (by (clear hx8 ht0 gc1_t k2; omega))) | have r_gc1_t := (gc1_t.resolve_left (by (clear hx8 ht0 gc1_t k2; omega))) | skip
    have hno : ¬ onOk T M := fun q => by have q1 := q.1; unfold oHd at q1; (first | (clear hx8 ht0 gc1_t k2; omega) | (clear hx8 ht0 gc1_t; omega) | (clear hx8 ht0 k2; omega) | (clear hx8 gc1_t k2; omega) | (clear ht0 gc1_t k2; omega) | (clear hx8 ht0; omega) | omega)
    refine g_iconst dX11_isImage_37 ?_
    exact g_retZ dX11_isImage_38 rfl (by decide) (hQ 0 (by decide) (Or.inr ⟨rfl, hno⟩))
  · first | (revert r_gc1_t; intro r_gc1_t) | have r_gc1_t := (gc1_t.resolve_right (by (clear hx8 ht0 gc1_t k2; omega))) | have r_gc1_t := (gc1_t.resolve_left (by (clear hx8 ht0 gc1_t k2; omega))) | skip
    refine g_iload_n dX11_isImage_13 rfl ?_
    refine g_aload_n dX11_isImage_14 rfl ?_
    refine x_g0_10 (n := (P 0 10).toNat) (⟨by decide, rfl⟩ : kx 0 0) ffX11_71 dX11_isImage_15 (br_0_10 hB) ?_
    refine x_g28_8 (z := (P (P 0 10).toNat 8)) (bk_0_10 hB) ffX11_123 dX11_isImage_18 rfl ?_
    have f3 := bx_28_8 (o := (P 0 10).toNat) hB (bk_0_10 hB)
    refine g_icmp_gt (tgt := 37) dX11_isImage_21 (by decide) ⟨by (first | (clear hx8 ht0 gc1_t k2; omega) | omega), by (first | (clear hx8 ht0 gc1_t k2; omega) | omega)⟩ ⟨by have q0 := bx_28_8 (o := (P 0 10).toNat) hB (bk_0_10 hB); (first | (clear hx8 ht0 gc1_t k2; omega) | omega), by have q0 := bx_28_8 (o := (P 0 10).toNat) hB (bk_0_10 hB); (first | (clear hx8 ht0 gc1_t k2; omega) | omega)⟩ (fun k4 => ?_) (fun k4 => ?_)
    · first | (revert r_gc1_t; intro r_gc1_t) | have r_gc1_t := (gc1_t.resolve_right (by (clear hx8 ht0 gc1_t k2 k4; omega))) | have r_gc1_t := (gc1_t.resolve_left (by (clear hx8 ht0 gc1_t k2 k4; omega))) | skip
      have hno : ¬ onOk T M := fun q => by have q1 := q.1; unfold oHd at q1; (first | (clear hx8 ht0 gc1_t k2 k4; omega) | (clear hx8 ht0 gc1_t k2; omega) | (clear hx8 ht0 gc1_t k4; omega) | (clear hx8 ht0 k2 k4; omega) | (clear hx8 gc1_t k2 k4; omega) | (clear ht0 gc1_t k2 k4; omega) | (clear hx8 ht0 gc1_t; omega) | (clear hx8; omega) | omega)
      refine g_iconst dX11_isImage_37 ?_
      exact g_retZ dX11_isImage_38 rfl (by decide) (hQ 0 (by decide) (Or.inr ⟨rfl, hno⟩))
    · first | (revert r_gc1_t; intro r_gc1_t) | have r_gc1_t := (gc1_t.resolve_right (by (clear hx8 ht0 gc1_t k2 k4; omega))) | have r_gc1_t := (gc1_t.resolve_left (by (clear hx8 ht0 gc1_t k2 k4; omega))) | skip
      refine g_aload_n dX11_isImage_24 rfl ?_
      refine x_g0_0 (n := 1) (⟨by decide, rfl⟩ : kx 0 0) ffX11_14 dX11_isImage_25 rfl ?_
      refine x_g1_1 (z := (P 1 1)) (⟨by decide, rfl⟩ : kx 1 1) ffX11_100 dX11_isImage_28 rfl ?_
      refine g_iload_n dX11_isImage_31 rfl ?_
      refine g_iconst dX11_isImage_32 ?_
      refine g_iadd dX11_isImage_33 ?_
      have f5 := bx_1_1 (o := 1) hB (⟨by decide, rfl⟩ : kx 1 1)
      refine g_icmp_eq (tgt := 39) dX11_isImage_34 (by decide) ⟨by have q0 := bx_1_1 (o := 1) hB (⟨by decide, rfl⟩ : kx 1 1); (first | (clear hx8 ht0 gc1_t k2 k4; omega) | omega), by have q0 := bx_1_1 (o := 1) hB (⟨by decide, rfl⟩ : kx 1 1); (first | (clear hx8 ht0 gc1_t k2 k4; omega) | omega)⟩ ⟨by (first | (clear hx8 ht0 gc1_t k2 k4; omega) | omega), by (first | (clear hx8 ht0 gc1_t k2 k4; omega) | omega)⟩ (fun k6 => ?_) (fun k6 => ?_)
      · first | (revert r_gc1_t; intro r_gc1_t) | have r_gc1_t := (gc1_t.resolve_right (by (clear hx8 ht0 gc1_t k2 k4 k6; omega))) | have r_gc1_t := (gc1_t.resolve_left (by (clear hx8 ht0 gc1_t k2 k4 k6; omega))) | skip
        have ht9 := ht0 (by (first | (clear hx8 ht0 gc1_t k2 k4 k6; omega) | (clear hx8 ht0 gc1_t k2 k4; omega) | (clear hx8 ht0 gc1_t k2 k6; omega) | (clear hx8 ht0 gc1_t k4 k6; omega) | (clear hx8 ht0 k2 k4 k6; omega) | (clear hx8 gc1_t k2 k4 k6; omega) | (clear ht0 gc1_t k2 k4 k6; omega) | (clear hx8 ht0 gc1_t k2; omega) | (clear ht0 hx8; omega) | omega))
        have hoh : oHd T M := ⟨by (first | (clear hx8 ht0 gc1_t k2 k4 k6; omega) | (clear hx8 ht0 gc1_t k2 k4; omega) | (clear hx8 ht0 gc1_t k2 k6; omega) | (clear hx8 ht0 gc1_t k4 k6; omega) | (clear hx8 ht0 k2 k4 k6; omega) | (clear hx8 gc1_t k2 k4 k6; omega) | (clear ht0 gc1_t k2 k4 k6; omega) | (clear hx8 ht0 gc1_t k2; omega) | (clear ht0 hx8; omega) | omega), by (first | (clear hx8 ht0 gc1_t k2 k4 k6; omega) | (clear hx8 ht0 gc1_t k2 k4; omega) | (clear hx8 ht0 gc1_t k2 k6; omega) | (clear hx8 ht0 gc1_t k4 k6; omega) | (clear hx8 ht0 k2 k4 k6; omega) | (clear hx8 gc1_t k2 k4 k6; omega) | (clear ht0 gc1_t k2 k4 k6; omega) | (clear hx8 ht0 gc1_t k2; omega) | (clear ht0 hx8; omega) | omega), by (first | (clear hx8 ht0 gc1_t k2 k4 k6; omega) | (clear hx8 ht0 gc1_t k2 k4; omega) | (clear hx8 ht0 gc1_t k2 k6; omega) | (clear hx8 ht0 gc1_t k4 k6; omega) | (clear hx8 ht0 k2 k4 k6; omega) | (clear hx8 gc1_t k2 k4 k6; omega) | (clear ht0 gc1_t k2 k4 k6; omega) | (clear hx8 ht0 gc1_t k2; omega) | (clear ht0 hx8; omega) | omega), by (first | (clear hx8 ht0 gc1_t k2 k4 k6; omega) | (clear hx8 ht0 gc1_t k2 k4; omega) | (clear hx8 ht0 gc1_t k2 k6; omega) | (clear hx8 ht0 gc1_t k4 k6; omega) | (clear hx8 ht0 k2 k4 k6; omega) | (clear hx8 gc1_t k2 k4 k6; omega) | (clear ht0 gc1_t k2 k4 k6; omega) | (clear hx8 ht0 gc1_t k2; omega) | (clear ht0 hx8; omega) | omega)⟩
        refine g_iconst dX11_isImage_39 ?_
        refine g_istore_n (l1 := [(2, vI 0), (1, vI rc1), (0, vR 0)]) dX11_isImage_40 (by decide) rfl ?_
        refine g_iconst dX11_isImage_41 ?_
        refine g_istore_n (l1 := [(3, vI 0), (2, vI 0), (1, vI rc1), (0, vR 0)]) dX11_isImage_42 (by decide) rfl ?_
        have L43_6 : ∀ (n43_6 : Nat) (x43_3_6 : Int) (h_x43_3_6 : 0 ≤ x43_3_6 ∧ x43_3_6 ≤ 12) (x43_2_6 : Int) (h_x43_2_6 : 0 ≤ x43_2_6 ∧ x43_2_6 ≤ 4095) (i43_0_6 : x43_2_6 = hdF T (x43_3_6).toNat) (i43_1_6 : OLI T M x43_3_6) (i43_2_6 : x43_3_6 ≤ rc1) (hm43_6 : ((13 - x43_3_6) : Int).toNat < n43_6), Go WSX G 2 iX11_isImage 43 [(0, vR 0), (1, vI rc1), (2, vI x43_2_6), (3, vI x43_3_6)] [] P Q := by
          intro n43_6
          induction n43_6 with
          | zero => intro x43_3_6 h_x43_3_6 x43_2_6 h_x43_2_6 i43_0_6 i43_1_6 i43_2_6 hm43_6; exact absurd hm43_6 (Nat.not_lt_zero _)
          | succ n43_6 ih43_6 =>
          intro x43_3_6 h_x43_3_6 x43_2_6 h_x43_2_6 i43_0_6 i43_1_6 i43_2_6 hm43_6
          refine g_iload_n dX11_isImage_43 rfl ?_
          refine g_iload_n dX11_isImage_44 rfl ?_
          refine g_icmp_ge (tgt := 101) dX11_isImage_45 (by decide) ⟨by (first | (clear hx8 ht0 gc1_t k2 k4 k6; omega) | omega), by (first | (clear hx8 ht0 gc1_t k2 k4 k6; omega) | omega)⟩ ⟨by (first | (clear hx8 ht0 gc1_t k2 k4 k6; omega) | omega), by (first | (clear hx8 ht0 gc1_t k2 k4 k6; omega) | omega)⟩ (fun k134 => ?_) (fun k134 => ?_)
          · first | (revert r_gc1_t; intro r_gc1_t) | have r_gc1_t := (gc1_t.resolve_right (by (clear hx8 ht0 gc1_t k2 k4 k6; omega))) | have r_gc1_t := (gc1_t.resolve_left (by (clear hx8 ht0 gc1_t k2 k4 k6; omega))) | skip
            refine g_aload_n dX11_isImage_101 rfl ?_
            have eT2 : P 2 (rc1 + 2) = T.1 (T.2 - 2) := by rw [show T.2 - 2 = rc1 + 2 by (first | (clear hx8 ht0 gc1_t k2 k4 k6; omega) | (clear hx8 ht0 gc1_t k2 k4; omega) | (clear hx8 ht0 gc1_t k2 k6; omega) | (clear hx8 ht0 gc1_t k4 k6; omega) | (clear hx8 ht0 k2 k4 k6; omega) | (clear hx8 gc1_t k2 k4 k6; omega) | (clear ht0 gc1_t k2 k4 k6; omega) | (clear hx8 ht0 gc1_t k2; omega) | (clear ht0 hx8; omega) | omega)]; exact hTv _ (by (first | (clear hx8 ht0 gc1_t k2 k4 k6; omega) | (clear hx8 ht0 gc1_t k2 k4; omega) | (clear hx8 ht0 gc1_t k2 k6; omega) | (clear hx8 ht0 gc1_t k4 k6; omega) | (clear hx8 ht0 k2 k4 k6; omega) | (clear hx8 gc1_t k2 k4 k6; omega) | (clear ht0 gc1_t k2 k4 k6; omega) | (clear hx8 ht0 gc1_t k2; omega) | (clear ht0 hx8; omega) | omega)) (by (first | (clear hx8 ht0 gc1_t k2 k4 k6; omega) | (clear hx8 ht0 gc1_t k2 k4; omega) | (clear hx8 ht0 gc1_t k2 k6; omega) | (clear hx8 ht0 gc1_t k4 k6; omega) | (clear hx8 ht0 k2 k4 k6; omega) | (clear hx8 gc1_t k2 k4 k6; omega) | (clear ht0 gc1_t k2 k4 k6; omega) | (clear hx8 ht0 gc1_t k2; omega) | (clear ht0 hx8; omega) | omega))
            have eT1 : P 2 (rc1 + 3) = T.1 (T.2 - 1) := by rw [show T.2 - 1 = rc1 + 3 by (first | (clear hx8 ht0 gc1_t k2 k4 k6; omega) | (clear hx8 ht0 gc1_t k2 k4; omega) | (clear hx8 ht0 gc1_t k2 k6; omega) | (clear hx8 ht0 gc1_t k4 k6; omega) | (clear hx8 ht0 k2 k4 k6; omega) | (clear hx8 gc1_t k2 k4 k6; omega) | (clear ht0 gc1_t k2 k4 k6; omega) | (clear hx8 ht0 gc1_t k2; omega) | (clear ht0 hx8; omega) | omega)]; exact hTv _ (by (first | (clear hx8 ht0 gc1_t k2 k4 k6; omega) | (clear hx8 ht0 gc1_t k2 k4; omega) | (clear hx8 ht0 gc1_t k2 k6; omega) | (clear hx8 ht0 gc1_t k4 k6; omega) | (clear hx8 ht0 k2 k4 k6; omega) | (clear hx8 gc1_t k2 k4 k6; omega) | (clear ht0 gc1_t k2 k4 k6; omega) | (clear hx8 ht0 gc1_t k2; omega) | (clear ht0 hx8; omega) | omega)) (by (first | (clear hx8 ht0 gc1_t k2 k4 k6; omega) | (clear hx8 ht0 gc1_t k2 k4; omega) | (clear hx8 ht0 gc1_t k2 k6; omega) | (clear hx8 ht0 gc1_t k4 k6; omega) | (clear hx8 ht0 k2 k4 k6; omega) | (clear hx8 gc1_t k2 k4 k6; omega) | (clear ht0 gc1_t k2 k4 k6; omega) | (clear hx8 ht0 gc1_t k2; omega) | (clear ht0 hx8; omega) | omega))
            have hol := i43_1_6
            have qt2 := bx_2 (o := 2) (k := rc1 + 2) hB ⟨by decide, rfl⟩
            have qt1 := bx_2 (o := 2) (k := rc1 + 3) hB ⟨by decide, rfl⟩
            refine x_g0_0 (n := 1) (⟨by decide, rfl⟩ : kx 0 0) ffX11_14 dX11_isImage_102 rfl ?_
            refine g_iload_n dX11_isImage_105 rfl ?_
            refine g_iconst dX11_isImage_106 ?_
            refine g_iadd dX11_isImage_107 ?_
            refine g_vI (av := [vI (rc1 + 2)]) (o := 1) (st := []) (f_X1_byteAt_B16 G P (rc1 + 2) ⟨by (first | (clear hx8 ht0 gc1_t k2 k4 k6; omega) | omega), by (first | (clear hx8 ht0 gc1_t k2 k4 k6; omega) | omega)⟩ hB  _ (fun rc135 hc135 gc135_t => ⟨rc135, rfl, ?_⟩)) cf_X1_byteAt t_1059 rfl (show kx 1 1 from (⟨by decide, rfl⟩ : kx 1 1)).1 ((show kx 1 1 from (⟨by decide, rfl⟩ : kx 1 1)).sh rfl) rfl rfl (Nat.le_of_ble_eq_true rfl) (by decide) rfl dX11_isImage_108
            refine g_sI (av := [vI rc135]) (st := []) (f_X11_isRule G P rc135 ⟨by (first | (clear hx8 ht0 gc1_t k2 k4 k6 gc135_t; omega) | omega), by (first | (clear hx8 ht0 gc1_t k2 k4 k6 gc135_t; omega) | omega)⟩ hB  _ (fun rc136 hc136 gc136_p gc136_f => ⟨rc136, rfl, ?_⟩)) cf_X11_isRule t_1067 rfl (Nat.le_of_ble_eq_true rfl) (by decide) rfl dX11_isImage_111
            refine g_if_eq (tgt := 144) dX11_isImage_114 (by decide) ⟨by (first | (clear hx8 ht0 gc1_t k2 k4 k6 gc135_t gc136_p gc136_f; omega) | omega), by (first | (clear hx8 ht0 gc1_t k2 k4 k6 gc135_t gc136_p gc136_f; omega) | omega)⟩ (fun k137 => ?_) (fun k137 => ?_)
            · first | (revert r_gc136_f; intro r_gc136_f) | have r_gc136_f := (gc136_f.resolve_right (by (clear hx8 ht0 gc1_t k2 k4 k6 gc135_t gc136_p gc136_f; omega))) | have r_gc136_f := (gc136_f.resolve_left (by (clear hx8 ht0 gc1_t k2 k4 k6 gc135_t gc136_p gc136_f; omega))) | skip
              first | (revert r_gc136_p; intro r_gc136_p) | have r_gc136_p := (gc136_p.resolve_right (by (clear hx8 ht0 gc1_t k2 k4 k6 gc135_t gc136_p gc136_f; omega))) | have r_gc136_p := (gc136_p.resolve_left (by (clear hx8 ht0 gc1_t k2 k4 k6 gc135_t gc136_p gc136_f; omega))) | skip
              first | (revert r_gc135_t; intro r_gc135_t) | have r_gc135_t := (gc135_t.resolve_right (by (clear hx8 ht0 gc1_t k2 k4 k6 gc135_t gc136_p gc136_f; omega))) | have r_gc135_t := (gc135_t.resolve_left (by (clear hx8 ht0 gc1_t k2 k4 k6 gc135_t gc136_p gc136_f; omega))) | skip
              first | (revert r_gc1_t; intro r_gc1_t) | have r_gc1_t := (gc1_t.resolve_right (by (clear hx8 ht0 gc1_t k2 k4 k6 gc135_t gc136_p gc136_f; omega))) | have r_gc1_t := (gc1_t.resolve_left (by (clear hx8 ht0 gc1_t k2 k4 k6 gc135_t gc136_p gc136_f; omega))) | skip
              refine g_iconst dX11_isImage_144 ?_
              exact g_retZ dX11_isImage_145 rfl (by decide) (hQ 0 (by decide) (by first | exact Or.inl ⟨rfl, hoh, by (first | (clear hx8 ht0 gc1_t k2 k4 k6 gc135_t gc136_p gc136_f; omega) | (clear hx8 ht0 gc1_t k2 k4 k6 gc135_t gc136_p; omega) | (clear hx8 ht0 gc1_t k2 k4 k6 gc135_t gc136_f; omega) | (clear hx8 ht0 gc1_t k2 k4 k6 gc136_p gc136_f; omega) | (clear hx8 ht0 gc1_t k2 k4 gc135_t gc136_p gc136_f; omega) | (clear hx8 ht0 gc1_t k2 k6 gc135_t gc136_p gc136_f; omega) | (clear hx8 ht0 gc1_t k4 k6 gc135_t gc136_p gc136_f; omega) | (clear hx8 ht0 k2 k4 k6 gc135_t gc136_p gc136_f; omega) | (clear hx8 gc1_t k2 k4 k6 gc135_t gc136_p gc136_f; omega) | (clear hx8 ht0 gc1_t k2 k4 k6 gc135_t; omega) | (clear k4 k2 gc1_t ht0 hx8; omega) | omega), by (first | (clear hx8 ht0 gc1_t k2 k4 k6 gc135_t gc136_p gc136_f; omega) | (clear hx8 ht0 gc1_t k2 k4 k6 gc135_t gc136_p; omega) | (clear hx8 ht0 gc1_t k2 k4 k6 gc135_t gc136_f; omega) | (clear hx8 ht0 gc1_t k2 k4 k6 gc136_p gc136_f; omega) | (clear hx8 ht0 gc1_t k2 k4 gc135_t gc136_p gc136_f; omega) | (clear hx8 ht0 gc1_t k2 k6 gc135_t gc136_p gc136_f; omega) | (clear hx8 ht0 gc1_t k4 k6 gc135_t gc136_p gc136_f; omega) | (clear hx8 ht0 k2 k4 k6 gc135_t gc136_p gc136_f; omega) | (clear hx8 gc1_t k2 k4 k6 gc135_t gc136_p gc136_f; omega) | (clear hx8 ht0 gc1_t k2 k4 k6 gc135_t; omega) | (clear k4 k2 gc1_t ht0 hx8; omega) | omega), fun p p0 p1 => hol p p0 (by (first | (clear hx8 ht0 gc1_t k2 k4 k6 gc135_t gc136_p gc136_f; omega) | (clear hx8 ht0 gc1_t k2 k4 k6 gc135_t gc136_p; omega) | (clear hx8 ht0 gc1_t k2 k4 k6 gc135_t gc136_f; omega) | (clear hx8 ht0 gc1_t k2 k4 k6 gc136_p gc136_f; omega) | (clear hx8 ht0 gc1_t k2 k4 gc135_t gc136_p gc136_f; omega) | (clear hx8 ht0 gc1_t k2 k6 gc135_t gc136_p gc136_f; omega) | (clear hx8 ht0 gc1_t k4 k6 gc135_t gc136_p gc136_f; omega) | (clear hx8 ht0 k2 k4 k6 gc135_t gc136_p gc136_f; omega) | (clear hx8 gc1_t k2 k4 k6 gc135_t gc136_p gc136_f; omega) | (clear hx8 ht0 gc1_t k2 k4 k6 gc135_t; omega) | (clear k4 k2 gc1_t ht0 hx8; omega) | omega))⟩ | exact Or.inr ⟨rfl, fun q => by have q1 := q.2.1; have q2 := q.2.2.1; (first | (clear hx8 ht0 gc1_t k2 k4 k6 gc135_t gc136_p gc136_f; omega) | (clear hx8 ht0 gc1_t k2 k4 k6 gc135_t gc136_p; omega) | (clear hx8 ht0 gc1_t k2 k4 k6 gc135_t gc136_f; omega) | (clear hx8 ht0 gc1_t k2 k4 k6 gc136_p gc136_f; omega) | (clear hx8 ht0 gc1_t k2 k4 gc135_t gc136_p gc136_f; omega) | (clear hx8 ht0 gc1_t k2 k6 gc135_t gc136_p gc136_f; omega) | (clear hx8 ht0 gc1_t k4 k6 gc135_t gc136_p gc136_f; omega) | (clear hx8 ht0 k2 k4 k6 gc135_t gc136_p gc136_f; omega) | (clear hx8 gc1_t k2 k4 k6 gc135_t gc136_p gc136_f; omega) | (clear hx8 ht0 gc1_t k2 k4 k6 gc135_t; omega) | (clear k4 k2 gc1_t ht0 hx8; omega) | omega)⟩))
            · have k137n : 1 ≤ rc136 := by (first | (clear hx8 ht0 gc1_t k2 k4 k6 gc135_t gc136_p gc136_f; omega) | (clear hx8 ht0 gc1_t k2 k4 k6 gc135_t gc136_p; omega) | (clear hx8 ht0 gc1_t k2 k4 k6 gc135_t gc136_f; omega) | (clear hx8 ht0 gc1_t k2 k4 k6 gc136_p gc136_f; omega) | (clear hx8 ht0 gc1_t k2 k4 gc135_t gc136_p gc136_f; omega) | (clear hx8 ht0 gc1_t k2 k6 gc135_t gc136_p gc136_f; omega) | (clear hx8 ht0 gc1_t k4 k6 gc135_t gc136_p gc136_f; omega) | (clear hx8 ht0 k2 k4 k6 gc135_t gc136_p gc136_f; omega) | (clear hx8 gc1_t k2 k4 k6 gc135_t gc136_p gc136_f; omega) | (clear hx8 ht0 gc1_t k2 k4 k6 gc135_t; omega) | (clear k4 k2 gc1_t ht0 hx8; omega) | omega)
              clear k137
              first | (revert r_gc136_f; intro r_gc136_f) | have r_gc136_f := (gc136_f.resolve_right (by (clear hx8 ht0 gc1_t k2 k4 k6 gc135_t gc136_p gc136_f; omega))) | have r_gc136_f := (gc136_f.resolve_left (by (clear hx8 ht0 gc1_t k2 k4 k6 gc135_t gc136_p gc136_f; omega))) | skip
              first | (revert r_gc136_p; intro r_gc136_p) | have r_gc136_p := (gc136_p.resolve_right (by (clear hx8 ht0 gc1_t k2 k4 k6 gc135_t gc136_p gc136_f; omega))) | have r_gc136_p := (gc136_p.resolve_left (by (clear hx8 ht0 gc1_t k2 k4 k6 gc135_t gc136_p gc136_f; omega))) | skip
              first | (revert r_gc135_t; intro r_gc135_t) | have r_gc135_t := (gc135_t.resolve_right (by (clear hx8 ht0 gc1_t k2 k4 k6 gc135_t gc136_p gc136_f; omega))) | have r_gc135_t := (gc135_t.resolve_left (by (clear hx8 ht0 gc1_t k2 k4 k6 gc135_t gc136_p gc136_f; omega))) | skip
              first | (revert r_gc1_t; intro r_gc1_t) | have r_gc1_t := (gc1_t.resolve_right (by (clear hx8 ht0 gc1_t k2 k4 k6 gc135_t gc136_p gc136_f; omega))) | have r_gc1_t := (gc1_t.resolve_left (by (clear hx8 ht0 gc1_t k2 k4 k6 gc135_t gc136_p gc136_f; omega))) | skip
              refine g_aload_n dX11_isImage_117 rfl ?_
              refine x_g0_0 (n := 1) (⟨by decide, rfl⟩ : kx 0 0) ffX11_14 dX11_isImage_118 rfl ?_
              refine g_iload_n dX11_isImage_121 rfl ?_
              refine g_iconst dX11_isImage_122 ?_
              refine g_iadd dX11_isImage_123 ?_
              refine g_vI (av := [vI (rc1 + 3)]) (o := 1) (st := []) (f_X1_byteAt_B16 G P (rc1 + 3) ⟨by (first | (clear hx8 ht0 gc1_t k2 k4 k6 gc135_t gc136_p gc136_f; omega) | omega), by (first | (clear hx8 ht0 gc1_t k2 k4 k6 gc135_t gc136_p gc136_f; omega) | omega)⟩ hB  _ (fun rc138 hc138 gc138_t => ⟨rc138, rfl, ?_⟩)) cf_X1_byteAt t_1059 rfl (show kx 1 1 from (⟨by decide, rfl⟩ : kx 1 1)).1 ((show kx 1 1 from (⟨by decide, rfl⟩ : kx 1 1)).sh rfl) rfl rfl (Nat.le_of_ble_eq_true rfl) (by decide) rfl dX11_isImage_124
              refine g_aload_n dX11_isImage_127 rfl ?_
              refine x_g0_0 (n := 1) (⟨by decide, rfl⟩ : kx 0 0) ffX11_14 dX11_isImage_128 rfl ?_
              refine g_iload_n dX11_isImage_131 rfl ?_
              refine g_iconst dX11_isImage_132 ?_
              refine g_iadd dX11_isImage_133 ?_
              refine g_vI (av := [vI (rc1 + 3)]) (o := 1) (st := [vI rc138]) (f_X1_checkByte_B16 G P T (rc1 + 3) ⟨by (first | (clear hx8 ht0 gc1_t k2 k4 k6 gc135_t gc136_p gc136_f gc138_t; omega) | omega), by (first | (clear hx8 ht0 gc1_t k2 k4 k6 gc135_t gc136_p gc136_f gc138_t; omega) | omega)⟩ hB (by (first | (clear hx8 ht0 gc1_t k2 k4 k6 gc135_t gc136_p gc136_f gc138_t; omega) | (clear hx8 ht0 gc1_t k2 k4 k6 gc135_t gc136_p gc136_f; omega) | (clear hx8 ht0 gc1_t k2 k4 k6 gc135_t gc136_p gc138_t; omega) | (clear hx8 ht0 gc1_t k2 k4 k6 gc135_t gc136_f gc138_t; omega) | (clear hx8 ht0 gc1_t k2 k4 k6 gc136_p gc136_f gc138_t; omega) | (clear hx8 ht0 gc1_t k2 k4 gc135_t gc136_p gc136_f gc138_t; omega) | (clear hx8 ht0 gc1_t k2 k6 gc135_t gc136_p gc136_f gc138_t; omega) | (clear hx8 ht0 gc1_t k4 k6 gc135_t gc136_p gc136_f gc138_t; omega) | (clear hx8 ht0 k2 k4 k6 gc135_t gc136_p gc136_f gc138_t; omega) | (clear hx8 ht0 gc1_t k2 k4 k6 gc135_t gc136_p; omega) | (clear k6 k4 k2 gc1_t ht0 hx8; omega) | omega)) (z0) _ (fun rc139 hc139 gc139_c => ⟨rc139, rfl, ?_⟩)) cf_X1_checkByte t_1335 rfl (show kx 1 1 from (⟨by decide, rfl⟩ : kx 1 1)).1 ((show kx 1 1 from (⟨by decide, rfl⟩ : kx 1 1)).sh rfl) rfl rfl (Nat.le_of_ble_eq_true rfl) (by decide) rfl dX11_isImage_134
              have hck := gc139_c
              rw [show rc1 + 3 = T.2 - 1 by (first | (clear hx8 ht0 gc1_t k2 k4 k6 gc135_t gc136_p gc136_f gc138_t; omega) | (clear hx8 ht0 gc1_t k2 k4 k6 gc135_t gc136_p gc136_f; omega) | (clear hx8 ht0 gc1_t k2 k4 k6 gc135_t gc136_p gc138_t; omega) | (clear hx8 ht0 gc1_t k2 k4 k6 gc135_t gc136_f gc138_t; omega) | (clear hx8 ht0 gc1_t k2 k4 k6 gc136_p gc136_f gc138_t; omega) | (clear hx8 ht0 gc1_t k2 k4 gc135_t gc136_p gc136_f gc138_t; omega) | (clear hx8 ht0 gc1_t k2 k6 gc135_t gc136_p gc136_f gc138_t; omega) | (clear hx8 ht0 gc1_t k4 k6 gc135_t gc136_p gc136_f gc138_t; omega) | (clear hx8 ht0 k2 k4 k6 gc135_t gc136_p gc136_f gc138_t; omega) | (clear hx8 ht0 gc1_t k2 k4 k6 gc135_t gc136_p; omega) | (clear k6 k4 k2 gc1_t ht0 hx8; omega) | omega)] at hck
              refine g_icmp_ne (tgt := 144) dX11_isImage_137 (by decide) ⟨by (first | (clear hx8 ht0 gc1_t k2 k4 k6 gc135_t gc136_p gc136_f gc138_t; omega) | omega), by (first | (clear hx8 ht0 gc1_t k2 k4 k6 gc135_t gc136_p gc136_f gc138_t; omega) | omega)⟩ ⟨by (first | (clear hx8 ht0 gc1_t k2 k4 k6 gc135_t gc136_p gc136_f gc138_t; omega) | omega), by (first | (clear hx8 ht0 gc1_t k2 k4 k6 gc135_t gc136_p gc136_f gc138_t; omega) | omega)⟩ (fun k140 => ?_) (fun k140 => ?_)
              · first | (revert r_gc138_t; intro r_gc138_t) | have r_gc138_t := (gc138_t.resolve_right (by (clear hx8 ht0 gc1_t k2 k4 k6 gc135_t gc136_p gc136_f gc138_t k140; omega))) | have r_gc138_t := (gc138_t.resolve_left (by (clear hx8 ht0 gc1_t k2 k4 k6 gc135_t gc136_p gc136_f gc138_t k140; omega))) | skip
                first | (revert r_gc136_f; intro r_gc136_f) | have r_gc136_f := (gc136_f.resolve_right (by (clear hx8 ht0 gc1_t k2 k4 k6 gc135_t gc136_p gc136_f gc138_t k140; omega))) | have r_gc136_f := (gc136_f.resolve_left (by (clear hx8 ht0 gc1_t k2 k4 k6 gc135_t gc136_p gc136_f gc138_t k140; omega))) | skip
                first | (revert r_gc136_p; intro r_gc136_p) | have r_gc136_p := (gc136_p.resolve_right (by (clear hx8 ht0 gc1_t k2 k4 k6 gc135_t gc136_p gc136_f gc138_t k140; omega))) | have r_gc136_p := (gc136_p.resolve_left (by (clear hx8 ht0 gc1_t k2 k4 k6 gc135_t gc136_p gc136_f gc138_t k140; omega))) | skip
                first | (revert r_gc135_t; intro r_gc135_t) | have r_gc135_t := (gc135_t.resolve_right (by (clear hx8 ht0 gc1_t k2 k4 k6 gc135_t gc136_p gc136_f gc138_t k140; omega))) | have r_gc135_t := (gc135_t.resolve_left (by (clear hx8 ht0 gc1_t k2 k4 k6 gc135_t gc136_p gc136_f gc138_t k140; omega))) | skip
                first | (revert r_gc1_t; intro r_gc1_t) | have r_gc1_t := (gc1_t.resolve_right (by (clear hx8 ht0 gc1_t k2 k4 k6 gc135_t gc136_p gc136_f gc138_t k140; omega))) | have r_gc1_t := (gc1_t.resolve_left (by (clear hx8 ht0 gc1_t k2 k4 k6 gc135_t gc136_p gc136_f gc138_t k140; omega))) | skip
                refine g_iconst dX11_isImage_144 ?_
                exact g_retZ dX11_isImage_145 rfl (by decide) (hQ 0 (by decide) (by first | exact Or.inl ⟨rfl, hoh, by (first | (clear hx8 ht0 gc1_t k2 k4 k6 gc135_t gc136_p gc136_f gc138_t k140; omega) | (clear hx8 ht0 gc1_t k2 k4 k6 gc135_t gc136_p gc136_f gc138_t; omega) | (clear hx8 ht0 gc1_t k2 k4 k6 gc135_t gc136_p gc136_f k140; omega) | (clear hx8 ht0 gc1_t k2 k4 k6 gc135_t gc136_p gc138_t k140; omega) | (clear hx8 ht0 gc1_t k2 k4 k6 gc135_t gc136_f gc138_t k140; omega) | (clear hx8 ht0 gc1_t k2 k4 k6 gc136_p gc136_f gc138_t k140; omega) | (clear hx8 ht0 gc1_t k2 k4 gc135_t gc136_p gc136_f gc138_t k140; omega) | (clear hx8 ht0 gc1_t k2 k6 gc135_t gc136_p gc136_f gc138_t k140; omega) | (clear hx8 ht0 gc1_t k4 k6 gc135_t gc136_p gc136_f gc138_t k140; omega) | (clear hx8 ht0 gc1_t k2 k4 k6 gc135_t gc136_p gc136_f; omega) | (clear gc135_t k6 k4 k2 gc1_t ht0 hx8; omega) | omega), by (first | (clear hx8 ht0 gc1_t k2 k4 k6 gc135_t gc136_p gc136_f gc138_t k140; omega) | (clear hx8 ht0 gc1_t k2 k4 k6 gc135_t gc136_p gc136_f gc138_t; omega) | (clear hx8 ht0 gc1_t k2 k4 k6 gc135_t gc136_p gc136_f k140; omega) | (clear hx8 ht0 gc1_t k2 k4 k6 gc135_t gc136_p gc138_t k140; omega) | (clear hx8 ht0 gc1_t k2 k4 k6 gc135_t gc136_f gc138_t k140; omega) | (clear hx8 ht0 gc1_t k2 k4 k6 gc136_p gc136_f gc138_t k140; omega) | (clear hx8 ht0 gc1_t k2 k4 gc135_t gc136_p gc136_f gc138_t k140; omega) | (clear hx8 ht0 gc1_t k2 k6 gc135_t gc136_p gc136_f gc138_t k140; omega) | (clear hx8 ht0 gc1_t k4 k6 gc135_t gc136_p gc136_f gc138_t k140; omega) | (clear hx8 ht0 gc1_t k2 k4 k6 gc135_t gc136_p gc136_f; omega) | (clear gc135_t k6 k4 k2 gc1_t ht0 hx8; omega) | omega), fun p p0 p1 => hol p p0 (by (first | (clear hx8 ht0 gc1_t k2 k4 k6 gc135_t gc136_p gc136_f gc138_t k140; omega) | (clear hx8 ht0 gc1_t k2 k4 k6 gc135_t gc136_p gc136_f gc138_t; omega) | (clear hx8 ht0 gc1_t k2 k4 k6 gc135_t gc136_p gc136_f k140; omega) | (clear hx8 ht0 gc1_t k2 k4 k6 gc135_t gc136_p gc138_t k140; omega) | (clear hx8 ht0 gc1_t k2 k4 k6 gc135_t gc136_f gc138_t k140; omega) | (clear hx8 ht0 gc1_t k2 k4 k6 gc136_p gc136_f gc138_t k140; omega) | (clear hx8 ht0 gc1_t k2 k4 gc135_t gc136_p gc136_f gc138_t k140; omega) | (clear hx8 ht0 gc1_t k2 k6 gc135_t gc136_p gc136_f gc138_t k140; omega) | (clear hx8 ht0 gc1_t k4 k6 gc135_t gc136_p gc136_f gc138_t k140; omega) | (clear hx8 ht0 gc1_t k2 k4 k6 gc135_t gc136_p gc136_f; omega) | (clear gc135_t k6 k4 k2 gc1_t ht0 hx8; omega) | omega))⟩ | exact Or.inr ⟨rfl, fun q => by have q1 := q.2.1; have q2 := q.2.2.1; (first | (clear hx8 ht0 gc1_t k2 k4 k6 gc135_t gc136_p gc136_f gc138_t k140; omega) | (clear hx8 ht0 gc1_t k2 k4 k6 gc135_t gc136_p gc136_f gc138_t; omega) | (clear hx8 ht0 gc1_t k2 k4 k6 gc135_t gc136_p gc136_f k140; omega) | (clear hx8 ht0 gc1_t k2 k4 k6 gc135_t gc136_p gc138_t k140; omega) | (clear hx8 ht0 gc1_t k2 k4 k6 gc135_t gc136_f gc138_t k140; omega) | (clear hx8 ht0 gc1_t k2 k4 k6 gc136_p gc136_f gc138_t k140; omega) | (clear hx8 ht0 gc1_t k2 k4 gc135_t gc136_p gc136_f gc138_t k140; omega) | (clear hx8 ht0 gc1_t k2 k6 gc135_t gc136_p gc136_f gc138_t k140; omega) | (clear hx8 ht0 gc1_t k4 k6 gc135_t gc136_p gc136_f gc138_t k140; omega) | (clear hx8 ht0 gc1_t k2 k4 k6 gc135_t gc136_p gc136_f; omega) | (clear gc135_t k6 k4 k2 gc1_t ht0 hx8; omega) | omega)⟩))
              · first | (revert r_gc138_t; intro r_gc138_t) | have r_gc138_t := (gc138_t.resolve_right (by (clear hx8 ht0 gc1_t k2 k4 k6 gc135_t gc136_p gc136_f gc138_t k140; omega))) | have r_gc138_t := (gc138_t.resolve_left (by (clear hx8 ht0 gc1_t k2 k4 k6 gc135_t gc136_p gc136_f gc138_t k140; omega))) | skip
                first | (revert r_gc136_f; intro r_gc136_f) | have r_gc136_f := (gc136_f.resolve_right (by (clear hx8 ht0 gc1_t k2 k4 k6 gc135_t gc136_p gc136_f gc138_t k140; omega))) | have r_gc136_f := (gc136_f.resolve_left (by (clear hx8 ht0 gc1_t k2 k4 k6 gc135_t gc136_p gc136_f gc138_t k140; omega))) | skip
                first | (revert r_gc136_p; intro r_gc136_p) | have r_gc136_p := (gc136_p.resolve_right (by (clear hx8 ht0 gc1_t k2 k4 k6 gc135_t gc136_p gc136_f gc138_t k140; omega))) | have r_gc136_p := (gc136_p.resolve_left (by (clear hx8 ht0 gc1_t k2 k4 k6 gc135_t gc136_p gc136_f gc138_t k140; omega))) | skip
                first | (revert r_gc135_t; intro r_gc135_t) | have r_gc135_t := (gc135_t.resolve_right (by (clear hx8 ht0 gc1_t k2 k4 k6 gc135_t gc136_p gc136_f gc138_t k140; omega))) | have r_gc135_t := (gc135_t.resolve_left (by (clear hx8 ht0 gc1_t k2 k4 k6 gc135_t gc136_p gc136_f gc138_t k140; omega))) | skip
                first | (revert r_gc1_t; intro r_gc1_t) | have r_gc1_t := (gc1_t.resolve_right (by (clear hx8 ht0 gc1_t k2 k4 k6 gc135_t gc136_p gc136_f gc138_t k140; omega))) | have r_gc1_t := (gc1_t.resolve_left (by (clear hx8 ht0 gc1_t k2 k4 k6 gc135_t gc136_p gc136_f gc138_t k140; omega))) | skip
                refine g_iconst dX11_isImage_140 ?_
                refine g_goto (tgt := 145) dX11_isImage_141 (by decide) ?_
                exact g_retZ dX11_isImage_145 rfl (by decide) (hQ 1 (by decide) (by first | exact Or.inl ⟨rfl, hoh, by (first | (clear hx8 ht0 gc1_t k2 k4 k6 gc135_t gc136_p gc136_f gc138_t k140; omega) | (clear hx8 ht0 gc1_t k2 k4 k6 gc135_t gc136_p gc136_f gc138_t; omega) | (clear hx8 ht0 gc1_t k2 k4 k6 gc135_t gc136_p gc136_f k140; omega) | (clear hx8 ht0 gc1_t k2 k4 k6 gc135_t gc136_p gc138_t k140; omega) | (clear hx8 ht0 gc1_t k2 k4 k6 gc135_t gc136_f gc138_t k140; omega) | (clear hx8 ht0 gc1_t k2 k4 k6 gc136_p gc136_f gc138_t k140; omega) | (clear hx8 ht0 gc1_t k2 k4 gc135_t gc136_p gc136_f gc138_t k140; omega) | (clear hx8 ht0 gc1_t k2 k6 gc135_t gc136_p gc136_f gc138_t k140; omega) | (clear hx8 ht0 gc1_t k4 k6 gc135_t gc136_p gc136_f gc138_t k140; omega) | (clear hx8 ht0 gc1_t k2 k4 k6 gc135_t gc136_p gc136_f; omega) | (clear gc135_t k6 k4 k2 gc1_t ht0 hx8; omega) | omega), by (first | (clear hx8 ht0 gc1_t k2 k4 k6 gc135_t gc136_p gc136_f gc138_t k140; omega) | (clear hx8 ht0 gc1_t k2 k4 k6 gc135_t gc136_p gc136_f gc138_t; omega) | (clear hx8 ht0 gc1_t k2 k4 k6 gc135_t gc136_p gc136_f k140; omega) | (clear hx8 ht0 gc1_t k2 k4 k6 gc135_t gc136_p gc138_t k140; omega) | (clear hx8 ht0 gc1_t k2 k4 k6 gc135_t gc136_f gc138_t k140; omega) | (clear hx8 ht0 gc1_t k2 k4 k6 gc136_p gc136_f gc138_t k140; omega) | (clear hx8 ht0 gc1_t k2 k4 gc135_t gc136_p gc136_f gc138_t k140; omega) | (clear hx8 ht0 gc1_t k2 k6 gc135_t gc136_p gc136_f gc138_t k140; omega) | (clear hx8 ht0 gc1_t k4 k6 gc135_t gc136_p gc136_f gc138_t k140; omega) | (clear hx8 ht0 gc1_t k2 k4 k6 gc135_t gc136_p gc136_f; omega) | (clear gc135_t k6 k4 k2 gc1_t ht0 hx8; omega) | omega), fun p p0 p1 => hol p p0 (by (first | (clear hx8 ht0 gc1_t k2 k4 k6 gc135_t gc136_p gc136_f gc138_t k140; omega) | (clear hx8 ht0 gc1_t k2 k4 k6 gc135_t gc136_p gc136_f gc138_t; omega) | (clear hx8 ht0 gc1_t k2 k4 k6 gc135_t gc136_p gc136_f k140; omega) | (clear hx8 ht0 gc1_t k2 k4 k6 gc135_t gc136_p gc138_t k140; omega) | (clear hx8 ht0 gc1_t k2 k4 k6 gc135_t gc136_f gc138_t k140; omega) | (clear hx8 ht0 gc1_t k2 k4 k6 gc136_p gc136_f gc138_t k140; omega) | (clear hx8 ht0 gc1_t k2 k4 gc135_t gc136_p gc136_f gc138_t k140; omega) | (clear hx8 ht0 gc1_t k2 k6 gc135_t gc136_p gc136_f gc138_t k140; omega) | (clear hx8 ht0 gc1_t k4 k6 gc135_t gc136_p gc136_f gc138_t k140; omega) | (clear hx8 ht0 gc1_t k2 k4 k6 gc135_t gc136_p gc136_f; omega) | (clear gc135_t k6 k4 k2 gc1_t ht0 hx8; omega) | omega))⟩ | exact Or.inr ⟨rfl, fun q => by have q1 := q.2.1; have q2 := q.2.2.1; (first | (clear hx8 ht0 gc1_t k2 k4 k6 gc135_t gc136_p gc136_f gc138_t k140; omega) | (clear hx8 ht0 gc1_t k2 k4 k6 gc135_t gc136_p gc136_f gc138_t; omega) | (clear hx8 ht0 gc1_t k2 k4 k6 gc135_t gc136_p gc136_f k140; omega) | (clear hx8 ht0 gc1_t k2 k4 k6 gc135_t gc136_p gc138_t k140; omega) | (clear hx8 ht0 gc1_t k2 k4 k6 gc135_t gc136_f gc138_t k140; omega) | (clear hx8 ht0 gc1_t k2 k4 k6 gc136_p gc136_f gc138_t k140; omega) | (clear hx8 ht0 gc1_t k2 k4 gc135_t gc136_p gc136_f gc138_t k140; omega) | (clear hx8 ht0 gc1_t k2 k6 gc135_t gc136_p gc136_f gc138_t k140; omega) | (clear hx8 ht0 gc1_t k4 k6 gc135_t gc136_p gc136_f gc138_t k140; omega) | (clear hx8 ht0 gc1_t k2 k4 k6 gc135_t gc136_p gc136_f; omega) | (clear gc135_t k6 k4 k2 gc1_t ht0 hx8; omega) | omega)⟩))
          · first | (revert r_gc1_t; intro r_gc1_t) | have r_gc1_t := (gc1_t.resolve_right (by (clear hx8 ht0 gc1_t k2 k4 k6; omega))) | have r_gc1_t := (gc1_t.resolve_left (by (clear hx8 ht0 gc1_t k2 k4 k6; omega))) | skip
            refine g_aload_n dX11_isImage_48 rfl ?_
            have e5 := hTv (1 + x43_3_6) (by (first | (clear hx8 ht0 gc1_t k2 k4 k6; omega) | (clear hx8 ht0 gc1_t k2 k4; omega) | (clear hx8 ht0 gc1_t k2 k6; omega) | (clear hx8 ht0 gc1_t k4 k6; omega) | (clear hx8 ht0 k2 k4 k6; omega) | (clear hx8 gc1_t k2 k4 k6; omega) | (clear ht0 gc1_t k2 k4 k6; omega) | (clear hx8 ht0 gc1_t k2; omega) | (clear ht0 hx8; omega) | omega)) (by (first | (clear hx8 ht0 gc1_t k2 k4 k6; omega) | (clear hx8 ht0 gc1_t k2 k4; omega) | (clear hx8 ht0 gc1_t k2 k6; omega) | (clear hx8 ht0 gc1_t k4 k6; omega) | (clear hx8 ht0 k2 k4 k6; omega) | (clear hx8 gc1_t k2 k4 k6; omega) | (clear ht0 gc1_t k2 k4 k6; omega) | (clear hx8 ht0 gc1_t k2; omega) | (clear ht0 hx8; omega) | omega))
            have qb5 := bx_2 (o := 2) (k := 1 + x43_3_6) hB ⟨by decide, rfl⟩
            refine x_g0_0 (n := 1) (⟨by decide, rfl⟩ : kx 0 0) ffX11_14 dX11_isImage_49 rfl ?_
            refine g_iconst dX11_isImage_52 ?_
            refine g_iload_n dX11_isImage_53 rfl ?_
            refine g_iadd dX11_isImage_54 ?_
            refine g_vI (av := [vI (1 + x43_3_6)]) (o := 1) (st := []) (f_X1_byteAt_B16 G P (1 + x43_3_6) ⟨by (first | (clear hx8 ht0 gc1_t k2 k4 k6; omega) | omega), by (first | (clear hx8 ht0 gc1_t k2 k4 k6; omega) | omega)⟩ hB  _ (fun rc141 hc141 gc141_t => ⟨rc141, rfl, ?_⟩)) cf_X1_byteAt t_1059 rfl (show kx 1 1 from (⟨by decide, rfl⟩ : kx 1 1)).1 ((show kx 1 1 from (⟨by decide, rfl⟩ : kx 1 1)).sh rfl) rfl rfl (Nat.le_of_ble_eq_true rfl) (by decide) rfl dX11_isImage_55
            refine g_istore (l1 := [(4, vI rc141), (0, vR 0), (1, vI rc1), (2, vI x43_2_6), (3, vI x43_3_6)]) dX11_isImage_58 (by decide) rfl ?_
            refine g_iload dX11_isImage_60 rfl ?_
            refine g_if_lt (tgt := 86) dX11_isImage_62 (by decide) ⟨by (first | (clear hx8 ht0 gc1_t k2 k4 k6 gc141_t; omega) | omega), by (first | (clear hx8 ht0 gc1_t k2 k4 k6 gc141_t; omega) | omega)⟩ (fun k142 => ?_) (fun k142 => ?_)
            · first | (revert r_gc141_t; intro r_gc141_t) | have r_gc141_t := (gc141_t.resolve_right (by (clear hx8 ht0 gc1_t k2 k4 k6 gc141_t; omega))) | have r_gc141_t := (gc141_t.resolve_left (by (clear hx8 ht0 gc1_t k2 k4 k6 gc141_t; omega))) | skip
              first | (revert r_gc1_t; intro r_gc1_t) | have r_gc1_t := (gc1_t.resolve_right (by (clear hx8 ht0 gc1_t k2 k4 k6 gc141_t; omega))) | have r_gc1_t := (gc1_t.resolve_left (by (clear hx8 ht0 gc1_t k2 k4 k6 gc141_t; omega))) | skip
              have hno : ¬ onOk T M := fun q => by have q2 := q.2.2.2 x43_3_6 (by (first | (clear hx8 ht0 gc1_t k2 k4 k6 gc141_t; omega) | (clear hx8 ht0 gc1_t k2 k4 k6; omega) | (clear hx8 ht0 gc1_t k2 k4 gc141_t; omega) | (clear hx8 ht0 gc1_t k2 k6 gc141_t; omega) | (clear hx8 ht0 gc1_t k4 k6 gc141_t; omega) | (clear hx8 ht0 k2 k4 k6 gc141_t; omega) | (clear hx8 gc1_t k2 k4 k6 gc141_t; omega) | (clear ht0 gc1_t k2 k4 k6 gc141_t; omega) | (clear hx8 ht0 gc1_t k2 k4; omega) | (clear gc1_t ht0 hx8; omega) | omega)) (by (first | (clear hx8 ht0 gc1_t k2 k4 k6 gc141_t; omega) | (clear hx8 ht0 gc1_t k2 k4 k6; omega) | (clear hx8 ht0 gc1_t k2 k4 gc141_t; omega) | (clear hx8 ht0 gc1_t k2 k6 gc141_t; omega) | (clear hx8 ht0 gc1_t k4 k6 gc141_t; omega) | (clear hx8 ht0 k2 k4 k6 gc141_t; omega) | (clear hx8 gc1_t k2 k4 k6 gc141_t; omega) | (clear ht0 gc1_t k2 k4 k6 gc141_t; omega) | (clear hx8 ht0 gc1_t k2 k4; omega) | (clear gc1_t ht0 hx8; omega) | omega)); unfold oOk at q2; first | (first | (clear hx8 ht0 gc1_t k2 k4 k6 gc141_t; omega) | (clear hx8 ht0 gc1_t k2 k4 k6; omega) | (clear hx8 ht0 gc1_t k2 k4 gc141_t; omega) | (clear hx8 ht0 gc1_t k2 k6 gc141_t; omega) | (clear hx8 ht0 gc1_t k4 k6 gc141_t; omega) | (clear hx8 ht0 k2 k4 k6 gc141_t; omega) | (clear hx8 gc1_t k2 k4 k6 gc141_t; omega) | (clear ht0 gc1_t k2 k4 k6 gc141_t; omega) | (clear hx8 ht0 gc1_t k2 k4; omega) | (clear gc1_t ht0 hx8; omega) | omega) | (rw [← e4, ← i43_0_6] at q2; (first | (clear hx8 ht0 gc1_t k2 k4 k6 gc141_t; omega) | (clear hx8 ht0 gc1_t k2 k4 k6; omega) | (clear hx8 ht0 gc1_t k2 k4 gc141_t; omega) | (clear hx8 ht0 gc1_t k2 k6 gc141_t; omega) | (clear hx8 ht0 gc1_t k4 k6 gc141_t; omega) | (clear hx8 ht0 k2 k4 k6 gc141_t; omega) | (clear hx8 gc1_t k2 k4 k6 gc141_t; omega) | (clear ht0 gc1_t k2 k4 k6 gc141_t; omega) | (clear hx8 ht0 gc1_t k2 k4; omega) | (clear gc1_t ht0 hx8; omega) | omega))
              refine g_iconst dX11_isImage_86 ?_
              exact g_retZ dX11_isImage_87 rfl (by decide) (hQ 0 (by decide) (Or.inr ⟨rfl, hno⟩))
            · first | (revert r_gc141_t; intro r_gc141_t) | have r_gc141_t := (gc141_t.resolve_right (by (clear hx8 ht0 gc1_t k2 k4 k6 gc141_t; omega))) | have r_gc141_t := (gc141_t.resolve_left (by (clear hx8 ht0 gc1_t k2 k4 k6 gc141_t; omega))) | skip
              first | (revert r_gc1_t; intro r_gc1_t) | have r_gc1_t := (gc1_t.resolve_right (by (clear hx8 ht0 gc1_t k2 k4 k6 gc141_t; omega))) | have r_gc1_t := (gc1_t.resolve_left (by (clear hx8 ht0 gc1_t k2 k4 k6 gc141_t; omega))) | skip
              refine g_iload dX11_isImage_65 rfl ?_
              refine g_aload_n dX11_isImage_67 rfl ?_
              refine x_g0_10 (n := (P 0 10).toNat) (⟨by decide, rfl⟩ : kx 0 0) ffX11_71 dX11_isImage_68 (br_0_10 hB) ?_
              refine x_g28_8 (z := (P (P 0 10).toNat 8)) (bk_0_10 hB) ffX11_123 dX11_isImage_71 rfl ?_
              refine g_icmp_ge (tgt := 86) dX11_isImage_74 (by decide) ⟨by (first | (clear hx8 ht0 gc1_t k2 k4 k6 gc141_t; omega) | omega), by (first | (clear hx8 ht0 gc1_t k2 k4 k6 gc141_t; omega) | omega)⟩ ⟨by have q0 := bx_28_8 (o := (P 0 10).toNat) hB (bk_0_10 hB); (first | (clear hx8 ht0 gc1_t k2 k4 k6 gc141_t; omega) | omega), by have q0 := bx_28_8 (o := (P 0 10).toNat) hB (bk_0_10 hB); (first | (clear hx8 ht0 gc1_t k2 k4 k6 gc141_t; omega) | omega)⟩ (fun k143 => ?_) (fun k143 => ?_)
              · first | (revert r_gc141_t; intro r_gc141_t) | have r_gc141_t := (gc141_t.resolve_right (by (clear hx8 ht0 gc1_t k2 k4 k6 gc141_t k143; omega))) | have r_gc141_t := (gc141_t.resolve_left (by (clear hx8 ht0 gc1_t k2 k4 k6 gc141_t k143; omega))) | skip
                first | (revert r_gc1_t; intro r_gc1_t) | have r_gc1_t := (gc1_t.resolve_right (by (clear hx8 ht0 gc1_t k2 k4 k6 gc141_t k143; omega))) | have r_gc1_t := (gc1_t.resolve_left (by (clear hx8 ht0 gc1_t k2 k4 k6 gc141_t k143; omega))) | skip
                have hno : ¬ onOk T M := fun q => by have q2 := q.2.2.2 x43_3_6 (by (first | (clear hx8 ht0 gc1_t k2 k4 k6 gc141_t k143; omega) | (clear hx8 ht0 gc1_t k2 k4 k6 gc141_t; omega) | (clear hx8 ht0 gc1_t k2 k4 k6 k143; omega) | (clear hx8 ht0 gc1_t k2 k4 gc141_t k143; omega) | (clear hx8 ht0 gc1_t k2 k6 gc141_t k143; omega) | (clear hx8 ht0 gc1_t k4 k6 gc141_t k143; omega) | (clear hx8 ht0 k2 k4 k6 gc141_t k143; omega) | (clear hx8 gc1_t k2 k4 k6 gc141_t k143; omega) | (clear ht0 gc1_t k2 k4 k6 gc141_t k143; omega) | (clear hx8 ht0 gc1_t k2 k4 k6; omega) | (clear k2 gc1_t ht0 hx8; omega) | omega)) (by (first | (clear hx8 ht0 gc1_t k2 k4 k6 gc141_t k143; omega) | (clear hx8 ht0 gc1_t k2 k4 k6 gc141_t; omega) | (clear hx8 ht0 gc1_t k2 k4 k6 k143; omega) | (clear hx8 ht0 gc1_t k2 k4 gc141_t k143; omega) | (clear hx8 ht0 gc1_t k2 k6 gc141_t k143; omega) | (clear hx8 ht0 gc1_t k4 k6 gc141_t k143; omega) | (clear hx8 ht0 k2 k4 k6 gc141_t k143; omega) | (clear hx8 gc1_t k2 k4 k6 gc141_t k143; omega) | (clear ht0 gc1_t k2 k4 k6 gc141_t k143; omega) | (clear hx8 ht0 gc1_t k2 k4 k6; omega) | (clear k2 gc1_t ht0 hx8; omega) | omega)); unfold oOk at q2; first | (first | (clear hx8 ht0 gc1_t k2 k4 k6 gc141_t k143; omega) | (clear hx8 ht0 gc1_t k2 k4 k6 gc141_t; omega) | (clear hx8 ht0 gc1_t k2 k4 k6 k143; omega) | (clear hx8 ht0 gc1_t k2 k4 gc141_t k143; omega) | (clear hx8 ht0 gc1_t k2 k6 gc141_t k143; omega) | (clear hx8 ht0 gc1_t k4 k6 gc141_t k143; omega) | (clear hx8 ht0 k2 k4 k6 gc141_t k143; omega) | (clear hx8 gc1_t k2 k4 k6 gc141_t k143; omega) | (clear ht0 gc1_t k2 k4 k6 gc141_t k143; omega) | (clear hx8 ht0 gc1_t k2 k4 k6; omega) | (clear k2 gc1_t ht0 hx8; omega) | omega) | (rw [← e4, ← i43_0_6] at q2; (first | (clear hx8 ht0 gc1_t k2 k4 k6 gc141_t k143; omega) | (clear hx8 ht0 gc1_t k2 k4 k6 gc141_t; omega) | (clear hx8 ht0 gc1_t k2 k4 k6 k143; omega) | (clear hx8 ht0 gc1_t k2 k4 gc141_t k143; omega) | (clear hx8 ht0 gc1_t k2 k6 gc141_t k143; omega) | (clear hx8 ht0 gc1_t k4 k6 gc141_t k143; omega) | (clear hx8 ht0 k2 k4 k6 gc141_t k143; omega) | (clear hx8 gc1_t k2 k4 k6 gc141_t k143; omega) | (clear ht0 gc1_t k2 k4 k6 gc141_t k143; omega) | (clear hx8 ht0 gc1_t k2 k4 k6; omega) | (clear k2 gc1_t ht0 hx8; omega) | omega))
                refine g_iconst dX11_isImage_86 ?_
                exact g_retZ dX11_isImage_87 rfl (by decide) (hQ 0 (by decide) (Or.inr ⟨rfl, hno⟩))
              · first | (revert r_gc141_t; intro r_gc141_t) | have r_gc141_t := (gc141_t.resolve_right (by (clear hx8 ht0 gc1_t k2 k4 k6 gc141_t k143; omega))) | have r_gc141_t := (gc141_t.resolve_left (by (clear hx8 ht0 gc1_t k2 k4 k6 gc141_t k143; omega))) | skip
                first | (revert r_gc1_t; intro r_gc1_t) | have r_gc1_t := (gc1_t.resolve_right (by (clear hx8 ht0 gc1_t k2 k4 k6 gc141_t k143; omega))) | have r_gc1_t := (gc1_t.resolve_left (by (clear hx8 ht0 gc1_t k2 k4 k6 gc141_t k143; omega))) | skip
                have e4 : rc141 = T.1 (1 + x43_3_6) := by (first | (clear hx8 ht0 gc1_t k2 k4 k6 gc141_t k143; omega) | (clear hx8 ht0 gc1_t k2 k4 k6 gc141_t; omega) | (clear hx8 ht0 gc1_t k2 k4 k6 k143; omega) | (clear hx8 ht0 gc1_t k2 k4 gc141_t k143; omega) | (clear hx8 ht0 gc1_t k2 k6 gc141_t k143; omega) | (clear hx8 ht0 gc1_t k4 k6 gc141_t k143; omega) | (clear hx8 ht0 k2 k4 k6 gc141_t k143; omega) | (clear hx8 gc1_t k2 k4 k6 gc141_t k143; omega) | (clear ht0 gc1_t k2 k4 k6 gc141_t k143; omega) | (clear hx8 ht0 gc1_t k2 k4 k6; omega) | (clear k2 gc1_t ht0 hx8; omega) | omega)
                refine g_iload_n dX11_isImage_77 rfl ?_
                refine g_iload dX11_isImage_78 rfl ?_
                refine g_sI (av := [vI x43_2_6, vI rc141]) (st := []) (f_X11_isIn G P x43_2_6 rc141 ⟨by (first | (clear hx8 ht0 gc1_t k2 k4 k6 gc141_t k143; omega) | omega), by (first | (clear hx8 ht0 gc1_t k2 k4 k6 gc141_t k143; omega) | omega)⟩ ⟨by (first | (clear hx8 ht0 gc1_t k2 k4 k6 gc141_t k143; omega) | omega), by (first | (clear hx8 ht0 gc1_t k2 k4 k6 gc141_t k143; omega) | omega)⟩ hB  _ (fun rc144 hc144 gc144_i => ⟨rc144, rfl, ?_⟩)) cf_X11_isIn t_967 rfl (Nat.le_of_ble_eq_true rfl) (by decide) rfl dX11_isImage_80
                refine g_if_eq (tgt := 88) dX11_isImage_83 (by decide) ⟨by (first | (clear hx8 ht0 gc1_t k2 k4 k6 gc141_t k143 gc144_i; omega) | omega), by (first | (clear hx8 ht0 gc1_t k2 k4 k6 gc141_t k143 gc144_i; omega) | omega)⟩ (fun k145 => ?_) (fun k145 => ?_)
                · first | (revert r_gc144_i; intro r_gc144_i) | have r_gc144_i := (gc144_i.resolve_right (by (clear hx8 ht0 gc1_t k2 k4 k6 gc141_t k143 gc144_i; omega))) | have r_gc144_i := (gc144_i.resolve_left (by (clear hx8 ht0 gc1_t k2 k4 k6 gc141_t k143 gc144_i; omega))) | skip
                  first | (revert r_gc141_t; intro r_gc141_t) | have r_gc141_t := (gc141_t.resolve_right (by (clear hx8 ht0 gc1_t k2 k4 k6 gc141_t k143 gc144_i; omega))) | have r_gc141_t := (gc141_t.resolve_left (by (clear hx8 ht0 gc1_t k2 k4 k6 gc141_t k143 gc144_i; omega))) | skip
                  first | (revert r_gc1_t; intro r_gc1_t) | have r_gc1_t := (gc1_t.resolve_right (by (clear hx8 ht0 gc1_t k2 k4 k6 gc141_t k143 gc144_i; omega))) | have r_gc1_t := (gc1_t.resolve_left (by (clear hx8 ht0 gc1_t k2 k4 k6 gc141_t k143 gc144_i; omega))) | skip
                  refine g_iload_n dX11_isImage_88 rfl ?_
                  refine g_iconst dX11_isImage_89 ?_
                  refine g_iload dX11_isImage_90 rfl ?_
                  refine g_ishl dX11_isImage_92 ?_
                  refine g_nm (fun b146 e_b146 => ?_)
                  have h_b146 : 1 ≤ (ishl 1 rc141) ∧ (ishl 1 rc141) ≤ 2048 := (ishl1 11 (by decide) (y := rc141) ⟨by (first | (clear hx8 ht0 gc1_t k2 k4 k6 gc141_t k143 gc144_i; omega) | omega), by (first | (clear hx8 ht0 gc1_t k2 k4 k6 gc141_t k143 gc144_i; omega) | omega)⟩).2
                  rw [← e_b146] at h_b146
                  refine g_ior dX11_isImage_93 ?_
                  refine g_nm (fun b147 e_b147 => ?_)
                  have h_b147 : 0 ≤ (ior x43_2_6 b146) ∧ (ior x43_2_6 b146) < 4096 := ior_b 12 (by decide) (x := x43_2_6) (y := b146) (show 0 ≤ x43_2_6 ∧ x43_2_6 < 4096 from ⟨by (first | (clear hx8 ht0 gc1_t k2 k4 k6 gc141_t k143 gc144_i; omega) | omega), by (first | (clear hx8 ht0 gc1_t k2 k4 k6 gc141_t k143 gc144_i; omega) | omega)⟩) (show 0 ≤ b146 ∧ b146 < 4096 from ⟨by (first | (clear hx8 ht0 gc1_t k2 k4 k6 gc141_t k143 gc144_i; omega) | omega), by (first | (clear hx8 ht0 gc1_t k2 k4 k6 gc141_t k143 gc144_i; omega) | omega)⟩)
                  rw [← e_b147] at h_b147
                  have hhd9 : b147 = hdF T (x43_3_6 + 1).toNat := by
                    rw [show (x43_3_6 + 1).toNat = (x43_3_6).toNat + 1 by (first | (clear hx8 ht0 gc1_t k2 k4 k6 gc141_t k143 gc144_i; omega) | (clear hx8 ht0 gc1_t k2 k4 k6 gc141_t k143; omega) | (clear hx8 ht0 gc1_t k2 k4 k6 gc141_t gc144_i; omega) | (clear hx8 ht0 gc1_t k2 k4 k6 k143 gc144_i; omega) | (clear hx8 ht0 gc1_t k2 k4 gc141_t k143 gc144_i; omega) | (clear hx8 ht0 gc1_t k2 k6 gc141_t k143 gc144_i; omega) | (clear hx8 ht0 gc1_t k4 k6 gc141_t k143 gc144_i; omega) | (clear hx8 ht0 k2 k4 k6 gc141_t k143 gc144_i; omega) | (clear hx8 gc1_t k2 k4 k6 gc141_t k143 gc144_i; omega) | (clear hx8 ht0 gc1_t k2 k4 k6 gc141_t; omega) | (clear k4 k2 gc1_t ht0 hx8; omega) | omega)]
                    show _ = ior (hdF T (x43_3_6).toNat) (ishl 1 (T.1 (1 + (((x43_3_6).toNat : Nat) : Int))))
                    rw [show (((x43_3_6).toNat : Nat) : Int) = x43_3_6 by (first | (clear hx8 ht0 gc1_t k2 k4 k6 gc141_t k143 gc144_i; omega) | (clear hx8 ht0 gc1_t k2 k4 k6 gc141_t k143; omega) | (clear hx8 ht0 gc1_t k2 k4 k6 gc141_t gc144_i; omega) | (clear hx8 ht0 gc1_t k2 k4 k6 k143 gc144_i; omega) | (clear hx8 ht0 gc1_t k2 k4 gc141_t k143 gc144_i; omega) | (clear hx8 ht0 gc1_t k2 k6 gc141_t k143 gc144_i; omega) | (clear hx8 ht0 gc1_t k4 k6 gc141_t k143 gc144_i; omega) | (clear hx8 ht0 k2 k4 k6 gc141_t k143 gc144_i; omega) | (clear hx8 gc1_t k2 k4 k6 gc141_t k143 gc144_i; omega) | (clear hx8 ht0 gc1_t k2 k4 k6 gc141_t; omega) | (clear k4 k2 gc1_t ht0 hx8; omega) | omega), ← i43_0_6, ← e4, e_b147, e_b146]
                  have hol9 : OLI T M (x43_3_6 + 1) := (i43_1_6).go (show oOk T M x43_3_6 from And.intro (by (first | (clear hx8 ht0 gc1_t k2 k4 k6 gc141_t k143 gc144_i; omega) | (clear hx8 ht0 gc1_t k2 k4 k6 gc141_t k143; omega) | (clear hx8 ht0 gc1_t k2 k4 k6 gc141_t gc144_i; omega) | (clear hx8 ht0 gc1_t k2 k4 k6 k143 gc144_i; omega) | (clear hx8 ht0 gc1_t k2 k4 gc141_t k143 gc144_i; omega) | (clear hx8 ht0 gc1_t k2 k6 gc141_t k143 gc144_i; omega) | (clear hx8 ht0 gc1_t k4 k6 gc141_t k143 gc144_i; omega) | (clear hx8 ht0 k2 k4 k6 gc141_t k143 gc144_i; omega) | (clear hx8 gc1_t k2 k4 k6 gc141_t k143 gc144_i; omega) | (clear hx8 ht0 gc1_t k2 k4 k6 gc141_t; omega) | (clear k4 k2 gc1_t ht0 hx8; omega) | omega)) (by rw [← e4, ← i43_0_6]; (first | (clear hx8 ht0 gc1_t k2 k4 k6 gc141_t k143 gc144_i; omega) | (clear hx8 ht0 gc1_t k2 k4 k6 gc141_t k143; omega) | (clear hx8 ht0 gc1_t k2 k4 k6 gc141_t gc144_i; omega) | (clear hx8 ht0 gc1_t k2 k4 k6 k143 gc144_i; omega) | (clear hx8 ht0 gc1_t k2 k4 gc141_t k143 gc144_i; omega) | (clear hx8 ht0 gc1_t k2 k6 gc141_t k143 gc144_i; omega) | (clear hx8 ht0 gc1_t k4 k6 gc141_t k143 gc144_i; omega) | (clear hx8 ht0 k2 k4 k6 gc141_t k143 gc144_i; omega) | (clear hx8 gc1_t k2 k4 k6 gc141_t k143 gc144_i; omega) | (clear hx8 ht0 gc1_t k2 k4 k6 gc141_t; omega) | (clear k4 k2 gc1_t ht0 hx8; omega) | omega)))
                  refine g_istore_n (l1 := [(2, vI b147), (4, vI rc141), (0, vR 0), (1, vI rc1), (3, vI x43_3_6)]) dX11_isImage_94 (by decide) rfl ?_
                  refine g_iinc (l1 := [(3, vI (x43_3_6 + 1)), (2, vI b147), (4, vI rc141), (0, vR 0), (1, vI rc1)]) dX11_isImage_95 rfl (by decide) rfl ?_
                  refine g_goto (tgt := 43) dX11_isImage_98 (by decide) ?_
                  refine g_forget (l1 := [(0, vR 0), (1, vI rc1), (2, vI b147), (3, vI (x43_3_6 + 1))]) (by intro q hq; simp only [List.mem_cons, List.not_mem_nil, or_false] at hq ⊢; rcases hq with rfl | rfl | rfl | rfl <;> simp) ?_
                  exact ih43_6 (x43_3_6 + 1) ⟨by (first | (clear hx8 ht0 gc1_t k2 k4 k6 gc141_t k143 gc144_i; omega) | omega), by (first | (clear hx8 ht0 gc1_t k2 k4 k6 gc141_t k143 gc144_i; omega) | omega)⟩ b147 ⟨by (first | (clear hx8 ht0 gc1_t k2 k4 k6 gc141_t k143 gc144_i; omega) | omega), by (first | (clear hx8 ht0 gc1_t k2 k4 k6 gc141_t k143 gc144_i; omega) | omega)⟩ (by first | exact hhd9 | rfl) (by first | exact hol9 | exact OLI.z) (by (first | (clear hx8 ht0 gc1_t k2 k4 k6 gc141_t k143 gc144_i; omega) | (clear hx8 ht0 gc1_t k2 k4 k6 gc141_t k143; omega) | (clear hx8 ht0 gc1_t k2 k4 k6 gc141_t gc144_i; omega) | (clear hx8 ht0 gc1_t k2 k4 k6 k143 gc144_i; omega) | (clear hx8 ht0 gc1_t k2 k4 gc141_t k143 gc144_i; omega) | (clear hx8 ht0 gc1_t k2 k6 gc141_t k143 gc144_i; omega) | (clear hx8 ht0 gc1_t k4 k6 gc141_t k143 gc144_i; omega) | (clear hx8 ht0 k2 k4 k6 gc141_t k143 gc144_i; omega) | (clear hx8 gc1_t k2 k4 k6 gc141_t k143 gc144_i; omega) | (clear hx8 ht0 gc1_t k2 k4 k6 gc141_t; omega) | (clear k4 k2 gc1_t ht0 hx8; omega) | omega)) (by (first | (clear hx8 ht0 gc1_t k2 k4 k6 gc141_t k143 gc144_i; omega) | (clear hx8 ht0 gc1_t k2 k4 k6 gc141_t k143; omega) | (clear hx8 ht0 gc1_t k2 k4 k6 gc141_t gc144_i; omega) | (clear hx8 ht0 gc1_t k2 k4 k6 k143 gc144_i; omega) | (clear hx8 ht0 gc1_t k2 k4 gc141_t k143 gc144_i; omega) | (clear hx8 ht0 gc1_t k2 k6 gc141_t k143 gc144_i; omega) | (clear hx8 ht0 gc1_t k4 k6 gc141_t k143 gc144_i; omega) | (clear hx8 ht0 k2 k4 k6 gc141_t k143 gc144_i; omega) | (clear hx8 gc1_t k2 k4 k6 gc141_t k143 gc144_i; omega) | (clear hx8 ht0 gc1_t k2 k4 k6 gc141_t; omega) | (clear k4 k2 gc1_t ht0 hx8; omega) | omega))
                · have k145n : 1 ≤ rc144 := by (first | (clear hx8 ht0 gc1_t k2 k4 k6 gc141_t k143 gc144_i; omega) | (clear hx8 ht0 gc1_t k2 k4 k6 gc141_t k143; omega) | (clear hx8 ht0 gc1_t k2 k4 k6 gc141_t gc144_i; omega) | (clear hx8 ht0 gc1_t k2 k4 k6 k143 gc144_i; omega) | (clear hx8 ht0 gc1_t k2 k4 gc141_t k143 gc144_i; omega) | (clear hx8 ht0 gc1_t k2 k6 gc141_t k143 gc144_i; omega) | (clear hx8 ht0 gc1_t k4 k6 gc141_t k143 gc144_i; omega) | (clear hx8 ht0 k2 k4 k6 gc141_t k143 gc144_i; omega) | (clear hx8 gc1_t k2 k4 k6 gc141_t k143 gc144_i; omega) | (clear hx8 ht0 gc1_t k2 k4 k6 gc141_t; omega) | (clear k4 k2 gc1_t ht0 hx8; omega) | omega)
                  clear k145
                  first | (revert r_gc144_i; intro r_gc144_i) | have r_gc144_i := (gc144_i.resolve_right (by (clear hx8 ht0 gc1_t k2 k4 k6 gc141_t k143 gc144_i; omega))) | have r_gc144_i := (gc144_i.resolve_left (by (clear hx8 ht0 gc1_t k2 k4 k6 gc141_t k143 gc144_i; omega))) | skip
                  first | (revert r_gc141_t; intro r_gc141_t) | have r_gc141_t := (gc141_t.resolve_right (by (clear hx8 ht0 gc1_t k2 k4 k6 gc141_t k143 gc144_i; omega))) | have r_gc141_t := (gc141_t.resolve_left (by (clear hx8 ht0 gc1_t k2 k4 k6 gc141_t k143 gc144_i; omega))) | skip
                  first | (revert r_gc1_t; intro r_gc1_t) | have r_gc1_t := (gc1_t.resolve_right (by (clear hx8 ht0 gc1_t k2 k4 k6 gc141_t k143 gc144_i; omega))) | have r_gc1_t := (gc1_t.resolve_left (by (clear hx8 ht0 gc1_t k2 k4 k6 gc141_t k143 gc144_i; omega))) | skip
                  have hno : ¬ onOk T M := fun q => by have q2 := q.2.2.2 x43_3_6 (by (first | (clear hx8 ht0 gc1_t k2 k4 k6 gc141_t k143 gc144_i; omega) | (clear hx8 ht0 gc1_t k2 k4 k6 gc141_t k143; omega) | (clear hx8 ht0 gc1_t k2 k4 k6 gc141_t gc144_i; omega) | (clear hx8 ht0 gc1_t k2 k4 k6 k143 gc144_i; omega) | (clear hx8 ht0 gc1_t k2 k4 gc141_t k143 gc144_i; omega) | (clear hx8 ht0 gc1_t k2 k6 gc141_t k143 gc144_i; omega) | (clear hx8 ht0 gc1_t k4 k6 gc141_t k143 gc144_i; omega) | (clear hx8 ht0 k2 k4 k6 gc141_t k143 gc144_i; omega) | (clear hx8 gc1_t k2 k4 k6 gc141_t k143 gc144_i; omega) | (clear hx8 ht0 gc1_t k2 k4 k6 gc141_t; omega) | (clear k4 k2 gc1_t ht0 hx8; omega) | omega)) (by (first | (clear hx8 ht0 gc1_t k2 k4 k6 gc141_t k143 gc144_i; omega) | (clear hx8 ht0 gc1_t k2 k4 k6 gc141_t k143; omega) | (clear hx8 ht0 gc1_t k2 k4 k6 gc141_t gc144_i; omega) | (clear hx8 ht0 gc1_t k2 k4 k6 k143 gc144_i; omega) | (clear hx8 ht0 gc1_t k2 k4 gc141_t k143 gc144_i; omega) | (clear hx8 ht0 gc1_t k2 k6 gc141_t k143 gc144_i; omega) | (clear hx8 ht0 gc1_t k4 k6 gc141_t k143 gc144_i; omega) | (clear hx8 ht0 k2 k4 k6 gc141_t k143 gc144_i; omega) | (clear hx8 gc1_t k2 k4 k6 gc141_t k143 gc144_i; omega) | (clear hx8 ht0 gc1_t k2 k4 k6 gc141_t; omega) | (clear k4 k2 gc1_t ht0 hx8; omega) | omega)); unfold oOk at q2; first | (first | (clear hx8 ht0 gc1_t k2 k4 k6 gc141_t k143 gc144_i; omega) | (clear hx8 ht0 gc1_t k2 k4 k6 gc141_t k143; omega) | (clear hx8 ht0 gc1_t k2 k4 k6 gc141_t gc144_i; omega) | (clear hx8 ht0 gc1_t k2 k4 k6 k143 gc144_i; omega) | (clear hx8 ht0 gc1_t k2 k4 gc141_t k143 gc144_i; omega) | (clear hx8 ht0 gc1_t k2 k6 gc141_t k143 gc144_i; omega) | (clear hx8 ht0 gc1_t k4 k6 gc141_t k143 gc144_i; omega) | (clear hx8 ht0 k2 k4 k6 gc141_t k143 gc144_i; omega) | (clear hx8 gc1_t k2 k4 k6 gc141_t k143 gc144_i; omega) | (clear hx8 ht0 gc1_t k2 k4 k6 gc141_t; omega) | (clear k4 k2 gc1_t ht0 hx8; omega) | omega) | (rw [← e4, ← i43_0_6] at q2; (first | (clear hx8 ht0 gc1_t k2 k4 k6 gc141_t k143 gc144_i; omega) | (clear hx8 ht0 gc1_t k2 k4 k6 gc141_t k143; omega) | (clear hx8 ht0 gc1_t k2 k4 k6 gc141_t gc144_i; omega) | (clear hx8 ht0 gc1_t k2 k4 k6 k143 gc144_i; omega) | (clear hx8 ht0 gc1_t k2 k4 gc141_t k143 gc144_i; omega) | (clear hx8 ht0 gc1_t k2 k6 gc141_t k143 gc144_i; omega) | (clear hx8 ht0 gc1_t k4 k6 gc141_t k143 gc144_i; omega) | (clear hx8 ht0 k2 k4 k6 gc141_t k143 gc144_i; omega) | (clear hx8 gc1_t k2 k4 k6 gc141_t k143 gc144_i; omega) | (clear hx8 ht0 gc1_t k2 k4 k6 gc141_t; omega) | (clear k4 k2 gc1_t ht0 hx8; omega) | omega))
                  refine g_iconst dX11_isImage_86 ?_
                  exact g_retZ dX11_isImage_87 rfl (by decide) (hQ 0 (by decide) (Or.inr ⟨rfl, hno⟩))
        refine g_forget (l1 := [(0, vR 0), (1, vI rc1), (2, vI 0), (3, vI 0)]) (by intro q hq; simp only [List.mem_cons, List.not_mem_nil, or_false] at hq ⊢; rcases hq with rfl | rfl | rfl | rfl <;> simp) ?_
        exact L43_6 _ 0 (by decide) 0 (by decide) (by first | exact hhd9 | rfl) (by first | exact hol9 | exact OLI.z) (by (first | (clear hx8 ht0 gc1_t k2 k4 k6; omega) | (clear hx8 ht0 gc1_t k2 k4; omega) | (clear hx8 ht0 gc1_t k2 k6; omega) | (clear hx8 ht0 gc1_t k4 k6; omega) | (clear hx8 ht0 k2 k4 k6; omega) | (clear hx8 gc1_t k2 k4 k6; omega) | (clear ht0 gc1_t k2 k4 k6; omega) | (clear hx8 ht0 gc1_t k2; omega) | (clear ht0 hx8; omega) | omega)) (Nat.lt_succ_self _)
      · first | (revert r_gc1_t; intro r_gc1_t) | have r_gc1_t := (gc1_t.resolve_right (by (clear hx8 ht0 gc1_t k2 k4 k6; omega))) | have r_gc1_t := (gc1_t.resolve_left (by (clear hx8 ht0 gc1_t k2 k4 k6; omega))) | skip
        have hno : ¬ onOk T M := fun q => by have q1 := q.1; unfold oHd at q1; (first | (clear hx8 ht0 gc1_t k2 k4 k6; omega) | (clear hx8 ht0 gc1_t k2 k4; omega) | (clear hx8 ht0 gc1_t k2 k6; omega) | (clear hx8 ht0 gc1_t k4 k6; omega) | (clear hx8 ht0 k2 k4 k6; omega) | (clear hx8 gc1_t k2 k4 k6; omega) | (clear ht0 gc1_t k2 k4 k6; omega) | (clear hx8 ht0 gc1_t k2; omega) | (clear ht0 hx8; omega) | omega)
        refine g_iconst dX11_isImage_37 ?_
        exact g_retZ dX11_isImage_38 rfl (by decide) (hQ 0 (by decide) (Or.inr ⟨rfl, hno⟩))
/-! What the class answers: X11_on. -/
set_option maxRecDepth 100000 in
set_option maxHeartbeats 4000000 in
theorem f_X11_on (G : GT) (P : PH) (T : TT) (K : PH) (M : PH) (A : PH) (hB : BdX P) (p_v : M 0 2 ≤ 12) (z0 : CX T P) (z1 : AX A P) (z2 : XTB K M P) (Q : Option PV → PH → Prop) (hQ : ∀ (r : Int) (_ : 0 ≤ r ∧ r ≤ 1) (P1 : PH) (_ : BdX P1) (_ : FrX ([(1, 1), (14, 1), (14, 2), (14, 3), (16, 5), (16, 7)], [15, 27]) P P1) (_ : P1 1 1 = 0) (_ : (r = 1 ∧ onOk T M) ∨ (r = 0 ∧ ¬ onOk T M)) (_ : AX (aOn T M A) P1), Q (some (vI r)) P1) : Ct WSX G 3 iX11_on [vR 0] P Q := by
  refine Ct.of (by decide) (l0 := [(0, vR 0)]) rfl (Nat.le_of_ble_eq_true rfl) ?_
  refine g_aload_n dX11_on_0 rfl ?_
  refine g_vI (av := []) (o := 0) (st := []) (f_X11_matched G P K M  hB (z2) _ (fun rc1 hc1 gc1_m => ⟨rc1, rfl, ?_⟩)) cf_X11_matched t_937 rfl (show kx 0 0 from (⟨by decide, rfl⟩ : kx 0 0)).1 ((show kx 0 0 from (⟨by decide, rfl⟩ : kx 0 0)).sh rfl) rfl rfl (Nat.le_of_ble_eq_true rfl) (by decide) rfl dX11_on_1
  refine g_if_eq (tgt := 18) dX11_on_4 (by decide) ⟨by (first | (clear gc1_m; omega) | omega), by (first | (clear gc1_m; omega) | omega)⟩ (fun k2 => ?_) (fun k2 => ?_)
  · first | (revert r_gc1_m; intro r_gc1_m) | have r_gc1_m := (gc1_m.resolve_right (by (clear gc1_m k2; omega))) | have r_gc1_m := (gc1_m.resolve_left (by (clear gc1_m k2; omega))) | skip
    refine g_iconst dX11_on_18 ?_
    refine g_istore_n (l1 := [(1, vI 0), (0, vR 0)]) dX11_on_19 (by decide) rfl ?_
    refine g_iload_n dX11_on_20 rfl ?_
    refine g_if_eq (tgt := 28) dX11_on_21 (by decide) (by decide) (fun k3 => ?_) (fun k3 => by exfalso; (first | (clear gc1_m k2; omega) | (clear gc1_m; omega) | (clear k2; omega) | omega))
    first | (revert r_gc1_m; intro r_gc1_m) | have r_gc1_m := (gc1_m.resolve_right (by (clear gc1_m k2 k3; omega))) | have r_gc1_m := (gc1_m.resolve_left (by (clear gc1_m k2 k3; omega))) | skip
    refine g_aload_n dX11_on_28 rfl ?_
    refine x_g0_0 (n := 1) (⟨by decide, rfl⟩ : kx 0 0) ffX11_14 dX11_on_29 rfl ?_
    refine g_iconst dX11_on_32 ?_
    refine x_p1_1 (⟨by decide, rfl⟩ : kx 1 1) pfX11_100 dX11_on_33 ?_
    have hB4 := by_1_1 (z := 0) hB (⟨by decide, rfl⟩ : kx 1 1) (by decide)
    refine g_iload_n dX11_on_36 rfl ?_
    refine g_if_ne (tgt := 48) dX11_on_37 (by decide) (by decide) (fun k5 => by exfalso; (first | (clear gc1_m k2 k3; omega) | (clear gc1_m k2; omega) | (clear gc1_m k3; omega) | (clear k2 k3; omega) | (clear gc1_m; omega) | omega)) (fun k5 => ?_)
    first | (revert r_gc1_m; intro r_gc1_m) | have r_gc1_m := (gc1_m.resolve_right (by (clear gc1_m k2 k3 k5; omega))) | have r_gc1_m := (gc1_m.resolve_left (by (clear gc1_m k2 k3 k5; omega))) | skip
    refine g_aload_n dX11_on_40 rfl ?_
    refine g_iconst dX11_on_41 ?_
    refine g_vI (av := [vI 5]) (o := 0) (st := []) (m_X11_refuse G (up P 1 1 0) 5 (by decide) hB4  _ (fun rc6 hc6 Pc6 hBc6 hFc6 => ⟨rc6, rfl, ?_⟩)) cf_X11_refuse t_663 rfl (show kx 0 0 from (⟨by decide, rfl⟩ : kx 0 0)).1 ((show kx 0 0 from (⟨by decide, rfl⟩ : kx 0 0)).sh rfl) rfl rfl (Nat.le_of_ble_eq_true rfl) (by decide) rfl dX11_on_42
    refine g_if_eq (tgt := 52) dX11_on_45 (by decide) ⟨by (first | (clear gc1_m k2 k3 k5; omega) | omega), by (first | (clear gc1_m k2 k3 k5; omega) | omega)⟩ (fun k7 => ?_) (fun k7 => by exfalso; (first | (clear gc1_m k2 k3 k5; omega) | (clear gc1_m k2 k3; omega) | (clear gc1_m k2 k5; omega) | (clear gc1_m k3 k5; omega) | (clear k2 k3 k5; omega) | (clear gc1_m k2; omega) | omega))
    first | (revert r_gc1_m; intro r_gc1_m) | have r_gc1_m := (gc1_m.resolve_right (by (clear gc1_m k2 k3 k5 k7; omega))) | have r_gc1_m := (gc1_m.resolve_left (by (clear gc1_m k2 k3 k5 k7; omega))) | skip
    refine g_iconst dX11_on_52 ?_
    exact g_retZ dX11_on_53 rfl (by decide) (hQ 0 (by decide) _ hBc6 (FrX.c (FrX.s FrX.rf (⟨by decide, rfl⟩ : kx 1 1) rfl) hFc6 rfl) (by have q0 := (((FrX.g hFc6 (⟨by decide, rfl⟩ : kx 1 1) rfl).trans up_same) : Pc6 1 1 = 0); (first | (clear gc1_m k2 k3 k5 k7; omega) | (clear gc1_m k2 k3 k5; omega) | (clear gc1_m k2 k3 k7; omega) | (clear gc1_m k2 k5 k7; omega) | (clear gc1_m k3 k5 k7; omega) | (clear k2 k3 k5 k7; omega) | (clear gc1_m k2 k3; omega) | (clear gc1_m; omega) | omega)) (by first | exact him.elim (fun h => by first | exact Or.inl ⟨rfl, h.2⟩ | (exfalso; (first | (clear gc1_m k2 k3 k5 k7; omega) | (clear gc1_m k2 k3 k5; omega) | (clear gc1_m k2 k3 k7; omega) | (clear gc1_m k2 k5 k7; omega) | (clear gc1_m k3 k5 k7; omega) | (clear k2 k3 k5 k7; omega) | (clear gc1_m k2 k3; omega) | (clear gc1_m; omega) | omega))) (fun h => by first | exact Or.inr ⟨rfl, h.2⟩ | (exfalso; (first | (clear gc1_m k2 k3 k5 k7; omega) | (clear gc1_m k2 k3 k5; omega) | (clear gc1_m k2 k3 k7; omega) | (clear gc1_m k2 k5 k7; omega) | (clear gc1_m k3 k5 k7; omega) | (clear k2 k3 k5 k7; omega) | (clear gc1_m k2 k3; omega) | (clear gc1_m; omega) | omega))) | exact Or.inr ⟨rfl, fun q => by have h := q.1.1; (first | (clear gc1_m k2 k3 k5 k7; omega) | (clear gc1_m k2 k3 k5; omega) | (clear gc1_m k2 k3 k7; omega) | (clear gc1_m k2 k5 k7; omega) | (clear gc1_m k3 k5 k7; omega) | (clear k2 k3 k5 k7; omega) | (clear gc1_m k2 k3; omega) | (clear gc1_m; omega) | omega)⟩) (by first | (rw [aOn_y hon]; exact (by first | (rw [show (aLd T A) = A by (first | (clear gc1_m k2 k3 k5 k7; omega) | (clear gc1_m k2 k3 k5; omega) | (clear gc1_m k2 k3 k7; omega) | (clear gc1_m k2 k5 k7; omega) | (clear gc1_m k3 k5 k7; omega) | (clear k2 k3 k5 k7; omega) | (clear gc1_m k2 k3; omega) | (clear gc1_m; omega) | omega)]; exact (AX.fr (F := ([(1, 1)], [27])) z1 (FrX.c (FrX.s FrX.rf (⟨by decide, rfl⟩ : kx 1 1) rfl) hFc6 rfl) rfl)))) | exact him.elim (fun h => by exfalso; (first | (clear gc1_m k2 k3 k5 k7; omega) | (clear gc1_m k2 k3 k5; omega) | (clear gc1_m k2 k3 k7; omega) | (clear gc1_m k2 k5 k7; omega) | (clear gc1_m k3 k5 k7; omega) | (clear k2 k3 k5 k7; omega) | (clear gc1_m k2 k3; omega) | (clear gc1_m; omega) | omega)) (fun h => by rw [aOn_n h.2]; exact (AX.fr (F := ([(1, 1)], [27])) z1 (FrX.c (FrX.s FrX.rf (⟨by decide, rfl⟩ : kx 1 1) rfl) hFc6 rfl) rfl)) | (rw [aOn_n (fun q => by have h := q.1.1; (first | (clear gc1_m k2 k3 k5 k7; omega) | (clear gc1_m k2 k3 k5; omega) | (clear gc1_m k2 k3 k7; omega) | (clear gc1_m k2 k5 k7; omega) | (clear gc1_m k3 k5 k7; omega) | (clear k2 k3 k5 k7; omega) | (clear gc1_m k2 k3; omega) | (clear gc1_m; omega) | omega))]; exact (AX.fr (F := ([(1, 1)], [27])) z1 (FrX.c (FrX.s FrX.rf (⟨by decide, rfl⟩ : kx 1 1) rfl) hFc6 rfl) rfl))))
  · have k2n : 1 ≤ rc1 := by (first | (clear gc1_m k2; omega) | (clear gc1_m; omega) | (clear k2; omega) | omega)
    clear k2
    first | (revert r_gc1_m; intro r_gc1_m) | have r_gc1_m := (gc1_m.resolve_right (by (clear gc1_m; omega))) | have r_gc1_m := (gc1_m.resolve_left (by (clear gc1_m; omega))) | skip
    refine g_aload_n dX11_on_7 rfl ?_
    refine g_vI (av := []) (o := 0) (st := []) (f_X11_isImage G P T K M  hB (by (first | (clear gc1_m; omega) | omega)) (p_v) (z0) (z2) _ (fun rc8 hc8 gc8_c => ⟨rc8, rfl, ?_⟩)) cf_X11_isImage t_1343 rfl (show kx 0 0 from (⟨by decide, rfl⟩ : kx 0 0)).1 ((show kx 0 0 from (⟨by decide, rfl⟩ : kx 0 0)).sh rfl) rfl rfl (Nat.le_of_ble_eq_true rfl) (by decide) rfl dX11_on_8
    have him := gc8_c
    refine g_if_eq (tgt := 18) dX11_on_11 (by decide) ⟨by (first | (clear gc1_m gc8_c him; omega) | omega), by (first | (clear gc1_m gc8_c him; omega) | omega)⟩ (fun k9 => ?_) (fun k9 => ?_)
    · first | (revert r_him; intro r_him) | have r_him := (him.resolve_right (by (clear gc1_m gc8_c him k9; omega))) | have r_him := (him.resolve_left (by (clear gc1_m gc8_c him k9; omega))) | skip
      first | (revert r_gc8_c; intro r_gc8_c) | have r_gc8_c := (gc8_c.resolve_right (by (clear gc1_m gc8_c him k9; omega))) | have r_gc8_c := (gc8_c.resolve_left (by (clear gc1_m gc8_c him k9; omega))) | skip
      first | (revert r_gc1_m; intro r_gc1_m) | have r_gc1_m := (gc1_m.resolve_right (by (clear gc1_m gc8_c him k9; omega))) | have r_gc1_m := (gc1_m.resolve_left (by (clear gc1_m gc8_c him k9; omega))) | skip
      refine g_iconst dX11_on_18 ?_
      refine g_istore_n (l1 := [(1, vI 0), (0, vR 0)]) dX11_on_19 (by decide) rfl ?_
      refine g_iload_n dX11_on_20 rfl ?_
      refine g_if_eq (tgt := 28) dX11_on_21 (by decide) (by decide) (fun k10 => ?_) (fun k10 => by exfalso; (first | (clear gc1_m gc8_c him k9; omega) | (clear gc1_m gc8_c him; omega) | (clear gc1_m gc8_c k9; omega) | (clear gc1_m him k9; omega) | (clear gc8_c him k9; omega) | (clear gc1_m gc8_c; omega) | omega))
      first | (revert r_him; intro r_him) | have r_him := (him.resolve_right (by (clear gc1_m gc8_c him k9 k10; omega))) | have r_him := (him.resolve_left (by (clear gc1_m gc8_c him k9 k10; omega))) | skip
      first | (revert r_gc8_c; intro r_gc8_c) | have r_gc8_c := (gc8_c.resolve_right (by (clear gc1_m gc8_c him k9 k10; omega))) | have r_gc8_c := (gc8_c.resolve_left (by (clear gc1_m gc8_c him k9 k10; omega))) | skip
      first | (revert r_gc1_m; intro r_gc1_m) | have r_gc1_m := (gc1_m.resolve_right (by (clear gc1_m gc8_c him k9 k10; omega))) | have r_gc1_m := (gc1_m.resolve_left (by (clear gc1_m gc8_c him k9 k10; omega))) | skip
      refine g_aload_n dX11_on_28 rfl ?_
      refine x_g0_0 (n := 1) (⟨by decide, rfl⟩ : kx 0 0) ffX11_14 dX11_on_29 rfl ?_
      refine g_iconst dX11_on_32 ?_
      refine x_p1_1 (⟨by decide, rfl⟩ : kx 1 1) pfX11_100 dX11_on_33 ?_
      have hB11 := by_1_1 (z := 0) hB (⟨by decide, rfl⟩ : kx 1 1) (by decide)
      refine g_iload_n dX11_on_36 rfl ?_
      refine g_if_ne (tgt := 48) dX11_on_37 (by decide) (by decide) (fun k12 => by exfalso; (first | (clear gc1_m gc8_c him k9 k10; omega) | (clear gc1_m gc8_c him k9; omega) | (clear gc1_m gc8_c him k10; omega) | (clear gc1_m gc8_c k9 k10; omega) | (clear gc1_m him k9 k10; omega) | (clear gc8_c him k9 k10; omega) | (clear gc1_m gc8_c him; omega) | (clear gc1_m; omega) | omega)) (fun k12 => ?_)
      first | (revert r_him; intro r_him) | have r_him := (him.resolve_right (by (clear gc1_m gc8_c him k9 k10 k12; omega))) | have r_him := (him.resolve_left (by (clear gc1_m gc8_c him k9 k10 k12; omega))) | skip
      first | (revert r_gc8_c; intro r_gc8_c) | have r_gc8_c := (gc8_c.resolve_right (by (clear gc1_m gc8_c him k9 k10 k12; omega))) | have r_gc8_c := (gc8_c.resolve_left (by (clear gc1_m gc8_c him k9 k10 k12; omega))) | skip
      first | (revert r_gc1_m; intro r_gc1_m) | have r_gc1_m := (gc1_m.resolve_right (by (clear gc1_m gc8_c him k9 k10 k12; omega))) | have r_gc1_m := (gc1_m.resolve_left (by (clear gc1_m gc8_c him k9 k10 k12; omega))) | skip
      refine g_aload_n dX11_on_40 rfl ?_
      refine g_iconst dX11_on_41 ?_
      refine g_vI (av := [vI 5]) (o := 0) (st := []) (m_X11_refuse G (up P 1 1 0) 5 (by decide) hB11  _ (fun rc13 hc13 Pc13 hBc13 hFc13 => ⟨rc13, rfl, ?_⟩)) cf_X11_refuse t_663 rfl (show kx 0 0 from (⟨by decide, rfl⟩ : kx 0 0)).1 ((show kx 0 0 from (⟨by decide, rfl⟩ : kx 0 0)).sh rfl) rfl rfl (Nat.le_of_ble_eq_true rfl) (by decide) rfl dX11_on_42
      refine g_if_eq (tgt := 52) dX11_on_45 (by decide) ⟨by (first | (clear gc1_m gc8_c him k9 k10 k12; omega) | omega), by (first | (clear gc1_m gc8_c him k9 k10 k12; omega) | omega)⟩ (fun k14 => ?_) (fun k14 => by exfalso; (first | (clear gc1_m gc8_c him k9 k10 k12; omega) | (clear gc1_m gc8_c him k9 k10; omega) | (clear gc1_m gc8_c him k9 k12; omega) | (clear gc1_m gc8_c him k10 k12; omega) | (clear gc1_m gc8_c k9 k10 k12; omega) | (clear gc1_m him k9 k10 k12; omega) | (clear gc8_c him k9 k10 k12; omega) | (clear gc1_m gc8_c him k9; omega) | (clear gc8_c gc1_m; omega) | omega))
      first | (revert r_him; intro r_him) | have r_him := (him.resolve_right (by (clear gc1_m gc8_c him k9 k10 k12 k14; omega))) | have r_him := (him.resolve_left (by (clear gc1_m gc8_c him k9 k10 k12 k14; omega))) | skip
      first | (revert r_gc8_c; intro r_gc8_c) | have r_gc8_c := (gc8_c.resolve_right (by (clear gc1_m gc8_c him k9 k10 k12 k14; omega))) | have r_gc8_c := (gc8_c.resolve_left (by (clear gc1_m gc8_c him k9 k10 k12 k14; omega))) | skip
      first | (revert r_gc1_m; intro r_gc1_m) | have r_gc1_m := (gc1_m.resolve_right (by (clear gc1_m gc8_c him k9 k10 k12 k14; omega))) | have r_gc1_m := (gc1_m.resolve_left (by (clear gc1_m gc8_c him k9 k10 k12 k14; omega))) | skip
      refine g_iconst dX11_on_52 ?_
      exact g_retZ dX11_on_53 rfl (by decide) (hQ 0 (by decide) _ hBc13 (FrX.c (FrX.s FrX.rf (⟨by decide, rfl⟩ : kx 1 1) rfl) hFc13 rfl) (by have q0 := (((FrX.g hFc13 (⟨by decide, rfl⟩ : kx 1 1) rfl).trans up_same) : Pc13 1 1 = 0); (first | (clear gc1_m gc8_c him k9 k10 k12 k14; omega) | (clear gc1_m gc8_c him k9 k10 k12; omega) | (clear gc1_m gc8_c him k9 k10 k14; omega) | (clear gc1_m gc8_c him k9 k12 k14; omega) | (clear gc1_m gc8_c him k10 k12 k14; omega) | (clear gc1_m gc8_c k9 k10 k12 k14; omega) | (clear gc1_m him k9 k10 k12 k14; omega) | (clear gc8_c him k9 k10 k12 k14; omega) | (clear gc1_m gc8_c him k9 k10; omega) | (clear him gc8_c gc1_m; omega) | omega)) (by first | exact him.elim (fun h => by first | exact Or.inl ⟨rfl, h.2⟩ | (exfalso; (first | (clear gc1_m gc8_c him k9 k10 k12 k14; omega) | (clear gc1_m gc8_c him k9 k10 k12; omega) | (clear gc1_m gc8_c him k9 k10 k14; omega) | (clear gc1_m gc8_c him k9 k12 k14; omega) | (clear gc1_m gc8_c him k10 k12 k14; omega) | (clear gc1_m gc8_c k9 k10 k12 k14; omega) | (clear gc1_m him k9 k10 k12 k14; omega) | (clear gc8_c him k9 k10 k12 k14; omega) | (clear gc1_m gc8_c him k9 k10; omega) | (clear him gc8_c gc1_m; omega) | omega))) (fun h => by first | exact Or.inr ⟨rfl, h.2⟩ | (exfalso; (first | (clear gc1_m gc8_c him k9 k10 k12 k14; omega) | (clear gc1_m gc8_c him k9 k10 k12; omega) | (clear gc1_m gc8_c him k9 k10 k14; omega) | (clear gc1_m gc8_c him k9 k12 k14; omega) | (clear gc1_m gc8_c him k10 k12 k14; omega) | (clear gc1_m gc8_c k9 k10 k12 k14; omega) | (clear gc1_m him k9 k10 k12 k14; omega) | (clear gc8_c him k9 k10 k12 k14; omega) | (clear gc1_m gc8_c him k9 k10; omega) | (clear him gc8_c gc1_m; omega) | omega))) | exact Or.inr ⟨rfl, fun q => by have h := q.1.1; (first | (clear gc1_m gc8_c him k9 k10 k12 k14; omega) | (clear gc1_m gc8_c him k9 k10 k12; omega) | (clear gc1_m gc8_c him k9 k10 k14; omega) | (clear gc1_m gc8_c him k9 k12 k14; omega) | (clear gc1_m gc8_c him k10 k12 k14; omega) | (clear gc1_m gc8_c k9 k10 k12 k14; omega) | (clear gc1_m him k9 k10 k12 k14; omega) | (clear gc8_c him k9 k10 k12 k14; omega) | (clear gc1_m gc8_c him k9 k10; omega) | (clear him gc8_c gc1_m; omega) | omega)⟩) (by first | (rw [aOn_y hon]; exact (by first | (rw [show (aLd T A) = A by (first | (clear gc1_m gc8_c him k9 k10 k12 k14; omega) | (clear gc1_m gc8_c him k9 k10 k12; omega) | (clear gc1_m gc8_c him k9 k10 k14; omega) | (clear gc1_m gc8_c him k9 k12 k14; omega) | (clear gc1_m gc8_c him k10 k12 k14; omega) | (clear gc1_m gc8_c k9 k10 k12 k14; omega) | (clear gc1_m him k9 k10 k12 k14; omega) | (clear gc8_c him k9 k10 k12 k14; omega) | (clear gc1_m gc8_c him k9 k10; omega) | (clear him gc8_c gc1_m; omega) | omega)]; exact (AX.fr (F := ([(1, 1)], [27])) z1 (FrX.c (FrX.s FrX.rf (⟨by decide, rfl⟩ : kx 1 1) rfl) hFc13 rfl) rfl)))) | exact him.elim (fun h => by exfalso; (first | (clear gc1_m gc8_c him k9 k10 k12 k14; omega) | (clear gc1_m gc8_c him k9 k10 k12; omega) | (clear gc1_m gc8_c him k9 k10 k14; omega) | (clear gc1_m gc8_c him k9 k12 k14; omega) | (clear gc1_m gc8_c him k10 k12 k14; omega) | (clear gc1_m gc8_c k9 k10 k12 k14; omega) | (clear gc1_m him k9 k10 k12 k14; omega) | (clear gc8_c him k9 k10 k12 k14; omega) | (clear gc1_m gc8_c him k9 k10; omega) | (clear him gc8_c gc1_m; omega) | omega)) (fun h => by rw [aOn_n h.2]; exact (AX.fr (F := ([(1, 1)], [27])) z1 (FrX.c (FrX.s FrX.rf (⟨by decide, rfl⟩ : kx 1 1) rfl) hFc13 rfl) rfl)) | (rw [aOn_n (fun q => by have h := q.1.1; (first | (clear gc1_m gc8_c him k9 k10 k12 k14; omega) | (clear gc1_m gc8_c him k9 k10 k12; omega) | (clear gc1_m gc8_c him k9 k10 k14; omega) | (clear gc1_m gc8_c him k9 k12 k14; omega) | (clear gc1_m gc8_c him k10 k12 k14; omega) | (clear gc1_m gc8_c k9 k10 k12 k14; omega) | (clear gc1_m him k9 k10 k12 k14; omega) | (clear gc8_c him k9 k10 k12 k14; omega) | (clear gc1_m gc8_c him k9 k10; omega) | (clear him gc8_c gc1_m; omega) | omega))]; exact (AX.fr (F := ([(1, 1)], [27])) z1 (FrX.c (FrX.s FrX.rf (⟨by decide, rfl⟩ : kx 1 1) rfl) hFc13 rfl) rfl))))
    · have k9n : 1 ≤ rc8 := by (first | (clear gc1_m gc8_c him k9; omega) | (clear gc1_m gc8_c him; omega) | (clear gc1_m gc8_c k9; omega) | (clear gc1_m him k9; omega) | (clear gc8_c him k9; omega) | (clear gc1_m gc8_c; omega) | omega)
      clear k9
      first | (revert r_him; intro r_him) | have r_him := (him.resolve_right (by (clear gc1_m gc8_c him; omega))) | have r_him := (him.resolve_left (by (clear gc1_m gc8_c him; omega))) | skip
      first | (revert r_gc8_c; intro r_gc8_c) | have r_gc8_c := (gc8_c.resolve_right (by (clear gc1_m gc8_c him; omega))) | have r_gc8_c := (gc8_c.resolve_left (by (clear gc1_m gc8_c him; omega))) | skip
      first | (revert r_gc1_m; intro r_gc1_m) | have r_gc1_m := (gc1_m.resolve_right (by (clear gc1_m gc8_c him; omega))) | have r_gc1_m := (gc1_m.resolve_left (by (clear gc1_m gc8_c him; omega))) | skip
      refine g_iconst dX11_on_14 ?_
      refine g_goto (tgt := 19) dX11_on_15 (by decide) ?_
      refine g_istore_n (l1 := [(1, vI 1), (0, vR 0)]) dX11_on_19 (by decide) rfl ?_
      refine g_iload_n dX11_on_20 rfl ?_
      refine g_if_eq (tgt := 28) dX11_on_21 (by decide) (by decide) (fun k15 => by exfalso; (first | (clear gc1_m gc8_c him; omega) | (clear gc1_m gc8_c; omega) | (clear gc1_m him; omega) | (clear gc8_c him; omega) | (clear gc1_m; omega) | omega)) (fun k15 => ?_)
      first | (revert r_him; intro r_him) | have r_him := (him.resolve_right (by (clear gc1_m gc8_c him k15; omega))) | have r_him := (him.resolve_left (by (clear gc1_m gc8_c him k15; omega))) | skip
      first | (revert r_gc8_c; intro r_gc8_c) | have r_gc8_c := (gc8_c.resolve_right (by (clear gc1_m gc8_c him k15; omega))) | have r_gc8_c := (gc8_c.resolve_left (by (clear gc1_m gc8_c him k15; omega))) | skip
      first | (revert r_gc1_m; intro r_gc1_m) | have r_gc1_m := (gc1_m.resolve_right (by (clear gc1_m gc8_c him k15; omega))) | have r_gc1_m := (gc1_m.resolve_left (by (clear gc1_m gc8_c him k15; omega))) | skip
      refine g_aload_n dX11_on_24 rfl ?_
      refine g_vV (av := []) (o := 0) (st := []) (f_X11_takeImage G P T A  hB ((him.resolve_right (fun h => by (first | (clear gc1_m gc8_c him k15; omega) | (clear gc1_m gc8_c him; omega) | (clear gc1_m gc8_c k15; omega) | (clear gc1_m him k15; omega) | (clear gc8_c him k15; omega) | (clear gc1_m gc8_c; omega) | omega))).2.1.elim (fun _ w => by have w2 := w.2.1; have w3 := w.2.2; (first | (clear gc1_m gc8_c him k15; omega) | (clear gc1_m gc8_c him; omega) | (clear gc1_m gc8_c k15; omega) | (clear gc1_m him k15; omega) | (clear gc8_c him k15; omega) | (clear gc1_m gc8_c; omega) | omega))) (z0) (z1) _ (fun Pc16 hBc16 hFc16 ec16_0 => ⟨rfl, ?_⟩)) cf_X11_takeImage t_1347 rfl (show kx 0 0 from (⟨by decide, rfl⟩ : kx 0 0)).1 ((show kx 0 0 from (⟨by decide, rfl⟩ : kx 0 0)).sh rfl) rfl rfl (Nat.le_of_ble_eq_true rfl) (by decide) rfl dX11_on_25
      have hon := (him.resolve_right (fun h => by (first | (clear gc1_m gc8_c him k15; omega) | (clear gc1_m gc8_c him; omega) | (clear gc1_m gc8_c k15; omega) | (clear gc1_m him k15; omega) | (clear gc8_c him k15; omega) | (clear gc1_m gc8_c; omega) | omega))).2
      refine g_aload_n dX11_on_28 rfl ?_
      refine x_g0_0 (n := 1) (⟨by decide, rfl⟩ : kx 0 0) ffX11_14 dX11_on_29 rfl ?_
      refine g_iconst dX11_on_32 ?_
      refine x_p1_1 (⟨by decide, rfl⟩ : kx 1 1) pfX11_100 dX11_on_33 ?_
      have hB17 := by_1_1 (z := 0) hBc16 (⟨by decide, rfl⟩ : kx 1 1) (by decide)
      refine g_iload_n dX11_on_36 rfl ?_
      refine g_if_ne (tgt := 48) dX11_on_37 (by decide) (by decide) (fun k18 => ?_) (fun k18 => by exfalso; (first | (clear gc1_m gc8_c him k15; omega) | (clear gc1_m gc8_c him; omega) | (clear gc1_m gc8_c k15; omega) | (clear gc1_m him k15; omega) | (clear gc8_c him k15; omega) | (clear gc1_m gc8_c; omega) | omega))
      first | (revert r_him; intro r_him) | have r_him := (him.resolve_right (by (clear gc1_m gc8_c him k15 k18; omega))) | have r_him := (him.resolve_left (by (clear gc1_m gc8_c him k15 k18; omega))) | skip
      first | (revert r_gc8_c; intro r_gc8_c) | have r_gc8_c := (gc8_c.resolve_right (by (clear gc1_m gc8_c him k15 k18; omega))) | have r_gc8_c := (gc8_c.resolve_left (by (clear gc1_m gc8_c him k15 k18; omega))) | skip
      first | (revert r_gc1_m; intro r_gc1_m) | have r_gc1_m := (gc1_m.resolve_right (by (clear gc1_m gc8_c him k15 k18; omega))) | have r_gc1_m := (gc1_m.resolve_left (by (clear gc1_m gc8_c him k15 k18; omega))) | skip
      refine g_iconst dX11_on_48 ?_
      refine g_goto (tgt := 53) dX11_on_49 (by decide) ?_
      exact g_retZ dX11_on_53 rfl (by decide) (hQ 1 (by decide) _ hB17 (FrX.s (FrX.c FrX.rf hFc16 rfl) (⟨by decide, rfl⟩ : kx 1 1) rfl) (by have q0 := (up_same : (up Pc16 1 1 0) 1 1 = 0); (first | (clear gc1_m gc8_c him k15 k18; omega) | (clear gc1_m gc8_c him k15; omega) | (clear gc1_m gc8_c him k18; omega) | (clear gc1_m gc8_c k15 k18; omega) | (clear gc1_m him k15 k18; omega) | (clear gc8_c him k15 k18; omega) | (clear gc1_m gc8_c him; omega) | (clear gc1_m; omega) | omega)) (by first | exact him.elim (fun h => by first | exact Or.inl ⟨rfl, h.2⟩ | (exfalso; (first | (clear gc1_m gc8_c him k15 k18; omega) | (clear gc1_m gc8_c him k15; omega) | (clear gc1_m gc8_c him k18; omega) | (clear gc1_m gc8_c k15 k18; omega) | (clear gc1_m him k15 k18; omega) | (clear gc8_c him k15 k18; omega) | (clear gc1_m gc8_c him; omega) | (clear gc1_m; omega) | omega))) (fun h => by first | exact Or.inr ⟨rfl, h.2⟩ | (exfalso; (first | (clear gc1_m gc8_c him k15 k18; omega) | (clear gc1_m gc8_c him k15; omega) | (clear gc1_m gc8_c him k18; omega) | (clear gc1_m gc8_c k15 k18; omega) | (clear gc1_m him k15 k18; omega) | (clear gc8_c him k15 k18; omega) | (clear gc1_m gc8_c him; omega) | (clear gc1_m; omega) | omega))) | exact Or.inr ⟨rfl, fun q => by have h := q.1.1; (first | (clear gc1_m gc8_c him k15 k18; omega) | (clear gc1_m gc8_c him k15; omega) | (clear gc1_m gc8_c him k18; omega) | (clear gc1_m gc8_c k15 k18; omega) | (clear gc1_m him k15 k18; omega) | (clear gc8_c him k15 k18; omega) | (clear gc1_m gc8_c him; omega) | (clear gc1_m; omega) | omega)⟩) (by first | (rw [aOn_y hon]; exact (AX.fr (F := ([(1, 1)], [])) ec16_0 (FrX.s FrX.rf (⟨by decide, rfl⟩ : kx 1 1) rfl) rfl)) | exact him.elim (fun h => by exfalso; (first | (clear gc1_m gc8_c him k15 k18; omega) | (clear gc1_m gc8_c him k15; omega) | (clear gc1_m gc8_c him k18; omega) | (clear gc1_m gc8_c k15 k18; omega) | (clear gc1_m him k15 k18; omega) | (clear gc8_c him k15 k18; omega) | (clear gc1_m gc8_c him; omega) | (clear gc1_m; omega) | omega)) (fun h => by rw [aOn_n h.2]; exact (by first | (rw [show A = (aLd T A) by (first | (clear gc1_m gc8_c him k15 k18; omega) | (clear gc1_m gc8_c him k15; omega) | (clear gc1_m gc8_c him k18; omega) | (clear gc1_m gc8_c k15 k18; omega) | (clear gc1_m him k15 k18; omega) | (clear gc8_c him k15 k18; omega) | (clear gc1_m gc8_c him; omega) | (clear gc1_m; omega) | omega)]; exact (AX.fr (F := ([(1, 1)], [])) ec16_0 (FrX.s FrX.rf (⟨by decide, rfl⟩ : kx 1 1) rfl) rfl)))) | (rw [aOn_n (fun q => by have h := q.1.1; (first | (clear gc1_m gc8_c him k15 k18; omega) | (clear gc1_m gc8_c him k15; omega) | (clear gc1_m gc8_c him k18; omega) | (clear gc1_m gc8_c k15 k18; omega) | (clear gc1_m him k15 k18; omega) | (clear gc8_c him k15 k18; omega) | (clear gc1_m gc8_c him; omega) | (clear gc1_m; omega) | omega))]; exact (by first | (rw [show A = (aLd T A) by (first | (clear gc1_m gc8_c him k15 k18; omega) | (clear gc1_m gc8_c him k15; omega) | (clear gc1_m gc8_c him k18; omega) | (clear gc1_m gc8_c k15 k18; omega) | (clear gc1_m him k15 k18; omega) | (clear gc8_c him k15 k18; omega) | (clear gc1_m gc8_c him; omega) | (clear gc1_m; omega) | omega)]; exact (AX.fr (F := ([(1, 1)], [])) ec16_0 (FrX.s FrX.rf (⟨by decide, rfl⟩ : kx 1 1) rfl) rfl))))))
/-! What the class answers: X3_isCon. -/
set_option maxRecDepth 100000 in
set_option maxHeartbeats 4000000 in
theorem f_X3_isCon (G : GT) (P : PH) (o0 : Nat) (a1 : Int) (k_o0 : kx o0 29) (h_a1 : (-2147483648) ≤ a1 ∧ a1 ≤ 2147483647) (hB : BdX P) (Q : Option PV → PH → Prop) (hQ : ∀ (r : Int) (_ : 0 ≤ r ∧ r ≤ 1) (_ : r = 0 ∨ (0 ≤ a1 ∧ a1 < P o0 10)) (_ : (r = 1 ∧ 0 ≤ a1 ∧ a1 < P o0 10) ∨ (r = 0 ∧ (a1 < 0 ∨ P o0 10 ≤ a1))), Q (some (vI r)) P) : Ct WSX G 1 iX3_isCon [vR o0, vI a1] P Q := by
  refine Ct.of (by decide) (l0 := [(0, vR o0), (1, vI a1)]) rfl (Nat.le_of_ble_eq_true rfl) ?_
  refine g_iload_n dX3_isCon_0 rfl ?_
  refine g_if_lt (tgt := 16) dX3_isCon_1 (by decide) ⟨by omega, by omega⟩ (fun k1 => ?_) (fun k1 => ?_)
  · refine g_iconst dX3_isCon_16 ?_
    exact g_retZ dX3_isCon_17 rfl (by decide) (hQ 0 (by decide) (by (first | (clear k1; omega) | omega)) (by (first | (clear k1; omega) | omega)))
  · refine g_iload_n dX3_isCon_4 rfl ?_
    refine g_aload_n dX3_isCon_5 rfl ?_
    refine x_g29_10 (z := (P o0 10)) k_o0 ffX3_43 dX3_isCon_6 rfl ?_
    have f2 := bx_29_10 (o := o0) hB k_o0
    refine g_icmp_ge (tgt := 16) dX3_isCon_9 (by decide) ⟨by (first | (clear k1; omega) | omega), by (first | (clear k1; omega) | omega)⟩ ⟨by have q0 := bx_29_10 (o := o0) hB k_o0; (first | (clear k1; omega) | omega), by have q0 := bx_29_10 (o := o0) hB k_o0; (first | (clear k1; omega) | omega)⟩ (fun k3 => ?_) (fun k3 => ?_)
    · refine g_iconst dX3_isCon_16 ?_
      exact g_retZ dX3_isCon_17 rfl (by decide) (hQ 0 (by decide) (by (first | (clear k1 k3; omega) | (clear k1; omega) | (clear k3; omega) | omega)) (by (first | (clear k1 k3; omega) | (clear k1; omega) | (clear k3; omega) | omega)))
    · refine g_iconst dX3_isCon_12 ?_
      refine g_goto (tgt := 17) dX3_isCon_13 (by decide) ?_
      exact g_retZ dX3_isCon_17 rfl (by decide) (hQ 1 (by decide) (by (first | (clear k1 k3; omega) | (clear k1; omega) | (clear k3; omega) | omega)) (by (first | (clear k1 k3; omega) | (clear k1; omega) | (clear k3; omega) | omega)))
/-! What the class answers: X11_letter. -/
set_option maxRecDepth 100000 in
set_option maxHeartbeats 4000000 in
theorem f_X11_letter (G : GT) (P : PH) (K : PH) (M : PH) (a1 : Int) (a2 : Int) (a3 : Int) (h_a1 : (-2147483648) ≤ a1 ∧ a1 ≤ 2147483647) (h_a2 : (-2147483648) ≤ a2 ∧ a2 ≤ 2147483647) (h_a3 : (-2147483648) ≤ a3 ∧ a3 ≤ 2147483647) (hB : BdX P) (p_aw : AW K) (p_an : AN K) (z0 : XTB K M P) (Q : Option PV → PH → Prop) (hQ : ∀ (r : Int) (_ : (-2147483648) ≤ r ∧ r ≤ 2147483647) (_ : r = ltr K a1 a2 a3), Q (some (vI r)) P) : Ct WSX G 2 iX11_letter [vR 0, vI a1, vI a2, vI a3] P Q := by
  refine Ct.of (by decide) (l0 := [(0, vR 0), (1, vI a1), (2, vI a2), (3, vI a3)]) rfl (Nat.le_of_ble_eq_true rfl) ?_
  have hb := z0.1.b
  have hls := ltr_s K a1 a2 a3
  have haw := p_aw.1
  have iv1 : XK K (crX (P 0 10).toNat 0) P := z0.1
  refine g_aload_n dX11_letter_0 rfl ?_
  refine x_g0_10 (n := (P 0 10).toNat) (⟨by decide, rfl⟩ : kx 0 0) ffX11_71 dX11_letter_1 (br_0_10 hB) ?_
  refine x_g28_0 (n := (crX (P 0 10).toNat 0)) (bk_0_10 hB) ffX11_162 dX11_letter_4 rfl ?_
  refine g_astore (l1 := [(4, vR (crX (P 0 10).toNat 0)), (0, vR 0), (1, vI a1), (2, vI a2), (3, vI a3)]) dX11_letter_7 (by decide) rfl ?_
  refine g_iload_n dX11_letter_9 rfl ?_
  refine g_if_lt (tgt := 23) dX11_letter_10 (by decide) ⟨by (clear hb hls; omega), by (clear hb hls; omega)⟩ (fun k2 => ?_) (fun k2 => ?_)
  · skip
    refine g_iconst dX11_letter_23 ?_
    exact g_retI dX11_letter_24 rfl (hQ (-1) (by decide) (by (clear hb; omega)))
  · skip
    refine g_iload_n dX11_letter_13 rfl ?_
    refine g_bipush dX11_letter_14 (by decide) ?_
    refine g_icmp_ge (tgt := 23) dX11_letter_16 (by decide) ⟨by (clear hb hls k2; omega), by (clear hb hls k2; omega)⟩ (by decide) (fun k3 => ?_) (fun k3 => ?_)
    · skip
      refine g_iconst dX11_letter_23 ?_
      exact g_retI dX11_letter_24 rfl (hQ (-1) (by decide) (by (omega)))
    · skip
      refine g_iload_n dX11_letter_19 rfl ?_
      refine g_if_ge (tgt := 25) dX11_letter_20 (by decide) ⟨by (clear hb hls k2 k3; omega), by (clear hb hls k2 k3; omega)⟩ (fun k4 => ?_) (fun k4 => ?_)
      · skip
        refine g_iload_n dX11_letter_25 rfl ?_
        refine g_if_ne (tgt := 50) dX11_letter_26 (by decide) ⟨by (clear hb hls k2 k3 k4; omega), by (clear hb hls k2 k3 k4; omega)⟩ (fun k5 => ?_) (fun k5 => ?_)
        · skip
          refine g_iload_n dX11_letter_50 rfl ?_
          refine g_iconst dX11_letter_51 ?_
          refine g_icmp_ne (tgt := 76) dX11_letter_52 (by decide) ⟨by (clear hb hls k2 k3 k4 k5; omega), by (clear hb hls k2 k3 k4 k5; omega)⟩ (by decide) (fun k6 => ?_) (fun k6 => ?_)
          · skip
            refine g_iconst dX11_letter_76 ?_
            exact g_retI dX11_letter_77 rfl (hQ (-1) (by decide) (by (omega)))
          · skip
            refine g_aload dX11_letter_55 rfl ?_
            refine g_iload_n dX11_letter_57 rfl ?_
            refine g_vI (av := [vI a2]) (o := (crX (P 0 10).toNat 0)) (st := []) (f_X3_isCon G P (crX (P 0 10).toNat 0) a2 (ck_28_0 (bk_0_10 hB)) ⟨by (clear hb hls k2 k3 k4 k5 k6; omega), by (clear hb hls k2 k3 k4 k5 k6; omega)⟩ hB  _ (fun rc7 hc7 gc7_k gc7_f => ⟨rc7, rfl, ?_⟩)) cf_X3_isCon t_932 rfl (show kx (crX (P 0 10).toNat 0) 29 from (ck_28_0 (bk_0_10 hB))).1 ((show kx (crX (P 0 10).toNat 0) 29 from (ck_28_0 (bk_0_10 hB))).sh rfl) rfl rfl (Nat.le_of_ble_eq_true rfl) (by decide) rfl dX11_letter_58
            have f8 := bx_29_10 (o := (crX (P 0 10).toNat 0)) hB (ck_28_0 (bk_0_10 hB))
            refine g_if_eq (tgt := 76) dX11_letter_61 (by decide) ⟨by (clear hb hls k2 k3 k4 k5 k6 gc7_k gc7_f; omega), by (clear hb hls k2 k3 k4 k5 k6 gc7_k gc7_f; omega)⟩ (fun k9 => ?_) (fun k9 => ?_)
            · skip
              skip
              skip
              refine g_iconst dX11_letter_76 ?_
              exact g_retI dX11_letter_77 rfl (hQ (-1) (by decide) (by (omega)))
            · have k9n : 1 ≤ rc7 := by (clear hb hls k2 k3 k4 k5 k6 gc7_k gc7_f; omega)
              clear k9
              have r_gc7_f := (gc7_f.resolve_right (by (clear hb hls k2 k3 k4 k5 k6 gc7_k gc7_f; omega)))
              have r_gc7_k := (gc7_k.resolve_left (by (clear hb hls k2 k3 k4 k5 k6 gc7_k gc7_f; omega)))
              skip
              have hcn := (z0.1.c (c := a2) (by (clear hb hls k2 k3 k4 k5 k6 gc7_k gc7_f; omega)) (by (omega))).1
              have hnn := p_an.2 a2 (by (clear hb hls k2 k3 k4 k5 k6 gc7_k gc7_f; omega)) (by (omega))
              refine g_aload dX11_letter_64 rfl ?_
              refine x_g29_4 (n := (crX (crX (P 0 10).toNat 0) 4)) (ck_28_0 (bk_0_10 hB)) ffX11_201 dX11_letter_66 rfl ?_
              refine g_iload_n dX11_letter_69 rfl ?_
              refine x_l34 (z := (P (crX (crX (P 0 10).toNat 0) 4) a2)) (ck_29_4 (ck_28_0 (bk_0_10 hB))) dX11_letter_70 ⟨by (clear hb hls k2 k3 k4 k5 k6 gc7_k gc7_f; omega), by (clear hb hls k2 k3 k4 k5 k6 gc7_k gc7_f; omega)⟩ rfl ?_
              refine g_iload_n dX11_letter_71 rfl ?_
              have f10 := bx_34 (o := (crX (crX (P 0 10).toNat 0) 4)) (k := a2) hB (ck_29_4 (ck_28_0 (bk_0_10 hB)))
              refine g_sI (av := [vI (P (crX (crX (P 0 10).toNat 0) 4) a2), vI a3]) (st := []) (f_X11_letterOf G P (P (crX (crX (P 0 10).toNat 0) 4) a2) a3 ⟨by have q0 := bx_34 (o := (crX (crX (P 0 10).toNat 0) 4)) (k := a2) hB (ck_29_4 (ck_28_0 (bk_0_10 hB))); (clear hb hls k2 k3 k4 k5 k6 gc7_k gc7_f; omega), by have q0 := bx_34 (o := (crX (crX (P 0 10).toNat 0) 4)) (k := a2) hB (ck_29_4 (ck_28_0 (bk_0_10 hB))); (clear hb hls k2 k3 k4 k5 k6 gc7_k gc7_f; omega)⟩ ⟨by (clear hb hls k2 k3 k4 k5 k6 gc7_k gc7_f; omega), by (clear hb hls k2 k3 k4 k5 k6 gc7_k gc7_f; omega)⟩ hB (by have q0 := bx_34 (o := (crX (crX (P 0 10).toNat 0) 4)) (k := a2) hB (ck_29_4 (ck_28_0 (bk_0_10 hB))); (clear hb hls k2 k3 k4 k5 k6 gc7_k gc7_f; omega)) (by have q0 := bx_34 (o := (crX (crX (P 0 10).toNat 0) 4)) (k := a2) hB (ck_29_4 (ck_28_0 (bk_0_10 hB))); (omega)) _ (fun rc11 hc11 gc11_l => ⟨rc11, rfl, ?_⟩)) cf_X11_letterOf t_929 rfl (Nat.le_of_ble_eq_true rfl) (by decide) rfl dX11_letter_72
              have hlt9 := gc11_l
              rw [hcn] at hlt9
              exact g_retI dX11_letter_75 rfl (hQ rc11 ⟨by (clear hb hls k2 k3 k4 k5 k6 gc7_k gc7_f; omega), by (clear hb hls k2 k3 k4 k5 k6 gc7_k gc7_f; omega)⟩ (by (omega)))
        · skip
          refine g_aload dX11_letter_29 rfl ?_
          refine g_iload_n dX11_letter_31 rfl ?_
          refine g_vI (av := [vI a2]) (o := (crX (P 0 10).toNat 0)) (st := []) (f_X3_isKind G P (crX (P 0 10).toNat 0) a2 (ck_28_0 (bk_0_10 hB)) ⟨by (clear hb hls k2 k3 k4 k5; omega), by (clear hb hls k2 k3 k4 k5; omega)⟩ hB  _ (fun rc12 hc12 gc12_k gc12_f => ⟨rc12, rfl, ?_⟩)) cf_X3_isKind t_928 rfl (show kx (crX (P 0 10).toNat 0) 29 from (ck_28_0 (bk_0_10 hB))).1 ((show kx (crX (P 0 10).toNat 0) 29 from (ck_28_0 (bk_0_10 hB))).sh rfl) rfl rfl (Nat.le_of_ble_eq_true rfl) (by decide) rfl dX11_letter_32
          have f13 := bx_29_9 (o := (crX (P 0 10).toNat 0)) hB (ck_28_0 (bk_0_10 hB))
          refine g_if_eq (tgt := 50) dX11_letter_35 (by decide) ⟨by (clear hb hls k2 k3 k4 k5 gc12_k gc12_f; omega), by (clear hb hls k2 k3 k4 k5 gc12_k gc12_f; omega)⟩ (fun k14 => ?_) (fun k14 => ?_)
          · skip
            skip
            skip
            refine g_iload_n dX11_letter_50 rfl ?_
            refine g_iconst dX11_letter_51 ?_
            refine g_icmp_ne (tgt := 76) dX11_letter_52 (by decide) ⟨by (clear hb hls k2 k3 k4 k5 gc12_k gc12_f k14; omega), by (clear hb hls k2 k3 k4 k5 gc12_k gc12_f k14; omega)⟩ (by decide) (fun k15 => ?_) (fun k15 => by exfalso; (clear hb hls k2 k3 k4 gc12_k gc12_f k14; omega))
            skip
            skip
            skip
            refine g_iconst dX11_letter_76 ?_
            exact g_retI dX11_letter_77 rfl (hQ (-1) (by decide) (by (omega)))
          · have k14n : 1 ≤ rc12 := by (clear hb hls k2 k3 k4 k5 gc12_k gc12_f; omega)
            clear k14
            have r_gc12_f := (gc12_f.resolve_right (by (clear hb hls k2 k3 k4 k5 gc12_k gc12_f; omega)))
            have r_gc12_k := (gc12_k.resolve_left (by (clear hb hls k2 k3 k4 k5 gc12_k gc12_f; omega)))
            skip
            have hkn := (z0.1.k (k := a2) (by (clear hb hls k2 k3 k4 k5 gc12_k gc12_f; omega)) (by (clear hls k2 k3 k4 k5 gc12_k gc12_f; omega))).1
            have hnn := p_an.1 a2 (by (clear hb hls k2 k3 k4 k5 gc12_k gc12_f; omega)) (by (clear hls k2 k3 k4 k5 gc12_k gc12_f; omega))
            refine g_aload dX11_letter_38 rfl ?_
            refine x_g29_0 (n := (crX (crX (P 0 10).toNat 0) 0)) (ck_28_0 (bk_0_10 hB)) ffX11_191 dX11_letter_40 rfl ?_
            refine g_iload_n dX11_letter_43 rfl ?_
            refine x_l30 (z := (P (crX (crX (P 0 10).toNat 0) 0) a2)) (ck_29_0 (ck_28_0 (bk_0_10 hB))) dX11_letter_44 ⟨by (clear hb hls k2 k3 k4 k5 gc12_k gc12_f; omega), by (clear hb hls k2 k3 k4 k5 gc12_k gc12_f; omega)⟩ rfl ?_
            refine g_iload_n dX11_letter_45 rfl ?_
            have f16 := bx_30 (o := (crX (crX (P 0 10).toNat 0) 0)) (k := a2) hB (ck_29_0 (ck_28_0 (bk_0_10 hB)))
            refine g_sI (av := [vI (P (crX (crX (P 0 10).toNat 0) 0) a2), vI a3]) (st := []) (f_X11_letterOf G P (P (crX (crX (P 0 10).toNat 0) 0) a2) a3 ⟨by have q0 := bx_30 (o := (crX (crX (P 0 10).toNat 0) 0)) (k := a2) hB (ck_29_0 (ck_28_0 (bk_0_10 hB))); (clear hb hls k2 k3 k4 k5 gc12_k gc12_f; omega), by have q0 := bx_30 (o := (crX (crX (P 0 10).toNat 0) 0)) (k := a2) hB (ck_29_0 (ck_28_0 (bk_0_10 hB))); (clear hb hls k2 k3 k4 k5 gc12_k gc12_f; omega)⟩ ⟨by (clear hb hls k2 k3 k4 k5 gc12_k gc12_f; omega), by (clear hb hls k2 k3 k4 k5 gc12_k gc12_f; omega)⟩ hB (by have q0 := bx_30 (o := (crX (crX (P 0 10).toNat 0) 0)) (k := a2) hB (ck_29_0 (ck_28_0 (bk_0_10 hB))); (clear hb hls k2 k3 k4 k5 gc12_k gc12_f; omega)) (by have q0 := bx_30 (o := (crX (crX (P 0 10).toNat 0) 0)) (k := a2) hB (ck_29_0 (ck_28_0 (bk_0_10 hB))); (omega)) _ (fun rc17 hc17 gc17_l => ⟨rc17, rfl, ?_⟩)) cf_X11_letterOf t_929 rfl (Nat.le_of_ble_eq_true rfl) (by decide) rfl dX11_letter_46
            have hlt9 := gc17_l
            rw [hkn] at hlt9
            exact g_retI dX11_letter_49 rfl (hQ rc17 ⟨by (clear hb hls k2 k3 k4 k5 gc12_k gc12_f; omega), by (clear hb hls k2 k3 k4 k5 gc12_k gc12_f; omega)⟩ (by (omega)))
      · skip
        refine g_iconst dX11_letter_23 ?_
        exact g_retI dX11_letter_24 rfl (hQ (-1) (by decide) (by (clear hb; omega)))
/-! What the class answers: X5_begin. -/
set_option maxRecDepth 100000 in
set_option maxHeartbeats 4000000 in
theorem f_X5_begin (G : GT) (P : PH) (o0 : Nat) (a1 : Int) (a2 : Int) (k_o0 : kx o0 14) (h_a1 : (-2147483648) ≤ a1 ∧ a1 ≤ 2147483647) (h_a2 : (-2147483648) ≤ a2 ∧ a2 ≤ 2147483647) (hB : BdX P) (p_n : 0 ≤ a1 ∧ a1 ≤ 12) (Q : Option PV → PH → Prop) (hQ : ∀ (P1 : PH) (_ : BdX P1) (_ : FrX ([(14, 1), (14, 2), (14, 3)], [15]) P P1) (_ : P1 o0 1 = a1) (_ : P1 o0 2 = 255) (_ : P1 o0 3 = a2) (_ : ∀ q : Int, 0 ≤ q → q < a1 → P1 (crX o0 0) q = q) (_ : KO o0 P P1), Q none P1) : Ct WSX G 2 iX5_begin [vR o0, vI a1, vI a2] P Q := by
  refine Ct.of (by decide) (l0 := [(0, vR o0), (1, vI a1), (2, vI a2)]) rfl (Nat.le_of_ble_eq_true rfl) ?_
  have hd9 := kx.ne (ck_14_0 k_o0) k_o0 rfl
  refine g_aload_n dX5_begin_0 rfl ?_
  refine g_iconst dX5_begin_1 ?_
  refine g_iload_n dX5_begin_2 rfl ?_
  refine g_bipush dX5_begin_3 (by decide) ?_
  refine g_sI (av := [vI a1, vI 12]) (st := [vI 0, vR o0]) (m_J9_min_7cf53 G P a1 12 ⟨by (first | (clear hd9; omega) | omega), by (first | (clear hd9; omega) | omega)⟩ (by decide) hB  _ (fun rc1 hc1 gc1_m => ⟨rc1, rfl, ?_⟩)) cf_J9_min_7cf53 t_905 rfl (Nat.le_of_ble_eq_true rfl) (by decide) rfl dX5_begin_5
  refine g_sI (av := [vI 0, vI rc1]) (st := [vR o0]) (m_J9_max_7cf53 G P 0 rc1 (by decide) ⟨by (first | (clear hd9 gc1_m; omega) | omega), by (first | (clear hd9 gc1_m; omega) | omega)⟩ hB  _ (fun rc2 hc2 gc2_m => ⟨rc2, rfl, ?_⟩)) cf_J9_max_7cf53 t_906 rfl (Nat.le_of_ble_eq_true rfl) (by decide) rfl dX5_begin_8
  refine x_p14_1 k_o0 pfX5_24 dX5_begin_11 ?_
  have hB3 := by_14_1 (z := rc2) hB k_o0 ⟨by (first | (clear hd9 gc1_m gc2_m; omega) | omega), by (first | (clear hd9 gc1_m gc2_m; omega) | omega)⟩
  refine g_iconst dX5_begin_14 ?_
  refine g_istore_n (l1 := [(3, vI 0), (0, vR o0), (1, vI a1), (2, vI a2)]) dX5_begin_15 (by decide) rfl ?_
  have L16_3 : ∀ (n16_3 : Nat) (x16_3_3 : Int) (h_x16_3_3 : 0 ≤ x16_3_3 ∧ x16_3_3 ≤ 12) (H16_3 : PH) (hB16_3 : BdX H16_3) (hE16_3 : FrX ([], [15]) (up P o0 1 rc2) H16_3) (i16_0_3 : ∀ q : Int, 0 ≤ q → q < x16_3_3 → H16_3 (crX o0 0) q = q) (i16_1_3 : KO o0 P H16_3) (hm16_3 : ((13 - x16_3_3) : Int).toNat < n16_3), Go WSX G 2 iX5_begin 16 [(0, vR o0), (2, vI a2), (3, vI x16_3_3)] [] H16_3 Q := by
    intro n16_3
    induction n16_3 with
    | zero => intro x16_3_3 h_x16_3_3 H16_3 hB16_3 hE16_3 i16_0_3 i16_1_3 hm16_3; exact absurd hm16_3 (Nat.not_lt_zero _)
    | succ n16_3 ih16_3 =>
    intro x16_3_3 h_x16_3_3 H16_3 hB16_3 hE16_3 i16_0_3 i16_1_3 hm16_3
    refine g_iload_n dX5_begin_16 rfl ?_
    refine g_aload_n dX5_begin_17 rfl ?_
    refine x_g14_1 (z := rc2) k_o0 ffX5_24 dX5_begin_18 ((FrX.g hE16_3 k_o0 rfl).trans up_same) ?_
    refine g_icmp_ge (tgt := 37) dX5_begin_21 (by decide) ⟨by (first | (clear hd9 gc1_m gc2_m; omega) | omega), by (first | (clear hd9 gc1_m gc2_m; omega) | omega)⟩ ⟨by (first | (clear hd9 gc1_m gc2_m; omega) | omega), by (first | (clear hd9 gc1_m gc2_m; omega) | omega)⟩ (fun k37 => ?_) (fun k37 => ?_)
    · first | (revert r_gc2_m; intro r_gc2_m) | have r_gc2_m := (gc2_m.resolve_right (by (clear hd9 gc1_m gc2_m k37; omega))) | have r_gc2_m := (gc2_m.resolve_left (by (clear hd9 gc1_m gc2_m k37; omega))) | skip
      first | (revert r_gc1_m; intro r_gc1_m) | have r_gc1_m := (gc1_m.resolve_right (by (clear hd9 gc1_m gc2_m k37; omega))) | have r_gc1_m := (gc1_m.resolve_left (by (clear hd9 gc1_m gc2_m k37; omega))) | skip
      refine g_aload_n dX5_begin_37 rfl ?_
      refine g_sipush dX5_begin_38 (by decide) ?_
      refine x_p14_2 k_o0 pfX5_28 dX5_begin_41 ?_
      have hB38 := by_14_2 (z := 255) hB16_3 k_o0 (by decide)
      refine g_aload_n dX5_begin_44 rfl ?_
      refine g_iload_n dX5_begin_45 rfl ?_
      refine x_p14_3 k_o0 pfX5_31 dX5_begin_46 ?_
      have hB39 := by_14_3 (z := a2) hB38 k_o0 ⟨by (first | (clear hd9 gc1_m gc2_m k37; omega) | omega), by (first | (clear hd9 gc1_m gc2_m k37; omega) | omega)⟩
      exact g_retV dX5_begin_49 rfl (hQ _ hB39 (FrX.s (FrX.s (FrX.c (FrX.s FrX.rf k_o0 rfl) hE16_3 rfl) k_o0 rfl) k_o0 rfl) (Eq.trans ((up_k (by decide)).trans ((up_k (by decide)).trans ((FrX.g hE16_3 k_o0 rfl).trans up_same))) (by (first | (clear hd9 gc1_m gc2_m k37; omega) | (clear hd9 gc1_m gc2_m; omega) | (clear hd9 gc1_m k37; omega) | (clear hd9 gc2_m k37; omega) | (clear gc1_m gc2_m k37; omega) | (clear hd9 gc1_m; omega) | omega))) (((up_k (by decide)).trans up_same)) (up_same) (fun q q0 q1 => (up_o hd9).trans ((up_o hd9).trans (i16_0_3 q q0 (by (first | (clear hd9 gc1_m gc2_m k37; omega) | (clear hd9 gc1_m gc2_m; omega) | (clear hd9 gc1_m k37; omega) | (clear hd9 gc2_m k37; omega) | (clear gc1_m gc2_m k37; omega) | (clear hd9 gc1_m; omega) | omega))))) (KO.w (KO.w i16_1_3 (Or.inl (or14 k_o0).1)) (Or.inl (or14 k_o0).1)))
    · first | (revert r_gc2_m; intro r_gc2_m) | have r_gc2_m := (gc2_m.resolve_right (by (clear hd9 gc1_m gc2_m k37; omega))) | have r_gc2_m := (gc2_m.resolve_left (by (clear hd9 gc1_m gc2_m k37; omega))) | skip
      first | (revert r_gc1_m; intro r_gc1_m) | have r_gc1_m := (gc1_m.resolve_right (by (clear hd9 gc1_m gc2_m k37; omega))) | have r_gc1_m := (gc1_m.resolve_left (by (clear hd9 gc1_m gc2_m k37; omega))) | skip
      refine g_aload_n dX5_begin_24 rfl ?_
      refine x_g14_0 (n := (crX o0 0)) k_o0 ffX5_9 dX5_begin_25 rfl ?_
      refine g_iload_n dX5_begin_28 rfl ?_
      refine g_iload_n dX5_begin_29 rfl ?_
      refine x_s15 (ck_14_0 k_o0) dX5_begin_30 ⟨by (first | (clear hd9 gc1_m gc2_m k37; omega) | omega), by (first | (clear hd9 gc1_m gc2_m k37; omega) | omega)⟩ ?_
      have hB40 := by_15 (z := x16_3_3) (k := x16_3_3) hB16_3 (ck_14_0 k_o0) ⟨by (first | (clear hd9 gc1_m gc2_m k37; omega) | omega), by (first | (clear hd9 gc1_m gc2_m k37; omega) | omega)⟩
      have hko9 : KO o0 P (up H16_3 (crX o0 0) x16_3_3 x16_3_3) := KO.w i16_1_3 (OB.c (or14 k_o0).1 k_o0)
      have hA9 : ∀ q : Int, 0 ≤ q → q < x16_3_3 + 1 → (up H16_3 (crX o0 0) x16_3_3 x16_3_3) (crX o0 0) q = q := by
        intro q q0 q1
        by_cases e : q = x16_3_3
        · rw [e]; exact up_same
        · exact Eq.trans (up_k (by (first | (clear hd9 gc1_m gc2_m k37; omega) | (clear hd9 gc1_m gc2_m; omega) | (clear hd9 gc1_m k37; omega) | (clear hd9 gc2_m k37; omega) | (clear gc1_m gc2_m k37; omega) | (clear hd9 gc1_m; omega) | omega))) (i16_0_3 q q0 (by (first | (clear hd9 gc1_m gc2_m k37; omega) | (clear hd9 gc1_m gc2_m; omega) | (clear hd9 gc1_m k37; omega) | (clear hd9 gc2_m k37; omega) | (clear gc1_m gc2_m k37; omega) | (clear hd9 gc1_m; omega) | omega)))
      refine g_iinc (l1 := [(3, vI (x16_3_3 + 1)), (0, vR o0), (2, vI a2)]) dX5_begin_31 rfl (by decide) rfl ?_
      refine g_goto (tgt := 16) dX5_begin_34 (by decide) ?_
      refine g_forget (l1 := [(0, vR o0), (2, vI a2), (3, vI (x16_3_3 + 1))]) (by intro q hq; simp only [List.mem_cons, List.not_mem_nil, or_false] at hq ⊢; rcases hq with rfl | rfl | rfl <;> simp) ?_
      exact ih16_3 (x16_3_3 + 1) ⟨by (first | (clear hd9 gc1_m gc2_m k37; omega) | omega), by (first | (clear hd9 gc1_m gc2_m k37; omega) | omega)⟩ _ hB40 (FrX.s (FrX.c FrX.rf hE16_3 rfl) (ck_14_0 k_o0) rfl) (by first | exact hA9 | (intro q q0 q1; exfalso; (first | (clear hd9 gc1_m gc2_m k37; omega) | (clear hd9 gc1_m gc2_m; omega) | (clear hd9 gc1_m k37; omega) | (clear hd9 gc2_m k37; omega) | (clear gc1_m gc2_m k37; omega) | (clear hd9 gc1_m; omega) | omega))) (by first | exact hko9 | exact KO.w KO.rf (Or.inl (or14 k_o0).1)) (by (first | (clear hd9 gc1_m gc2_m k37; omega) | (clear hd9 gc1_m gc2_m; omega) | (clear hd9 gc1_m k37; omega) | (clear hd9 gc2_m k37; omega) | (clear gc1_m gc2_m k37; omega) | (clear hd9 gc1_m; omega) | omega))
  refine g_forget (l1 := [(0, vR o0), (2, vI a2), (3, vI 0)]) (by intro q hq; simp only [List.mem_cons, List.not_mem_nil, or_false] at hq ⊢; rcases hq with rfl | rfl | rfl <;> simp) ?_
  exact L16_3 _ 0 (by decide) _ hB3 FrX.rf (by first | exact hA9 | (intro q q0 q1; exfalso; (first | (clear hd9 gc1_m gc2_m; omega) | (clear hd9 gc1_m; omega) | (clear hd9 gc2_m; omega) | (clear gc1_m gc2_m; omega) | (clear hd9; omega) | omega))) (by first | exact hko9 | exact KO.w KO.rf (Or.inl (or14 k_o0).1)) (Nat.lt_succ_self _)
/-! What the class answers: X11_startMatch. -/
set_option maxRecDepth 100000 in
set_option maxHeartbeats 4000000 in
theorem f_X11_startMatch (G : GT) (P : PH) (A : PH) (K : PH) (M : PH) (hB : BdX P) (p_av : 0 ≤ M 0 2 ∧ M 0 2 ≤ 12) (z0 : AX A P) (z1 : XTB K M P) (Q : Option PV → PH → Prop) (hQ : ∀ (P1 : PH) (_ : BdX P1) (_ : FrX ([(5, 2), (8, 3), (11, 3), (14, 1), (14, 2), (14, 3), (16, 5), (16, 7), (22, 2), (51, 13)], [6, 7, 9, 10, 12, 13, 15]) P P1) (_ : AX (aBeg A (M 0 2) (M 0 3)) P1), Q none P1) : Ct WSX G 4 iX11_startMatch [vR 0] P Q := by
  refine Ct.of (by decide) (l0 := [(0, vR 0)]) rfl (Nat.le_of_ble_eq_true rfl) ?_
  have hxm := z1.2
  have hx8 := hxm.2.2.2.1
  have hx9 := hxm.2.2.2.2.1
  refine g_aload_n dX11_startMatch_0 rfl ?_
  refine x_g0_13 (n := 125) (⟨by decide, rfl⟩ : kx 0 0) ffX11_92 dX11_startMatch_1 rfl ?_
  refine g_aload_n dX11_startMatch_4 rfl ?_
  refine x_g0_10 (n := (P 0 10).toNat) (⟨by decide, rfl⟩ : kx 0 0) ffX11_71 dX11_startMatch_5 (br_0_10 hB) ?_
  refine g_vV (av := [vR (P 0 10).toNat]) (o := 125) (st := []) (m_X10_setTable G P (P 0 10).toNat (bk_0_10 hB) hB  _ (fun Pc1 hBc1 hFc1 => ⟨rfl, ?_⟩)) cf_X10_setTable t_865 rfl (show kx 125 51 from (⟨by decide, rfl⟩ : kx 125 51)).1 ((show kx 125 51 from (⟨by decide, rfl⟩ : kx 125 51)).sh rfl) rfl rfl (Nat.le_of_ble_eq_true rfl) (by decide) rfl dX11_startMatch_8
  refine g_aload_n dX11_startMatch_11 rfl ?_
  refine x_g0_3 (n := 8) (⟨by decide, rfl⟩ : kx 0 0) ffX11_33 dX11_startMatch_12 rfl ?_
  refine g_vV (av := []) (o := 8) (st := []) (m_X2_begin_G4 G Pc1 8 (⟨by decide, rfl⟩ : kx 8 8) hBc1  _ (fun Pc2 hBc2 hFc2 => ⟨rfl, ?_⟩)) cf_X2_begin t_889 rfl (show kx 8 8 from (⟨by decide, rfl⟩ : kx 8 8)).1 ((show kx 8 8 from (⟨by decide, rfl⟩ : kx 8 8)).sh rfl) rfl rfl (Nat.le_of_ble_eq_true rfl) (by decide) rfl dX11_startMatch_15
  refine g_aload_n dX11_startMatch_18 rfl ?_
  refine x_g0_3 (n := 8) (⟨by decide, rfl⟩ : kx 0 0) ffX11_33 dX11_startMatch_19 rfl ?_
  refine g_iconst dX11_startMatch_22 ?_
  refine g_aload_n dX11_startMatch_23 rfl ?_
  refine x_g0_10 (n := (P 0 10).toNat) (⟨by decide, rfl⟩ : kx 0 0) ffX11_71 dX11_startMatch_24 ((FrX.g hFc2 (⟨by decide, rfl⟩ : kx 0 0) rfl).trans ((FrX.g hFc1 (⟨by decide, rfl⟩ : kx 0 0) rfl).trans (br_0_10 hB))) ?_
  refine x_g28_8 (z := (P (P 0 10).toNat 8)) (bk_0_10 hB) ffX11_123 dX11_startMatch_27 ((FrX.g hFc2 (bk_0_10 hB) rfl).trans ((FrX.g hFc1 (bk_0_10 hB) rfl).trans rfl)) ?_
  refine g_ishl dX11_startMatch_30 ?_
  refine g_nm (fun b3 e_b3 => ?_)
  have h_b3 : 1 ≤ (ishl 1 (P (P 0 10).toNat 8)) ∧ (ishl 1 (P (P 0 10).toNat 8)) ≤ 4096 := (ishl1 12 (by decide) (y := (P (P 0 10).toNat 8)) ⟨by have q0 := bx_28_8 (o := (P 0 10).toNat) hB (bk_0_10 hB); omega, by have q0 := bx_28_8 (o := (P 0 10).toNat) hB (bk_0_10 hB); omega⟩).2
  rw [← e_b3] at h_b3
  refine g_iconst dX11_startMatch_31 ?_
  refine g_isub dX11_startMatch_32 ?_
  refine g_iconst dX11_startMatch_33 ?_
  refine g_vV (av := [vI (b3 - 1), vI 1]) (o := 8) (st := []) (m_X2_add_G4 G Pc2 8 (b3 - 1) 1 (⟨by decide, rfl⟩ : kx 8 8) ⟨by omega, by omega⟩ (by decide) hBc2  _ (fun Pc4 hBc4 hFc4 => ⟨rfl, ?_⟩)) cf_X2_add t_890 rfl (show kx 8 8 from (⟨by decide, rfl⟩ : kx 8 8)).1 ((show kx 8 8 from (⟨by decide, rfl⟩ : kx 8 8)).sh rfl) rfl rfl (Nat.le_of_ble_eq_true rfl) (by decide) rfl dX11_startMatch_34
  refine g_iconst dX11_startMatch_37 ?_
  refine g_istore_n (l1 := [(1, vI 0), (0, vR 0)]) dX11_startMatch_38 (by decide) rfl ?_
  have L39_4 : ∀ (n39_4 : Nat) (x39_1_4 : Int) (h_x39_1_4 : 0 ≤ x39_1_4 ∧ x39_1_4 ≤ 4) (H39_4 : PH) (hB39_4 : BdX H39_4) (hE39_4 : FrX ([(5, 2), (8, 3)], [6, 7, 9, 10]) Pc4 H39_4) (hm39_4 : ((5 - x39_1_4) : Int).toNat < n39_4), Go WSX G 4 iX11_startMatch 39 [(0, vR 0), (1, vI x39_1_4)] [] H39_4 Q := by
    intro n39_4
    induction n39_4 with
    | zero => intro x39_1_4 h_x39_1_4 H39_4 hB39_4 hE39_4 hm39_4; exact absurd hm39_4 (Nat.not_lt_zero _)
    | succ n39_4 ih39_4 =>
    intro x39_1_4 h_x39_1_4 H39_4 hB39_4 hE39_4 hm39_4
    refine g_iload_n dX11_startMatch_39 rfl ?_
    refine g_aload_n dX11_startMatch_40 rfl ?_
    refine x_g0_10 (n := (P 0 10).toNat) (⟨by decide, rfl⟩ : kx 0 0) ffX11_71 dX11_startMatch_41 ((FrX.g hE39_4 (⟨by decide, rfl⟩ : kx 0 0) rfl).trans ((FrX.g hFc4 (⟨by decide, rfl⟩ : kx 0 0) rfl).trans ((FrX.g hFc2 (⟨by decide, rfl⟩ : kx 0 0) rfl).trans ((FrX.g hFc1 (⟨by decide, rfl⟩ : kx 0 0) rfl).trans (br_0_10 hB))))) ?_
    refine x_g28_6 (z := (P (P 0 10).toNat 6)) (bk_0_10 hB) ffX11_130 dX11_startMatch_44 ((FrX.g hE39_4 (bk_0_10 hB) rfl).trans ((FrX.g hFc4 (bk_0_10 hB) rfl).trans ((FrX.g hFc2 (bk_0_10 hB) rfl).trans ((FrX.g hFc1 (bk_0_10 hB) rfl).trans rfl)))) ?_
    have f83 := bx_28_6 (o := (P 0 10).toNat) hB (bk_0_10 hB)
    refine g_icmp_ge (tgt := 94) dX11_startMatch_47 (by decide) ⟨by omega, by omega⟩ ⟨by have q0 := bx_28_6 (o := (P 0 10).toNat) hB (bk_0_10 hB); omega, by have q0 := bx_28_6 (o := (P 0 10).toNat) hB (bk_0_10 hB); omega⟩ (fun k84 => ?_) (fun k84 => ?_)
    · refine g_aload_n dX11_startMatch_94 rfl ?_
      refine x_g0_5 (n := 14) (⟨by decide, rfl⟩ : kx 0 0) ffX11_43 dX11_startMatch_95 rfl ?_
      refine g_aload_n dX11_startMatch_98 rfl ?_
      refine x_g0_10 (n := (P 0 10).toNat) (⟨by decide, rfl⟩ : kx 0 0) ffX11_71 dX11_startMatch_99 ((FrX.g hE39_4 (⟨by decide, rfl⟩ : kx 0 0) rfl).trans ((FrX.g hFc4 (⟨by decide, rfl⟩ : kx 0 0) rfl).trans ((FrX.g hFc2 (⟨by decide, rfl⟩ : kx 0 0) rfl).trans ((FrX.g hFc1 (⟨by decide, rfl⟩ : kx 0 0) rfl).trans (br_0_10 hB))))) ?_
      refine x_g28_8 (z := (P (P 0 10).toNat 8)) (bk_0_10 hB) ffX11_123 dX11_startMatch_102 ((FrX.g hE39_4 (bk_0_10 hB) rfl).trans ((FrX.g hFc4 (bk_0_10 hB) rfl).trans ((FrX.g hFc2 (bk_0_10 hB) rfl).trans ((FrX.g hFc1 (bk_0_10 hB) rfl).trans rfl)))) ?_
      refine g_aload_n dX11_startMatch_105 rfl ?_
      refine x_g0_10 (n := (P 0 10).toNat) (⟨by decide, rfl⟩ : kx 0 0) ffX11_71 dX11_startMatch_106 ((FrX.g hE39_4 (⟨by decide, rfl⟩ : kx 0 0) rfl).trans ((FrX.g hFc4 (⟨by decide, rfl⟩ : kx 0 0) rfl).trans ((FrX.g hFc2 (⟨by decide, rfl⟩ : kx 0 0) rfl).trans ((FrX.g hFc1 (⟨by decide, rfl⟩ : kx 0 0) rfl).trans (br_0_10 hB))))) ?_
      refine x_g28_9 (z := (P (P 0 10).toNat 9)) (bk_0_10 hB) ffX11_145 dX11_startMatch_109 ((FrX.g hE39_4 (bk_0_10 hB) rfl).trans ((FrX.g hFc4 (bk_0_10 hB) rfl).trans ((FrX.g hFc2 (bk_0_10 hB) rfl).trans ((FrX.g hFc1 (bk_0_10 hB) rfl).trans rfl)))) ?_
      have f85 := bx_28_8 (o := (P 0 10).toNat) hB (bk_0_10 hB)
      have f86 := bx_28_9 (o := (P 0 10).toNat) hB (bk_0_10 hB)
      refine g_vV (av := [vI (P (P 0 10).toNat 8), vI (P (P 0 10).toNat 9)]) (o := 14) (st := []) (f_X5_begin G H39_4 14 (P (P 0 10).toNat 8) (P (P 0 10).toNat 9) (⟨by decide, rfl⟩ : kx 14 14) ⟨by have q0 := bx_28_8 (o := (P 0 10).toNat) hB (bk_0_10 hB); (first | (clear k84; omega) | omega), by have q0 := bx_28_8 (o := (P 0 10).toNat) hB (bk_0_10 hB); (first | (clear k84; omega) | omega)⟩ ⟨by have q0 := bx_28_9 (o := (P 0 10).toNat) hB (bk_0_10 hB); (first | (clear k84; omega) | omega), by have q0 := bx_28_9 (o := (P 0 10).toNat) hB (bk_0_10 hB); (first | (clear k84; omega) | omega)⟩ hB39_4 (by have q0 := bx_28_8 (o := (P 0 10).toNat) hB (bk_0_10 hB); have q1 := bx_28_9 (o := (P 0 10).toNat) hB (bk_0_10 hB); (first | (clear k84; omega) | omega)) _ (fun Pc87 hBc87 hFc87 gc87_c1 gc87_c2 gc87_c3 gc87_ca gc87_ko => ⟨rfl, ?_⟩)) cf_X5_begin t_901 rfl (show kx 14 14 from (⟨by decide, rfl⟩ : kx 14 14)).1 ((show kx 14 14 from (⟨by decide, rfl⟩ : kx 14 14)).sh rfl) rfl rfl (Nat.le_of_ble_eq_true rfl) (by decide) rfl dX11_startMatch_112
      have hc1 := gc87_c1
      have hc2 := gc87_c2
      have hc3 := gc87_c3
      have hca := gc87_ca
      refine g_aload_n dX11_startMatch_115 rfl ?_
      refine x_g0_7 (n := 18) (⟨by decide, rfl⟩ : kx 0 0) ffX11_53 dX11_startMatch_116 rfl ?_
      refine g_vV (av := []) (o := 18) (st := []) (f_X0_clear G Pc87  hBc87  _ (fun Pc88 hBc88 hFc88 gc88_c5 gc88_c7 => ⟨rfl, ?_⟩)) cf_X0_clear t_907 rfl (show kx 18 16 from (⟨by decide, rfl⟩ : kx 18 16)).1 ((show kx 18 16 from (⟨by decide, rfl⟩ : kx 18 16)).sh rfl) rfl rfl (Nat.le_of_ble_eq_true rfl) (by decide) rfl dX11_startMatch_119
      have hc5 := gc88_c5
      have hc7 := gc88_c7
      refine g_aload_n dX11_startMatch_122 rfl ?_
      refine x_g0_8 (n := 64) (⟨by decide, rfl⟩ : kx 0 0) ffX11_60 dX11_startMatch_123 rfl ?_
      refine g_iconst dX11_startMatch_126 ?_
      refine x_p22_2 (⟨by decide, rfl⟩ : kx 64 22) pfX11_153 dX11_startMatch_127 ?_
      have hB89 := by_22_2 (z := 0) hBc88 (⟨by decide, rfl⟩ : kx 64 22) (by decide)
      exact g_retV dX11_startMatch_130 rfl (hQ _ hB89 (FrX.s (FrX.c (FrX.c (FrX.c (FrX.c (FrX.c (FrX.c FrX.rf hFc1 rfl) hFc2 rfl) hFc4 rfl) hE39_4 rfl) hFc87 rfl) hFc88 rfl) (⟨by decide, rfl⟩ : kx 64 22) rfl) (AX.beg z0 (by have q := (((up_o (kx.ne (⟨by decide, rfl⟩ : kx 14 14) (⟨by decide, rfl⟩ : kx 64 22) rfl)).trans ((FrX.g hFc88 (⟨by decide, rfl⟩ : kx 14 14) rfl).trans rfl)) : (up Pc88 64 2 0) 14 1 = (Pc87 14 1)); (first | (clear k84; omega) | omega)) (by have q := (((up_o (kx.ne (⟨by decide, rfl⟩ : kx 14 14) (⟨by decide, rfl⟩ : kx 64 22) rfl)).trans ((FrX.g hFc88 (⟨by decide, rfl⟩ : kx 14 14) rfl).trans rfl)) : (up Pc88 64 2 0) 14 2 = (Pc87 14 2)); (first | (clear k84; omega) | omega)) (by have q := (((up_o (kx.ne (⟨by decide, rfl⟩ : kx 14 14) (⟨by decide, rfl⟩ : kx 64 22) rfl)).trans ((FrX.g hFc88 (⟨by decide, rfl⟩ : kx 14 14) rfl).trans rfl)) : (up Pc88 64 2 0) 14 3 = (Pc87 14 3)); (first | (clear k84; omega) | omega)) (fun q q0 q1 => Eq.trans ((up_o (kx.ne (⟨by decide, rfl⟩ : kx 15 15) (⟨by decide, rfl⟩ : kx 64 22) rfl)).trans ((FrX.g hFc88 (⟨by decide, rfl⟩ : kx 15 15) rfl).trans rfl)) (hca q q0 (by (first | (clear k84; omega) | omega)))) (by have q := (((up_o (kx.ne (⟨by decide, rfl⟩ : kx 18 16) (⟨by decide, rfl⟩ : kx 64 22) rfl)).trans rfl) : (up Pc88 64 2 0) 18 5 = (Pc88 18 5)); (first | (clear k84; omega) | omega)) (by have q := (((up_o (kx.ne (⟨by decide, rfl⟩ : kx 18 16) (⟨by decide, rfl⟩ : kx 64 22) rfl)).trans rfl) : (up Pc88 64 2 0) 18 7 = (Pc88 18 7)); (first | (clear k84; omega) | omega)) up_same ((up_o (kx.ne (⟨by decide, rfl⟩ : kx 0 0) (⟨by decide, rfl⟩ : kx 64 22) rfl)).trans ((FrX.g hFc88 (⟨by decide, rfl⟩ : kx 0 0) rfl).trans ((FrX.g hFc87 (⟨by decide, rfl⟩ : kx 0 0) rfl).trans ((FrX.g hE39_4 (⟨by decide, rfl⟩ : kx 0 0) rfl).trans ((FrX.g hFc4 (⟨by decide, rfl⟩ : kx 0 0) rfl).trans ((FrX.g hFc2 (⟨by decide, rfl⟩ : kx 0 0) rfl).trans ((FrX.g hFc1 (⟨by decide, rfl⟩ : kx 0 0) rfl).trans rfl)))))))))
    · refine g_aload_n dX11_startMatch_50 rfl ?_
      refine x_g0_4 (n := 11) (⟨by decide, rfl⟩ : kx 0 0) ffX11_37 dX11_startMatch_51 rfl ?_
      refine g_aload_n dX11_startMatch_54 rfl ?_
      refine x_g0_3 (n := 8) (⟨by decide, rfl⟩ : kx 0 0) ffX11_33 dX11_startMatch_55 rfl ?_
      refine g_vV (av := [vR 8]) (o := 11) (st := []) (m_X2_copy_G4_G4 G H39_4 11 8 (⟨by decide, rfl⟩ : kx 11 8) (⟨by decide, rfl⟩ : kx 8 8) hB39_4  _ (fun Pc90 hBc90 hFc90 => ⟨rfl, ?_⟩)) cf_X2_copy t_891 rfl (show kx 11 8 from (⟨by decide, rfl⟩ : kx 11 8)).1 ((show kx 11 8 from (⟨by decide, rfl⟩ : kx 11 8)).sh rfl) rfl rfl (Nat.le_of_ble_eq_true rfl) (by decide) rfl dX11_startMatch_58
      refine g_aload_n dX11_startMatch_61 rfl ?_
      refine x_g0_3 (n := 8) (⟨by decide, rfl⟩ : kx 0 0) ffX11_33 dX11_startMatch_62 rfl ?_
      refine g_vV (av := []) (o := 8) (st := []) (m_X2_begin_G4 G Pc90 8 (⟨by decide, rfl⟩ : kx 8 8) hBc90  _ (fun Pc91 hBc91 hFc91 => ⟨rfl, ?_⟩)) cf_X2_begin t_889 rfl (show kx 8 8 from (⟨by decide, rfl⟩ : kx 8 8)).1 ((show kx 8 8 from (⟨by decide, rfl⟩ : kx 8 8)).sh rfl) rfl rfl (Nat.le_of_ble_eq_true rfl) (by decide) rfl dX11_startMatch_65
      refine g_aload_n dX11_startMatch_68 rfl ?_
      refine x_g0_3 (n := 8) (⟨by decide, rfl⟩ : kx 0 0) ffX11_33 dX11_startMatch_69 rfl ?_
      refine g_aload_n dX11_startMatch_72 rfl ?_
      refine x_g0_4 (n := 11) (⟨by decide, rfl⟩ : kx 0 0) ffX11_37 dX11_startMatch_73 rfl ?_
      refine g_aload_n dX11_startMatch_76 rfl ?_
      refine x_g0_13 (n := 125) (⟨by decide, rfl⟩ : kx 0 0) ffX11_92 dX11_startMatch_77 rfl ?_
      refine x_g51_0 (n := 126) (⟨by decide, rfl⟩ : kx 125 51) ffX11_137 dX11_startMatch_80 rfl ?_
      refine g_iload_n dX11_startMatch_83 rfl ?_
      refine x_l52 (n := (crX 126 x39_1_4.toNat)) (⟨by decide, rfl⟩ : kx 126 52) dX11_startMatch_84 ⟨by (first | (clear k84; omega) | omega), by (first | (clear k84; omega) | omega)⟩ rfl ?_
      have kk92 := (ce_52 (j := x39_1_4.toNat) (⟨by decide, rfl⟩ : kx 126 52) (by (first | (clear k84; omega) | omega)))
      refine g_vV (av := [vR 11, vR (crX 126 x39_1_4.toNat)]) (o := 8) (st := []) (m_X2_addProducts_G4_G4_G2 G Pc91 8 11 (crX 126 x39_1_4.toNat) (⟨by decide, rfl⟩ : kx 8 8) (⟨by decide, rfl⟩ : kx 11 8) kk92 hBc91  _ (fun Pc93 hBc93 hFc93 => ⟨rfl, ?_⟩)) cf_X2_addProducts t_896 rfl (show kx 8 8 from (⟨by decide, rfl⟩ : kx 8 8)).1 ((show kx 8 8 from (⟨by decide, rfl⟩ : kx 8 8)).sh rfl) rfl rfl (Nat.le_of_ble_eq_true rfl) (by decide) rfl dX11_startMatch_85
      refine g_iinc (l1 := [(1, vI (x39_1_4 + 1)), (0, vR 0)]) dX11_startMatch_88 rfl (by decide) rfl ?_
      refine g_goto (tgt := 39) dX11_startMatch_91 (by decide) ?_
      refine g_forget (l1 := [(0, vR 0), (1, vI (x39_1_4 + 1))]) (by intro q hq; simp only [List.mem_cons, List.not_mem_nil, or_false] at hq ⊢; rcases hq with rfl | rfl <;> simp) ?_
      exact ih39_4 (x39_1_4 + 1) ⟨by (first | (clear k84; omega) | omega), by (first | (clear k84; omega) | omega)⟩ _ hBc93 (FrX.c (FrX.c (FrX.c (FrX.c FrX.rf hE39_4 rfl) hFc90 rfl) hFc91 rfl) hFc93 rfl) (by (first | (clear k84; omega) | omega))
  refine g_forget (l1 := [(0, vR 0), (1, vI 0)]) (by intro q hq; simp only [List.mem_cons, List.not_mem_nil, or_false] at hq ⊢; rcases hq with rfl | rfl <;> simp) ?_
  exact L39_4 _ 0 (by decide) _ hBc4 FrX.rf (Nat.lt_succ_self _)
/-! What the class answers: X11_match. -/
set_option maxRecDepth 100000 in
set_option maxHeartbeats 4000000 in
theorem f_X11_match (G : GT) (P : PH) (T : TT) (K : PH) (M : PH) (A : PH) (hB : BdX P) (p_tx : P 1 1 = T.2 ∧ ∀ i : Int, 0 ≤ i → i < T.2 → P 2 i = T.1 i) (p_ts : P 0 10 ≠ P 0 11) (v_OWN : OWN P) (z0 : XTB K M P) (z1 : AX A P) (Q : Option PV → PH → Prop) (hQ : ∀ (r : Int) (_ : (-2147483648) ≤ r ∧ r ≤ 2147483647) (P1 : PH) (_ : BdX P1) (_ : FrX ([(0, 10), (0, 11), (1, 1), (5, 2), (8, 3), (11, 3), (14, 1), (14, 2), (14, 3), (16, 5), (16, 7), (22, 2), (28, 6), (28, 7), (28, 8), (28, 9), (28, 10), (29, 9), (29, 10), (45, 2), (45, 3), (45, 4), (46, 1), (46, 2), (46, 3), (46, 4), (46, 5), (46, 6), (46, 7), (46, 8), (51, 13)], [6, 7, 9, 10, 12, 13, 15, 27, 30, 31, 32, 33, 34, 35, 36, 37, 38, 39, 40, 41, 42, 44, 50]) P P1) (_ : P1 1 1 = 0) (_ : (r = -1 ∧ (mlR T).1 ≠ 0) ∨ (r = (mlR T).2.1 ∧ (mlR T).1 = 0)) (_ : (r = -1 ∧ P1 0 10 = P 0 10 ∧ P1 0 11 = P 0 11) ∨ (0 ≤ r ∧ P1 0 10 = P 0 11 ∧ P1 0 11 = P 0 10)) (_ : (r = -1 ∧ P1 110 3 = (mlR T).1 ∧ P1 110 4 = (mlR T).2.1) ∨ (0 ≤ r ∧ P1 110 3 = 0 ∧ P1 110 4 = -1)) (_ : XTB (kmR T K) (mmR T M) P1) (_ : AX (aMat T A) P1), Q (some (vI r)) P1) : Ct WSX G 27 iX11_match [vR 0] P Q := by
  refine Ct.of (by decide) (l0 := [(0, vR 0)]) rfl (Nat.le_of_ble_eq_true rfl) ?_
  have kt0 : KT (tbX (P 0 11).toNat) P P := KT.rf
  refine g_aload_n dX11_match_0 rfl ?_
  refine x_g0_12 (n := 110) (⟨by decide, rfl⟩ : kx 0 0) ffX11_83 dX11_match_1 rfl ?_
  refine g_aload_n dX11_match_4 rfl ?_
  refine x_g0_0 (n := 1) (⟨by decide, rfl⟩ : kx 0 0) ffX11_14 dX11_match_5 rfl ?_
  refine g_aload_n dX11_match_8 rfl ?_
  refine x_g0_11 (n := (P 0 11).toNat) (⟨by decide, rfl⟩ : kx 0 0) ffX11_75 dX11_match_9 (br_0_11 hB) ?_
  refine g_vI (av := [vR 1, vR (P 0 11).toNat]) (o := 110) (st := []) (f_X6_readMatch_B16 G P T (P 0 11).toNat (bk_0_11 hB) hB (p_tx) v_OWN _ (fun rc1 hc1 Pc1 hBc1 hFc1 gc1_m vc1_TX ec1_0 ec1_1 ec1_2 => ⟨rc1, rfl, ?_⟩)) cf_X6_readMatch t_683 rfl (show kx 110 45 from (⟨by decide, rfl⟩ : kx 110 45)).1 ((show kx 110 45 from (⟨by decide, rfl⟩ : kx 110 45)).sh rfl) rfl rfl (Nat.le_of_ble_eq_true rfl) (by decide) rfl dX11_match_12
  have kt2 : KT (tbX (P 0 11).toNat) P Pc1 := KT.t kt0 ec1_2
  refine g_istore_n (l1 := [(1, vI rc1), (0, vR 0)]) dX11_match_15 (by decide) rfl ?_
  refine g_aload_n dX11_match_16 rfl ?_
  refine x_g0_0 (n := 1) (⟨by decide, rfl⟩ : kx 0 0) ffX11_14 dX11_match_17 rfl ?_
  refine g_iconst dX11_match_20 ?_
  refine x_p1_1 (⟨by decide, rfl⟩ : kx 1 1) pfX11_100 dX11_match_21 ?_
  have hB3 := by_1_1 (z := 0) hBc1 (⟨by decide, rfl⟩ : kx 1 1) (by decide)
  refine g_iload_n dX11_match_24 rfl ?_
  refine g_iconst dX11_match_25 ?_
  refine g_icmp_ne (tgt := 37) dX11_match_26 (by decide) ⟨by (first | (clear p_tx p_ts gc1_m; omega) | omega), by (first | (clear p_tx p_ts gc1_m; omega) | omega)⟩ (by decide) (fun k4 => ?_) (fun k4 => ?_)
  · first | (revert r_gc1_m; intro r_gc1_m) | have r_gc1_m := (gc1_m.resolve_right (by (clear p_tx p_ts gc1_m k4; omega))) | have r_gc1_m := (gc1_m.resolve_left (by (clear p_tx p_ts gc1_m k4; omega))) | skip
    refine g_aload_n dX11_match_37 rfl ?_
    refine x_g0_10 (n := (P 0 10).toNat) (⟨by decide, rfl⟩ : kx 0 0) ffX11_71 dX11_match_38 ((up_o (kx.ne (⟨by decide, rfl⟩ : kx 0 0) (⟨by decide, rfl⟩ : kx 1 1) rfl)).trans ((FrX.g hFc1 (⟨by decide, rfl⟩ : kx 0 0) rfl).trans (br_0_10 hB))) ?_
    refine g_astore_n (l1 := [(2, vR (P 0 10).toNat), (1, vI rc1), (0, vR 0)]) dX11_match_41 (by decide) rfl ?_
    refine g_aload_n dX11_match_42 rfl ?_
    refine g_aload_n dX11_match_43 rfl ?_
    refine x_g0_11 (n := (P 0 11).toNat) (⟨by decide, rfl⟩ : kx 0 0) ffX11_75 dX11_match_44 ((up_o (kx.ne (⟨by decide, rfl⟩ : kx 0 0) (⟨by decide, rfl⟩ : kx 1 1) rfl)).trans ((FrX.g hFc1 (⟨by decide, rfl⟩ : kx 0 0) rfl).trans (br_0_11 hB))) ?_
    refine x_p0_10 (⟨by decide, rfl⟩ : kx 0 0) pfX11_71 dX11_match_47 ?_
    have hB5 := bw_0_10 (x := (P 0 11).toNat) hB3 (bk_0_11 hB)
    refine g_aload_n dX11_match_50 rfl ?_
    refine g_aload_n dX11_match_51 rfl ?_
    refine x_p0_11 (⟨by decide, rfl⟩ : kx 0 0) pfX11_75 dX11_match_52 ?_
    have hB6 := bw_0_11 (x := (P 0 10).toNat) hB5 (bk_0_10 hB)
    have iv7 : XTB (mlR T).2.2.1 (mlR T).2.2.2 (up (up (up Pc1 1 1 0) 0 10 (((P 0 11).toNat : Nat) : Int)) 0 11 (((P 0 10).toNat : Nat) : Int)) := by unfold XTB; rw [show ((up (up (up Pc1 1 1 0) 0 10 (((P 0 11).toNat : Nat) : Int)) 0 11 (((P 0 10).toNat : Nat) : Int)) 0 10).toNat = (P 0 11).toNat by have q0 := (((up_k (by decide)).trans up_same) : (up (up (up Pc1 1 1 0) 0 10 (((P 0 11).toNat : Nat) : Int)) 0 11 (((P 0 10).toNat : Nat) : Int)) 0 10 = (((P 0 11).toNat : Nat) : Int)); (first | (clear p_tx p_ts gc1_m k4; omega) | (clear p_tx p_ts gc1_m; omega) | (clear p_tx p_ts k4; omega) | (clear p_tx gc1_m k4; omega) | (clear p_ts gc1_m k4; omega) | (clear p_tx p_ts; omega) | omega)]; exact ⟨((fun h0 => (XK.fr (F := ([(0, 10), (0, 11), (1, 1)], [])) (ec1_0 h0) (FrX.s (FrX.s (FrX.s FrX.rf (⟨by decide, rfl⟩ : kx 1 1) rfl) (⟨by decide, rfl⟩ : kx 0 0) rfl) (⟨by decide, rfl⟩ : kx 0 0) rfl) rfl)) (by (first | (clear p_tx p_ts gc1_m k4; omega) | (clear p_tx p_ts gc1_m; omega) | (clear p_tx p_ts k4; omega) | (clear p_tx gc1_m k4; omega) | (clear p_ts gc1_m k4; omega) | (clear p_tx p_ts; omega) | omega))), ((fun h0 => (XM.fr (F := ([(0, 10), (0, 11), (1, 1)], [])) (ec1_1 h0) (FrX.s (FrX.s (FrX.s FrX.rf (⟨by decide, rfl⟩ : kx 1 1) rfl) (⟨by decide, rfl⟩ : kx 0 0) rfl) (⟨by decide, rfl⟩ : kx 0 0) rfl) rfl)) (by (first | (clear p_tx p_ts gc1_m k4; omega) | (clear p_tx p_ts gc1_m; omega) | (clear p_tx p_ts k4; omega) | (clear p_tx gc1_m k4; omega) | (clear p_ts gc1_m k4; omega) | (clear p_tx p_ts; omega) | omega)))⟩
    refine g_aload_n dX11_match_55 rfl ?_
    refine g_vV (av := []) (o := 0) (st := []) (f_X11_startMatch G (up (up (up Pc1 1 1 0) 0 10 (((P 0 11).toNat : Nat) : Int)) 0 11 (((P 0 10).toNat : Nat) : Int)) A (mlR T).2.2.1 (mlR T).2.2.2  hB6 (by have q := (mlR_w (T := T) (by (first | (clear p_tx p_ts gc1_m k4; omega) | (clear p_tx p_ts gc1_m; omega) | (clear p_tx p_ts k4; omega) | (clear p_tx gc1_m k4; omega) | (clear p_ts gc1_m k4; omega) | (clear p_tx p_ts; omega) | omega))).2.1; exact ⟨q.2.2.1, q.2.2.2.1⟩) ((AX.fr (F := ([(0, 10), (0, 11), (1, 1), (28, 6), (28, 7), (28, 8), (28, 9), (28, 10), (29, 9), (29, 10), (45, 2), (45, 3), (45, 4), (46, 1), (46, 2), (46, 3), (46, 4), (46, 5), (46, 6), (46, 7), (46, 8)], [30, 31, 32, 33, 34, 35, 36, 37, 38, 39, 40, 41, 42, 44, 50])) z1 (FrX.s (FrX.s (FrX.s (FrX.c FrX.rf hFc1 rfl) (⟨by decide, rfl⟩ : kx 1 1) rfl) (⟨by decide, rfl⟩ : kx 0 0) rfl) (⟨by decide, rfl⟩ : kx 0 0) rfl) rfl)) (iv7) _ (fun Pc8 hBc8 hFc8 ec8_0 => ⟨rfl, ?_⟩)) cf_X11_startMatch t_861 rfl (show kx 0 0 from (⟨by decide, rfl⟩ : kx 0 0)).1 ((show kx 0 0 from (⟨by decide, rfl⟩ : kx 0 0)).sh rfl) rfl rfl (Nat.le_of_ble_eq_true rfl) (by decide) rfl dX11_match_56
    refine g_iload_n dX11_match_59 rfl ?_
    exact g_retI dX11_match_60 rfl (hQ rc1 ⟨by (first | (clear p_tx p_ts gc1_m k4; omega) | omega), by (first | (clear p_tx p_ts gc1_m k4; omega) | omega)⟩ _ hBc8 (FrX.c (FrX.s (FrX.s (FrX.s (FrX.c FrX.rf hFc1 rfl) (⟨by decide, rfl⟩ : kx 1 1) rfl) (⟨by decide, rfl⟩ : kx 0 0) rfl) (⟨by decide, rfl⟩ : kx 0 0) rfl) hFc8 rfl) (by have q0 := (((FrX.g hFc8 (⟨by decide, rfl⟩ : kx 1 1) rfl).trans ((up_o (kx.ne (⟨by decide, rfl⟩ : kx 1 1) (⟨by decide, rfl⟩ : kx 0 0) rfl)).trans ((up_o (kx.ne (⟨by decide, rfl⟩ : kx 1 1) (⟨by decide, rfl⟩ : kx 0 0) rfl)).trans up_same))) : Pc8 1 1 = 0); (first | (clear p_tx p_ts gc1_m k4; omega) | (clear p_tx p_ts gc1_m; omega) | (clear p_tx p_ts k4; omega) | (clear p_tx gc1_m k4; omega) | (clear p_ts gc1_m k4; omega) | (clear p_tx p_ts; omega) | omega)) (by (first | (clear p_tx p_ts gc1_m k4; omega) | (clear p_tx p_ts gc1_m; omega) | (clear p_tx p_ts k4; omega) | (clear p_tx gc1_m k4; omega) | (clear p_ts gc1_m k4; omega) | (clear p_tx p_ts; omega) | omega)) (by have q0 := (((FrX.g hFc8 (⟨by decide, rfl⟩ : kx 0 0) rfl).trans ((up_k (by decide)).trans up_same)) : Pc8 0 10 = (((P 0 11).toNat : Nat) : Int)); have q1 := (((FrX.g hFc8 (⟨by decide, rfl⟩ : kx 0 0) rfl).trans up_same) : Pc8 0 11 = (((P 0 10).toNat : Nat) : Int)); have q2 := br_0_10 hB; have q3 := br_0_11 hB; (first | (clear p_tx p_ts gc1_m k4; omega) | (clear p_tx p_ts gc1_m; omega) | (clear p_tx p_ts k4; omega) | (clear p_tx gc1_m k4; omega) | (clear p_ts gc1_m k4; omega) | (clear p_tx p_ts; omega) | omega)) (by have q0 := (((FrX.g hFc8 (⟨by decide, rfl⟩ : kx 110 45) rfl).trans ((up_o (kx.ne (⟨by decide, rfl⟩ : kx 110 45) (⟨by decide, rfl⟩ : kx 0 0) rfl)).trans ((up_o (kx.ne (⟨by decide, rfl⟩ : kx 110 45) (⟨by decide, rfl⟩ : kx 0 0) rfl)).trans ((up_o (kx.ne (⟨by decide, rfl⟩ : kx 110 45) (⟨by decide, rfl⟩ : kx 1 1) rfl)).trans rfl)))) : Pc8 110 3 = (Pc1 110 3)); have q1 := (((FrX.g hFc8 (⟨by decide, rfl⟩ : kx 110 45) rfl).trans ((up_o (kx.ne (⟨by decide, rfl⟩ : kx 110 45) (⟨by decide, rfl⟩ : kx 0 0) rfl)).trans ((up_o (kx.ne (⟨by decide, rfl⟩ : kx 110 45) (⟨by decide, rfl⟩ : kx 0 0) rfl)).trans ((up_o (kx.ne (⟨by decide, rfl⟩ : kx 110 45) (⟨by decide, rfl⟩ : kx 1 1) rfl)).trans rfl)))) : Pc8 110 4 = (Pc1 110 4)); (first | (clear p_tx p_ts gc1_m k4; omega) | (clear p_tx p_ts gc1_m; omega) | (clear p_tx p_ts k4; omega) | (clear p_tx gc1_m k4; omega) | (clear p_ts gc1_m k4; omega) | (clear p_tx p_ts; omega) | omega)) (by have h0 : (mlR T).1 = 0 := (by (first | (clear p_tx p_ts gc1_m k4; omega) | (clear p_tx p_ts gc1_m; omega) | (clear p_tx p_ts k4; omega) | (clear p_tx gc1_m k4; omega) | (clear p_ts gc1_m k4; omega) | (clear p_tx p_ts; omega) | omega)); rw [kmR_0 h0, mmR_0 h0]; unfold XTB; rw [show (Pc8 0 10).toNat = (P 0 11).toNat by have q0 := (((FrX.g hFc8 (⟨by decide, rfl⟩ : kx 0 0) rfl).trans ((up_k (by decide)).trans up_same)) : Pc8 0 10 = (((P 0 11).toNat : Nat) : Int)); (first | (clear p_tx p_ts gc1_m k4; omega) | (clear p_tx p_ts gc1_m; omega) | (clear p_tx p_ts k4; omega) | (clear p_tx gc1_m k4; omega) | (clear p_ts gc1_m k4; omega) | (clear p_tx p_ts; omega) | omega)]; exact ⟨((fun h0 => (XK.fr (F := ([(0, 10), (0, 11), (1, 1), (5, 2), (8, 3), (11, 3), (14, 1), (14, 2), (14, 3), (16, 5), (16, 7), (22, 2), (51, 13)], [6, 7, 9, 10, 12, 13, 15])) (ec1_0 h0) (FrX.c (FrX.s (FrX.s (FrX.s FrX.rf (⟨by decide, rfl⟩ : kx 1 1) rfl) (⟨by decide, rfl⟩ : kx 0 0) rfl) (⟨by decide, rfl⟩ : kx 0 0) rfl) hFc8 rfl) rfl)) (by (first | (clear p_tx p_ts gc1_m k4; omega) | (clear p_tx p_ts gc1_m; omega) | (clear p_tx p_ts k4; omega) | (clear p_tx gc1_m k4; omega) | (clear p_ts gc1_m k4; omega) | (clear p_tx p_ts; omega) | omega))), ((fun h0 => (XM.fr (F := ([(0, 10), (0, 11), (1, 1), (5, 2), (8, 3), (11, 3), (14, 1), (14, 2), (14, 3), (16, 5), (16, 7), (22, 2), (51, 13)], [6, 7, 9, 10, 12, 13, 15])) (ec1_1 h0) (FrX.c (FrX.s (FrX.s (FrX.s FrX.rf (⟨by decide, rfl⟩ : kx 1 1) rfl) (⟨by decide, rfl⟩ : kx 0 0) rfl) (⟨by decide, rfl⟩ : kx 0 0) rfl) hFc8 rfl) rfl)) (by (first | (clear p_tx p_ts gc1_m k4; omega) | (clear p_tx p_ts gc1_m; omega) | (clear p_tx p_ts k4; omega) | (clear p_tx gc1_m k4; omega) | (clear p_ts gc1_m k4; omega) | (clear p_tx p_ts; omega) | omega)))⟩) (by rw [aMat_0 (by (first | (clear p_tx p_ts gc1_m k4; omega) | (clear p_tx p_ts gc1_m; omega) | (clear p_tx p_ts k4; omega) | (clear p_tx gc1_m k4; omega) | (clear p_ts gc1_m k4; omega) | (clear p_tx p_ts; omega) | omega))]; exact ec8_0))
  · first | (revert r_gc1_m; intro r_gc1_m) | have r_gc1_m := (gc1_m.resolve_right (by (clear p_tx p_ts gc1_m k4; omega))) | have r_gc1_m := (gc1_m.resolve_left (by (clear p_tx p_ts gc1_m k4; omega))) | skip
    refine g_aload_n dX11_match_29 rfl ?_
    refine g_iconst dX11_match_30 ?_
    refine g_vI (av := [vI 1]) (o := 0) (st := []) (m_X11_refuse G (up Pc1 1 1 0) 1 (by decide) hB3  _ (fun rc9 hc9 Pc9 hBc9 hFc9 => ⟨rc9, rfl, ?_⟩)) cf_X11_refuse t_663 rfl (show kx 0 0 from (⟨by decide, rfl⟩ : kx 0 0)).1 ((show kx 0 0 from (⟨by decide, rfl⟩ : kx 0 0)).sh rfl) rfl rfl (Nat.le_of_ble_eq_true rfl) (by decide) rfl dX11_match_31
    refine g_pop dX11_match_34 rfl ?_
    refine g_iconst dX11_match_35 ?_
    exact g_retI dX11_match_36 rfl (hQ (-1) (by decide) _ hBc9 (FrX.c (FrX.s (FrX.c FrX.rf hFc1 rfl) (⟨by decide, rfl⟩ : kx 1 1) rfl) hFc9 rfl) (by have q0 := (((FrX.g hFc9 (⟨by decide, rfl⟩ : kx 1 1) rfl).trans up_same) : Pc9 1 1 = 0); (first | (clear p_tx p_ts gc1_m k4; omega) | (clear p_tx p_ts gc1_m; omega) | (clear p_tx p_ts k4; omega) | (clear p_tx gc1_m k4; omega) | (clear p_ts gc1_m k4; omega) | (clear p_tx p_ts; omega) | omega)) (by (first | (clear p_tx p_ts gc1_m k4; omega) | (clear p_tx p_ts gc1_m; omega) | (clear p_tx p_ts k4; omega) | (clear p_tx gc1_m k4; omega) | (clear p_ts gc1_m k4; omega) | (clear p_tx p_ts; omega) | omega)) (by have q0 := (((FrX.g hFc9 (⟨by decide, rfl⟩ : kx 0 0) rfl).trans ((up_o (kx.ne (⟨by decide, rfl⟩ : kx 0 0) (⟨by decide, rfl⟩ : kx 1 1) rfl)).trans ((FrX.g hFc1 (⟨by decide, rfl⟩ : kx 0 0) rfl).trans rfl))) : Pc9 0 10 = (P 0 10)); have q1 := (((FrX.g hFc9 (⟨by decide, rfl⟩ : kx 0 0) rfl).trans ((up_o (kx.ne (⟨by decide, rfl⟩ : kx 0 0) (⟨by decide, rfl⟩ : kx 1 1) rfl)).trans ((FrX.g hFc1 (⟨by decide, rfl⟩ : kx 0 0) rfl).trans rfl))) : Pc9 0 11 = (P 0 11)); have q2 := br_0_10 hB; have q3 := br_0_11 hB; (first | (clear p_tx p_ts gc1_m k4; omega) | (clear p_tx p_ts gc1_m; omega) | (clear p_tx p_ts k4; omega) | (clear p_tx gc1_m k4; omega) | (clear p_ts gc1_m k4; omega) | (clear p_tx p_ts; omega) | omega)) (by have q0 := (((FrX.g hFc9 (⟨by decide, rfl⟩ : kx 110 45) rfl).trans ((up_o (kx.ne (⟨by decide, rfl⟩ : kx 110 45) (⟨by decide, rfl⟩ : kx 1 1) rfl)).trans rfl)) : Pc9 110 3 = (Pc1 110 3)); have q1 := (((FrX.g hFc9 (⟨by decide, rfl⟩ : kx 110 45) rfl).trans ((up_o (kx.ne (⟨by decide, rfl⟩ : kx 110 45) (⟨by decide, rfl⟩ : kx 1 1) rfl)).trans rfl)) : Pc9 110 4 = (Pc1 110 4)); (first | (clear p_tx p_ts gc1_m k4; omega) | (clear p_tx p_ts gc1_m; omega) | (clear p_tx p_ts k4; omega) | (clear p_tx gc1_m k4; omega) | (clear p_ts gc1_m k4; omega) | (clear p_tx p_ts; omega) | omega)) (by have h1 : (mlR T).1 ≠ 0 := (by (first | (clear p_tx p_ts gc1_m k4; omega) | (clear p_tx p_ts gc1_m; omega) | (clear p_tx p_ts k4; omega) | (clear p_tx gc1_m k4; omega) | (clear p_ts gc1_m k4; omega) | (clear p_tx p_ts; omega) | omega)); rw [kmR_1 h1, mmR_1 h1]; unfold XTB; rw [show Pc9 0 10 = P 0 10 by have q0 := (((FrX.g hFc9 (⟨by decide, rfl⟩ : kx 0 0) rfl).trans ((up_o (kx.ne (⟨by decide, rfl⟩ : kx 0 0) (⟨by decide, rfl⟩ : kx 1 1) rfl)).trans ((FrX.g hFc1 (⟨by decide, rfl⟩ : kx 0 0) rfl).trans rfl))) : Pc9 0 10 = (P 0 10)); have q2 := br_0_10 hB; (first | (clear p_tx p_ts gc1_m k4; omega) | (clear p_tx p_ts gc1_m; omega) | (clear p_tx p_ts k4; omega) | (clear p_tx gc1_m k4; omega) | (clear p_ts gc1_m k4; omega) | (clear p_tx p_ts; omega) | omega)]; have hne : (P 0 10).toNat ≠ tbX (P 0 11).toNat := (by rw [(tb28 (bk_0_11 hB)).1]; have q1 := br_0_10 hB; have q2 := br_0_11 hB; (first | (clear p_tx p_ts gc1_m k4; omega) | (clear p_tx p_ts gc1_m; omega) | (clear p_tx p_ts k4; omega) | (clear p_tx gc1_m k4; omega) | (clear p_ts gc1_m k4; omega) | (clear p_tx p_ts; omega) | omega)); exact ⟨KT.xk (KT.fr (F := ([(1, 1)], [27])) kt2 (FrX.c (FrX.s FrX.rf (⟨by decide, rfl⟩ : kx 1 1) rfl) hFc9 rfl) rfl) (bk_0_10 hB) hne z0.1, KT.xm (KT.fr (F := ([(1, 1)], [27])) kt2 (FrX.c (FrX.s FrX.rf (⟨by decide, rfl⟩ : kx 1 1) rfl) hFc9 rfl) rfl) (bk_0_10 hB) hne z0.2⟩) (by rw [aMat_1 (by (first | (clear p_tx p_ts gc1_m k4; omega) | (clear p_tx p_ts gc1_m; omega) | (clear p_tx p_ts k4; omega) | (clear p_tx gc1_m k4; omega) | (clear p_ts gc1_m k4; omega) | (clear p_tx p_ts; omega) | omega))]; exact (AX.fr (F := ([(1, 1), (28, 6), (28, 7), (28, 8), (28, 9), (28, 10), (29, 9), (29, 10), (45, 2), (45, 3), (45, 4), (46, 1), (46, 2), (46, 3), (46, 4), (46, 5), (46, 6), (46, 7), (46, 8)], [27, 30, 31, 32, 33, 34, 35, 36, 37, 38, 39, 40, 41, 42, 44, 50])) z1 (FrX.c (FrX.s (FrX.c FrX.rf hFc1 rfl) (⟨by decide, rfl⟩ : kx 1 1) rfl) hFc9 rfl) rfl)))
/-! What the class answers: X1_add_B16. -/
set_option maxRecDepth 100000 in
set_option maxHeartbeats 4000000 in
theorem f_X1_add_B16 (G : GT) (P : PH) (T : TT) (a1 : Int) (h_a1 : (-2147483648) ≤ a1 ∧ a1 ≤ 2147483647) (hB : BdX P) (p_l9 : P 1 1 ≤ 1599) (z0 : CX T P) (Q : Option PV → PH → Prop) (hQ : ∀ (P1 : PH) (_ : BdX P1) (_ : FrX ([(1, 1)], [2]) P P1) (_ : (P 1 1 ≤ 1599 ∧ P1 1 1 = P 1 1 + 1) ∨ (1600 ≤ P 1 1 ∧ P1 1 1 = P 1 1)) (_ : CX (tadd T (iand a1 255)) P1), Q none P1) : Ct WSX G 1 iX1_add [vR 1, vI a1] P Q := by
  refine Ct.of (by decide) (l0 := [(0, vR 1), (1, vI a1)]) rfl (Nat.le_of_ble_eq_true rfl) ?_
  refine g_aload_n dX1_add_0 rfl ?_
  refine x_g1_1 (z := (P 1 1)) (⟨by decide, rfl⟩ : kx 1 1) ffX1_21 dX1_add_1 rfl ?_
  have f1 := bx_1_1 (o := 1) hB (⟨by decide, rfl⟩ : kx 1 1)
  refine g_if_lt (tgt := 43) dX1_add_4 (by decide) ⟨by have q0 := bx_1_1 (o := 1) hB (⟨by decide, rfl⟩ : kx 1 1); omega, by have q0 := bx_1_1 (o := 1) hB (⟨by decide, rfl⟩ : kx 1 1); omega⟩ (fun k2 => by exfalso; have q0 := bx_1_1 (o := 1) hB (⟨by decide, rfl⟩ : kx 1 1); omega) (fun k2 => ?_)
  refine g_aload_n dX1_add_7 rfl ?_
  refine x_g1_1 (z := (P 1 1)) (⟨by decide, rfl⟩ : kx 1 1) ffX1_21 dX1_add_8 rfl ?_
  refine g_aload_n dX1_add_11 rfl ?_
  refine x_g1_0 (n := 2) (⟨by decide, rfl⟩ : kx 1 1) ffX1_15 dX1_add_12 rfl ?_
  refine x_n2 (⟨by decide, rfl⟩ : kx 2 2) dX1_add_15 ?_
  refine g_icmp_ge (tgt := 43) dX1_add_16 (by decide) ⟨by have q0 := bx_1_1 (o := 1) hB (⟨by decide, rfl⟩ : kx 1 1); (first | (clear k2; omega) | omega), by have q0 := bx_1_1 (o := 1) hB (⟨by decide, rfl⟩ : kx 1 1); (first | (clear k2; omega) | omega)⟩ (by decide) (fun k3 => ?_) (fun k3 => ?_)
  · exact g_retV dX1_add_43 rfl (hQ _ hB FrX.rf (by have q0 := bx_1_1 (o := 1) hB (⟨by decide, rfl⟩ : kx 1 1); (first | (clear k2 k3; omega) | (clear k2; omega) | (clear k3; omega) | omega)) (by first | (rw [← hw]; exact CX.add z0 rfl rfl (fun j hj => rfl)) | (exfalso; have q := bx_1_1 (o := 1) hB ⟨by decide, rfl⟩; (first | (clear k2 k3; omega) | (clear k2; omega) | (clear k3; omega) | omega))))
  · refine g_aload_n dX1_add_19 rfl ?_
    refine x_g1_0 (n := 2) (⟨by decide, rfl⟩ : kx 1 1) ffX1_15 dX1_add_20 rfl ?_
    refine g_aload_n dX1_add_23 rfl ?_
    refine x_g1_1 (z := (P 1 1)) (⟨by decide, rfl⟩ : kx 1 1) ffX1_21 dX1_add_24 rfl ?_
    refine g_iload_n dX1_add_27 rfl ?_
    refine g_sipush dX1_add_28 (by decide) ?_
    refine g_iand dX1_add_31 ?_
    refine g_nm (fun b4 e_b4 => ?_)
    have h_b4 := iand_r (x := a1) (y := 255) ⟨by (first | (clear k2 k3; omega) | omega), by (first | (clear k2 k3; omega) | omega)⟩
    rw [← e_b4] at h_b4
    have hw := e_b4
    refine x_s2 (⟨by decide, rfl⟩ : kx 2 2) dX1_add_32 ⟨by have q0 := bx_1_1 (o := 1) hB (⟨by decide, rfl⟩ : kx 1 1); (first | (clear k2 k3; omega) | omega), by have q0 := bx_1_1 (o := 1) hB (⟨by decide, rfl⟩ : kx 1 1); (first | (clear k2 k3; omega) | omega)⟩ ?_
    have hB5 := by_2 (z := b4) (k := (P 1 1)) hB (⟨by decide, rfl⟩ : kx 2 2) ⟨by (first | (clear k2 k3; omega) | omega), by (first | (clear k2 k3; omega) | omega)⟩
    refine g_aload_n dX1_add_33 rfl ?_
    refine g_dup dX1_add_34 rfl ?_
    refine x_g1_1 (z := (P 1 1)) (⟨by decide, rfl⟩ : kx 1 1) ffX1_21 dX1_add_35 ((up_o (kx.ne (⟨by decide, rfl⟩ : kx 1 1) (⟨by decide, rfl⟩ : kx 2 2) rfl)).trans rfl) ?_
    refine g_iconst dX1_add_38 ?_
    refine g_iadd dX1_add_39 ?_
    refine x_p1_1 (⟨by decide, rfl⟩ : kx 1 1) pfX1_21 dX1_add_40 ?_
    have hB6 := by_1_1 (z := ((P 1 1) + 1)) hB5 (⟨by decide, rfl⟩ : kx 1 1) ⟨by have q0 := bx_1_1 (o := 1) hB (⟨by decide, rfl⟩ : kx 1 1); (first | (clear k2 k3; omega) | omega), by have q0 := bx_1_1 (o := 1) hB (⟨by decide, rfl⟩ : kx 1 1); (first | (clear k2 k3; omega) | omega)⟩
    exact g_retV dX1_add_43 rfl (hQ _ hB6 (FrX.s (FrX.s FrX.rf (⟨by decide, rfl⟩ : kx 2 2) rfl) (⟨by decide, rfl⟩ : kx 1 1) rfl) (by have q0 := (up_same : (up (up P 2 (P 1 1) b4) 1 1 ((P 1 1) + 1)) 1 1 = ((P 1 1) + 1)); have q1 := bx_1_1 (o := 1) hB (⟨by decide, rfl⟩ : kx 1 1); (first | (clear k2 k3; omega) | (clear k2; omega) | (clear k3; omega) | omega)) (by first | (rw [← hw]; exact CX.add z0 up_same ((up_o (kx.ne (⟨by decide, rfl⟩ : kx 2 2) (⟨by decide, rfl⟩ : kx 1 1) rfl)).trans up_same) (fun j hj => ((up_o (kx.ne (⟨by decide, rfl⟩ : kx 2 2) (⟨by decide, rfl⟩ : kx 1 1) rfl)).trans ((up_k hj).trans rfl)))) | (exfalso; have q := bx_1_1 (o := 1) hB ⟨by decide, rfl⟩; (first | (clear k2 k3; omega) | (clear k2; omega) | (clear k3; omega) | omega))))
/-! What the class answers: X1_addFour_B16. -/
set_option maxRecDepth 100000 in
set_option maxHeartbeats 4000000 in
theorem f_X1_addFour_B16 (G : GT) (P : PH) (T : TT) (a1 : Int) (h_a1 : (-2147483648) ≤ a1 ∧ a1 ≤ 2147483647) (hB : BdX P) (p_l4 : P 1 1 ≤ 1596) (z0 : CX T P) (Q : Option PV → PH → Prop) (hQ : ∀ (P1 : PH) (_ : BdX P1) (_ : FrX ([(1, 1)], [2]) P P1) (_ : 1596 < P 1 1 ∨ P1 1 1 = P 1 1 + 4) (_ : CX (tput T a1 4) P1), Q none P1) : Ct WSX G 2 iX1_addFour [vR 1, vI a1] P Q := by
  refine Ct.of (by decide) (l0 := [(0, vR 1), (1, vI a1)]) rfl (Nat.le_of_ble_eq_true rfl) ?_
  refine g_aload_n dX1_addFour_0 rfl ?_
  refine g_iload_n dX1_addFour_1 rfl ?_
  refine g_bipush dX1_addFour_2 (by decide) ?_
  refine g_ishr dX1_addFour_4 ?_
  refine g_nm (fun b1 e_b1 => ?_)
  have h_b1 : (ishr a1 24) = a1 / 16777216 := ishr_c 24 (by decide) (x := a1) ⟨by omega, by omega⟩
  rw [← e_b1] at h_b1
  have ex0 := e_b1
  refine g_vV (av := [vI b1]) (o := 1) (st := []) (f_X1_add_B16 G P T b1 ⟨by omega, by omega⟩ hB (by have q0 := bx_1_1 (o := 1) hB (⟨by decide, rfl⟩ : kx 1 1); omega) (z0) _ (fun Pc2 hBc2 hFc2 gc2_t ec2_0 => ⟨rfl, ?_⟩)) cf_X1_add t_671 rfl (show kx 1 1 from (⟨by decide, rfl⟩ : kx 1 1)).1 ((show kx 1 1 from (⟨by decide, rfl⟩ : kx 1 1)).sh rfl) rfl rfl (Nat.le_of_ble_eq_true rfl) (by decide) rfl dX1_addFour_5
  have iv3 : CX (tadd T (iand (ishr a1 24) 255)) Pc2 := by rw [← ex0]; exact ec2_0
  refine g_aload_n dX1_addFour_8 rfl ?_
  refine g_iload_n dX1_addFour_9 rfl ?_
  refine g_bipush dX1_addFour_10 (by decide) ?_
  refine g_ishr dX1_addFour_12 ?_
  refine g_nm (fun b4 e_b4 => ?_)
  have h_b4 : (ishr a1 16) = a1 / 65536 := ishr_c 16 (by decide) (x := a1) ⟨by (first | (clear gc2_t; omega) | omega), by (first | (clear gc2_t; omega) | omega)⟩
  rw [← e_b4] at h_b4
  have ex1 := e_b4
  refine g_vV (av := [vI b4]) (o := 1) (st := []) (f_X1_add_B16 G Pc2 (tadd T (iand (ishr a1 24) 255)) b4 ⟨by (first | (clear gc2_t; omega) | omega), by (first | (clear gc2_t; omega) | omega)⟩ hBc2 (by have q0 := bx_1_1 (o := 1) hBc2 (⟨by decide, rfl⟩ : kx 1 1); (first | (clear gc2_t; omega) | omega)) (iv3) _ (fun Pc5 hBc5 hFc5 gc5_t ec5_0 => ⟨rfl, ?_⟩)) cf_X1_add t_671 rfl (show kx 1 1 from (⟨by decide, rfl⟩ : kx 1 1)).1 ((show kx 1 1 from (⟨by decide, rfl⟩ : kx 1 1)).sh rfl) rfl rfl (Nat.le_of_ble_eq_true rfl) (by decide) rfl dX1_addFour_13
  have iv6 : CX (tadd (tadd T (iand (ishr a1 24) 255)) (iand (ishr a1 16) 255)) Pc5 := by rw [← ex1]; exact ec5_0
  refine g_aload_n dX1_addFour_16 rfl ?_
  refine g_iload_n dX1_addFour_17 rfl ?_
  refine g_bipush dX1_addFour_18 (by decide) ?_
  refine g_ishr dX1_addFour_20 ?_
  refine g_nm (fun b7 e_b7 => ?_)
  have h_b7 : (ishr a1 8) = a1 / 256 := ishr_c 8 (by decide) (x := a1) ⟨by (first | (clear gc2_t gc5_t; omega) | omega), by (first | (clear gc2_t gc5_t; omega) | omega)⟩
  rw [← e_b7] at h_b7
  have ex2 := e_b7
  refine g_vV (av := [vI b7]) (o := 1) (st := []) (f_X1_add_B16 G Pc5 (tadd (tadd T (iand (ishr a1 24) 255)) (iand (ishr a1 16) 255)) b7 ⟨by (first | (clear gc2_t gc5_t; omega) | omega), by (first | (clear gc2_t gc5_t; omega) | omega)⟩ hBc5 (by have q0 := bx_1_1 (o := 1) hBc5 (⟨by decide, rfl⟩ : kx 1 1); (first | (clear gc2_t gc5_t; omega) | (clear gc2_t; omega) | (clear gc5_t; omega) | omega)) (iv6) _ (fun Pc8 hBc8 hFc8 gc8_t ec8_0 => ⟨rfl, ?_⟩)) cf_X1_add t_671 rfl (show kx 1 1 from (⟨by decide, rfl⟩ : kx 1 1)).1 ((show kx 1 1 from (⟨by decide, rfl⟩ : kx 1 1)).sh rfl) rfl rfl (Nat.le_of_ble_eq_true rfl) (by decide) rfl dX1_addFour_21
  have iv9 : CX (tadd (tadd (tadd T (iand (ishr a1 24) 255)) (iand (ishr a1 16) 255)) (iand (ishr a1 8) 255)) Pc8 := by rw [← ex2]; exact ec8_0
  refine g_aload_n dX1_addFour_24 rfl ?_
  refine g_iload_n dX1_addFour_25 rfl ?_
  refine g_vV (av := [vI a1]) (o := 1) (st := []) (f_X1_add_B16 G Pc8 (tadd (tadd (tadd T (iand (ishr a1 24) 255)) (iand (ishr a1 16) 255)) (iand (ishr a1 8) 255)) a1 ⟨by (first | (clear gc2_t gc5_t gc8_t; omega) | omega), by (first | (clear gc2_t gc5_t gc8_t; omega) | omega)⟩ hBc8 (by have q0 := bx_1_1 (o := 1) hBc8 (⟨by decide, rfl⟩ : kx 1 1); (first | (clear gc2_t gc5_t gc8_t; omega) | (clear gc2_t gc5_t; omega) | (clear gc2_t gc8_t; omega) | (clear gc5_t gc8_t; omega) | (clear gc2_t; omega) | omega)) (iv9) _ (fun Pc10 hBc10 hFc10 gc10_t ec10_0 => ⟨rfl, ?_⟩)) cf_X1_add t_671 rfl (show kx 1 1 from (⟨by decide, rfl⟩ : kx 1 1)).1 ((show kx 1 1 from (⟨by decide, rfl⟩ : kx 1 1)).sh rfl) rfl rfl (Nat.le_of_ble_eq_true rfl) (by decide) rfl dX1_addFour_26
  exact g_retV dX1_addFour_29 rfl (hQ _ hBc10 (FrX.c (FrX.c (FrX.c (FrX.c FrX.rf hFc2 rfl) hFc5 rfl) hFc8 rfl) hFc10 rfl) (by have q0 := bx_1_1 (o := 1) hBc10 (⟨by decide, rfl⟩ : kx 1 1); (first | (clear gc2_t gc5_t gc8_t gc10_t; omega) | (clear gc2_t gc5_t gc8_t; omega) | (clear gc2_t gc5_t gc10_t; omega) | (clear gc2_t gc8_t gc10_t; omega) | (clear gc5_t gc8_t gc10_t; omega) | (clear gc2_t gc5_t; omega) | omega)) (by rw [tput_4 h_a1]; exact ec10_0))
/-! What the class answers: X11_feed. -/
set_option maxRecDepth 100000 in
set_option maxHeartbeats 4000000 in
theorem f_X11_feed (G : GT) (P : PH) (T : TT) (a1 : Int) (a2 : Int) (a3 : Int) (a4 : Int) (a5 : Int) (h_a1 : (-2147483648) ≤ a1 ∧ a1 ≤ 2147483647) (h_a2 : (-2147483648) ≤ a2 ∧ a2 ≤ 2147483647) (h_a3 : (-2147483648) ≤ a3 ∧ a3 ≤ 2147483647) (h_a4 : (-2147483648) ≤ a4 ∧ a4 ≤ 2147483647) (h_a5 : (-2147483648) ≤ a5 ∧ a5 ≤ 2147483647) (hB : BdX P) (z0 : CX T P) (Q : Option PV → PH → Prop) (hQ : ∀ (r : Int) (_ : (-2147483648) ≤ r ∧ r ≤ 2147483647) (P1 : PH) (_ : BdX P1) (_ : FrX ([(1, 1)], [2, 27]) P P1) (_ : (P 1 1 ≤ 1580 ∧ r = P 1 1 + 20 ∧ P1 1 1 = P 1 1 + 20) ∨ (1580 < P 1 1 ∧ r = -1 ∧ P1 1 1 = P 1 1)) (_ : CX (ff T a1 a2 a3 a4 a5) P1), Q (some (vI r)) P1) : Ct WSX G 3 iX11_feed [vR 0, vI a1, vI a2, vI a3, vI a4, vI a5] P Q := by
  refine Ct.of (by decide) (l0 := [(0, vR 0), (1, vI a1), (2, vI a2), (3, vI a3), (4, vI a4), (5, vI a5)]) rfl (Nat.le_of_ble_eq_true rfl) ?_
  have ht := z0.1
  refine g_aload_n dX11_feed_0 rfl ?_
  refine x_g0_0 (n := 1) (⟨by decide, rfl⟩ : kx 0 0) ffX11_14 dX11_feed_1 rfl ?_
  refine x_g1_1 (z := (P 1 1)) (⟨by decide, rfl⟩ : kx 1 1) ffX11_100 dX11_feed_4 rfl ?_
  refine g_bipush dX11_feed_7 (by decide) ?_
  refine g_iadd dX11_feed_9 ?_
  refine g_sipush dX11_feed_10 (by decide) ?_
  have f1 := bx_1_1 (o := 1) hB (⟨by decide, rfl⟩ : kx 1 1)
  refine g_icmp_le (tgt := 24) dX11_feed_13 (by decide) ⟨by have q0 := bx_1_1 (o := 1) hB (⟨by decide, rfl⟩ : kx 1 1); omega, by have q0 := bx_1_1 (o := 1) hB (⟨by decide, rfl⟩ : kx 1 1); omega⟩ (by decide) (fun k2 => ?_) (fun k2 => ?_)
  · refine g_aload_n dX11_feed_24 rfl ?_
    refine x_g0_0 (n := 1) (⟨by decide, rfl⟩ : kx 0 0) ffX11_14 dX11_feed_25 rfl ?_
    refine g_iload_n dX11_feed_28 rfl ?_
    refine g_vV (av := [vI a1]) (o := 1) (st := []) (f_X1_addFour_B16 G P T a1 ⟨by (first | (clear k2; omega) | omega), by (first | (clear k2; omega) | omega)⟩ hB (by have q0 := bx_1_1 (o := 1) hB (⟨by decide, rfl⟩ : kx 1 1); (first | (clear k2; omega) | omega)) (z0) _ (fun Pc3 hBc3 hFc3 gc3_t ec3_0 => ⟨rfl, ?_⟩)) cf_X1_addFour t_667 rfl (show kx 1 1 from (⟨by decide, rfl⟩ : kx 1 1)).1 ((show kx 1 1 from (⟨by decide, rfl⟩ : kx 1 1)).sh rfl) rfl rfl (Nat.le_of_ble_eq_true rfl) (by decide) rfl dX11_feed_29
    refine g_aload_n dX11_feed_32 rfl ?_
    refine x_g0_0 (n := 1) (⟨by decide, rfl⟩ : kx 0 0) ffX11_14 dX11_feed_33 rfl ?_
    refine g_iload_n dX11_feed_36 rfl ?_
    refine g_vV (av := [vI a2]) (o := 1) (st := []) (f_X1_addFour_B16 G Pc3 (tput T a1 4) a2 ⟨by (first | (clear k2 gc3_t; omega) | omega), by (first | (clear k2 gc3_t; omega) | omega)⟩ hBc3 (by have q0 := bx_1_1 (o := 1) hBc3 (⟨by decide, rfl⟩ : kx 1 1); (first | (clear k2 gc3_t; omega) | (clear k2; omega) | (clear gc3_t; omega) | omega)) (ec3_0) _ (fun Pc4 hBc4 hFc4 gc4_t ec4_0 => ⟨rfl, ?_⟩)) cf_X1_addFour t_667 rfl (show kx 1 1 from (⟨by decide, rfl⟩ : kx 1 1)).1 ((show kx 1 1 from (⟨by decide, rfl⟩ : kx 1 1)).sh rfl) rfl rfl (Nat.le_of_ble_eq_true rfl) (by decide) rfl dX11_feed_37
    refine g_aload_n dX11_feed_40 rfl ?_
    refine x_g0_0 (n := 1) (⟨by decide, rfl⟩ : kx 0 0) ffX11_14 dX11_feed_41 rfl ?_
    refine g_iload_n dX11_feed_44 rfl ?_
    refine g_vV (av := [vI a3]) (o := 1) (st := []) (f_X1_addFour_B16 G Pc4 (tput (tput T a1 4) a2 4) a3 ⟨by (first | (clear k2 gc3_t gc4_t; omega) | omega), by (first | (clear k2 gc3_t gc4_t; omega) | omega)⟩ hBc4 (by have q0 := bx_1_1 (o := 1) hBc4 (⟨by decide, rfl⟩ : kx 1 1); (first | (clear k2 gc3_t gc4_t; omega) | (clear k2 gc3_t; omega) | (clear k2 gc4_t; omega) | (clear gc3_t gc4_t; omega) | (clear k2; omega) | omega)) (ec4_0) _ (fun Pc5 hBc5 hFc5 gc5_t ec5_0 => ⟨rfl, ?_⟩)) cf_X1_addFour t_667 rfl (show kx 1 1 from (⟨by decide, rfl⟩ : kx 1 1)).1 ((show kx 1 1 from (⟨by decide, rfl⟩ : kx 1 1)).sh rfl) rfl rfl (Nat.le_of_ble_eq_true rfl) (by decide) rfl dX11_feed_45
    refine g_aload_n dX11_feed_48 rfl ?_
    refine x_g0_0 (n := 1) (⟨by decide, rfl⟩ : kx 0 0) ffX11_14 dX11_feed_49 rfl ?_
    refine g_iload dX11_feed_52 rfl ?_
    refine g_vV (av := [vI a4]) (o := 1) (st := []) (f_X1_addFour_B16 G Pc5 (tput (tput (tput T a1 4) a2 4) a3 4) a4 ⟨by (first | (clear k2 gc3_t gc4_t gc5_t; omega) | omega), by (first | (clear k2 gc3_t gc4_t gc5_t; omega) | omega)⟩ hBc5 (by have q0 := bx_1_1 (o := 1) hBc5 (⟨by decide, rfl⟩ : kx 1 1); (first | (clear k2 gc3_t gc4_t gc5_t; omega) | (clear k2 gc3_t gc4_t; omega) | (clear k2 gc3_t gc5_t; omega) | (clear k2 gc4_t gc5_t; omega) | (clear gc3_t gc4_t gc5_t; omega) | (clear k2 gc3_t; omega) | omega)) (ec5_0) _ (fun Pc6 hBc6 hFc6 gc6_t ec6_0 => ⟨rfl, ?_⟩)) cf_X1_addFour t_667 rfl (show kx 1 1 from (⟨by decide, rfl⟩ : kx 1 1)).1 ((show kx 1 1 from (⟨by decide, rfl⟩ : kx 1 1)).sh rfl) rfl rfl (Nat.le_of_ble_eq_true rfl) (by decide) rfl dX11_feed_54
    refine g_aload_n dX11_feed_57 rfl ?_
    refine x_g0_0 (n := 1) (⟨by decide, rfl⟩ : kx 0 0) ffX11_14 dX11_feed_58 rfl ?_
    refine g_iload dX11_feed_61 rfl ?_
    refine g_vV (av := [vI a5]) (o := 1) (st := []) (f_X1_addFour_B16 G Pc6 (tput (tput (tput (tput T a1 4) a2 4) a3 4) a4 4) a5 ⟨by (first | (clear k2 gc3_t gc4_t gc5_t gc6_t; omega) | omega), by (first | (clear k2 gc3_t gc4_t gc5_t gc6_t; omega) | omega)⟩ hBc6 (by have q0 := bx_1_1 (o := 1) hBc6 (⟨by decide, rfl⟩ : kx 1 1); (first | (clear k2 gc3_t gc4_t gc5_t gc6_t; omega) | (clear k2 gc3_t gc4_t gc5_t; omega) | (clear k2 gc3_t gc4_t gc6_t; omega) | (clear k2 gc3_t gc5_t gc6_t; omega) | (clear k2 gc4_t gc5_t gc6_t; omega) | (clear gc3_t gc4_t gc5_t gc6_t; omega) | (clear k2 gc3_t gc4_t; omega) | (clear k2; omega) | omega)) (ec6_0) _ (fun Pc7 hBc7 hFc7 gc7_t ec7_0 => ⟨rfl, ?_⟩)) cf_X1_addFour t_667 rfl (show kx 1 1 from (⟨by decide, rfl⟩ : kx 1 1)).1 ((show kx 1 1 from (⟨by decide, rfl⟩ : kx 1 1)).sh rfl) rfl rfl (Nat.le_of_ble_eq_true rfl) (by decide) rfl dX11_feed_63
    refine g_aload_n dX11_feed_66 rfl ?_
    refine x_g0_0 (n := 1) (⟨by decide, rfl⟩ : kx 0 0) ffX11_14 dX11_feed_67 rfl ?_
    refine x_g1_1 (z := (Pc7 1 1)) (⟨by decide, rfl⟩ : kx 1 1) ffX11_100 dX11_feed_70 rfl ?_
    exact g_retI dX11_feed_73 rfl (hQ (Pc7 1 1) ⟨by have q0 := bx_1_1 (o := 1) hBc7 (⟨by decide, rfl⟩ : kx 1 1); (first | (clear k2 gc3_t gc4_t gc5_t gc6_t gc7_t; omega) | omega), by have q0 := bx_1_1 (o := 1) hBc7 (⟨by decide, rfl⟩ : kx 1 1); (first | (clear k2 gc3_t gc4_t gc5_t gc6_t gc7_t; omega) | omega)⟩ _ hBc7 (FrX.c (FrX.c (FrX.c (FrX.c (FrX.c FrX.rf hFc3 rfl) hFc4 rfl) hFc5 rfl) hFc6 rfl) hFc7 rfl) (by have q0 := bx_1_1 (o := 1) hBc7 (⟨by decide, rfl⟩ : kx 1 1); (first | (clear k2 gc3_t gc4_t gc5_t gc6_t gc7_t; omega) | (clear k2 gc3_t gc4_t gc5_t gc6_t; omega) | (clear k2 gc3_t gc4_t gc5_t gc7_t; omega) | (clear k2 gc3_t gc4_t gc6_t gc7_t; omega) | (clear k2 gc3_t gc5_t gc6_t gc7_t; omega) | (clear k2 gc4_t gc5_t gc6_t gc7_t; omega) | (clear gc3_t gc4_t gc5_t gc6_t gc7_t; omega) | (clear k2 gc3_t gc4_t gc5_t; omega) | (clear gc3_t k2; omega) | omega)) (by unfold ff; first | (rw [if_pos (by (first | (clear k2 gc3_t gc4_t gc5_t gc6_t gc7_t; omega) | (clear k2 gc3_t gc4_t gc5_t gc6_t; omega) | (clear k2 gc3_t gc4_t gc5_t gc7_t; omega) | (clear k2 gc3_t gc4_t gc6_t gc7_t; omega) | (clear k2 gc3_t gc5_t gc6_t gc7_t; omega) | (clear k2 gc4_t gc5_t gc6_t gc7_t; omega) | (clear gc3_t gc4_t gc5_t gc6_t gc7_t; omega) | (clear k2 gc3_t gc4_t gc5_t; omega) | (clear gc3_t k2; omega) | omega))]; exact (by first | (rw [show T = (tput (tput (tput (tput (tput T a1 4) a2 4) a3 4) a4 4) a5 4) by (first | (clear k2 gc3_t gc4_t gc5_t gc6_t gc7_t; omega) | (clear k2 gc3_t gc4_t gc5_t gc6_t; omega) | (clear k2 gc3_t gc4_t gc5_t gc7_t; omega) | (clear k2 gc3_t gc4_t gc6_t gc7_t; omega) | (clear k2 gc3_t gc5_t gc6_t gc7_t; omega) | (clear k2 gc4_t gc5_t gc6_t gc7_t; omega) | (clear gc3_t gc4_t gc5_t gc6_t gc7_t; omega) | (clear k2 gc3_t gc4_t gc5_t; omega) | (clear gc3_t k2; omega) | omega)]; exact ec7_0))) | (rw [if_neg (by (first | (clear k2 gc3_t gc4_t gc5_t gc6_t gc7_t; omega) | (clear k2 gc3_t gc4_t gc5_t gc6_t; omega) | (clear k2 gc3_t gc4_t gc5_t gc7_t; omega) | (clear k2 gc3_t gc4_t gc6_t gc7_t; omega) | (clear k2 gc3_t gc5_t gc6_t gc7_t; omega) | (clear k2 gc4_t gc5_t gc6_t gc7_t; omega) | (clear gc3_t gc4_t gc5_t gc6_t gc7_t; omega) | (clear k2 gc3_t gc4_t gc5_t; omega) | (clear gc3_t k2; omega) | omega))]; exact ec7_0)))
  · refine g_aload_n dX11_feed_16 rfl ?_
    refine g_iconst dX11_feed_17 ?_
    refine g_vI (av := [vI 0]) (o := 0) (st := []) (m_X11_refuse G P 0 (by decide) hB  _ (fun rc8 hc8 Pc8 hBc8 hFc8 => ⟨rc8, rfl, ?_⟩)) cf_X11_refuse t_663 rfl (show kx 0 0 from (⟨by decide, rfl⟩ : kx 0 0)).1 ((show kx 0 0 from (⟨by decide, rfl⟩ : kx 0 0)).sh rfl) rfl rfl (Nat.le_of_ble_eq_true rfl) (by decide) rfl dX11_feed_18
    refine g_pop dX11_feed_21 rfl ?_
    refine g_iconst dX11_feed_22 ?_
    exact g_retI dX11_feed_23 rfl (hQ (-1) (by decide) _ hBc8 (FrX.c FrX.rf hFc8 rfl) (by have q0 := (((FrX.g hFc8 (⟨by decide, rfl⟩ : kx 1 1) rfl).trans rfl) : Pc8 1 1 = (P 1 1)); have q1 := bx_1_1 (o := 1) hB (⟨by decide, rfl⟩ : kx 1 1); (first | (clear k2; omega) | omega)) (by unfold ff; first | (rw [if_pos (by (first | (clear k2; omega) | omega))]; exact (CX.fr (F := ([], [27])) z0 (FrX.c FrX.rf hFc8 rfl) rfl)) | (rw [if_neg (by (first | (clear k2; omega) | omega))]; exact (by first | (rw [show (tput (tput (tput (tput (tput T a1 4) a2 4) a3 4) a4 4) a5 4) = T by (first | (clear k2; omega) | omega)]; exact (CX.fr (F := ([], [27])) z0 (FrX.c FrX.rf hFc8 rfl) rfl))))))
/-! What the class answers: X11_end. -/
set_option maxRecDepth 100000 in
set_option maxHeartbeats 4000000 in
theorem f_X11_end (G : GT) (P : PH) (T : TT) (a1 : Int) (h_a1 : (-2147483648) ≤ a1 ∧ a1 ≤ 2147483647) (hB : BdX P) (z0 : CX T P) (Q : Option PV → PH → Prop) (hQ : ∀ (r : Int) (_ : 0 ≤ r ∧ r ≤ 1) (P1 : PH) (_ : BdX P1) (_ : FrX ([(1, 1)], [27]) P P1) (_ : (0 ≤ a1 ∧ a1 ≤ P 1 1 ∧ r = 1 ∧ P1 1 1 = a1) ∨ ((a1 < 0 ∨ P 1 1 < a1) ∧ r = 0 ∧ P1 1 1 = P 1 1)) (_ : CX (fe T a1) P1), Q (some (vI r)) P1) : Ct WSX G 2 iX11_end [vR 0, vI a1] P Q := by
  refine Ct.of (by decide) (l0 := [(0, vR 0), (1, vI a1)]) rfl (Nat.le_of_ble_eq_true rfl) ?_
  have ht := z0.1
  refine g_iload_n dX11_end_0 rfl ?_
  refine g_if_lt (tgt := 15) dX11_end_1 (by decide) ⟨by omega, by omega⟩ (fun k1 => ?_) (fun k1 => ?_)
  · refine g_aload_n dX11_end_15 rfl ?_
    refine g_iconst dX11_end_16 ?_
    refine g_vI (av := [vI 0]) (o := 0) (st := []) (m_X11_refuse G P 0 (by decide) hB  _ (fun rc2 hc2 Pc2 hBc2 hFc2 => ⟨rc2, rfl, ?_⟩)) cf_X11_refuse t_663 rfl (show kx 0 0 from (⟨by decide, rfl⟩ : kx 0 0)).1 ((show kx 0 0 from (⟨by decide, rfl⟩ : kx 0 0)).sh rfl) rfl rfl (Nat.le_of_ble_eq_true rfl) (by decide) rfl dX11_end_17
    exact g_retZ dX11_end_20 rfl (by (first | (clear k1; omega) | omega)) (hQ rc2 ⟨by (first | (clear k1; omega) | omega), by (first | (clear k1; omega) | omega)⟩ _ hBc2 (FrX.c FrX.rf hFc2 rfl) (by have q0 := (((FrX.g hFc2 (⟨by decide, rfl⟩ : kx 1 1) rfl).trans rfl) : Pc2 1 1 = (P 1 1)); have q1 := bx_1_1 (o := 1) hB (⟨by decide, rfl⟩ : kx 1 1); (first | (clear k1; omega) | omega)) (by unfold fe; first | (rw [if_neg (by (first | (clear k1; omega) | omega))]; exact (CX.fr (F := ([], [27])) z0 (FrX.c FrX.rf hFc2 rfl) rfl)) | (rw [if_pos (by (first | (clear k1; omega) | omega))]; exact z0.cut (by (first | (clear k1; omega) | omega)) ((FrX.g hFc2 (⟨by decide, rfl⟩ : kx 1 1) rfl).trans rfl) (fun j => ((FrX.g hFc2 (⟨by decide, rfl⟩ : kx 2 2) rfl).trans rfl)))))
  · refine g_iload_n dX11_end_4 rfl ?_
    refine g_aload_n dX11_end_5 rfl ?_
    refine x_g0_0 (n := 1) (⟨by decide, rfl⟩ : kx 0 0) ffX11_14 dX11_end_6 rfl ?_
    refine x_g1_1 (z := (P 1 1)) (⟨by decide, rfl⟩ : kx 1 1) ffX11_100 dX11_end_9 rfl ?_
    have f3 := bx_1_1 (o := 1) hB (⟨by decide, rfl⟩ : kx 1 1)
    refine g_icmp_le (tgt := 21) dX11_end_12 (by decide) ⟨by (first | (clear k1; omega) | omega), by (first | (clear k1; omega) | omega)⟩ ⟨by have q0 := bx_1_1 (o := 1) hB (⟨by decide, rfl⟩ : kx 1 1); (first | (clear k1; omega) | omega), by have q0 := bx_1_1 (o := 1) hB (⟨by decide, rfl⟩ : kx 1 1); (first | (clear k1; omega) | omega)⟩ (fun k4 => ?_) (fun k4 => ?_)
    · refine g_aload_n dX11_end_21 rfl ?_
      refine x_g0_0 (n := 1) (⟨by decide, rfl⟩ : kx 0 0) ffX11_14 dX11_end_22 rfl ?_
      refine g_iload_n dX11_end_25 rfl ?_
      refine x_p1_1 (⟨by decide, rfl⟩ : kx 1 1) pfX11_100 dX11_end_26 ?_
      have hB5 := by_1_1 (z := a1) hB (⟨by decide, rfl⟩ : kx 1 1) ⟨by (first | (clear k1 k4; omega) | omega), by (first | (clear k1 k4; omega) | omega)⟩
      refine g_iconst dX11_end_29 ?_
      exact g_retZ dX11_end_30 rfl (by decide) (hQ 1 (by decide) _ hB5 (FrX.s FrX.rf (⟨by decide, rfl⟩ : kx 1 1) rfl) (by have q0 := (up_same : (up P 1 1 a1) 1 1 = a1); (first | (clear k1 k4; omega) | (clear k1; omega) | (clear k4; omega) | omega)) (by unfold fe; first | (rw [if_neg (by (first | (clear k1 k4; omega) | (clear k1; omega) | (clear k4; omega) | omega))]; exact hNONE) | (rw [if_pos (by (first | (clear k1 k4; omega) | (clear k1; omega) | (clear k4; omega) | omega))]; exact z0.cut (by (first | (clear k1 k4; omega) | (clear k1; omega) | (clear k4; omega) | omega)) up_same (fun j => ((up_o (kx.ne (⟨by decide, rfl⟩ : kx 2 2) (⟨by decide, rfl⟩ : kx 1 1) rfl)).trans rfl)))))
    · refine g_aload_n dX11_end_15 rfl ?_
      refine g_iconst dX11_end_16 ?_
      refine g_vI (av := [vI 0]) (o := 0) (st := []) (m_X11_refuse G P 0 (by decide) hB  _ (fun rc6 hc6 Pc6 hBc6 hFc6 => ⟨rc6, rfl, ?_⟩)) cf_X11_refuse t_663 rfl (show kx 0 0 from (⟨by decide, rfl⟩ : kx 0 0)).1 ((show kx 0 0 from (⟨by decide, rfl⟩ : kx 0 0)).sh rfl) rfl rfl (Nat.le_of_ble_eq_true rfl) (by decide) rfl dX11_end_17
      exact g_retZ dX11_end_20 rfl (by (first | (clear k1 k4; omega) | (clear k1; omega) | (clear k4; omega) | omega)) (hQ rc6 ⟨by (first | (clear k1 k4; omega) | omega), by (first | (clear k1 k4; omega) | omega)⟩ _ hBc6 (FrX.c FrX.rf hFc6 rfl) (by have q0 := (((FrX.g hFc6 (⟨by decide, rfl⟩ : kx 1 1) rfl).trans rfl) : Pc6 1 1 = (P 1 1)); have q1 := bx_1_1 (o := 1) hB (⟨by decide, rfl⟩ : kx 1 1); (first | (clear k1 k4; omega) | (clear k1; omega) | (clear k4; omega) | omega)) (by unfold fe; first | (rw [if_neg (by (first | (clear k1 k4; omega) | (clear k1; omega) | (clear k4; omega) | omega))]; exact (CX.fr (F := ([], [27])) z0 (FrX.c FrX.rf hFc6 rfl) rfl)) | (rw [if_pos (by (first | (clear k1 k4; omega) | (clear k1; omega) | (clear k4; omega) | omega))]; exact z0.cut (by (first | (clear k1 k4; omega) | (clear k1; omega) | (clear k4; omega) | omega)) ((FrX.g hFc6 (⟨by decide, rfl⟩ : kx 1 1) rfl).trans rfl) (fun j => ((FrX.g hFc6 (⟨by decide, rfl⟩ : kx 2 2) rfl).trans rfl)))))
/-! What the class answers: X5_copy. -/
set_option maxRecDepth 100000 in
set_option maxHeartbeats 4000000 in
theorem f_X5_copy (G : GT) (P : PH) (o0 : Nat) (o1 : Nat) (k_o0 : kx o0 14) (k_o1 : kx o1 14) (hB : BdX P) (p_ne : o1 ≠ o0) (Q : Option PV → PH → Prop) (hQ : ∀ (P1 : PH) (_ : BdX P1) (_ : FrX ([(14, 1), (14, 2), (14, 3)], [15]) P P1) (_ : P1 o0 1 = P o1 1) (_ : P1 o0 2 = P o1 2) (_ : P1 o0 3 = P o1 3) (_ : ∀ q : Int, 0 ≤ q → q < 12 → P1 (crX o0 0) q = P (crX o1 0) q) (_ : KO o0 P P1), Q none P1) : Ct WSX G 1 iX5_copy [vR o0, vR o1] P Q := by
  refine Ct.of (by decide) (l0 := [(0, vR o0), (1, vR o1)]) rfl (Nat.le_of_ble_eq_true rfl) ?_
  have hd9 := kx.ne (ck_14_0 k_o0) k_o0 rfl
  refine g_iconst dX5_copy_0 ?_
  refine g_istore_n (l1 := [(2, vI 0), (0, vR o0), (1, vR o1)]) dX5_copy_1 (by decide) rfl ?_
  have L2_0 : ∀ (n2_0 : Nat) (x2_2_0 : Int) (h_x2_2_0 : 0 ≤ x2_2_0 ∧ x2_2_0 ≤ 12) (H2_0 : PH) (hB2_0 : BdX H2_0) (hE2_0 : FrX ([], [15]) P H2_0) (i2_0_0 : ∀ q : Int, 0 ≤ q → q < x2_2_0 → H2_0 (crX o0 0) q = P (crX o1 0) q) (i2_1_0 : KO o0 P H2_0) (hm2_0 : ((13 - x2_2_0) : Int).toNat < n2_0), Go WSX G 1 iX5_copy 2 [(0, vR o0), (1, vR o1), (2, vI x2_2_0)] [] H2_0 Q := by
    intro n2_0
    induction n2_0 with
    | zero => intro x2_2_0 h_x2_2_0 H2_0 hB2_0 hE2_0 i2_0_0 i2_1_0 hm2_0; exact absurd hm2_0 (Nat.not_lt_zero _)
    | succ n2_0 ih2_0 =>
    intro x2_2_0 h_x2_2_0 H2_0 hB2_0 hE2_0 i2_0_0 i2_1_0 hm2_0
    refine g_iload_n dX5_copy_2 rfl ?_
    refine g_bipush dX5_copy_3 (by decide) ?_
    refine g_icmp_ge (tgt := 26) dX5_copy_5 (by decide) ⟨by (first | (clear p_ne hd9; omega) | omega), by (first | (clear p_ne hd9; omega) | omega)⟩ (by decide) (fun k29 => ?_) (fun k29 => ?_)
    · refine g_aload_n dX5_copy_26 rfl ?_
      refine g_aload_n dX5_copy_27 rfl ?_
      refine x_g14_1 (z := (P o1 1)) k_o1 ffX5_24 dX5_copy_28 ((FrX.g hE2_0 k_o1 rfl).trans rfl) ?_
      refine x_p14_1 k_o0 pfX5_24 dX5_copy_31 ?_
      have hB30 := by_14_1 (z := (P o1 1)) hB2_0 k_o0 ⟨by have q0 := bx_14_1 (o := o1) hB k_o1; (first | (clear p_ne hd9 k29; omega) | omega), by have q0 := bx_14_1 (o := o1) hB k_o1; (first | (clear p_ne hd9 k29; omega) | omega)⟩
      refine g_aload_n dX5_copy_34 rfl ?_
      refine g_aload_n dX5_copy_35 rfl ?_
      refine x_g14_2 (z := (P o1 2)) k_o1 ffX5_28 dX5_copy_36 ((up_k (by decide)).trans ((FrX.g hE2_0 k_o1 rfl).trans rfl)) ?_
      refine x_p14_2 k_o0 pfX5_28 dX5_copy_39 ?_
      have hB31 := by_14_2 (z := (P o1 2)) hB30 k_o0 ⟨by have q0 := bx_14_2 (o := o1) hB k_o1; (first | (clear p_ne hd9 k29; omega) | omega), by have q0 := bx_14_2 (o := o1) hB k_o1; (first | (clear p_ne hd9 k29; omega) | omega)⟩
      refine g_aload_n dX5_copy_42 rfl ?_
      refine g_aload_n dX5_copy_43 rfl ?_
      refine x_g14_3 (z := (P o1 3)) k_o1 ffX5_31 dX5_copy_44 ((up_k (by decide)).trans ((up_k (by decide)).trans ((FrX.g hE2_0 k_o1 rfl).trans rfl))) ?_
      refine x_p14_3 k_o0 pfX5_31 dX5_copy_47 ?_
      have hB32 := by_14_3 (z := (P o1 3)) hB31 k_o0 ⟨by have q0 := bx_14_3 (o := o1) hB k_o1; (first | (clear p_ne hd9 k29; omega) | omega), by have q0 := bx_14_3 (o := o1) hB k_o1; (first | (clear p_ne hd9 k29; omega) | omega)⟩
      exact g_retV dX5_copy_50 rfl (hQ _ hB32 (FrX.s (FrX.s (FrX.s (FrX.c FrX.rf hE2_0 rfl) k_o0 rfl) k_o0 rfl) k_o0 rfl) (((up_k (by decide)).trans ((up_k (by decide)).trans up_same))) (((up_k (by decide)).trans up_same)) (up_same) (fun q q0 q1 => (up_o hd9).trans ((up_o hd9).trans ((up_o hd9).trans (i2_0_0 q q0 (by (first | (clear p_ne hd9 k29; omega) | (clear p_ne hd9; omega) | (clear p_ne k29; omega) | (clear hd9 k29; omega) | (clear p_ne; omega) | omega)))))) (KO.w (KO.w (KO.w i2_1_0 (Or.inl (or14 k_o0).1)) (Or.inl (or14 k_o0).1)) (Or.inl (or14 k_o0).1)))
    · refine g_aload_n dX5_copy_8 rfl ?_
      refine x_g14_0 (n := (crX o0 0)) k_o0 ffX5_9 dX5_copy_9 rfl ?_
      refine g_iload_n dX5_copy_12 rfl ?_
      refine g_aload_n dX5_copy_13 rfl ?_
      refine x_g14_0 (n := (crX o1 0)) k_o1 ffX5_9 dX5_copy_14 rfl ?_
      refine g_iload_n dX5_copy_17 rfl ?_
      refine x_l15 (z := (H2_0 (crX o1 0) x2_2_0)) (ck_14_0 k_o1) dX5_copy_18 ⟨by (first | (clear p_ne hd9 k29; omega) | omega), by (first | (clear p_ne hd9 k29; omega) | omega)⟩ rfl ?_
      refine x_s15 (ck_14_0 k_o0) dX5_copy_19 ⟨by (first | (clear p_ne hd9 k29; omega) | omega), by (first | (clear p_ne hd9 k29; omega) | omega)⟩ ?_
      have hB33 := by_15 (z := (H2_0 (crX o1 0) x2_2_0)) (k := x2_2_0) hB2_0 (ck_14_0 k_o0) ⟨by have q0 := bx_15 (o := (crX o1 0)) (k := x2_2_0) hB2_0 (ck_14_0 k_o1); (first | (clear p_ne hd9 k29; omega) | omega), by have q0 := bx_15 (o := (crX o1 0)) (k := x2_2_0) hB2_0 (ck_14_0 k_o1); (first | (clear p_ne hd9 k29; omega) | omega)⟩
      have hko9 : KO o0 P (up H2_0 (crX o0 0) x2_2_0 (H2_0 (crX o1 0) x2_2_0)) := KO.w i2_1_0 (OB.c (or14 k_o0).1 k_o0)
      have hA9 : ∀ q : Int, 0 ≤ q → q < x2_2_0 + 1 → (up H2_0 (crX o0 0) x2_2_0 (H2_0 (crX o1 0) x2_2_0)) (crX o0 0) q = P (crX o1 0) q := by
        intro q q0 q1
        by_cases e : q = x2_2_0
        · rw [e]; exact Eq.trans up_same (i2_1_0.a k_o1 p_ne _)
        · exact Eq.trans (up_k (by (first | (clear p_ne hd9 k29; omega) | (clear p_ne hd9; omega) | (clear p_ne k29; omega) | (clear hd9 k29; omega) | (clear p_ne; omega) | omega))) (i2_0_0 q q0 (by (first | (clear p_ne hd9 k29; omega) | (clear p_ne hd9; omega) | (clear p_ne k29; omega) | (clear hd9 k29; omega) | (clear p_ne; omega) | omega)))
      refine g_iinc (l1 := [(2, vI (x2_2_0 + 1)), (0, vR o0), (1, vR o1)]) dX5_copy_20 rfl (by decide) rfl ?_
      refine g_goto (tgt := 2) dX5_copy_23 (by decide) ?_
      refine g_forget (l1 := [(0, vR o0), (1, vR o1), (2, vI (x2_2_0 + 1))]) (by intro q hq; simp only [List.mem_cons, List.not_mem_nil, or_false] at hq ⊢; rcases hq with rfl | rfl | rfl <;> simp) ?_
      exact ih2_0 (x2_2_0 + 1) ⟨by (first | (clear p_ne hd9 k29; omega) | omega), by (first | (clear p_ne hd9 k29; omega) | omega)⟩ _ hB33 (FrX.s (FrX.c FrX.rf hE2_0 rfl) (ck_14_0 k_o0) rfl) (by first | exact hA9 | (intro q q0 q1; exfalso; (first | (clear p_ne hd9 k29; omega) | (clear p_ne hd9; omega) | (clear p_ne k29; omega) | (clear hd9 k29; omega) | (clear p_ne; omega) | omega))) (by first | exact hko9 | exact KO.rf) (by (first | (clear p_ne hd9 k29; omega) | (clear p_ne hd9; omega) | (clear p_ne k29; omega) | (clear hd9 k29; omega) | (clear p_ne; omega) | omega))
  refine g_forget (l1 := [(0, vR o0), (1, vR o1), (2, vI 0)]) (by intro q hq; simp only [List.mem_cons, List.not_mem_nil, or_false] at hq ⊢; rcases hq with rfl | rfl | rfl <;> simp) ?_
  exact L2_0 _ 0 (by decide) _ hB FrX.rf (by first | exact hA9 | (intro q q0 q1; exfalso; (first | (clear p_ne hd9; omega) | (clear p_ne; omega) | (clear hd9; omega) | omega))) (by first | exact hko9 | exact KO.rf) (Nat.lt_succ_self _)
/-! What the class answers: X0_remember. -/
set_option maxRecDepth 100000 in
set_option maxHeartbeats 4000000 in
theorem f_X0_remember (G : GT) (P : PH) (A : PH) (k : Int) (o1 : Nat) (k_o1 : kx o1 14) (hB : BdX P) (p_wa : WA k A) (p_w : o1 = 14) (z0 : AX A P) (Q : Option PV → PH → Prop) (hQ : ∀ (P1 : PH) (_ : BdX P1) (_ : FrX ([(14, 1), (14, 2), (14, 3), (16, 6), (16, 7)], [15, 21]) P P1) (_ : AX (aPush A) P1), Q none P1) : Ct WSX G 2 iX0_remember [vR 18, vR o1] P Q := by
  refine Ct.of (by decide) (l0 := [(0, vR 18), (1, vR o1)]) rfl (Nat.le_of_ble_eq_true rfl) ?_
  have hb := z0.b
  have hw4 := p_wa.2.1
  refine g_aload_n dX0_remember_0 rfl ?_
  refine x_g16_6 (z := (P 18 6)) (⟨by decide, rfl⟩ : kx 18 16) ffX0_51 dX0_remember_1 rfl ?_
  refine g_bipush dX0_remember_4 (by decide) ?_
  have f1 := bx_16_6 (o := 18) hB (⟨by decide, rfl⟩ : kx 18 16)
  refine g_sI (av := [vI (P 18 6), vI 20]) (st := []) (f_J9_floorMod_7cf53 G P (P 18 6) 20 ⟨by have q0 := bx_16_6 (o := 18) hB (⟨by decide, rfl⟩ : kx 18 16); (first | (clear hb; omega) | omega), by have q0 := bx_16_6 (o := 18) hB (⟨by decide, rfl⟩ : kx 18 16); (first | (clear hb; omega) | omega)⟩ (by decide) hB (by have q0 := bx_16_6 (o := 18) hB (⟨by decide, rfl⟩ : kx 18 16); (first | (clear hb; omega) | omega)) _ (fun rc2 hc2 gc2_m gc2_fm => ⟨rc2, rfl, ?_⟩)) cf_J9_floorMod_7cf53 t_1262 rfl (Nat.le_of_ble_eq_true rfl) (by decide) rfl dX0_remember_6
  refine g_istore_n (l1 := [(2, vI rc2), (0, vR 18), (1, vR o1)]) dX0_remember_9 (by decide) rfl ?_
  refine g_aload_n dX0_remember_10 rfl ?_
  refine x_g16_3 (n := 22) (⟨by decide, rfl⟩ : kx 18 16) ffX0_23 dX0_remember_11 rfl ?_
  refine g_iload_n dX0_remember_14 rfl ?_
  refine x_l20 (n := (crX 22 rc2.toNat)) (⟨by decide, rfl⟩ : kx 22 20) dX0_remember_15 ⟨by (first | (clear hb; omega) | omega), by (first | (clear hb; omega) | omega)⟩ rfl ?_
  have kk3 := (ce_20 (j := rc2.toNat) (⟨by decide, rfl⟩ : kx 22 20) (by (first | (clear hb; omega) | omega)))
  refine g_aload_n dX0_remember_16 rfl ?_
  have k9 := (ah (s := (rc2).toNat) (by (first | (clear hb; omega) | omega))).2
  have hsx := (show rc2 = P 18 6 % 20 by (first | (clear hb; omega) | omega))
  refine g_vV (av := [vR o1]) (o := (crX 22 rc2.toNat)) (st := []) (f_X5_copy G P (crX 22 rc2.toNat) o1 kk3 k_o1 hB (by have q := (ah (s := (rc2).toNat) (by (first | (clear hb; omega) | omega))).1; (first | (clear hb; omega) | omega)) _ (fun Pc4 hBc4 hFc4 gc4_c1 gc4_c2 gc4_c3 gc4_ca gc4_ko => ⟨rfl, ?_⟩)) cf_X5_copy t_1265 rfl (show kx (crX 22 rc2.toNat) 14 from kk3).1 ((show kx (crX 22 rc2.toNat) 14 from kk3).sh rfl) rfl rfl (Nat.le_of_ble_eq_true rfl) (by decide) rfl dX0_remember_17
  have hc1 := gc4_c1
  have hc2 := gc4_c2
  have hc3 := gc4_c3
  have hca := gc4_ca
  have hko := gc4_ko
  rw [p_w] at hc1 hc2 hc3 hca
  refine g_aload_n dX0_remember_20 rfl ?_
  refine x_g16_4 (n := 63) (⟨by decide, rfl⟩ : kx 18 16) ffX0_27 dX0_remember_21 rfl ?_
  refine g_iload_n dX0_remember_24 rfl ?_
  refine g_aload_n dX0_remember_25 rfl ?_
  refine x_g16_5 (z := (P 18 5)) (⟨by decide, rfl⟩ : kx 18 16) ffX0_31 dX0_remember_26 ((FrX.g hFc4 (⟨by decide, rfl⟩ : kx 18 16) rfl).trans rfl) ?_
  refine x_s21 (⟨by decide, rfl⟩ : kx 63 21) dX0_remember_29 ⟨by (first | (clear hb; omega) | omega), by (first | (clear hb; omega) | omega)⟩ ?_
  have hB5 := by_21 (z := (P 18 5)) (k := rc2) hBc4 (⟨by decide, rfl⟩ : kx 63 21) ⟨by have q0 := bx_16_5 (o := 18) hB (⟨by decide, rfl⟩ : kx 18 16); (first | (clear hb; omega) | omega), by have q0 := bx_16_5 (o := 18) hB (⟨by decide, rfl⟩ : kx 18 16); (first | (clear hb; omega) | omega)⟩
  refine g_aload_n dX0_remember_30 rfl ?_
  refine g_iload_n dX0_remember_31 rfl ?_
  refine g_iconst dX0_remember_32 ?_
  refine g_iadd dX0_remember_33 ?_
  refine x_p16_6 (⟨by decide, rfl⟩ : kx 18 16) pfX0_51 dX0_remember_34 ?_
  have hB6 := by_16_6 (z := (rc2 + 1)) hB5 (⟨by decide, rfl⟩ : kx 18 16) ⟨by (first | (clear hb; omega) | omega), by (first | (clear hb; omega) | omega)⟩
  refine g_aload_n dX0_remember_37 rfl ?_
  refine g_aload_n dX0_remember_38 rfl ?_
  refine x_g16_7 (z := (P 18 7)) (⟨by decide, rfl⟩ : kx 18 16) ffX0_35 dX0_remember_39 ((up_k (by decide)).trans ((up_o (kx.ne (⟨by decide, rfl⟩ : kx 18 16) (⟨by decide, rfl⟩ : kx 63 21) rfl)).trans ((FrX.g hFc4 (⟨by decide, rfl⟩ : kx 18 16) rfl).trans rfl))) ?_
  refine g_iconst dX0_remember_42 ?_
  refine g_iadd dX0_remember_43 ?_
  refine g_bipush dX0_remember_44 (by decide) ?_
  have f7 := bx_16_7 (o := 18) hB (⟨by decide, rfl⟩ : kx 18 16)
  refine g_sI (av := [vI ((P 18 7) + 1), vI 20]) (st := [vR 18]) (m_J9_min_7cf53 G (up (up Pc4 63 rc2 (P 18 5)) 18 6 (rc2 + 1)) ((P 18 7) + 1) 20 ⟨by have q0 := bx_16_7 (o := 18) hB (⟨by decide, rfl⟩ : kx 18 16); (first | (clear hb; omega) | omega), by have q0 := bx_16_7 (o := 18) hB (⟨by decide, rfl⟩ : kx 18 16); (first | (clear hb; omega) | omega)⟩ (by decide) hB6  _ (fun rc8 hc8 gc8_m => ⟨rc8, rfl, ?_⟩)) cf_J9_min_7cf53 t_923 rfl (Nat.le_of_ble_eq_true rfl) (by decide) rfl dX0_remember_46
  refine x_p16_7 (⟨by decide, rfl⟩ : kx 18 16) pfX0_35 dX0_remember_49 ?_
  have hB9 := by_16_7 (z := rc8) hB6 (⟨by decide, rfl⟩ : kx 18 16) ⟨by (first | (clear hb gc8_m; omega) | omega), by (first | (clear hb gc8_m; omega) | omega)⟩
  exact g_retV dX0_remember_52 rfl (hQ _ hB9 (FrX.s (FrX.s (FrX.s (FrX.c FrX.rf hFc4 rfl) (⟨by decide, rfl⟩ : kx 63 21) rfl) (⟨by decide, rfl⟩ : kx 18 16) rfl) (⟨by decide, rfl⟩ : kx 18 16) rfl) (AX.push z0 p_wa (by have q := bx_16_6 (o := 18) hB ⟨by decide, rfl⟩; (first | (clear hb gc8_m; omega) | (clear hb; omega) | (clear gc8_m; omega) | omega)) hsx ((up_k (by decide)).trans ((up_k (by decide)).trans ((up_o (kx.ne (⟨by decide, rfl⟩ : kx 18 16) (⟨by decide, rfl⟩ : kx 63 21) rfl)).trans ((FrX.g hFc4 (⟨by decide, rfl⟩ : kx 18 16) rfl).trans rfl)))) ((up_k (by decide)).trans up_same) (by have q := (up_same : (up (up (up Pc4 63 rc2 (P 18 5)) 18 6 (rc2 + 1)) 18 7 rc8) 18 7 = rc8); (first | (clear hb gc8_m; omega) | (clear hb; omega) | (clear gc8_m; omega) | omega)) ((up_o (kx.ne (⟨by decide, rfl⟩ : kx 63 21) (⟨by decide, rfl⟩ : kx 18 16) rfl)).trans ((up_o (kx.ne (⟨by decide, rfl⟩ : kx 63 21) (⟨by decide, rfl⟩ : kx 18 16) rfl)).trans up_same)) (fun j hj => ((up_o (kx.ne (⟨by decide, rfl⟩ : kx 63 21) (⟨by decide, rfl⟩ : kx 18 16) rfl)).trans ((up_o (kx.ne (⟨by decide, rfl⟩ : kx 63 21) (⟨by decide, rfl⟩ : kx 18 16) rfl)).trans ((up_k hj).trans ((FrX.g hFc4 (⟨by decide, rfl⟩ : kx 63 21) rfl).trans rfl))))) (((up_o (kx.ne k9 (⟨by decide, rfl⟩ : kx 18 16) rfl)).trans ((up_o (kx.ne k9 (⟨by decide, rfl⟩ : kx 18 16) rfl)).trans ((up_o (kx.ne k9 (⟨by decide, rfl⟩ : kx 63 21) rfl)).trans rfl))).trans hc1) (((up_o (kx.ne k9 (⟨by decide, rfl⟩ : kx 18 16) rfl)).trans ((up_o (kx.ne k9 (⟨by decide, rfl⟩ : kx 18 16) rfl)).trans ((up_o (kx.ne k9 (⟨by decide, rfl⟩ : kx 63 21) rfl)).trans rfl))).trans hc2) (((up_o (kx.ne k9 (⟨by decide, rfl⟩ : kx 18 16) rfl)).trans ((up_o (kx.ne k9 (⟨by decide, rfl⟩ : kx 18 16) rfl)).trans ((up_o (kx.ne k9 (⟨by decide, rfl⟩ : kx 63 21) rfl)).trans rfl))).trans hc3) (fun q q0 q1 => (up_o (kx.ne (ck_14_0 k9) (⟨by decide, rfl⟩ : kx 18 16) rfl)).trans ((up_o (kx.ne (ck_14_0 k9) (⟨by decide, rfl⟩ : kx 18 16) rfl)).trans ((up_o (kx.ne (ck_14_0 k9) (⟨by decide, rfl⟩ : kx 63 21) rfl)).trans (hca q q0 q1)))) (KO.w (KO.w (KO.w hko (Or.inr rfl)) (Or.inr rfl)) (Or.inr rfl)) ((up_o (kx.ne (⟨by decide, rfl⟩ : kx 0 0) (⟨by decide, rfl⟩ : kx 18 16) rfl)).trans ((up_o (kx.ne (⟨by decide, rfl⟩ : kx 0 0) (⟨by decide, rfl⟩ : kx 18 16) rfl)).trans ((up_o (kx.ne (⟨by decide, rfl⟩ : kx 0 0) (⟨by decide, rfl⟩ : kx 63 21) rfl)).trans ((FrX.g hFc4 (⟨by decide, rfl⟩ : kx 0 0) rfl).trans rfl)))) ((up_o (kx.ne (⟨by decide, rfl⟩ : kx 64 22) (⟨by decide, rfl⟩ : kx 18 16) rfl)).trans ((up_o (kx.ne (⟨by decide, rfl⟩ : kx 64 22) (⟨by decide, rfl⟩ : kx 18 16) rfl)).trans ((up_o (kx.ne (⟨by decide, rfl⟩ : kx 64 22) (⟨by decide, rfl⟩ : kx 63 21) rfl)).trans ((FrX.g hFc4 (⟨by decide, rfl⟩ : kx 64 22) rfl).trans rfl))))))
/-! What the class answers: X0_takeBack. -/
set_option maxRecDepth 100000 in
set_option maxHeartbeats 4000000 in
theorem f_X0_takeBack (G : GT) (P : PH) (A : PH) (k : Int) (o1 : Nat) (k_o1 : kx o1 14) (hB : BdX P) (p_wa : WA k A) (p_w : o1 = 14) (p_u : 0 < A 0 4) (z0 : AX A P) (Q : Option PV → PH → Prop) (hQ : ∀ (P1 : PH) (_ : BdX P1) (_ : FrX ([(14, 1), (14, 2), (14, 3), (16, 5), (16, 6), (16, 7)], [15]) P P1) (_ : AX (aPop A) P1), Q none P1) : Ct WSX G 2 iX0_takeBack [vR 18, vR o1] P Q := by
  refine Ct.of (by decide) (l0 := [(0, vR 18), (1, vR o1)]) rfl (Nat.le_of_ble_eq_true rfl) ?_
  have hb := z0.b
  have hw4 := p_wa.2.1
  refine g_aload_n dX0_takeBack_0 rfl ?_
  refine x_g16_6 (z := (P 18 6)) (⟨by decide, rfl⟩ : kx 18 16) ffX0_51 dX0_takeBack_1 rfl ?_
  refine g_iconst dX0_takeBack_4 ?_
  refine g_isub dX0_takeBack_5 ?_
  refine g_bipush dX0_takeBack_6 (by decide) ?_
  have f1 := bx_16_6 (o := 18) hB (⟨by decide, rfl⟩ : kx 18 16)
  refine g_sI (av := [vI ((P 18 6) - 1), vI 20]) (st := []) (f_J9_floorMod_7cf53 G P ((P 18 6) - 1) 20 ⟨by have q0 := bx_16_6 (o := 18) hB (⟨by decide, rfl⟩ : kx 18 16); (first | (clear hb; omega) | omega), by have q0 := bx_16_6 (o := 18) hB (⟨by decide, rfl⟩ : kx 18 16); (first | (clear hb; omega) | omega)⟩ (by decide) hB (by have q0 := bx_16_6 (o := 18) hB (⟨by decide, rfl⟩ : kx 18 16); (first | (clear hb; omega) | omega)) _ (fun rc2 hc2 gc2_m gc2_fm => ⟨rc2, rfl, ?_⟩)) cf_J9_floorMod_7cf53 t_1262 rfl (Nat.le_of_ble_eq_true rfl) (by decide) rfl dX0_takeBack_8
  refine g_istore_n (l1 := [(2, vI rc2), (0, vR 18), (1, vR o1)]) dX0_takeBack_11 (by decide) rfl ?_
  refine g_aload_n dX0_takeBack_12 rfl ?_
  refine g_aload_n dX0_takeBack_13 rfl ?_
  refine x_g16_3 (n := 22) (⟨by decide, rfl⟩ : kx 18 16) ffX0_23 dX0_takeBack_14 rfl ?_
  refine g_iload_n dX0_takeBack_17 rfl ?_
  refine x_l20 (n := (crX 22 rc2.toNat)) (⟨by decide, rfl⟩ : kx 22 20) dX0_takeBack_18 ⟨by (first | (clear hb; omega) | omega), by (first | (clear hb; omega) | omega)⟩ rfl ?_
  have kk3 := (ce_20 (j := rc2.toNat) (⟨by decide, rfl⟩ : kx 22 20) (by (first | (clear hb; omega) | omega)))
  have k9 := (ah (s := (rc2).toNat) (by (first | (clear hb; omega) | omega))).2
  have hsx := (show rc2 = (P 18 6 - 1) % 20 by (first | (clear hb; omega) | omega))
  refine g_vV (av := [vR (crX 22 rc2.toNat)]) (o := o1) (st := []) (f_X5_copy G P o1 (crX 22 rc2.toNat) k_o1 kk3 hB (by have q := (ah (s := (rc2).toNat) (by (first | (clear hb; omega) | omega))).1; (first | (clear hb; omega) | omega)) _ (fun Pc4 hBc4 hFc4 gc4_c1 gc4_c2 gc4_c3 gc4_ca gc4_ko => ⟨rfl, ?_⟩)) cf_X5_copy t_1265 rfl (show kx o1 14 from k_o1).1 ((show kx o1 14 from k_o1).sh rfl) rfl rfl (Nat.le_of_ble_eq_true rfl) (by decide) rfl dX0_takeBack_19
  have hc1 := gc4_c1
  have hc2 := gc4_c2
  have hc3 := gc4_c3
  have hca := gc4_ca
  have hko := gc4_ko
  have e15 : crX o1 0 = 15 := by rw [p_w]; rfl
  refine g_aload_n dX0_takeBack_22 rfl ?_
  refine g_aload_n dX0_takeBack_23 rfl ?_
  refine x_g16_4 (n := 63) (⟨by decide, rfl⟩ : kx 18 16) ffX0_27 dX0_takeBack_24 rfl ?_
  refine g_iload_n dX0_takeBack_27 rfl ?_
  refine x_l21 (z := (P 63 rc2)) (⟨by decide, rfl⟩ : kx 63 21) dX0_takeBack_28 ⟨by (first | (clear hb; omega) | omega), by (first | (clear hb; omega) | omega)⟩ ((FrX.g hFc4 (⟨by decide, rfl⟩ : kx 63 21) rfl).trans rfl) ?_
  refine x_p16_5 (⟨by decide, rfl⟩ : kx 18 16) pfX0_31 dX0_takeBack_29 ?_
  have hB5 := by_16_5 (z := (P 63 rc2)) hBc4 (⟨by decide, rfl⟩ : kx 18 16) ⟨by have q0 := bx_21 (o := 63) (k := rc2) hB (⟨by decide, rfl⟩ : kx 63 21); (first | (clear hb; omega) | omega), by have q0 := bx_21 (o := 63) (k := rc2) hB (⟨by decide, rfl⟩ : kx 63 21); (first | (clear hb; omega) | omega)⟩
  refine g_aload_n dX0_takeBack_32 rfl ?_
  refine g_iload_n dX0_takeBack_33 rfl ?_
  refine x_p16_6 (⟨by decide, rfl⟩ : kx 18 16) pfX0_51 dX0_takeBack_34 ?_
  have hB6 := by_16_6 (z := rc2) hB5 (⟨by decide, rfl⟩ : kx 18 16) ⟨by (first | (clear hb; omega) | omega), by (first | (clear hb; omega) | omega)⟩
  refine g_aload_n dX0_takeBack_37 rfl ?_
  refine g_aload_n dX0_takeBack_38 rfl ?_
  refine x_g16_7 (z := (P 18 7)) (⟨by decide, rfl⟩ : kx 18 16) ffX0_35 dX0_takeBack_39 ((up_k (by decide)).trans ((up_k (by decide)).trans ((FrX.g hFc4 (⟨by decide, rfl⟩ : kx 18 16) rfl).trans rfl))) ?_
  refine g_iconst dX0_takeBack_42 ?_
  refine g_isub dX0_takeBack_43 ?_
  refine g_iconst dX0_takeBack_44 ?_
  have f7 := bx_16_7 (o := 18) hB (⟨by decide, rfl⟩ : kx 18 16)
  refine g_sI (av := [vI ((P 18 7) - 1), vI 0]) (st := [vR 18]) (m_J9_max_7cf53 G (up (up Pc4 18 5 (P 63 rc2)) 18 6 rc2) ((P 18 7) - 1) 0 ⟨by have q0 := bx_16_7 (o := 18) hB (⟨by decide, rfl⟩ : kx 18 16); (first | (clear hb; omega) | omega), by have q0 := bx_16_7 (o := 18) hB (⟨by decide, rfl⟩ : kx 18 16); (first | (clear hb; omega) | omega)⟩ (by decide) hB6  _ (fun rc8 hc8 gc8_m => ⟨rc8, rfl, ?_⟩)) cf_J9_max_7cf53 t_1317 rfl (Nat.le_of_ble_eq_true rfl) (by decide) rfl dX0_takeBack_45
  refine x_p16_7 (⟨by decide, rfl⟩ : kx 18 16) pfX0_35 dX0_takeBack_48 ?_
  have hB9 := by_16_7 (z := rc8) hB6 (⟨by decide, rfl⟩ : kx 18 16) ⟨by (first | (clear hb gc8_m; omega) | omega), by (first | (clear hb gc8_m; omega) | omega)⟩
  exact g_retV dX0_takeBack_51 rfl (hQ _ hB9 (FrX.s (FrX.s (FrX.s (FrX.c FrX.rf hFc4 rfl) (⟨by decide, rfl⟩ : kx 18 16) rfl) (⟨by decide, rfl⟩ : kx 18 16) rfl) (⟨by decide, rfl⟩ : kx 18 16) rfl) (by rw [p_w] at hko hc1 hc2 hc3; rw [e15] at hca; exact AX.pop z0 p_wa p_u (by have q := bx_16_6 (o := 18) hB ⟨by decide, rfl⟩; (first | (clear hb gc8_m; omega) | (clear hb; omega) | (clear gc8_m; omega) | omega)) hsx ((up_k (by decide)).trans ((up_k (by decide)).trans up_same)) ((up_k (by decide)).trans up_same) (by have q := (up_same : (up (up (up Pc4 18 5 (P 63 rc2)) 18 6 rc2) 18 7 rc8) 18 7 = rc8); (first | (clear hb gc8_m; omega) | (clear hb; omega) | (clear gc8_m; omega) | omega)) (fun j => ((up_o (kx.ne (⟨by decide, rfl⟩ : kx 63 21) (⟨by decide, rfl⟩ : kx 18 16) rfl)).trans ((up_o (kx.ne (⟨by decide, rfl⟩ : kx 63 21) (⟨by decide, rfl⟩ : kx 18 16) rfl)).trans ((up_o (kx.ne (⟨by decide, rfl⟩ : kx 63 21) (⟨by decide, rfl⟩ : kx 18 16) rfl)).trans ((FrX.g hFc4 (⟨by decide, rfl⟩ : kx 63 21) rfl).trans rfl))))) (Eq.trans (up_o (by decide)) (Eq.trans (up_o (by decide)) (Eq.trans (up_o (by decide)) hc1))) (Eq.trans (up_o (by decide)) (Eq.trans (up_o (by decide)) (Eq.trans (up_o (by decide)) hc2))) (Eq.trans (up_o (by decide)) (Eq.trans (up_o (by decide)) (Eq.trans (up_o (by decide)) hc3))) (fun q q0 q1 => Eq.trans (up_o (by decide)) (Eq.trans (up_o (by decide)) (Eq.trans (up_o (by decide)) (hca q q0 q1)))) (KO.w (KO.w (KO.w hko (Or.inr rfl)) (Or.inr rfl)) (Or.inr rfl)) ((up_o (kx.ne (⟨by decide, rfl⟩ : kx 0 0) (⟨by decide, rfl⟩ : kx 18 16) rfl)).trans ((up_o (kx.ne (⟨by decide, rfl⟩ : kx 0 0) (⟨by decide, rfl⟩ : kx 18 16) rfl)).trans ((up_o (kx.ne (⟨by decide, rfl⟩ : kx 0 0) (⟨by decide, rfl⟩ : kx 18 16) rfl)).trans ((FrX.g hFc4 (⟨by decide, rfl⟩ : kx 0 0) rfl).trans rfl)))) ((up_o (kx.ne (⟨by decide, rfl⟩ : kx 64 22) (⟨by decide, rfl⟩ : kx 18 16) rfl)).trans ((up_o (kx.ne (⟨by decide, rfl⟩ : kx 64 22) (⟨by decide, rfl⟩ : kx 18 16) rfl)).trans ((up_o (kx.ne (⟨by decide, rfl⟩ : kx 64 22) (⟨by decide, rfl⟩ : kx 18 16) rfl)).trans ((FrX.g hFc4 (⟨by decide, rfl⟩ : kx 64 22) rfl).trans rfl))))))
/-! What the class answers: X11_remember. -/
set_option maxRecDepth 100000 in
set_option maxHeartbeats 4000000 in
theorem f_X11_remember (G : GT) (P : PH) (A : PH) (k : Int) (hB : BdX P) (p_wa : WA k A) (z0 : AX A P) (Q : Option PV → PH → Prop) (hQ : ∀ (P1 : PH) (_ : BdX P1) (_ : FrX ([(14, 1), (14, 2), (14, 3), (16, 6), (16, 7)], [15, 21]) P P1) (_ : AX (aPush A) P1), Q none P1) : Ct WSX G 3 iX11_remember [vR 0] P Q := by
  refine Ct.of (by decide) (l0 := [(0, vR 0)]) rfl (Nat.le_of_ble_eq_true rfl) ?_
  refine g_aload_n dX11_remember_0 rfl ?_
  refine x_g0_7 (n := 18) (⟨by decide, rfl⟩ : kx 0 0) ffX11_53 dX11_remember_1 rfl ?_
  refine g_aload_n dX11_remember_4 rfl ?_
  refine x_g0_5 (n := 14) (⟨by decide, rfl⟩ : kx 0 0) ffX11_43 dX11_remember_5 rfl ?_
  refine g_vV (av := [vR 14]) (o := 18) (st := []) (f_X0_remember G P A k 14 (⟨by decide, rfl⟩ : kx 14 14) hB p_wa (rfl) (z0) _ (fun Pc1 hBc1 hFc1 ec1_0 => ⟨rfl, ?_⟩)) cf_X0_remember t_1258 rfl (show kx 18 16 from (⟨by decide, rfl⟩ : kx 18 16)).1 ((show kx 18 16 from (⟨by decide, rfl⟩ : kx 18 16)).sh rfl) rfl rfl (Nat.le_of_ble_eq_true rfl) (by decide) rfl dX11_remember_8
  exact g_retV dX11_remember_11 rfl (hQ _ hBc1 (FrX.c FrX.rf hFc1 rfl) (ec1_0))
/-! What the class answers: X11_choose. -/
set_option maxRecDepth 100000 in
set_option maxHeartbeats 4000000 in
theorem f_X11_choose (G : GT) (P : PH) (A : PH) (k : Int) (K : PH) (M : PH) (a1 : Int) (h_a1 : (-2147483648) ≤ a1 ∧ a1 ≤ 2147483647) (hB : BdX P) (p_wa : WA k A) (z0 : AX A P) (z1 : XTB K M P) (Q : Option PV → PH → Prop) (hQ : ∀ (r : Int) (_ : 0 ≤ r ∧ r ≤ 1) (P1 : PH) (_ : BdX P1) (_ : FrX ([(14, 1), (14, 2), (14, 3), (16, 6), (16, 7)], [15, 21, 27]) P P1) (_ : (r = 0 ∧ (M 0 0 ≤ 0 ∨ a1 < 0 ∨ 3 < a1 ∨ A 0 2 = a1)) ∨ (r = 1 ∧ 0 < M 0 0 ∧ 0 ≤ a1 ∧ a1 ≤ 3 ∧ A 0 2 ≠ a1)) (_ : AX (aRule A M a1) P1), Q (some (vI r)) P1) : Ct WSX G 4 iX11_choose [vR 0, vI a1] P Q := by
  refine Ct.of (by decide) (l0 := [(0, vR 0), (1, vI a1)]) rfl (Nat.le_of_ble_eq_true rfl) ?_
  have hb := z0.b
  refine g_aload_n dX11_choose_0 rfl ?_
  refine g_vI (av := []) (o := 0) (st := []) (f_X11_matched G P K M  hB (z1) _ (fun rc1 hc1 gc1_m => ⟨rc1, rfl, ?_⟩)) cf_X11_matched t_937 rfl (show kx 0 0 from (⟨by decide, rfl⟩ : kx 0 0)).1 ((show kx 0 0 from (⟨by decide, rfl⟩ : kx 0 0)).sh rfl) rfl rfl (Nat.le_of_ble_eq_true rfl) (by decide) rfl dX11_choose_1
  refine g_if_eq (tgt := 25) dX11_choose_4 (by decide) ⟨by (clear hb gc1_m; omega), by (clear hb gc1_m; omega)⟩ (fun k2 => ?_) (fun k2 => ?_)
  · skip
    refine g_aload_n dX11_choose_25 rfl ?_
    refine g_iconst dX11_choose_26 ?_
    refine g_vI (av := [vI 3]) (o := 0) (st := []) (m_X11_refuse G P 3 (by decide) hB  _ (fun rc3 hc3 Pc3 hBc3 hFc3 => ⟨rc3, rfl, ?_⟩)) cf_X11_refuse t_663 rfl (show kx 0 0 from (⟨by decide, rfl⟩ : kx 0 0)).1 ((show kx 0 0 from (⟨by decide, rfl⟩ : kx 0 0)).sh rfl) rfl rfl (Nat.le_of_ble_eq_true rfl) (by decide) rfl dX11_choose_27
    exact g_retZ dX11_choose_30 rfl (by (clear hb gc1_m k2; omega)) (hQ rc3 ⟨by (clear hb gc1_m k2; omega), by (clear hb gc1_m k2; omega)⟩ _ hBc3 (FrX.c FrX.rf hFc3 rfl) (by (clear hb; omega)) (by rw [aRule_n (by (clear hb; omega))]; exact (AX.fr (F := ([], [27])) z0 (FrX.c FrX.rf hFc3 rfl) rfl)))
  · have k2n : 1 ≤ rc1 := by (clear hb gc1_m; omega)
    clear k2
    have r_gc1_m := (gc1_m.resolve_right (by (clear hb gc1_m; omega)))
    refine g_iload_n dX11_choose_7 rfl ?_
    refine g_sI (av := [vI a1]) (st := []) (f_X11_isRule G P a1 ⟨by (clear hb gc1_m; omega), by (clear hb gc1_m; omega)⟩ hB  _ (fun rc4 hc4 gc4_p gc4_f => ⟨rc4, rfl, ?_⟩)) cf_X11_isRule t_1067 rfl (Nat.le_of_ble_eq_true rfl) (by decide) rfl dX11_choose_8
    refine g_if_eq (tgt := 25) dX11_choose_11 (by decide) ⟨by (clear hb gc1_m gc4_p gc4_f; omega), by (clear hb gc1_m gc4_p gc4_f; omega)⟩ (fun k5 => ?_) (fun k5 => ?_)
    · skip
      skip
      skip
      refine g_aload_n dX11_choose_25 rfl ?_
      refine g_iconst dX11_choose_26 ?_
      refine g_vI (av := [vI 3]) (o := 0) (st := []) (m_X11_refuse G P 3 (by decide) hB  _ (fun rc6 hc6 Pc6 hBc6 hFc6 => ⟨rc6, rfl, ?_⟩)) cf_X11_refuse t_663 rfl (show kx 0 0 from (⟨by decide, rfl⟩ : kx 0 0)).1 ((show kx 0 0 from (⟨by decide, rfl⟩ : kx 0 0)).sh rfl) rfl rfl (Nat.le_of_ble_eq_true rfl) (by decide) rfl dX11_choose_27
      exact g_retZ dX11_choose_30 rfl (by (clear hb gc1_m gc4_p gc4_f k5; omega)) (hQ rc6 ⟨by (clear hb gc1_m gc4_p gc4_f k5; omega), by (clear hb gc1_m gc4_p gc4_f k5; omega)⟩ _ hBc6 (FrX.c FrX.rf hFc6 rfl) (by (clear hb gc1_m gc4_p; omega)) (by rw [aRule_n (by (clear hb gc1_m gc4_p; omega))]; exact (AX.fr (F := ([], [27])) z0 (FrX.c FrX.rf hFc6 rfl) rfl)))
    · have k5n : 1 ≤ rc4 := by (clear hb gc1_m gc4_p gc4_f; omega)
      clear k5
      have r_gc4_f := (gc4_f.resolve_right (by (clear hb gc1_m gc4_p gc4_f; omega)))
      have r_gc4_p := (gc4_p.resolve_left (by (clear hb gc1_m gc4_p gc4_f; omega)))
      skip
      refine g_iload_n dX11_choose_14 rfl ?_
      refine g_aload_n dX11_choose_15 rfl ?_
      refine x_g0_5 (n := 14) (⟨by decide, rfl⟩ : kx 0 0) ffX11_43 dX11_choose_16 rfl ?_
      refine x_g14_3 (z := (P 14 3)) (⟨by decide, rfl⟩ : kx 14 14) ffX11_180 dX11_choose_19 rfl ?_
      have f7 := bx_14_3 (o := 14) hB (⟨by decide, rfl⟩ : kx 14 14)
      refine g_icmp_ne (tgt := 31) dX11_choose_22 (by decide) ⟨by (clear hb gc1_m gc4_p gc4_f; omega), by (clear hb gc1_m gc4_p gc4_f; omega)⟩ ⟨by have q0 := bx_14_3 (o := 14) hB (⟨by decide, rfl⟩ : kx 14 14); (clear hb gc1_m gc4_p gc4_f; omega), by have q0 := bx_14_3 (o := 14) hB (⟨by decide, rfl⟩ : kx 14 14); (clear hb gc1_m gc4_p gc4_f; omega)⟩ (fun k8 => ?_) (fun k8 => ?_)
      · skip
        skip
        skip
        refine g_aload_n dX11_choose_31 rfl ?_
        refine g_vV (av := []) (o := 0) (st := []) (f_X11_remember G P A k  hB p_wa (z0) _ (fun Pc9 hBc9 hFc9 ec9_0 => ⟨rfl, ?_⟩)) cf_X11_remember t_1254 rfl (show kx 0 0 from (⟨by decide, rfl⟩ : kx 0 0)).1 ((show kx 0 0 from (⟨by decide, rfl⟩ : kx 0 0)).sh rfl) rfl rfl (Nat.le_of_ble_eq_true rfl) (by decide) rfl dX11_choose_32
        have hpu := ec9_0
        have hpb := hpu.b
        have hp0 := aPush_0 A 0 (by decide)
        refine g_aload_n dX11_choose_35 rfl ?_
        refine x_g0_5 (n := 14) (⟨by decide, rfl⟩ : kx 0 0) ffX11_43 dX11_choose_36 rfl ?_
        refine g_iload_n dX11_choose_39 rfl ?_
        refine x_p14_3 (⟨by decide, rfl⟩ : kx 14 14) pfX11_180 dX11_choose_40 ?_
        have hB10 := by_14_3 (z := a1) hBc9 (⟨by decide, rfl⟩ : kx 14 14) ⟨by (clear hb gc1_m gc4_p gc4_f k8 hpb; omega), by (clear hb gc1_m gc4_p gc4_f k8 hpb; omega)⟩
        refine g_iconst dX11_choose_43 ?_
        exact g_retZ dX11_choose_44 rfl (by decide) (hQ 1 (by decide) _ hB10 (FrX.s (FrX.c FrX.rf hFc9 rfl) (⟨by decide, rfl⟩ : kx 14 14) rfl) (by (omega)) (by rw [aRule_y ⟨by (clear hb gc1_m gc4_p gc4_f k8 hpb; omega), by (clear hb gc1_m gc4_p gc4_f k8 hpb; omega), by (clear hb gc1_m gc4_p gc4_f k8 hpb; omega), by (omega)⟩]; exact AX.ru hpu up_same (up_k (by decide)) (up_k (by decide)) (KO.w KO.rf (Or.inl rfl)) (FrX.s FrX.rf (⟨by decide, rfl⟩ : kx 14 14) rfl)))
      · skip
        skip
        skip
        refine g_aload_n dX11_choose_25 rfl ?_
        refine g_iconst dX11_choose_26 ?_
        refine g_vI (av := [vI 3]) (o := 0) (st := []) (m_X11_refuse G P 3 (by decide) hB  _ (fun rc11 hc11 Pc11 hBc11 hFc11 => ⟨rc11, rfl, ?_⟩)) cf_X11_refuse t_663 rfl (show kx 0 0 from (⟨by decide, rfl⟩ : kx 0 0)).1 ((show kx 0 0 from (⟨by decide, rfl⟩ : kx 0 0)).sh rfl) rfl rfl (Nat.le_of_ble_eq_true rfl) (by decide) rfl dX11_choose_27
        exact g_retZ dX11_choose_30 rfl (by (clear hb gc1_m gc4_p gc4_f k8; omega)) (hQ rc11 ⟨by (clear hb gc1_m gc4_p gc4_f k8; omega), by (clear hb gc1_m gc4_p gc4_f k8; omega)⟩ _ hBc11 (FrX.c FrX.rf hFc11 rfl) (by (omega)) (by rw [aRule_n (by (omega))]; exact (AX.fr (F := ([], [27])) z0 (FrX.c FrX.rf hFc11 rfl) rfl)))
/-! What the class answers: X11_turn. -/
set_option maxRecDepth 100000 in
set_option maxHeartbeats 4000000 in
theorem f_X11_turn (G : GT) (P : PH) (A : PH) (k : Int) (K : PH) (M : PH) (a1 : Int) (h_a1 : (-2147483648) ≤ a1 ∧ a1 ≤ 2147483647) (hB : BdX P) (p_wa : WA k A) (z0 : AX A P) (z1 : XTB K M P) (Q : Option PV → PH → Prop) (hQ : ∀ (r : Int) (_ : (-2147483648) ≤ r ∧ r ≤ 2147483647) (P1 : PH) (_ : BdX P1) (_ : FrX ([(14, 1), (14, 2), (14, 3), (16, 6), (16, 7)], [15, 21, 27]) P P1) (_ : (r = -1 ∧ (M 0 0 ≤ 0 ∨ a1 < 0 ∨ 7 < a1)) ∨ (r = iand (ishr (ixor (A 0 1) (ishl 1 a1)) a1) 1 ∧ 0 < M 0 0 ∧ 0 ≤ a1 ∧ a1 ≤ 7)) (_ : AX (aTurn A M a1) P1), Q (some (vI r)) P1) : Ct WSX G 4 iX11_turn [vR 0, vI a1] P Q := by
  refine Ct.of (by decide) (l0 := [(0, vR 0), (1, vI a1)]) rfl (Nat.le_of_ble_eq_true rfl) ?_
  have hb := z0.b
  refine g_aload_n dX11_turn_0 rfl ?_
  refine g_vI (av := []) (o := 0) (st := []) (f_X11_matched G P K M  hB (z1) _ (fun rc1 hc1 gc1_m => ⟨rc1, rfl, ?_⟩)) cf_X11_matched t_937 rfl (show kx 0 0 from (⟨by decide, rfl⟩ : kx 0 0)).1 ((show kx 0 0 from (⟨by decide, rfl⟩ : kx 0 0)).sh rfl) rfl rfl (Nat.le_of_ble_eq_true rfl) (by decide) rfl dX11_turn_1
  refine g_if_eq (tgt := 17) dX11_turn_4 (by decide) ⟨by (first | (clear hb gc1_m; omega) | omega), by (first | (clear hb gc1_m; omega) | omega)⟩ (fun k2 => ?_) (fun k2 => ?_)
  · first | (revert r_gc1_m; intro r_gc1_m) | have r_gc1_m := (gc1_m.resolve_right (by (clear hb gc1_m k2; omega))) | have r_gc1_m := (gc1_m.resolve_left (by (clear hb gc1_m k2; omega))) | skip
    refine g_aload_n dX11_turn_17 rfl ?_
    refine g_iconst dX11_turn_18 ?_
    refine g_vI (av := [vI 3]) (o := 0) (st := []) (m_X11_refuse G P 3 (by decide) hB  _ (fun rc3 hc3 Pc3 hBc3 hFc3 => ⟨rc3, rfl, ?_⟩)) cf_X11_refuse t_663 rfl (show kx 0 0 from (⟨by decide, rfl⟩ : kx 0 0)).1 ((show kx 0 0 from (⟨by decide, rfl⟩ : kx 0 0)).sh rfl) rfl rfl (Nat.le_of_ble_eq_true rfl) (by decide) rfl dX11_turn_19
    refine g_pop dX11_turn_22 rfl ?_
    refine g_iconst dX11_turn_23 ?_
    exact g_retI dX11_turn_24 rfl (hQ (-1) (by decide) _ hBc3 (FrX.c FrX.rf hFc3 rfl) (by (first | (clear hb gc1_m k2; omega) | (clear hb gc1_m; omega) | (clear hb k2; omega) | (clear gc1_m k2; omega) | (clear hb; omega) | omega)) (by rw [aTurn_n (by (first | (clear hb gc1_m k2; omega) | (clear hb gc1_m; omega) | (clear hb k2; omega) | (clear gc1_m k2; omega) | (clear hb; omega) | omega))]; exact (AX.fr (F := ([], [27])) z0 (FrX.c FrX.rf hFc3 rfl) rfl)))
  · have k2n : 1 ≤ rc1 := by (first | (clear hb gc1_m k2; omega) | (clear hb gc1_m; omega) | (clear hb k2; omega) | (clear gc1_m k2; omega) | (clear hb; omega) | omega)
    clear k2
    first | (revert r_gc1_m; intro r_gc1_m) | have r_gc1_m := (gc1_m.resolve_right (by (clear hb gc1_m; omega))) | have r_gc1_m := (gc1_m.resolve_left (by (clear hb gc1_m; omega))) | skip
    refine g_iload_n dX11_turn_7 rfl ?_
    refine g_if_lt (tgt := 17) dX11_turn_8 (by decide) ⟨by (first | (clear hb gc1_m; omega) | omega), by (first | (clear hb gc1_m; omega) | omega)⟩ (fun k4 => ?_) (fun k4 => ?_)
    · first | (revert r_gc1_m; intro r_gc1_m) | have r_gc1_m := (gc1_m.resolve_right (by (clear hb gc1_m k4; omega))) | have r_gc1_m := (gc1_m.resolve_left (by (clear hb gc1_m k4; omega))) | skip
      refine g_aload_n dX11_turn_17 rfl ?_
      refine g_iconst dX11_turn_18 ?_
      refine g_vI (av := [vI 3]) (o := 0) (st := []) (m_X11_refuse G P 3 (by decide) hB  _ (fun rc5 hc5 Pc5 hBc5 hFc5 => ⟨rc5, rfl, ?_⟩)) cf_X11_refuse t_663 rfl (show kx 0 0 from (⟨by decide, rfl⟩ : kx 0 0)).1 ((show kx 0 0 from (⟨by decide, rfl⟩ : kx 0 0)).sh rfl) rfl rfl (Nat.le_of_ble_eq_true rfl) (by decide) rfl dX11_turn_19
      refine g_pop dX11_turn_22 rfl ?_
      refine g_iconst dX11_turn_23 ?_
      exact g_retI dX11_turn_24 rfl (hQ (-1) (by decide) _ hBc5 (FrX.c FrX.rf hFc5 rfl) (by (first | (clear hb gc1_m k4; omega) | (clear hb gc1_m; omega) | (clear hb k4; omega) | (clear gc1_m k4; omega) | (clear hb; omega) | omega)) (by rw [aTurn_n (by (first | (clear hb gc1_m k4; omega) | (clear hb gc1_m; omega) | (clear hb k4; omega) | (clear gc1_m k4; omega) | (clear hb; omega) | omega))]; exact (AX.fr (F := ([], [27])) z0 (FrX.c FrX.rf hFc5 rfl) rfl)))
    · first | (revert r_gc1_m; intro r_gc1_m) | have r_gc1_m := (gc1_m.resolve_right (by (clear hb gc1_m k4; omega))) | have r_gc1_m := (gc1_m.resolve_left (by (clear hb gc1_m k4; omega))) | skip
      refine g_iload_n dX11_turn_11 rfl ?_
      refine g_bipush dX11_turn_12 (by decide) ?_
      refine g_icmp_lt (tgt := 25) dX11_turn_14 (by decide) ⟨by (first | (clear hb gc1_m k4; omega) | omega), by (first | (clear hb gc1_m k4; omega) | omega)⟩ (by decide) (fun k6 => ?_) (fun k6 => ?_)
      · first | (revert r_gc1_m; intro r_gc1_m) | have r_gc1_m := (gc1_m.resolve_right (by (clear hb gc1_m k4 k6; omega))) | have r_gc1_m := (gc1_m.resolve_left (by (clear hb gc1_m k4 k6; omega))) | skip
        refine g_aload_n dX11_turn_25 rfl ?_
        refine g_vV (av := []) (o := 0) (st := []) (f_X11_remember G P A k  hB p_wa (z0) _ (fun Pc7 hBc7 hFc7 ec7_0 => ⟨rfl, ?_⟩)) cf_X11_remember t_1254 rfl (show kx 0 0 from (⟨by decide, rfl⟩ : kx 0 0)).1 ((show kx 0 0 from (⟨by decide, rfl⟩ : kx 0 0)).sh rfl) rfl rfl (Nat.le_of_ble_eq_true rfl) (by decide) rfl dX11_turn_26
        have hpu := ec7_0
        have hpb := hpu.b
        have hp0 := aPush_0 A 0 (by decide)
        have hvk := hpb.2.1.trans (aPush_0 A 1 (by decide))
        refine g_aload_n dX11_turn_29 rfl ?_
        refine x_g0_5 (n := 14) (⟨by decide, rfl⟩ : kx 0 0) ffX11_43 dX11_turn_30 rfl ?_
        refine g_dup dX11_turn_33 rfl ?_
        refine x_g14_2 (z := (Pc7 14 2)) (⟨by decide, rfl⟩ : kx 14 14) ffX11_177 dX11_turn_34 rfl ?_
        refine g_iconst dX11_turn_37 ?_
        refine g_iload_n dX11_turn_38 rfl ?_
        refine g_ishl dX11_turn_39 ?_
        refine g_nm (fun b8 e_b8 => ?_)
        have h_b8 : 1 ≤ (ishl 1 a1) ∧ (ishl 1 a1) ≤ 128 := (ishl1 7 (by decide) (y := a1) ⟨by (first | (clear hb gc1_m k4 k6 hpb; omega) | omega), by (first | (clear hb gc1_m k4 k6 hpb; omega) | omega)⟩).2
        rw [← e_b8] at h_b8
        refine g_ixor dX11_turn_40 ?_
        refine g_nm (fun b9 e_b9 => ?_)
        have h_b9 := ixor_ir (Pc7 14 2) b8
        rw [← e_b9] at h_b9
        have hc9 : b9 = ixor (A 0 1) (ishl 1 a1) := by rw [e_b9, e_b8, hvk]
        refine x_p14_2 (⟨by decide, rfl⟩ : kx 14 14) pfX11_177 dX11_turn_41 ?_
        have hB10 := by_14_2 (z := b9) hBc7 (⟨by decide, rfl⟩ : kx 14 14) ⟨by (first | (clear hb gc1_m k4 k6 hpb; omega) | omega), by (first | (clear hb gc1_m k4 k6 hpb; omega) | omega)⟩
        refine g_aload_n dX11_turn_44 rfl ?_
        refine x_g0_5 (n := 14) (⟨by decide, rfl⟩ : kx 0 0) ffX11_43 dX11_turn_45 rfl ?_
        refine x_g14_2 (z := b9) (⟨by decide, rfl⟩ : kx 14 14) ffX11_177 dX11_turn_48 up_same ?_
        refine g_iload_n dX11_turn_51 rfl ?_
        have h01 := iand_r (x := ishr (ixor (A 0 1) (ishl 1 a1)) a1) (y := 1) (by decide)
        refine g_sI (av := [vI b9, vI a1]) (st := []) (f_X11_isIn G (up Pc7 14 2 b9) b9 a1 ⟨by (first | (clear hb gc1_m k4 k6 hpb; omega) | omega), by (first | (clear hb gc1_m k4 k6 hpb; omega) | omega)⟩ ⟨by (first | (clear hb gc1_m k4 k6 hpb; omega) | omega), by (first | (clear hb gc1_m k4 k6 hpb; omega) | omega)⟩ hB10  _ (fun rc11 hc11 gc11_i => ⟨rc11, rfl, ?_⟩)) cf_X11_isIn t_967 rfl (Nat.le_of_ble_eq_true rfl) (by decide) rfl dX11_turn_52
        have hi9 := gc11_i
        rw [hc9] at hi9
        refine g_if_eq (tgt := 62) dX11_turn_55 (by decide) ⟨by (first | (clear hb gc1_m k4 k6 hpb gc11_i hi9; omega) | omega), by (first | (clear hb gc1_m k4 k6 hpb gc11_i hi9; omega) | omega)⟩ (fun k12 => ?_) (fun k12 => ?_)
        · first | (revert r_hi9; intro r_hi9) | have r_hi9 := (hi9.resolve_right (by (clear hb gc1_m k4 k6 hpb gc11_i hi9 k12; omega))) | have r_hi9 := (hi9.resolve_left (by (clear hb gc1_m k4 k6 hpb gc11_i hi9 k12; omega))) | skip
          first | (revert r_gc11_i; intro r_gc11_i) | have r_gc11_i := (gc11_i.resolve_right (by (clear hb gc1_m k4 k6 hpb gc11_i hi9 k12; omega))) | have r_gc11_i := (gc11_i.resolve_left (by (clear hb gc1_m k4 k6 hpb gc11_i hi9 k12; omega))) | skip
          first | (revert r_gc1_m; intro r_gc1_m) | have r_gc1_m := (gc1_m.resolve_right (by (clear hb gc1_m k4 k6 hpb gc11_i hi9 k12; omega))) | have r_gc1_m := (gc1_m.resolve_left (by (clear hb gc1_m k4 k6 hpb gc11_i hi9 k12; omega))) | skip
          refine g_iconst dX11_turn_62 ?_
          exact g_retI dX11_turn_63 rfl (hQ 0 (by decide) _ hB10 (FrX.s (FrX.c FrX.rf hFc7 rfl) (⟨by decide, rfl⟩ : kx 14 14) rfl) (by (first | (clear hb gc1_m k4 k6 hpb gc11_i hi9 k12; omega) | (clear hb gc1_m k4 k6 hpb gc11_i hi9; omega) | (clear hb gc1_m k4 k6 hpb gc11_i k12; omega) | (clear hb gc1_m k4 k6 hpb hi9 k12; omega) | (clear hb gc1_m k4 k6 gc11_i hi9 k12; omega) | (clear hb gc1_m k4 hpb gc11_i hi9 k12; omega) | (clear hb gc1_m k6 hpb gc11_i hi9 k12; omega) | (clear hb k4 k6 hpb gc11_i hi9 k12; omega) | (clear gc1_m k4 k6 hpb gc11_i hi9 k12; omega) | (clear hb gc1_m k4 k6 hpb gc11_i; omega) | (clear k6 k4 gc1_m hb; omega) | omega)) (by rw [aTurn_y ⟨by (first | (clear hb gc1_m k4 k6 hpb gc11_i hi9 k12; omega) | (clear hb gc1_m k4 k6 hpb gc11_i hi9; omega) | (clear hb gc1_m k4 k6 hpb gc11_i k12; omega) | (clear hb gc1_m k4 k6 hpb hi9 k12; omega) | (clear hb gc1_m k4 k6 gc11_i hi9 k12; omega) | (clear hb gc1_m k4 hpb gc11_i hi9 k12; omega) | (clear hb gc1_m k6 hpb gc11_i hi9 k12; omega) | (clear hb k4 k6 hpb gc11_i hi9 k12; omega) | (clear gc1_m k4 k6 hpb gc11_i hi9 k12; omega) | (clear hb gc1_m k4 k6 hpb gc11_i; omega) | (clear k6 k4 gc1_m hb; omega) | omega), by (first | (clear hb gc1_m k4 k6 hpb gc11_i hi9 k12; omega) | (clear hb gc1_m k4 k6 hpb gc11_i hi9; omega) | (clear hb gc1_m k4 k6 hpb gc11_i k12; omega) | (clear hb gc1_m k4 k6 hpb hi9 k12; omega) | (clear hb gc1_m k4 k6 gc11_i hi9 k12; omega) | (clear hb gc1_m k4 hpb gc11_i hi9 k12; omega) | (clear hb gc1_m k6 hpb gc11_i hi9 k12; omega) | (clear hb k4 k6 hpb gc11_i hi9 k12; omega) | (clear gc1_m k4 k6 hpb gc11_i hi9 k12; omega) | (clear hb gc1_m k4 k6 hpb gc11_i; omega) | (clear k6 k4 gc1_m hb; omega) | omega), by (first | (clear hb gc1_m k4 k6 hpb gc11_i hi9 k12; omega) | (clear hb gc1_m k4 k6 hpb gc11_i hi9; omega) | (clear hb gc1_m k4 k6 hpb gc11_i k12; omega) | (clear hb gc1_m k4 k6 hpb hi9 k12; omega) | (clear hb gc1_m k4 k6 gc11_i hi9 k12; omega) | (clear hb gc1_m k4 hpb gc11_i hi9 k12; omega) | (clear hb gc1_m k6 hpb gc11_i hi9 k12; omega) | (clear hb k4 k6 hpb gc11_i hi9 k12; omega) | (clear gc1_m k4 k6 hpb gc11_i hi9 k12; omega) | (clear hb gc1_m k4 k6 hpb gc11_i; omega) | (clear k6 k4 gc1_m hb; omega) | omega)⟩]; exact AX.on hpu (Eq.trans up_same hc9) (up_k (by decide)) (up_k (by decide)) (KO.w KO.rf (Or.inl rfl)) (FrX.s FrX.rf (⟨by decide, rfl⟩ : kx 14 14) rfl)))
        · have k12n : 1 ≤ rc11 := by (first | (clear hb gc1_m k4 k6 hpb gc11_i hi9 k12; omega) | (clear hb gc1_m k4 k6 hpb gc11_i hi9; omega) | (clear hb gc1_m k4 k6 hpb gc11_i k12; omega) | (clear hb gc1_m k4 k6 hpb hi9 k12; omega) | (clear hb gc1_m k4 k6 gc11_i hi9 k12; omega) | (clear hb gc1_m k4 hpb gc11_i hi9 k12; omega) | (clear hb gc1_m k6 hpb gc11_i hi9 k12; omega) | (clear hb k4 k6 hpb gc11_i hi9 k12; omega) | (clear gc1_m k4 k6 hpb gc11_i hi9 k12; omega) | (clear hb gc1_m k4 k6 hpb gc11_i; omega) | (clear k6 k4 gc1_m hb; omega) | omega)
          clear k12
          first | (revert r_hi9; intro r_hi9) | have r_hi9 := (hi9.resolve_right (by (clear hb gc1_m k4 k6 hpb gc11_i hi9; omega))) | have r_hi9 := (hi9.resolve_left (by (clear hb gc1_m k4 k6 hpb gc11_i hi9; omega))) | skip
          first | (revert r_gc11_i; intro r_gc11_i) | have r_gc11_i := (gc11_i.resolve_right (by (clear hb gc1_m k4 k6 hpb gc11_i hi9; omega))) | have r_gc11_i := (gc11_i.resolve_left (by (clear hb gc1_m k4 k6 hpb gc11_i hi9; omega))) | skip
          first | (revert r_gc1_m; intro r_gc1_m) | have r_gc1_m := (gc1_m.resolve_right (by (clear hb gc1_m k4 k6 hpb gc11_i hi9; omega))) | have r_gc1_m := (gc1_m.resolve_left (by (clear hb gc1_m k4 k6 hpb gc11_i hi9; omega))) | skip
          refine g_iconst dX11_turn_58 ?_
          refine g_goto (tgt := 63) dX11_turn_59 (by decide) ?_
          exact g_retI dX11_turn_63 rfl (hQ 1 (by decide) _ hB10 (FrX.s (FrX.c FrX.rf hFc7 rfl) (⟨by decide, rfl⟩ : kx 14 14) rfl) (by (first | (clear hb gc1_m k4 k6 hpb gc11_i hi9; omega) | (clear hb gc1_m k4 k6 hpb gc11_i; omega) | (clear hb gc1_m k4 k6 hpb hi9; omega) | (clear hb gc1_m k4 k6 gc11_i hi9; omega) | (clear hb gc1_m k4 hpb gc11_i hi9; omega) | (clear hb gc1_m k6 hpb gc11_i hi9; omega) | (clear hb k4 k6 hpb gc11_i hi9; omega) | (clear gc1_m k4 k6 hpb gc11_i hi9; omega) | (clear hb gc1_m k4 k6 hpb; omega) | (clear k4 gc1_m hb; omega) | omega)) (by rw [aTurn_y ⟨by (first | (clear hb gc1_m k4 k6 hpb gc11_i hi9; omega) | (clear hb gc1_m k4 k6 hpb gc11_i; omega) | (clear hb gc1_m k4 k6 hpb hi9; omega) | (clear hb gc1_m k4 k6 gc11_i hi9; omega) | (clear hb gc1_m k4 hpb gc11_i hi9; omega) | (clear hb gc1_m k6 hpb gc11_i hi9; omega) | (clear hb k4 k6 hpb gc11_i hi9; omega) | (clear gc1_m k4 k6 hpb gc11_i hi9; omega) | (clear hb gc1_m k4 k6 hpb; omega) | (clear k4 gc1_m hb; omega) | omega), by (first | (clear hb gc1_m k4 k6 hpb gc11_i hi9; omega) | (clear hb gc1_m k4 k6 hpb gc11_i; omega) | (clear hb gc1_m k4 k6 hpb hi9; omega) | (clear hb gc1_m k4 k6 gc11_i hi9; omega) | (clear hb gc1_m k4 hpb gc11_i hi9; omega) | (clear hb gc1_m k6 hpb gc11_i hi9; omega) | (clear hb k4 k6 hpb gc11_i hi9; omega) | (clear gc1_m k4 k6 hpb gc11_i hi9; omega) | (clear hb gc1_m k4 k6 hpb; omega) | (clear k4 gc1_m hb; omega) | omega), by (first | (clear hb gc1_m k4 k6 hpb gc11_i hi9; omega) | (clear hb gc1_m k4 k6 hpb gc11_i; omega) | (clear hb gc1_m k4 k6 hpb hi9; omega) | (clear hb gc1_m k4 k6 gc11_i hi9; omega) | (clear hb gc1_m k4 hpb gc11_i hi9; omega) | (clear hb gc1_m k6 hpb gc11_i hi9; omega) | (clear hb k4 k6 hpb gc11_i hi9; omega) | (clear gc1_m k4 k6 hpb gc11_i hi9; omega) | (clear hb gc1_m k4 k6 hpb; omega) | (clear k4 gc1_m hb; omega) | omega)⟩]; exact AX.on hpu (Eq.trans up_same hc9) (up_k (by decide)) (up_k (by decide)) (KO.w KO.rf (Or.inl rfl)) (FrX.s FrX.rf (⟨by decide, rfl⟩ : kx 14 14) rfl)))
      · first | (revert r_gc1_m; intro r_gc1_m) | have r_gc1_m := (gc1_m.resolve_right (by (clear hb gc1_m k4 k6; omega))) | have r_gc1_m := (gc1_m.resolve_left (by (clear hb gc1_m k4 k6; omega))) | skip
        refine g_aload_n dX11_turn_17 rfl ?_
        refine g_iconst dX11_turn_18 ?_
        refine g_vI (av := [vI 3]) (o := 0) (st := []) (m_X11_refuse G P 3 (by decide) hB  _ (fun rc13 hc13 Pc13 hBc13 hFc13 => ⟨rc13, rfl, ?_⟩)) cf_X11_refuse t_663 rfl (show kx 0 0 from (⟨by decide, rfl⟩ : kx 0 0)).1 ((show kx 0 0 from (⟨by decide, rfl⟩ : kx 0 0)).sh rfl) rfl rfl (Nat.le_of_ble_eq_true rfl) (by decide) rfl dX11_turn_19
        refine g_pop dX11_turn_22 rfl ?_
        refine g_iconst dX11_turn_23 ?_
        exact g_retI dX11_turn_24 rfl (hQ (-1) (by decide) _ hBc13 (FrX.c FrX.rf hFc13 rfl) (by (first | (clear hb gc1_m k4 k6; omega) | (clear hb gc1_m k4; omega) | (clear hb gc1_m k6; omega) | (clear hb k4 k6; omega) | (clear gc1_m k4 k6; omega) | (clear hb gc1_m; omega) | omega)) (by rw [aTurn_n (by (first | (clear hb gc1_m k4 k6; omega) | (clear hb gc1_m k4; omega) | (clear hb gc1_m k6; omega) | (clear hb k4 k6; omega) | (clear gc1_m k4 k6; omega) | (clear hb gc1_m; omega) | omega))]; exact (AX.fr (F := ([], [27])) z0 (FrX.c FrX.rf hFc13 rfl) rfl)))
/-! What the class answers: X11_undo. -/
set_option maxRecDepth 100000 in
set_option maxHeartbeats 4000000 in
theorem f_X11_undo (G : GT) (P : PH) (A : PH) (k : Int) (hB : BdX P) (p_wa : WA k A) (z0 : AX A P) (Q : Option PV → PH → Prop) (hQ : ∀ (r : Int) (_ : 0 ≤ r ∧ r ≤ 1) (P1 : PH) (_ : BdX P1) (_ : FrX ([(14, 1), (14, 2), (14, 3), (16, 5), (16, 6), (16, 7)], [15, 27]) P P1) (_ : (A 0 4 ≤ 0 ∧ r = 0) ∨ (0 < A 0 4 ∧ r = 1)) (_ : AX (aUndo A) P1), Q (some (vI r)) P1) : Ct WSX G 3 iX11_undo [vR 0] P Q := by
  refine Ct.of (by decide) (l0 := [(0, vR 0)]) rfl (Nat.le_of_ble_eq_true rfl) ?_
  have hb := z0.b
  have hw4 := p_wa.2.1
  refine g_aload_n dX11_undo_0 rfl ?_
  refine x_g0_7 (n := 18) (⟨by decide, rfl⟩ : kx 0 0) ffX11_53 dX11_undo_1 rfl ?_
  refine x_g16_7 (z := (P 18 7)) (⟨by decide, rfl⟩ : kx 18 16) ffX11_185 dX11_undo_4 rfl ?_
  have f1 := bx_16_7 (o := 18) hB (⟨by decide, rfl⟩ : kx 18 16)
  refine g_if_ne (tgt := 16) dX11_undo_7 (by decide) ⟨by have q0 := bx_16_7 (o := 18) hB (⟨by decide, rfl⟩ : kx 18 16); (first | (clear hb; omega) | omega), by have q0 := bx_16_7 (o := 18) hB (⟨by decide, rfl⟩ : kx 18 16); (first | (clear hb; omega) | omega)⟩ (fun k2 => ?_) (fun k2 => ?_)
  · have k2n : 1 ≤ (P 18 7) := by have q0 := bx_16_7 (o := 18) hB (⟨by decide, rfl⟩ : kx 18 16); (first | (clear hb k2; omega) | (clear hb; omega) | (clear k2; omega) | omega)
    clear k2
    refine g_aload_n dX11_undo_16 rfl ?_
    refine x_g0_7 (n := 18) (⟨by decide, rfl⟩ : kx 0 0) ffX11_53 dX11_undo_17 rfl ?_
    refine g_aload_n dX11_undo_20 rfl ?_
    refine x_g0_5 (n := 14) (⟨by decide, rfl⟩ : kx 0 0) ffX11_43 dX11_undo_21 rfl ?_
    refine g_vV (av := [vR 14]) (o := 18) (st := []) (f_X0_takeBack G P A k 14 (⟨by decide, rfl⟩ : kx 14 14) hB p_wa (rfl) (by (first | (clear hb; omega) | omega)) (z0) _ (fun Pc3 hBc3 hFc3 ec3_0 => ⟨rfl, ?_⟩)) cf_X0_takeBack t_1313 rfl (show kx 18 16 from (⟨by decide, rfl⟩ : kx 18 16)).1 ((show kx 18 16 from (⟨by decide, rfl⟩ : kx 18 16)).sh rfl) rfl rfl (Nat.le_of_ble_eq_true rfl) (by decide) rfl dX11_undo_24
    refine g_iconst dX11_undo_27 ?_
    exact g_retZ dX11_undo_28 rfl (by decide) (hQ 1 (by decide) _ hBc3 (FrX.c FrX.rf hFc3 rfl) (by (first | (clear hb; omega) | omega)) (by rw [aUndo_y (by (first | (clear hb; omega) | omega))]; exact ec3_0))
  · refine g_aload_n dX11_undo_10 rfl ?_
    refine g_iconst dX11_undo_11 ?_
    refine g_vI (av := [vI 4]) (o := 0) (st := []) (m_X11_refuse G P 4 (by decide) hB  _ (fun rc4 hc4 Pc4 hBc4 hFc4 => ⟨rc4, rfl, ?_⟩)) cf_X11_refuse t_663 rfl (show kx 0 0 from (⟨by decide, rfl⟩ : kx 0 0)).1 ((show kx 0 0 from (⟨by decide, rfl⟩ : kx 0 0)).sh rfl) rfl rfl (Nat.le_of_ble_eq_true rfl) (by decide) rfl dX11_undo_12
    exact g_retZ dX11_undo_15 rfl (by (first | (clear hb k2; omega) | (clear hb; omega) | (clear k2; omega) | omega)) (hQ rc4 ⟨by (first | (clear hb k2; omega) | omega), by (first | (clear hb k2; omega) | omega)⟩ _ hBc4 (FrX.c FrX.rf hFc4 rfl) (by (first | (clear hb k2; omega) | (clear hb; omega) | (clear k2; omega) | omega)) (by rw [aUndo_n (by (first | (clear hb k2; omega) | (clear hb; omega) | (clear k2; omega) | omega))]; exact (AX.fr (F := ([], [27])) z0 (FrX.c FrX.rf hFc4 rfl) rfl)))
/-! What the class answers: X5_isPlace. -/
set_option maxRecDepth 100000 in
set_option maxHeartbeats 4000000 in
theorem f_X5_isPlace (G : GT) (P : PH) (o0 : Nat) (a1 : Int) (k_o0 : kx o0 14) (h_a1 : (-2147483648) ≤ a1 ∧ a1 ≤ 2147483647) (hB : BdX P) (Q : Option PV → PH → Prop) (hQ : ∀ (r : Int) (_ : 0 ≤ r ∧ r ≤ 1) (_ : r = 0 ∨ (0 ≤ a1 ∧ a1 < P o0 1)) (_ : (r = 1 ∧ 0 ≤ a1 ∧ a1 < P o0 1) ∨ (r = 0 ∧ (a1 < 0 ∨ P o0 1 ≤ a1))), Q (some (vI r)) P) : Ct WSX G 1 iX5_isPlace [vR o0, vI a1] P Q := by
  refine Ct.of (by decide) (l0 := [(0, vR o0), (1, vI a1)]) rfl (Nat.le_of_ble_eq_true rfl) ?_
  refine g_iload_n dX5_isPlace_0 rfl ?_
  refine g_if_lt (tgt := 16) dX5_isPlace_1 (by decide) ⟨by omega, by omega⟩ (fun k1 => ?_) (fun k1 => ?_)
  · refine g_iconst dX5_isPlace_16 ?_
    exact g_retZ dX5_isPlace_17 rfl (by decide) (hQ 0 (by decide) (by (first | (clear k1; omega) | omega)) (by (first | (clear k1; omega) | omega)))
  · refine g_iload_n dX5_isPlace_4 rfl ?_
    refine g_aload_n dX5_isPlace_5 rfl ?_
    refine x_g14_1 (z := (P o0 1)) k_o0 ffX5_24 dX5_isPlace_6 rfl ?_
    have f2 := bx_14_1 (o := o0) hB k_o0
    refine g_icmp_ge (tgt := 16) dX5_isPlace_9 (by decide) ⟨by (first | (clear k1; omega) | omega), by (first | (clear k1; omega) | omega)⟩ ⟨by have q0 := bx_14_1 (o := o0) hB k_o0; (first | (clear k1; omega) | omega), by have q0 := bx_14_1 (o := o0) hB k_o0; (first | (clear k1; omega) | omega)⟩ (fun k3 => ?_) (fun k3 => ?_)
    · refine g_iconst dX5_isPlace_16 ?_
      exact g_retZ dX5_isPlace_17 rfl (by decide) (hQ 0 (by decide) (by (first | (clear k1 k3; omega) | (clear k1; omega) | (clear k3; omega) | omega)) (by (first | (clear k1 k3; omega) | (clear k1; omega) | (clear k3; omega) | omega)))
    · refine g_iconst dX5_isPlace_12 ?_
      refine g_goto (tgt := 17) dX5_isPlace_13 (by decide) ?_
      exact g_retZ dX5_isPlace_17 rfl (by decide) (hQ 1 (by decide) (by (first | (clear k1 k3; omega) | (clear k1; omega) | (clear k3; omega) | omega)) (by (first | (clear k1 k3; omega) | (clear k1; omega) | (clear k3; omega) | omega)))
/-! What the class answers: X5_armAt. -/
set_option maxRecDepth 100000 in
set_option maxHeartbeats 4000000 in
theorem f_X5_armAt (G : GT) (P : PH) (o0 : Nat) (a1 : Int) (k_o0 : kx o0 14) (h_a1 : (-2147483648) ≤ a1 ∧ a1 ≤ 2147483647) (hB : BdX P) (Q : Option PV → PH → Prop) (hQ : ∀ (r : Int) (_ : (-1) ≤ r ∧ r ≤ 255) (_ : (0 ≤ a1 ∧ a1 < P o0 1 ∧ r = P (crX o0 0) a1) ∨ ((a1 < 0 ∨ P o0 1 ≤ a1) ∧ r = -1)), Q (some (vI r)) P) : Ct WSX G 2 iX5_armAt [vR o0, vI a1] P Q := by
  refine Ct.of (by decide) (l0 := [(0, vR o0), (1, vI a1)]) rfl (Nat.le_of_ble_eq_true rfl) ?_
  refine g_aload_n dX5_armAt_0 rfl ?_
  refine g_iload_n dX5_armAt_1 rfl ?_
  refine g_vI (av := [vI a1]) (o := o0) (st := []) (f_X5_isPlace G P o0 a1 k_o0 ⟨by omega, by omega⟩ hB  _ (fun rc1 hc1 gc1_k gc1_f => ⟨rc1, rfl, ?_⟩)) cf_X5_isPlace t_950 rfl (show kx o0 14 from k_o0).1 ((show kx o0 14 from k_o0).sh rfl) rfl rfl (Nat.le_of_ble_eq_true rfl) (by decide) rfl dX5_armAt_2
  have f2 := bx_14_1 (o := o0) hB k_o0
  refine g_if_eq (tgt := 17) dX5_armAt_5 (by decide) ⟨by (first | (clear gc1_k gc1_f; omega) | omega), by (first | (clear gc1_k gc1_f; omega) | omega)⟩ (fun k3 => ?_) (fun k3 => ?_)
  · first | (revert r_gc1_f; intro r_gc1_f) | have r_gc1_f := (gc1_f.resolve_right (by (clear gc1_k gc1_f k3; omega))) | have r_gc1_f := (gc1_f.resolve_left (by (clear gc1_k gc1_f k3; omega))) | skip
    first | (revert r_gc1_k; intro r_gc1_k) | have r_gc1_k := (gc1_k.resolve_right (by (clear gc1_k gc1_f k3; omega))) | have r_gc1_k := (gc1_k.resolve_left (by (clear gc1_k gc1_f k3; omega))) | skip
    refine g_iconst dX5_armAt_17 ?_
    exact g_retI dX5_armAt_18 rfl (hQ (-1) (by decide) (by (first | (clear gc1_k gc1_f k3; omega) | (clear gc1_k gc1_f; omega) | (clear gc1_k k3; omega) | (clear gc1_f k3; omega) | (clear gc1_k; omega) | omega)))
  · have k3n : 1 ≤ rc1 := by (first | (clear gc1_k gc1_f k3; omega) | (clear gc1_k gc1_f; omega) | (clear gc1_k k3; omega) | (clear gc1_f k3; omega) | (clear gc1_k; omega) | omega)
    clear k3
    first | (revert r_gc1_f; intro r_gc1_f) | have r_gc1_f := (gc1_f.resolve_right (by (clear gc1_k gc1_f; omega))) | have r_gc1_f := (gc1_f.resolve_left (by (clear gc1_k gc1_f; omega))) | skip
    first | (revert r_gc1_k; intro r_gc1_k) | have r_gc1_k := (gc1_k.resolve_right (by (clear gc1_k gc1_f; omega))) | have r_gc1_k := (gc1_k.resolve_left (by (clear gc1_k gc1_f; omega))) | skip
    refine g_aload_n dX5_armAt_8 rfl ?_
    refine x_g14_0 (n := (crX o0 0)) k_o0 ffX5_9 dX5_armAt_9 rfl ?_
    refine g_iload_n dX5_armAt_12 rfl ?_
    refine x_l15 (z := (P (crX o0 0) a1)) (ck_14_0 k_o0) dX5_armAt_13 ⟨by (first | (clear gc1_k gc1_f; omega) | omega), by (first | (clear gc1_k gc1_f; omega) | omega)⟩ rfl ?_
    refine g_goto (tgt := 18) dX5_armAt_14 (by decide) ?_
    exact g_retI dX5_armAt_18 rfl (hQ (P (crX o0 0) a1) ⟨by have q0 := bx_15 (o := (crX o0 0)) (k := a1) hB (ck_14_0 k_o0); (first | (clear gc1_k gc1_f; omega) | omega), by have q0 := bx_15 (o := (crX o0 0)) (k := a1) hB (ck_14_0 k_o0); (first | (clear gc1_k gc1_f; omega) | omega)⟩ (by have q0 := bx_15 (o := (crX o0 0)) (k := a1) hB (ck_14_0 k_o0); (first | (clear gc1_k gc1_f; omega) | (clear gc1_k; omega) | (clear gc1_f; omega) | omega)))
/-! What the class answers: X11_runRow. -/
set_option maxRecDepth 100000 in
set_option maxHeartbeats 4000000 in
theorem f_X11_runRow (G : GT) (P : PH) (A : PH) (a1 : Int) (h_a1 : (-2147483648) ≤ a1 ∧ a1 ≤ 2147483647) (hB : BdX P) (p_kb : 0 ≤ A 0 3 ∧ A 0 3 ≤ 2000000) (z0 : AX A P) (Q : Option PV → PH → Prop) (hQ : ∀ (r : Int) (_ : (-2147483648) ≤ r ∧ r ≤ 2147483647) (P1 : PH) (_ : BdX P1) (_ : FrX ([(5, 2), (16, 5), (51, 12), (51, 14)], [6, 17, 18, 19]) P P1) (_ : AX (up A 0 3 (A 0 3 + 1)) P1), Q (some (vI r)) P1) : Ct WSX G 6 iX11_runRow [vR 0, vI a1] P Q := by
  refine Ct.of (by decide) (l0 := [(0, vR 0), (1, vI a1)]) rfl (Nat.le_of_ble_eq_true rfl) ?_
  have hb := z0.b
  refine g_aload_n dX11_runRow_0 rfl ?_
  refine x_g0_5 (n := 14) (⟨by decide, rfl⟩ : kx 0 0) ffX11_43 dX11_runRow_1 rfl ?_
  refine g_aload_n dX11_runRow_4 rfl ?_
  refine x_g0_10 (n := (P 0 10).toNat) (⟨by decide, rfl⟩ : kx 0 0) ffX11_71 dX11_runRow_5 (br_0_10 hB) ?_
  refine g_aload_n dX11_runRow_8 rfl ?_
  refine x_g0_10 (n := (P 0 10).toNat) (⟨by decide, rfl⟩ : kx 0 0) ffX11_71 dX11_runRow_9 (br_0_10 hB) ?_
  refine g_iload_n dX11_runRow_12 rfl ?_
  refine g_vI (av := [vI a1]) (o := (P 0 10).toNat) (st := [vR (P 0 10).toNat, vR 14]) (m_X9_armsOf G P (P 0 10).toNat a1 (bk_0_10 hB) ⟨by (first | (clear hb; omega) | omega), by (first | (clear hb; omega) | omega)⟩ hB  _ (fun rc1 hc1 => ⟨rc1, rfl, ?_⟩)) cf_X9_armsOf t_1004 rfl (show kx (P 0 10).toNat 28 from (bk_0_10 hB)).1 ((show kx (P 0 10).toNat 28 from (bk_0_10 hB)).sh rfl) rfl rfl (Nat.le_of_ble_eq_true rfl) (by decide) rfl dX11_runRow_13
  refine g_aload_n dX11_runRow_16 rfl ?_
  refine x_g0_5 (n := 14) (⟨by decide, rfl⟩ : kx 0 0) ffX11_43 dX11_runRow_17 rfl ?_
  refine x_g14_2 (z := (P 14 2)) (⟨by decide, rfl⟩ : kx 14 14) ffX11_177 dX11_runRow_20 rfl ?_
  have f2 := bx_14_2 (o := 14) hB (⟨by decide, rfl⟩ : kx 14 14)
  refine g_vI (av := [vR (P 0 10).toNat, vI rc1, vI (P 14 2)]) (o := 14) (st := []) (m_X5_placeTaking G P 14 (P 0 10).toNat rc1 (P 14 2) (⟨by decide, rfl⟩ : kx 14 14) (bk_0_10 hB) ⟨by (first | (clear hb; omega) | omega), by (first | (clear hb; omega) | omega)⟩ ⟨by have q0 := bx_14_2 (o := 14) hB (⟨by decide, rfl⟩ : kx 14 14); (first | (clear hb; omega) | omega), by have q0 := bx_14_2 (o := 14) hB (⟨by decide, rfl⟩ : kx 14 14); (first | (clear hb; omega) | omega)⟩ hB  _ (fun rc3 hc3 => ⟨rc3, rfl, ?_⟩)) cf_X5_placeTaking t_978 rfl (show kx 14 14 from (⟨by decide, rfl⟩ : kx 14 14)).1 ((show kx 14 14 from (⟨by decide, rfl⟩ : kx 14 14)).sh rfl) rfl rfl (Nat.le_of_ble_eq_true rfl) (by decide) rfl dX11_runRow_23
  refine g_istore_n (l1 := [(2, vI rc3), (0, vR 0), (1, vI a1)]) dX11_runRow_26 (by decide) rfl ?_
  refine g_aload_n dX11_runRow_27 rfl ?_
  refine x_g0_7 (n := 18) (⟨by decide, rfl⟩ : kx 0 0) ffX11_53 dX11_runRow_28 rfl ?_
  refine g_iload_n dX11_runRow_31 rfl ?_
  refine g_aload_n dX11_runRow_32 rfl ?_
  refine x_g0_5 (n := 14) (⟨by decide, rfl⟩ : kx 0 0) ffX11_43 dX11_runRow_33 rfl ?_
  refine g_iload_n dX11_runRow_36 rfl ?_
  refine g_vI (av := [vI rc3]) (o := 14) (st := [vI a1, vR 18]) (f_X5_armAt G P 14 rc3 (⟨by decide, rfl⟩ : kx 14 14) ⟨by (first | (clear hb; omega) | omega), by (first | (clear hb; omega) | omega)⟩ hB  _ (fun rc4 hc4 gc4_t => ⟨rc4, rfl, ?_⟩)) cf_X5_armAt t_946 rfl (show kx 14 14 from (⟨by decide, rfl⟩ : kx 14 14)).1 ((show kx 14 14 from (⟨by decide, rfl⟩ : kx 14 14)).sh rfl) rfl rfl (Nat.le_of_ble_eq_true rfl) (by decide) rfl dX11_runRow_37
  refine g_aload_n dX11_runRow_40 rfl ?_
  refine x_g0_13 (n := 125) (⟨by decide, rfl⟩ : kx 0 0) ffX11_92 dX11_runRow_41 rfl ?_
  refine g_aload_n dX11_runRow_44 rfl ?_
  refine x_g0_5 (n := 14) (⟨by decide, rfl⟩ : kx 0 0) ffX11_43 dX11_runRow_45 rfl ?_
  refine g_iload_n dX11_runRow_48 rfl ?_
  refine g_vI (av := [vR 14, vI a1]) (o := 125) (st := [vI rc4, vI a1, vR 18]) (m_X10_columnsAsked G P 14 a1 (⟨by decide, rfl⟩ : kx 14 14) ⟨by (first | (clear hb gc4_t; omega) | omega), by (first | (clear hb gc4_t; omega) | omega)⟩ hB  _ (fun rc5 hc5 Pc5 hBc5 hFc5 => ⟨rc5, rfl, ?_⟩)) cf_X10_columnsAsked t_1270 rfl (show kx 125 51 from (⟨by decide, rfl⟩ : kx 125 51)).1 ((show kx 125 51 from (⟨by decide, rfl⟩ : kx 125 51)).sh rfl) rfl rfl (Nat.le_of_ble_eq_true rfl) (by decide) rfl dX11_runRow_49
  refine g_vV (av := [vI a1, vI rc4, vI rc5]) (o := 18) (st := []) (f_X0_keep G Pc5 a1 rc4 rc5 ⟨by (first | (clear hb gc4_t; omega) | omega), by (first | (clear hb gc4_t; omega) | omega)⟩ ⟨by (first | (clear hb gc4_t; omega) | omega), by (first | (clear hb gc4_t; omega) | omega)⟩ ⟨by (first | (clear hb gc4_t; omega) | omega), by (first | (clear hb gc4_t; omega) | omega)⟩ hBc5 (by have q0 := (((FrX.g hFc5 (⟨by decide, rfl⟩ : kx 18 16) rfl).trans rfl) : Pc5 18 5 = (P 18 5)); have q1 := bx_16_5 (o := 18) hB (⟨by decide, rfl⟩ : kx 18 16); (first | (clear hb gc4_t; omega) | (clear hb; omega) | (clear gc4_t; omega) | omega)) _ (fun Pc6 hBc6 hFc6 gc6_kc => ⟨rfl, ?_⟩)) cf_X0_keep t_1275 rfl (show kx 18 16 from (⟨by decide, rfl⟩ : kx 18 16)).1 ((show kx 18 16 from (⟨by decide, rfl⟩ : kx 18 16)).sh rfl) rfl rfl (Nat.le_of_ble_eq_true rfl) (by decide) rfl dX11_runRow_52
  have zq7 : Pc5 18 5 = (P 18 5) := ((FrX.g hFc5 (⟨by decide, rfl⟩ : kx 18 16) rfl).trans rfl)
  refine g_iload_n dX11_runRow_55 rfl ?_
  exact g_retI dX11_runRow_56 rfl (hQ rc3 ⟨by (first | (clear hb gc4_t; omega) | omega), by (first | (clear hb gc4_t; omega) | omega)⟩ _ hBc6 (FrX.c (FrX.c FrX.rf hFc5 rfl) hFc6 rfl) (AX.k3 (F := ([(5, 2), (16, 5), (51, 12), (51, 14)], [6, 17, 18, 19])) z0 (by have q := (((FrX.g hFc5 (⟨by decide, rfl⟩ : kx 18 16) rfl).trans rfl) : Pc5 18 5 = (P 18 5)); (first | (clear hb gc4_t; omega) | (clear hb; omega) | (clear gc4_t; omega) | omega)) (FrX.c (FrX.c FrX.rf hFc5 rfl) hFc6 rfl) rfl))
/-! What the class answers: X11_chance. -/
set_option maxRecDepth 100000 in
set_option maxHeartbeats 4000000 in
theorem f_X11_chance (G : GT) (P : PH) (A : PH) (k : Int) (K : PH) (M : PH) (a1 : Int) (h_a1 : (-2147483648) ≤ a1 ∧ a1 ≤ 2147483647) (hB : BdX P) (p_wa : WA k A) (p_k5 : k ≤ 600) (z0 : AX A P) (z1 : XTB K M P) (Q : Option PV → PH → Prop) (hQ : ∀ (r : Int) (_ : (-2147483648) ≤ r ∧ r ≤ 2147483647) (P1 : PH) (_ : BdX P1) (_ : FrX ([(0, 14), (5, 2), (14, 1), (14, 2), (14, 3), (16, 5), (16, 6), (16, 7), (51, 12), (51, 14)], [6, 15, 17, 18, 19, 21, 27]) P P1) (_ : AX (aCha A M a1) P1), Q (some (vI r)) P1) : Ct WSX G 7 iX11_chance [vR 0, vI a1] P Q := by
  refine Ct.of (by decide) (l0 := [(0, vR 0), (1, vI a1)]) rfl (Nat.le_of_ble_eq_true rfl) ?_
  have hb := z0.b
  have hw3 := p_wa.2.2.1
  have hp3 := aPush_0 A 3 (by decide)
  refine g_aload_n dX11_chance_0 rfl ?_
  refine g_vI (av := []) (o := 0) (st := []) (f_X11_matched G P K M  hB (z1) _ (fun rc1 hc1 gc1_m => ⟨rc1, rfl, ?_⟩)) cf_X11_matched t_937 rfl (show kx 0 0 from (⟨by decide, rfl⟩ : kx 0 0)).1 ((show kx 0 0 from (⟨by decide, rfl⟩ : kx 0 0)).sh rfl) rfl rfl (Nat.le_of_ble_eq_true rfl) (by decide) rfl dX11_chance_1
  refine g_if_eq (tgt := 18) dX11_chance_4 (by decide) ⟨by (first | (clear hb gc1_m; omega) | omega), by (first | (clear hb gc1_m; omega) | omega)⟩ (fun k2 => ?_) (fun k2 => ?_)
  · first | (revert r_gc1_m; intro r_gc1_m) | have r_gc1_m := (gc1_m.resolve_right (by (clear hb gc1_m k2; omega))) | have r_gc1_m := (gc1_m.resolve_left (by (clear hb gc1_m k2; omega))) | skip
    refine g_aload_n dX11_chance_18 rfl ?_
    refine g_iconst dX11_chance_19 ?_
    refine g_vI (av := [vI 2]) (o := 0) (st := []) (m_X11_refuse G P 2 (by decide) hB  _ (fun rc3 hc3 Pc3 hBc3 hFc3 => ⟨rc3, rfl, ?_⟩)) cf_X11_refuse t_663 rfl (show kx 0 0 from (⟨by decide, rfl⟩ : kx 0 0)).1 ((show kx 0 0 from (⟨by decide, rfl⟩ : kx 0 0)).sh rfl) rfl rfl (Nat.le_of_ble_eq_true rfl) (by decide) rfl dX11_chance_20
    refine g_pop dX11_chance_23 rfl ?_
    refine g_iconst dX11_chance_24 ?_
    exact g_retI dX11_chance_25 rfl (hQ (-1) (by decide) _ hBc3 (FrX.c FrX.rf hFc3 rfl) (by rw [aCha_n (by (first | (clear hb gc1_m k2; omega) | (clear hb gc1_m; omega) | (clear hb k2; omega) | (clear gc1_m k2; omega) | (clear hb; omega) | omega))]; exact (AX.fr (F := ([], [27])) z0 (FrX.c FrX.rf hFc3 rfl) rfl)))
  · have k2n : 1 ≤ rc1 := by (first | (clear hb gc1_m k2; omega) | (clear hb gc1_m; omega) | (clear hb k2; omega) | (clear gc1_m k2; omega) | (clear hb; omega) | omega)
    clear k2
    first | (revert r_gc1_m; intro r_gc1_m) | have r_gc1_m := (gc1_m.resolve_right (by (clear hb gc1_m; omega))) | have r_gc1_m := (gc1_m.resolve_left (by (clear hb gc1_m; omega))) | skip
    refine g_iload_n dX11_chance_7 rfl ?_
    refine g_iconst dX11_chance_8 ?_
    refine g_icmp_lt (tgt := 18) dX11_chance_9 (by decide) ⟨by (first | (clear hb gc1_m; omega) | omega), by (first | (clear hb gc1_m; omega) | omega)⟩ (by decide) (fun k4 => ?_) (fun k4 => ?_)
    · first | (revert r_gc1_m; intro r_gc1_m) | have r_gc1_m := (gc1_m.resolve_right (by (clear hb gc1_m k4; omega))) | have r_gc1_m := (gc1_m.resolve_left (by (clear hb gc1_m k4; omega))) | skip
      refine g_aload_n dX11_chance_18 rfl ?_
      refine g_iconst dX11_chance_19 ?_
      refine g_vI (av := [vI 2]) (o := 0) (st := []) (m_X11_refuse G P 2 (by decide) hB  _ (fun rc5 hc5 Pc5 hBc5 hFc5 => ⟨rc5, rfl, ?_⟩)) cf_X11_refuse t_663 rfl (show kx 0 0 from (⟨by decide, rfl⟩ : kx 0 0)).1 ((show kx 0 0 from (⟨by decide, rfl⟩ : kx 0 0)).sh rfl) rfl rfl (Nat.le_of_ble_eq_true rfl) (by decide) rfl dX11_chance_20
      refine g_pop dX11_chance_23 rfl ?_
      refine g_iconst dX11_chance_24 ?_
      exact g_retI dX11_chance_25 rfl (hQ (-1) (by decide) _ hBc5 (FrX.c FrX.rf hFc5 rfl) (by rw [aCha_n (by (first | (clear hb gc1_m k4; omega) | (clear hb gc1_m; omega) | (clear hb k4; omega) | (clear gc1_m k4; omega) | (clear hb; omega) | omega))]; exact (AX.fr (F := ([], [27])) z0 (FrX.c FrX.rf hFc5 rfl) rfl)))
    · first | (revert r_gc1_m; intro r_gc1_m) | have r_gc1_m := (gc1_m.resolve_right (by (clear hb gc1_m k4; omega))) | have r_gc1_m := (gc1_m.resolve_left (by (clear hb gc1_m k4; omega))) | skip
      refine g_iload_n dX11_chance_12 rfl ?_
      refine g_bipush dX11_chance_13 (by decide) ?_
      refine g_icmp_le (tgt := 26) dX11_chance_15 (by decide) ⟨by (first | (clear hb gc1_m k4; omega) | omega), by (first | (clear hb gc1_m k4; omega) | omega)⟩ (by decide) (fun k6 => ?_) (fun k6 => ?_)
      · first | (revert r_gc1_m; intro r_gc1_m) | have r_gc1_m := (gc1_m.resolve_right (by (clear hb gc1_m k4 k6; omega))) | have r_gc1_m := (gc1_m.resolve_left (by (clear hb gc1_m k4 k6; omega))) | skip
        refine g_aload_n dX11_chance_26 rfl ?_
        refine g_vV (av := []) (o := 0) (st := []) (f_X11_remember G P A k  hB p_wa (z0) _ (fun Pc7 hBc7 hFc7 ec7_0 => ⟨rfl, ?_⟩)) cf_X11_remember t_1254 rfl (show kx 0 0 from (⟨by decide, rfl⟩ : kx 0 0)).1 ((show kx 0 0 from (⟨by decide, rfl⟩ : kx 0 0)).sh rfl) rfl rfl (Nat.le_of_ble_eq_true rfl) (by decide) rfl dX11_chance_27
        refine g_iconst dX11_chance_30 ?_
        refine g_istore_n (l1 := [(2, vI 0), (0, vR 0), (1, vI a1)]) dX11_chance_31 (by decide) rfl ?_
        refine g_iconst dX11_chance_32 ?_
        refine g_istore_n (l1 := [(3, vI 0), (2, vI 0), (0, vR 0), (1, vI a1)]) dX11_chance_33 (by decide) rfl ?_
        have L34_7 : ∀ (n34_7 : Nat) (x34_3_7 : Int) (h_x34_3_7 : 0 ≤ x34_3_7 ∧ x34_3_7 ≤ 40) (x34_2_7 : Int) (h_x34_2_7 : 0 ≤ x34_2_7 ∧ x34_2_7 ≤ 40) (H34_7 : PH) (hB34_7 : BdX H34_7) (hE34_7 : FrX ([(0, 14), (5, 2), (16, 5), (51, 12), (51, 14)], [6, 17, 18, 19]) Pc7 H34_7) (i34_0_7 : x34_2_7 ≤ x34_3_7) (i34_1_7 : AX (aDrs (x34_3_7).toNat (aPush A)) H34_7) (i34_2_7 : x34_3_7 ≤ a1) (hm34_7 : ((41 - x34_3_7) : Int).toNat < n34_7), Go WSX G 7 iX11_chance 34 [(0, vR 0), (1, vI a1), (2, vI x34_2_7), (3, vI x34_3_7)] [] H34_7 Q := by
          intro n34_7
          induction n34_7 with
          | zero => intro x34_3_7 h_x34_3_7 x34_2_7 h_x34_2_7 H34_7 hB34_7 hE34_7 i34_0_7 i34_1_7 i34_2_7 hm34_7; exact absurd hm34_7 (Nat.not_lt_zero _)
          | succ n34_7 ih34_7 =>
          intro x34_3_7 h_x34_3_7 x34_2_7 h_x34_2_7 H34_7 hB34_7 hE34_7 i34_0_7 i34_1_7 i34_2_7 hm34_7
          refine g_iload_n dX11_chance_34 rfl ?_
          refine g_iload_n dX11_chance_35 rfl ?_
          refine g_icmp_ge (tgt := 67) dX11_chance_36 (by decide) ⟨by (first | (clear hb gc1_m k4 k6; omega) | omega), by (first | (clear hb gc1_m k4 k6; omega) | omega)⟩ ⟨by (first | (clear hb gc1_m k4 k6; omega) | omega), by (first | (clear hb gc1_m k4 k6; omega) | omega)⟩ (fun k75 => ?_) (fun k75 => ?_)
          · first | (revert r_gc1_m; intro r_gc1_m) | have r_gc1_m := (gc1_m.resolve_right (by (clear hb gc1_m k4 k6; omega))) | have r_gc1_m := (gc1_m.resolve_left (by (clear hb gc1_m k4 k6; omega))) | skip
            refine g_iload_n dX11_chance_67 rfl ?_
            exact g_retI dX11_chance_68 rfl (hQ x34_2_7 ⟨by (first | (clear hb gc1_m k4 k6; omega) | omega), by (first | (clear hb gc1_m k4 k6; omega) | omega)⟩ _ hB34_7 (FrX.c (FrX.c FrX.rf hFc7 rfl) hE34_7 rfl) (by rw [aCha_y ⟨by (first | (clear hb gc1_m k4 k6; omega) | (clear hb gc1_m k4; omega) | (clear hb gc1_m k6; omega) | (clear hb k4 k6; omega) | (clear gc1_m k4 k6; omega) | (clear hb gc1_m; omega) | omega), by (first | (clear hb gc1_m k4 k6; omega) | (clear hb gc1_m k4; omega) | (clear hb gc1_m k6; omega) | (clear hb k4 k6; omega) | (clear gc1_m k4 k6; omega) | (clear hb gc1_m; omega) | omega), by (first | (clear hb gc1_m k4 k6; omega) | (clear hb gc1_m k4; omega) | (clear hb gc1_m k6; omega) | (clear hb k4 k6; omega) | (clear gc1_m k4 k6; omega) | (clear hb gc1_m; omega) | omega)⟩, show a1 = x34_3_7 by (first | (clear hb gc1_m k4 k6; omega) | (clear hb gc1_m k4; omega) | (clear hb gc1_m k6; omega) | (clear hb k4 k6; omega) | (clear gc1_m k4 k6; omega) | (clear hb gc1_m; omega) | omega)]; exact i34_1_7))
          · first | (revert r_gc1_m; intro r_gc1_m) | have r_gc1_m := (gc1_m.resolve_right (by (clear hb gc1_m k4 k6; omega))) | have r_gc1_m := (gc1_m.resolve_left (by (clear hb gc1_m k4 k6; omega))) | skip
            have iv76 : AX (aDrs (x34_3_7).toNat (aPush A)) H34_7 := i34_1_7
            refine g_aload_n dX11_chance_39 rfl ?_
            refine g_aload_n dX11_chance_40 rfl ?_
            refine g_aload_n dX11_chance_41 rfl ?_
            refine x_g0_10 (n := (P 0 10).toNat) (⟨by decide, rfl⟩ : kx 0 0) ffX11_71 dX11_chance_42 ((FrX.g hE34_7 (⟨by decide, rfl⟩ : kx 0 0) rfl).trans ((FrX.g hFc7 (⟨by decide, rfl⟩ : kx 0 0) rfl).trans (br_0_10 hB))) ?_
            refine x_g28_7 (z := (P (P 0 10).toNat 7)) (bk_0_10 hB) ffX11_173 dX11_chance_45 ((FrX.g hE34_7 (bk_0_10 hB) rfl).trans ((FrX.g hFc7 (bk_0_10 hB) rfl).trans rfl)) ?_
            have hn3 := aDrs_3 (aPush A) (x34_3_7).toNat
            have f77 := bx_28_7 (o := (P 0 10).toNat) hB (bk_0_10 hB)
            refine g_vI (av := [vI (P (P 0 10).toNat 7)]) (o := 0) (st := [vR 0]) (f_X11_draw G H34_7 (aDrs (x34_3_7).toNat (aPush A)) (P (P 0 10).toNat 7) ⟨by have q0 := bx_28_7 (o := (P 0 10).toNat) hB (bk_0_10 hB); (first | (clear hb gc1_m k4 k6; omega) | omega), by have q0 := bx_28_7 (o := (P 0 10).toNat) hB (bk_0_10 hB); (first | (clear hb gc1_m k4 k6; omega) | omega)⟩ hB34_7 (iv76) _ (fun rc78 hc78 Pc78 hBc78 hFc78 gc78_d2 ec78_0 => ⟨rc78, rfl, ?_⟩)) cf_X11_draw t_1283 rfl (show kx 0 0 from (⟨by decide, rfl⟩ : kx 0 0)).1 ((show kx 0 0 from (⟨by decide, rfl⟩ : kx 0 0)).sh rfl) rfl rfl (Nat.le_of_ble_eq_true rfl) (by decide) rfl dX11_chance_48
            refine g_vI (av := [vI rc78]) (o := 0) (st := []) (f_X11_runRow G Pc78 (up (aDrs (x34_3_7).toNat (aPush A)) 0 5 (drw ((aDrs (x34_3_7).toNat (aPush A)) 0 5))) rc78 ⟨by (first | (clear hb gc1_m k4 k6 gc78_d2; omega) | omega), by (first | (clear hb gc1_m k4 k6 gc78_d2; omega) | omega)⟩ hBc78 (by rw [up_k (by decide)]; (first | (clear hb gc1_m k4 k6 gc78_d2; omega) | (clear hb gc1_m k4 k6; omega) | (clear hb gc1_m k4 gc78_d2; omega) | (clear hb gc1_m k6 gc78_d2; omega) | (clear hb k4 k6 gc78_d2; omega) | (clear gc1_m k4 k6 gc78_d2; omega) | (clear hb gc1_m k4; omega) | (clear hb; omega) | omega)) (ec78_0) _ (fun rc79 hc79 Pc79 hBc79 hFc79 ec79_0 => ⟨rc79, rfl, ?_⟩)) cf_X11_runRow t_1266 rfl (show kx 0 0 from (⟨by decide, rfl⟩ : kx 0 0)).1 ((show kx 0 0 from (⟨by decide, rfl⟩ : kx 0 0)).sh rfl) rfl rfl (Nat.le_of_ble_eq_true rfl) (by decide) rfl dX11_chance_51
            have hch9 : AX (aDrs (x34_3_7 + 1).toNat (aPush A)) Pc79 := by
              rw [show (x34_3_7 + 1).toNat = (x34_3_7).toNat + 1 by (first | (clear hb gc1_m k4 k6 gc78_d2; omega) | (clear hb gc1_m k4 k6; omega) | (clear hb gc1_m k4 gc78_d2; omega) | (clear hb gc1_m k6 gc78_d2; omega) | (clear hb k4 k6 gc78_d2; omega) | (clear gc1_m k4 k6 gc78_d2; omega) | (clear hb gc1_m k4; omega) | (clear hb; omega) | omega)]
              have q := ec79_0
              rw [up_k (by decide)] at q
              exact q
            refine g_iconst dX11_chance_54 ?_
            refine g_icmp_ne (tgt := 61) dX11_chance_55 (by decide) ⟨by (first | (clear hb gc1_m k4 k6 gc78_d2; omega) | omega), by (first | (clear hb gc1_m k4 k6 gc78_d2; omega) | omega)⟩ (by decide) (fun k80 => ?_) (fun k80 => ?_)
            · first | (revert r_gc78_d2; intro r_gc78_d2) | have r_gc78_d2 := (gc78_d2.resolve_right (by (clear hb gc1_m k4 k6 gc78_d2 k80; omega))) | have r_gc78_d2 := (gc78_d2.resolve_left (by (clear hb gc1_m k4 k6 gc78_d2 k80; omega))) | skip
              first | (revert r_gc1_m; intro r_gc1_m) | have r_gc1_m := (gc1_m.resolve_right (by (clear hb gc1_m k4 k6 gc78_d2 k80; omega))) | have r_gc1_m := (gc1_m.resolve_left (by (clear hb gc1_m k4 k6 gc78_d2 k80; omega))) | skip
              refine g_iinc (l1 := [(3, vI (x34_3_7 + 1)), (0, vR 0), (1, vI a1), (2, vI x34_2_7)]) dX11_chance_61 rfl (by decide) rfl ?_
              refine g_goto (tgt := 34) dX11_chance_64 (by decide) ?_
              refine g_forget (l1 := [(0, vR 0), (1, vI a1), (2, vI x34_2_7), (3, vI (x34_3_7 + 1))]) (by intro q hq; simp only [List.mem_cons, List.not_mem_nil, or_false] at hq ⊢; rcases hq with rfl | rfl | rfl | rfl <;> simp) ?_
              exact ih34_7 (x34_3_7 + 1) ⟨by (first | (clear hb gc1_m k4 k6 gc78_d2 k80; omega) | omega), by (first | (clear hb gc1_m k4 k6 gc78_d2 k80; omega) | omega)⟩ x34_2_7 ⟨by (first | (clear hb gc1_m k4 k6 gc78_d2 k80; omega) | omega), by (first | (clear hb gc1_m k4 k6 gc78_d2 k80; omega) | omega)⟩ _ hBc79 (FrX.c (FrX.c (FrX.c FrX.rf hE34_7 rfl) hFc78 rfl) hFc79 rfl) (by (first | (clear hb gc1_m k4 k6 gc78_d2 k80; omega) | (clear hb gc1_m k4 k6 gc78_d2; omega) | (clear hb gc1_m k4 k6 k80; omega) | (clear hb gc1_m k4 gc78_d2 k80; omega) | (clear hb gc1_m k6 gc78_d2 k80; omega) | (clear hb k4 k6 gc78_d2 k80; omega) | (clear gc1_m k4 k6 gc78_d2 k80; omega) | (clear hb gc1_m k4 k6; omega) | (clear gc1_m hb; omega) | omega)) (by first | exact hch9 | exact (by first | (rw [show (aPush A) = (up (up (aDrs (x34_3_7).toNat (aPush A)) 0 5 (drw ((aDrs (x34_3_7).toNat (aPush A)) 0 5))) 0 3 ((up (aDrs (x34_3_7).toNat (aPush A)) 0 5 (drw ((aDrs (x34_3_7).toNat (aPush A)) 0 5))) 0 3 + 1)) by (first | (clear hb gc1_m k4 k6 gc78_d2 k80; omega) | (clear hb gc1_m k4 k6 gc78_d2; omega) | (clear hb gc1_m k4 k6 k80; omega) | (clear hb gc1_m k4 gc78_d2 k80; omega) | (clear hb gc1_m k6 gc78_d2 k80; omega) | (clear hb k4 k6 gc78_d2 k80; omega) | (clear gc1_m k4 k6 gc78_d2 k80; omega) | (clear hb gc1_m k4 k6; omega) | (clear gc1_m hb; omega) | omega)]; exact ec79_0))) (by (first | (clear hb gc1_m k4 k6 gc78_d2 k80; omega) | (clear hb gc1_m k4 k6 gc78_d2; omega) | (clear hb gc1_m k4 k6 k80; omega) | (clear hb gc1_m k4 gc78_d2 k80; omega) | (clear hb gc1_m k6 gc78_d2 k80; omega) | (clear hb k4 k6 gc78_d2 k80; omega) | (clear gc1_m k4 k6 gc78_d2 k80; omega) | (clear hb gc1_m k4 k6; omega) | (clear gc1_m hb; omega) | omega)) (by (first | (clear hb gc1_m k4 k6 gc78_d2 k80; omega) | (clear hb gc1_m k4 k6 gc78_d2; omega) | (clear hb gc1_m k4 k6 k80; omega) | (clear hb gc1_m k4 gc78_d2 k80; omega) | (clear hb gc1_m k6 gc78_d2 k80; omega) | (clear hb k4 k6 gc78_d2 k80; omega) | (clear gc1_m k4 k6 gc78_d2 k80; omega) | (clear hb gc1_m k4 k6; omega) | (clear gc1_m hb; omega) | omega))
            · first | (revert r_gc78_d2; intro r_gc78_d2) | have r_gc78_d2 := (gc78_d2.resolve_right (by (clear hb gc1_m k4 k6 gc78_d2 k80; omega))) | have r_gc78_d2 := (gc78_d2.resolve_left (by (clear hb gc1_m k4 k6 gc78_d2 k80; omega))) | skip
              first | (revert r_gc1_m; intro r_gc1_m) | have r_gc1_m := (gc1_m.resolve_right (by (clear hb gc1_m k4 k6 gc78_d2 k80; omega))) | have r_gc1_m := (gc1_m.resolve_left (by (clear hb gc1_m k4 k6 gc78_d2 k80; omega))) | skip
              refine g_iinc (l1 := [(2, vI (x34_2_7 + 1)), (0, vR 0), (1, vI a1), (3, vI x34_3_7)]) dX11_chance_58 rfl (by decide) rfl ?_
              refine g_iinc (l1 := [(3, vI (x34_3_7 + 1)), (2, vI (x34_2_7 + 1)), (0, vR 0), (1, vI a1)]) dX11_chance_61 rfl (by decide) rfl ?_
              refine g_goto (tgt := 34) dX11_chance_64 (by decide) ?_
              refine g_forget (l1 := [(0, vR 0), (1, vI a1), (2, vI (x34_2_7 + 1)), (3, vI (x34_3_7 + 1))]) (by intro q hq; simp only [List.mem_cons, List.not_mem_nil, or_false] at hq ⊢; rcases hq with rfl | rfl | rfl | rfl <;> simp) ?_
              exact ih34_7 (x34_3_7 + 1) ⟨by (first | (clear hb gc1_m k4 k6 gc78_d2 k80; omega) | omega), by (first | (clear hb gc1_m k4 k6 gc78_d2 k80; omega) | omega)⟩ (x34_2_7 + 1) ⟨by (first | (clear hb gc1_m k4 k6 gc78_d2 k80; omega) | omega), by (first | (clear hb gc1_m k4 k6 gc78_d2 k80; omega) | omega)⟩ _ hBc79 (FrX.c (FrX.c (FrX.c FrX.rf hE34_7 rfl) hFc78 rfl) hFc79 rfl) (by (first | (clear hb gc1_m k4 k6 gc78_d2 k80; omega) | (clear hb gc1_m k4 k6 gc78_d2; omega) | (clear hb gc1_m k4 k6 k80; omega) | (clear hb gc1_m k4 gc78_d2 k80; omega) | (clear hb gc1_m k6 gc78_d2 k80; omega) | (clear hb k4 k6 gc78_d2 k80; omega) | (clear gc1_m k4 k6 gc78_d2 k80; omega) | (clear hb gc1_m k4 k6; omega) | (clear gc1_m hb; omega) | omega)) (by first | exact hch9 | exact (by first | (rw [show (aPush A) = (up (up (aDrs (x34_3_7).toNat (aPush A)) 0 5 (drw ((aDrs (x34_3_7).toNat (aPush A)) 0 5))) 0 3 ((up (aDrs (x34_3_7).toNat (aPush A)) 0 5 (drw ((aDrs (x34_3_7).toNat (aPush A)) 0 5))) 0 3 + 1)) by (first | (clear hb gc1_m k4 k6 gc78_d2 k80; omega) | (clear hb gc1_m k4 k6 gc78_d2; omega) | (clear hb gc1_m k4 k6 k80; omega) | (clear hb gc1_m k4 gc78_d2 k80; omega) | (clear hb gc1_m k6 gc78_d2 k80; omega) | (clear hb k4 k6 gc78_d2 k80; omega) | (clear gc1_m k4 k6 gc78_d2 k80; omega) | (clear hb gc1_m k4 k6; omega) | (clear gc1_m hb; omega) | omega)]; exact ec79_0))) (by (first | (clear hb gc1_m k4 k6 gc78_d2 k80; omega) | (clear hb gc1_m k4 k6 gc78_d2; omega) | (clear hb gc1_m k4 k6 k80; omega) | (clear hb gc1_m k4 gc78_d2 k80; omega) | (clear hb gc1_m k6 gc78_d2 k80; omega) | (clear hb k4 k6 gc78_d2 k80; omega) | (clear gc1_m k4 k6 gc78_d2 k80; omega) | (clear hb gc1_m k4 k6; omega) | (clear gc1_m hb; omega) | omega)) (by (first | (clear hb gc1_m k4 k6 gc78_d2 k80; omega) | (clear hb gc1_m k4 k6 gc78_d2; omega) | (clear hb gc1_m k4 k6 k80; omega) | (clear hb gc1_m k4 gc78_d2 k80; omega) | (clear hb gc1_m k6 gc78_d2 k80; omega) | (clear hb k4 k6 gc78_d2 k80; omega) | (clear gc1_m k4 k6 gc78_d2 k80; omega) | (clear hb gc1_m k4 k6; omega) | (clear gc1_m hb; omega) | omega))
        refine g_forget (l1 := [(0, vR 0), (1, vI a1), (2, vI 0), (3, vI 0)]) (by intro q hq; simp only [List.mem_cons, List.not_mem_nil, or_false] at hq ⊢; rcases hq with rfl | rfl | rfl | rfl <;> simp) ?_
        exact L34_7 _ 0 (by decide) 0 (by decide) _ hBc7 FrX.rf (by (first | (clear hb gc1_m k4 k6; omega) | (clear hb gc1_m k4; omega) | (clear hb gc1_m k6; omega) | (clear hb k4 k6; omega) | (clear gc1_m k4 k6; omega) | (clear hb gc1_m; omega) | omega)) (by first | exact hch9 | exact ec7_0) (by (first | (clear hb gc1_m k4 k6; omega) | (clear hb gc1_m k4; omega) | (clear hb gc1_m k6; omega) | (clear hb k4 k6; omega) | (clear gc1_m k4 k6; omega) | (clear hb gc1_m; omega) | omega)) (Nat.lt_succ_self _)
      · first | (revert r_gc1_m; intro r_gc1_m) | have r_gc1_m := (gc1_m.resolve_right (by (clear hb gc1_m k4 k6; omega))) | have r_gc1_m := (gc1_m.resolve_left (by (clear hb gc1_m k4 k6; omega))) | skip
        refine g_aload_n dX11_chance_18 rfl ?_
        refine g_iconst dX11_chance_19 ?_
        refine g_vI (av := [vI 2]) (o := 0) (st := []) (m_X11_refuse G P 2 (by decide) hB  _ (fun rc81 hc81 Pc81 hBc81 hFc81 => ⟨rc81, rfl, ?_⟩)) cf_X11_refuse t_663 rfl (show kx 0 0 from (⟨by decide, rfl⟩ : kx 0 0)).1 ((show kx 0 0 from (⟨by decide, rfl⟩ : kx 0 0)).sh rfl) rfl rfl (Nat.le_of_ble_eq_true rfl) (by decide) rfl dX11_chance_20
        refine g_pop dX11_chance_23 rfl ?_
        refine g_iconst dX11_chance_24 ?_
        exact g_retI dX11_chance_25 rfl (hQ (-1) (by decide) _ hBc81 (FrX.c FrX.rf hFc81 rfl) (by rw [aCha_n (by (first | (clear hb gc1_m k4 k6; omega) | (clear hb gc1_m k4; omega) | (clear hb gc1_m k6; omega) | (clear hb k4 k6; omega) | (clear gc1_m k4 k6; omega) | (clear hb gc1_m; omega) | omega))]; exact (AX.fr (F := ([], [27])) z0 (FrX.c FrX.rf hFc81 rfl) rfl)))
/-! What the class answers: X5_exchange. -/
set_option maxRecDepth 100000 in
set_option maxHeartbeats 4000000 in
theorem f_X5_exchange (G : GT) (P : PH) (o0 : Nat) (a1 : Int) (a2 : Int) (k_o0 : kx o0 14) (h_a1 : (-2147483648) ≤ a1 ∧ a1 ≤ 2147483647) (h_a2 : (-2147483648) ≤ a2 ∧ a2 ≤ 2147483647) (hB : BdX P) (Q : Option PV → PH → Prop) (hQ : ∀ (P1 : PH) (_ : BdX P1) (_ : FrX ([], [15]) P P1) (_ : 0 ≤ a1 → a1 < P o0 1 → 0 ≤ a2 → a2 < P o0 1 → P1 (crX o0 0) a1 = P (crX o0 0) a2) (_ : 0 ≤ a1 → a1 < P o0 1 → 0 ≤ a2 → a2 < P o0 1 → P1 (crX o0 0) a2 = P (crX o0 0) a1) (_ : ∀ j : Int, j ≠ a1 → j ≠ a2 → P1 (crX o0 0) j = P (crX o0 0) j) (_ : KO o0 P P1), Q none P1) : Ct WSX G 2 iX5_exchange [vR o0, vI a1, vI a2] P Q := by
  refine Ct.of (by decide) (l0 := [(0, vR o0), (1, vI a1), (2, vI a2)]) rfl (Nat.le_of_ble_eq_true rfl) ?_
  refine g_aload_n dX5_exchange_0 rfl ?_
  refine g_iload_n dX5_exchange_1 rfl ?_
  refine g_vI (av := [vI a1]) (o := o0) (st := []) (f_X5_isPlace G P o0 a1 k_o0 ⟨by omega, by omega⟩ hB  _ (fun rc1 hc1 gc1_k gc1_f => ⟨rc1, rfl, ?_⟩)) cf_X5_isPlace t_950 rfl (show kx o0 14 from k_o0).1 ((show kx o0 14 from k_o0).sh rfl) rfl rfl (Nat.le_of_ble_eq_true rfl) (by decide) rfl dX5_exchange_2
  have f2 := bx_14_1 (o := o0) hB k_o0
  refine g_if_eq (tgt := 42) dX5_exchange_5 (by decide) ⟨by (first | (clear gc1_k gc1_f; omega) | omega), by (first | (clear gc1_k gc1_f; omega) | omega)⟩ (fun k3 => ?_) (fun k3 => ?_)
  · exact g_retV dX5_exchange_42 rfl (hQ _ hB FrX.rf (by intro v0 v1 v2 v3; first | (exfalso; (first | (clear gc1_k gc1_f k3; omega) | (clear gc1_k gc1_f; omega) | (clear gc1_k k3; omega) | (clear gc1_f k3; omega) | (clear gc1_k; omega) | omega)) | exact (Decidable.em (a1 = a2)).elim (fun e => by subst e; exact up_same) (fun e => (up_k (by (first | (clear gc1_k gc1_f k3; omega) | (clear gc1_k gc1_f; omega) | (clear gc1_k k3; omega) | (clear gc1_f k3; omega) | (clear gc1_k; omega) | omega))).trans up_same)) (by intro v0 v1 v2 v3; first | (exfalso; (first | (clear gc1_k gc1_f k3; omega) | (clear gc1_k gc1_f; omega) | (clear gc1_k k3; omega) | (clear gc1_f k3; omega) | (clear gc1_k; omega) | omega)) | exact up_same) (fun j hj1 hj2 => by first | rfl | exact (up_k hj2).trans (up_k hj1)) (by first | exact KO.rf | exact KO.w (KO.w KO.rf (OB.c (or14 k_o0).1 k_o0)) (OB.c (or14 k_o0).1 k_o0)))
  · have k3n : 1 ≤ rc1 := by (first | (clear gc1_k gc1_f k3; omega) | (clear gc1_k gc1_f; omega) | (clear gc1_k k3; omega) | (clear gc1_f k3; omega) | (clear gc1_k; omega) | omega)
    clear k3
    first | (revert r_gc1_f; intro r_gc1_f) | have r_gc1_f := (gc1_f.resolve_right (by (clear gc1_k gc1_f; omega))) | have r_gc1_f := (gc1_f.resolve_left (by (clear gc1_k gc1_f; omega))) | skip
    first | (revert r_gc1_k; intro r_gc1_k) | have r_gc1_k := (gc1_k.resolve_right (by (clear gc1_k gc1_f; omega))) | have r_gc1_k := (gc1_k.resolve_left (by (clear gc1_k gc1_f; omega))) | skip
    refine g_aload_n dX5_exchange_8 rfl ?_
    refine g_iload_n dX5_exchange_9 rfl ?_
    refine g_vI (av := [vI a2]) (o := o0) (st := []) (f_X5_isPlace G P o0 a2 k_o0 ⟨by (first | (clear gc1_k gc1_f; omega) | omega), by (first | (clear gc1_k gc1_f; omega) | omega)⟩ hB  _ (fun rc4 hc4 gc4_k gc4_f => ⟨rc4, rfl, ?_⟩)) cf_X5_isPlace t_950 rfl (show kx o0 14 from k_o0).1 ((show kx o0 14 from k_o0).sh rfl) rfl rfl (Nat.le_of_ble_eq_true rfl) (by decide) rfl dX5_exchange_10
    refine g_if_eq (tgt := 42) dX5_exchange_13 (by decide) ⟨by (first | (clear gc1_k gc1_f gc4_k gc4_f; omega) | omega), by (first | (clear gc1_k gc1_f gc4_k gc4_f; omega) | omega)⟩ (fun k5 => ?_) (fun k5 => ?_)
    · exact g_retV dX5_exchange_42 rfl (hQ _ hB FrX.rf (by intro v0 v1 v2 v3; first | (exfalso; (first | (clear gc1_k gc1_f gc4_k gc4_f k5; omega) | (clear gc1_k gc1_f gc4_k gc4_f; omega) | (clear gc1_k gc1_f gc4_k k5; omega) | (clear gc1_k gc1_f gc4_f k5; omega) | (clear gc1_k gc4_k gc4_f k5; omega) | (clear gc1_f gc4_k gc4_f k5; omega) | (clear gc1_k gc1_f gc4_k; omega) | (clear gc1_k; omega) | omega)) | exact (Decidable.em (a1 = a2)).elim (fun e => by subst e; exact up_same) (fun e => (up_k (by (first | (clear gc1_k gc1_f gc4_k gc4_f k5; omega) | (clear gc1_k gc1_f gc4_k gc4_f; omega) | (clear gc1_k gc1_f gc4_k k5; omega) | (clear gc1_k gc1_f gc4_f k5; omega) | (clear gc1_k gc4_k gc4_f k5; omega) | (clear gc1_f gc4_k gc4_f k5; omega) | (clear gc1_k gc1_f gc4_k; omega) | (clear gc1_k; omega) | omega))).trans up_same)) (by intro v0 v1 v2 v3; first | (exfalso; (first | (clear gc1_k gc1_f gc4_k gc4_f k5; omega) | (clear gc1_k gc1_f gc4_k gc4_f; omega) | (clear gc1_k gc1_f gc4_k k5; omega) | (clear gc1_k gc1_f gc4_f k5; omega) | (clear gc1_k gc4_k gc4_f k5; omega) | (clear gc1_f gc4_k gc4_f k5; omega) | (clear gc1_k gc1_f gc4_k; omega) | (clear gc1_k; omega) | omega)) | exact up_same) (fun j hj1 hj2 => by first | rfl | exact (up_k hj2).trans (up_k hj1)) (by first | exact KO.rf | exact KO.w (KO.w KO.rf (OB.c (or14 k_o0).1 k_o0)) (OB.c (or14 k_o0).1 k_o0)))
    · have k5n : 1 ≤ rc4 := by (first | (clear gc1_k gc1_f gc4_k gc4_f k5; omega) | (clear gc1_k gc1_f gc4_k gc4_f; omega) | (clear gc1_k gc1_f gc4_k k5; omega) | (clear gc1_k gc1_f gc4_f k5; omega) | (clear gc1_k gc4_k gc4_f k5; omega) | (clear gc1_f gc4_k gc4_f k5; omega) | (clear gc1_k gc1_f gc4_k; omega) | (clear gc1_k; omega) | omega)
      clear k5
      first | (revert r_gc4_f; intro r_gc4_f) | have r_gc4_f := (gc4_f.resolve_right (by (clear gc1_k gc1_f gc4_k gc4_f; omega))) | have r_gc4_f := (gc4_f.resolve_left (by (clear gc1_k gc1_f gc4_k gc4_f; omega))) | skip
      first | (revert r_gc4_k; intro r_gc4_k) | have r_gc4_k := (gc4_k.resolve_right (by (clear gc1_k gc1_f gc4_k gc4_f; omega))) | have r_gc4_k := (gc4_k.resolve_left (by (clear gc1_k gc1_f gc4_k gc4_f; omega))) | skip
      first | (revert r_gc1_f; intro r_gc1_f) | have r_gc1_f := (gc1_f.resolve_right (by (clear gc1_k gc1_f gc4_k gc4_f; omega))) | have r_gc1_f := (gc1_f.resolve_left (by (clear gc1_k gc1_f gc4_k gc4_f; omega))) | skip
      first | (revert r_gc1_k; intro r_gc1_k) | have r_gc1_k := (gc1_k.resolve_right (by (clear gc1_k gc1_f gc4_k gc4_f; omega))) | have r_gc1_k := (gc1_k.resolve_left (by (clear gc1_k gc1_f gc4_k gc4_f; omega))) | skip
      refine g_aload_n dX5_exchange_16 rfl ?_
      refine x_g14_0 (n := (crX o0 0)) k_o0 ffX5_9 dX5_exchange_17 rfl ?_
      refine g_iload_n dX5_exchange_20 rfl ?_
      refine x_l15 (z := (P (crX o0 0) a1)) (ck_14_0 k_o0) dX5_exchange_21 ⟨by (first | (clear gc1_k gc1_f gc4_k gc4_f; omega) | omega), by (first | (clear gc1_k gc1_f gc4_k gc4_f; omega) | omega)⟩ rfl ?_
      refine g_istore_n (l1 := [(3, vI (P (crX o0 0) a1)), (0, vR o0), (1, vI a1), (2, vI a2)]) dX5_exchange_22 (by decide) rfl ?_
      refine g_aload_n dX5_exchange_23 rfl ?_
      refine x_g14_0 (n := (crX o0 0)) k_o0 ffX5_9 dX5_exchange_24 rfl ?_
      refine g_iload_n dX5_exchange_27 rfl ?_
      refine g_aload_n dX5_exchange_28 rfl ?_
      refine x_g14_0 (n := (crX o0 0)) k_o0 ffX5_9 dX5_exchange_29 rfl ?_
      refine g_iload_n dX5_exchange_32 rfl ?_
      refine x_l15 (z := (P (crX o0 0) a2)) (ck_14_0 k_o0) dX5_exchange_33 ⟨by (first | (clear gc1_k gc1_f gc4_k gc4_f; omega) | omega), by (first | (clear gc1_k gc1_f gc4_k gc4_f; omega) | omega)⟩ rfl ?_
      refine x_s15 (ck_14_0 k_o0) dX5_exchange_34 ⟨by (first | (clear gc1_k gc1_f gc4_k gc4_f; omega) | omega), by (first | (clear gc1_k gc1_f gc4_k gc4_f; omega) | omega)⟩ ?_
      have hB6 := by_15 (z := (P (crX o0 0) a2)) (k := a1) hB (ck_14_0 k_o0) ⟨by have q0 := bx_15 (o := (crX o0 0)) (k := a2) hB (ck_14_0 k_o0); (first | (clear gc1_k gc1_f gc4_k gc4_f; omega) | omega), by have q0 := bx_15 (o := (crX o0 0)) (k := a2) hB (ck_14_0 k_o0); (first | (clear gc1_k gc1_f gc4_k gc4_f; omega) | omega)⟩
      refine g_aload_n dX5_exchange_35 rfl ?_
      refine x_g14_0 (n := (crX o0 0)) k_o0 ffX5_9 dX5_exchange_36 rfl ?_
      refine g_iload_n dX5_exchange_39 rfl ?_
      refine g_iload_n dX5_exchange_40 rfl ?_
      refine x_s15 (ck_14_0 k_o0) dX5_exchange_41 ⟨by (first | (clear gc1_k gc1_f gc4_k gc4_f; omega) | omega), by (first | (clear gc1_k gc1_f gc4_k gc4_f; omega) | omega)⟩ ?_
      have hB7 := by_15 (z := (P (crX o0 0) a1)) (k := a2) hB6 (ck_14_0 k_o0) ⟨by have q0 := bx_15 (o := (crX o0 0)) (k := a1) hB (ck_14_0 k_o0); (first | (clear gc1_k gc1_f gc4_k gc4_f; omega) | omega), by have q0 := bx_15 (o := (crX o0 0)) (k := a1) hB (ck_14_0 k_o0); (first | (clear gc1_k gc1_f gc4_k gc4_f; omega) | omega)⟩
      exact g_retV dX5_exchange_42 rfl (hQ _ hB7 (FrX.s (FrX.s FrX.rf (ck_14_0 k_o0) rfl) (ck_14_0 k_o0) rfl) (by intro v0 v1 v2 v3; first | (exfalso; (first | (clear gc1_k gc1_f gc4_k gc4_f; omega) | (clear gc1_k gc1_f gc4_k; omega) | (clear gc1_k gc1_f gc4_f; omega) | (clear gc1_k gc4_k gc4_f; omega) | (clear gc1_f gc4_k gc4_f; omega) | (clear gc1_k gc1_f; omega) | omega)) | exact (Decidable.em (a1 = a2)).elim (fun e => by subst e; exact up_same) (fun e => (up_k (by (first | (clear gc1_k gc1_f gc4_k gc4_f; omega) | (clear gc1_k gc1_f gc4_k; omega) | (clear gc1_k gc1_f gc4_f; omega) | (clear gc1_k gc4_k gc4_f; omega) | (clear gc1_f gc4_k gc4_f; omega) | (clear gc1_k gc1_f; omega) | omega))).trans up_same)) (by intro v0 v1 v2 v3; first | (exfalso; (first | (clear gc1_k gc1_f gc4_k gc4_f; omega) | (clear gc1_k gc1_f gc4_k; omega) | (clear gc1_k gc1_f gc4_f; omega) | (clear gc1_k gc4_k gc4_f; omega) | (clear gc1_f gc4_k gc4_f; omega) | (clear gc1_k gc1_f; omega) | omega)) | exact up_same) (fun j hj1 hj2 => by first | rfl | exact (up_k hj2).trans (up_k hj1)) (by first | exact KO.rf | exact KO.w (KO.w KO.rf (OB.c (or14 k_o0).1 k_o0)) (OB.c (or14 k_o0).1 k_o0)))
/-! What the class answers: X11_best. -/
set_option maxRecDepth 100000 in
set_option maxHeartbeats 4000000 in
theorem f_X11_best (G : GT) (P : PH) (A : PH) (a1 : Int) (h_a1 : (-2147483648) ≤ a1 ∧ a1 ≤ 2147483647) (hB : BdX P) (z0 : AX A P) (Q : Option PV → PH → Prop) (hQ : ∀ (r : Int) (_ : (-2147483648) ≤ r ∧ r ≤ 2147483647) (P1 : PH) (_ : BdX P1) (_ : FrX ([(5, 2), (11, 3), (14, 1), (14, 2), (14, 3), (51, 4), (51, 5), (51, 12), (51, 14)], [6, 7, 12, 13, 15, 54]) P P1) (_ : AX A P1), Q (some (vI r)) P1) : Ct WSX G 31 iX11_best [vR 0, vI a1] P Q := by
  refine Ct.of (by decide) (l0 := [(0, vR 0), (1, vI a1)]) rfl (Nat.le_of_ble_eq_true rfl) ?_
  refine g_aload_n dX11_best_0 rfl ?_
  refine g_vI (av := []) (o := 0) (st := []) (m_X11_matched G P  hB  _ (fun rc1 hc1 => ⟨rc1, rfl, ?_⟩)) cf_X11_matched t_937 rfl (show kx 0 0 from (⟨by decide, rfl⟩ : kx 0 0)).1 ((show kx 0 0 from (⟨by decide, rfl⟩ : kx 0 0)).sh rfl) rfl rfl (Nat.le_of_ble_eq_true rfl) (by decide) rfl dX11_best_1
  refine g_if_eq (tgt := 16) dX11_best_4 (by decide) ⟨by omega, by omega⟩ (fun k2 => ?_) (fun k2 => ?_)
  · refine g_iconst dX11_best_16 ?_
    exact g_retI dX11_best_17 rfl (hQ (-1) (by decide) _ hB FrX.rf (z0))
  · have k2n : 1 ≤ rc1 := by (first | (clear k2; omega) | omega)
    clear k2
    refine g_iload_n dX11_best_7 rfl ?_
    refine g_if_lt (tgt := 16) dX11_best_8 (by decide) ⟨by omega, by omega⟩ (fun k3 => ?_) (fun k3 => ?_)
    · refine g_iconst dX11_best_16 ?_
      exact g_retI dX11_best_17 rfl (hQ (-1) (by decide) _ hB FrX.rf (z0))
    · refine g_iload_n dX11_best_11 rfl ?_
      refine g_iconst dX11_best_12 ?_
      refine g_icmp_le (tgt := 18) dX11_best_13 (by decide) ⟨by (first | (clear k3; omega) | omega), by (first | (clear k3; omega) | omega)⟩ (by decide) (fun k4 => ?_) (fun k4 => ?_)
      · refine g_aload_n dX11_best_18 rfl ?_
        refine g_aload_n dX11_best_19 rfl ?_
        refine x_g0_5 (n := 14) (⟨by decide, rfl⟩ : kx 0 0) ffX11_43 dX11_best_20 rfl ?_
        refine g_vI (av := [vR 14]) (o := 0) (st := []) (m_X11_allTests G P 14 (⟨by decide, rfl⟩ : kx 14 14) hB  _ (fun rc5 hc5 Pc5 hBc5 hFc5 => ⟨rc5, rfl, ?_⟩)) cf_X11_allTests t_1206 rfl (show kx 0 0 from (⟨by decide, rfl⟩ : kx 0 0)).1 ((show kx 0 0 from (⟨by decide, rfl⟩ : kx 0 0)).sh rfl) rfl rfl (Nat.le_of_ble_eq_true rfl) (by decide) rfl dX11_best_23
        have hko0 : KO 16 P Pc5 := KO.fr KO.rf hFc5 rfl
        refine g_istore_n (l1 := [(2, vI rc5), (0, vR 0), (1, vI a1)]) dX11_best_26 (by decide) rfl ?_
        refine g_iconst dX11_best_27 ?_
        refine g_istore_n (l1 := [(3, vI (-1)), (2, vI rc5), (0, vR 0), (1, vI a1)]) dX11_best_28 (by decide) rfl ?_
        refine g_iconst dX11_best_29 ?_
        refine g_istore (l1 := [(4, vI 0), (3, vI (-1)), (2, vI rc5), (0, vR 0), (1, vI a1)]) dX11_best_30 (by decide) rfl ?_
        have L32_5 : ∀ (n32_5 : Nat) (x32_4_5 : Int) (h_x32_4_5 : 0 ≤ x32_4_5 ∧ x32_4_5 ≤ 11) (x32_3_5 : Int) (h_x32_3_5 : (-1) ≤ x32_3_5 ∧ x32_3_5 ≤ 11) (x32_2_5 : Int) (h_x32_2_5 : (-2147483648) ≤ x32_2_5 ∧ x32_2_5 ≤ 2147483647) (H32_5 : PH) (hB32_5 : BdX H32_5) (hE32_5 : FrX ([(5, 2), (11, 3), (14, 1), (14, 2), (14, 3), (51, 4), (51, 5), (51, 12), (51, 14)], [6, 7, 12, 13, 15, 54]) Pc5 H32_5) (i32_0_5 : KO 16 P H32_5) (hm32_5 : ((12 - x32_4_5) : Int).toNat < n32_5), Go WSX G 31 iX11_best 32 [(0, vR 0), (1, vI a1), (2, vI x32_2_5), (3, vI x32_3_5), (4, vI x32_4_5)] [] H32_5 Q := by
          intro n32_5
          induction n32_5 with
          | zero => intro x32_4_5 h_x32_4_5 x32_3_5 h_x32_3_5 x32_2_5 h_x32_2_5 H32_5 hB32_5 hE32_5 i32_0_5 hm32_5; exact absurd hm32_5 (Nat.not_lt_zero _)
          | succ n32_5 ih32_5 =>
          intro x32_4_5 h_x32_4_5 x32_3_5 h_x32_3_5 x32_2_5 h_x32_2_5 H32_5 hB32_5 hE32_5 i32_0_5 hm32_5
          refine g_iload dX11_best_32 rfl ?_
          refine g_iconst dX11_best_34 ?_
          refine g_iadd dX11_best_35 ?_
          refine g_aload_n dX11_best_36 rfl ?_
          refine x_g0_5 (n := 14) (⟨by decide, rfl⟩ : kx 0 0) ffX11_43 dX11_best_37 rfl ?_
          refine x_g14_1 (z := (H32_5 14 1)) (⟨by decide, rfl⟩ : kx 14 14) ffX11_176 dX11_best_40 rfl ?_
          have f91 := bx_14_1 (o := 14) hB32_5 (⟨by decide, rfl⟩ : kx 14 14)
          refine g_icmp_ge (tgt := 105) dX11_best_43 (by decide) ⟨by (first | (clear k3 k4; omega) | omega), by (first | (clear k3 k4; omega) | omega)⟩ ⟨by have q0 := bx_14_1 (o := 14) hB32_5 (⟨by decide, rfl⟩ : kx 14 14); (first | (clear k3 k4; omega) | omega), by have q0 := bx_14_1 (o := 14) hB32_5 (⟨by decide, rfl⟩ : kx 14 14); (first | (clear k3 k4; omega) | omega)⟩ (fun k92 => ?_) (fun k92 => ?_)
          · refine g_iload_n dX11_best_105 rfl ?_
            refine g_if_ne (tgt := 113) dX11_best_106 (by decide) ⟨by (first | (clear k3 k4; omega) | omega), by (first | (clear k3 k4; omega) | omega)⟩ (fun k93 => ?_) (fun k93 => ?_)
            · have k93n : 1 ≤ a1 := by (first | (clear k3 k4 k93; omega) | (clear k3 k4; omega) | (clear k3 k93; omega) | (clear k4 k93; omega) | (clear k3; omega) | omega)
              clear k93
              refine g_iload_n dX11_best_113 rfl ?_
              exact g_retI dX11_best_114 rfl (hQ x32_2_5 ⟨by (first | (clear k3 k4; omega) | omega), by (first | (clear k3 k4; omega) | omega)⟩ _ hB32_5 (FrX.c (FrX.c FrX.rf hFc5 rfl) hE32_5 rfl) (z0.same i32_0_5 ((FrX.g hE32_5 (⟨by decide, rfl⟩ : kx 18 16) rfl).trans ((FrX.g hFc5 (⟨by decide, rfl⟩ : kx 18 16) rfl).trans rfl)) ((FrX.g hE32_5 (⟨by decide, rfl⟩ : kx 18 16) rfl).trans ((FrX.g hFc5 (⟨by decide, rfl⟩ : kx 18 16) rfl).trans rfl)) ((FrX.g hE32_5 (⟨by decide, rfl⟩ : kx 18 16) rfl).trans ((FrX.g hFc5 (⟨by decide, rfl⟩ : kx 18 16) rfl).trans rfl)) ((FrX.g hE32_5 (⟨by decide, rfl⟩ : kx 0 0) rfl).trans ((FrX.g hFc5 (⟨by decide, rfl⟩ : kx 0 0) rfl).trans rfl)) ((FrX.g hE32_5 (⟨by decide, rfl⟩ : kx 64 22) rfl).trans ((FrX.g hFc5 (⟨by decide, rfl⟩ : kx 64 22) rfl).trans rfl)) (fun j => ((FrX.g hE32_5 (⟨by decide, rfl⟩ : kx 63 21) rfl).trans ((FrX.g hFc5 (⟨by decide, rfl⟩ : kx 63 21) rfl).trans rfl)))))
            · refine g_iload_n dX11_best_109 rfl ?_
              refine g_goto (tgt := 114) dX11_best_110 (by decide) ?_
              exact g_retI dX11_best_114 rfl (hQ x32_3_5 ⟨by (first | (clear k3 k4 k93; omega) | omega), by (first | (clear k3 k4 k93; omega) | omega)⟩ _ hB32_5 (FrX.c (FrX.c FrX.rf hFc5 rfl) hE32_5 rfl) (z0.same i32_0_5 ((FrX.g hE32_5 (⟨by decide, rfl⟩ : kx 18 16) rfl).trans ((FrX.g hFc5 (⟨by decide, rfl⟩ : kx 18 16) rfl).trans rfl)) ((FrX.g hE32_5 (⟨by decide, rfl⟩ : kx 18 16) rfl).trans ((FrX.g hFc5 (⟨by decide, rfl⟩ : kx 18 16) rfl).trans rfl)) ((FrX.g hE32_5 (⟨by decide, rfl⟩ : kx 18 16) rfl).trans ((FrX.g hFc5 (⟨by decide, rfl⟩ : kx 18 16) rfl).trans rfl)) ((FrX.g hE32_5 (⟨by decide, rfl⟩ : kx 0 0) rfl).trans ((FrX.g hFc5 (⟨by decide, rfl⟩ : kx 0 0) rfl).trans rfl)) ((FrX.g hE32_5 (⟨by decide, rfl⟩ : kx 64 22) rfl).trans ((FrX.g hFc5 (⟨by decide, rfl⟩ : kx 64 22) rfl).trans rfl)) (fun j => ((FrX.g hE32_5 (⟨by decide, rfl⟩ : kx 63 21) rfl).trans ((FrX.g hFc5 (⟨by decide, rfl⟩ : kx 63 21) rfl).trans rfl)))))
          · refine g_aload_n dX11_best_46 rfl ?_
            refine x_g0_6 (n := 16) (⟨by decide, rfl⟩ : kx 0 0) ffX11_47 dX11_best_47 rfl ?_
            refine g_aload_n dX11_best_50 rfl ?_
            refine x_g0_5 (n := 14) (⟨by decide, rfl⟩ : kx 0 0) ffX11_43 dX11_best_51 rfl ?_
            refine g_vV (av := [vR 14]) (o := 16) (st := []) (f_X5_copy G H32_5 16 14 (⟨by decide, rfl⟩ : kx 16 14) (⟨by decide, rfl⟩ : kx 14 14) hB32_5 (by decide) _ (fun Pc94 hBc94 hFc94 gc94_c1 gc94_c2 gc94_c3 gc94_ca gc94_ko => ⟨rfl, ?_⟩)) cf_X5_copy t_1185 rfl (show kx 16 14 from (⟨by decide, rfl⟩ : kx 16 14)).1 ((show kx 16 14 from (⟨by decide, rfl⟩ : kx 16 14)).sh rfl) rfl rfl (Nat.le_of_ble_eq_true rfl) (by decide) rfl dX11_best_54
            have hko1 := KO.t i32_0_5 gc94_ko
            refine g_aload_n dX11_best_57 rfl ?_
            refine x_g0_6 (n := 16) (⟨by decide, rfl⟩ : kx 0 0) ffX11_47 dX11_best_58 rfl ?_
            refine g_iload dX11_best_61 rfl ?_
            refine g_iload dX11_best_63 rfl ?_
            refine g_iconst dX11_best_65 ?_
            refine g_iadd dX11_best_66 ?_
            refine g_vV (av := [vI x32_4_5, vI (x32_4_5 + 1)]) (o := 16) (st := []) (f_X5_exchange G Pc94 16 x32_4_5 (x32_4_5 + 1) (⟨by decide, rfl⟩ : kx 16 14) ⟨by (first | (clear k3 k4; omega) | omega), by (first | (clear k3 k4; omega) | omega)⟩ ⟨by (first | (clear k3 k4; omega) | omega), by (first | (clear k3 k4; omega) | omega)⟩ hBc94  _ (fun Pc95 hBc95 hFc95 gc95_x1 gc95_x2 gc95_xo gc95_ko => ⟨rfl, ?_⟩)) cf_X5_exchange t_1189 rfl (show kx 16 14 from (⟨by decide, rfl⟩ : kx 16 14)).1 ((show kx 16 14 from (⟨by decide, rfl⟩ : kx 16 14)).sh rfl) rfl rfl (Nat.le_of_ble_eq_true rfl) (by decide) rfl dX11_best_67
            have hko2 := KO.t hko1 gc95_ko
            refine g_aload_n dX11_best_70 rfl ?_
            refine g_vI (av := []) (o := 0) (st := []) (m_X11_trialTakesAlike G Pc95  hBc95  _ (fun rc96 hc96 => ⟨rc96, rfl, ?_⟩)) cf_X11_trialTakesAlike t_1193 rfl (show kx 0 0 from (⟨by decide, rfl⟩ : kx 0 0)).1 ((show kx 0 0 from (⟨by decide, rfl⟩ : kx 0 0)).sh rfl) rfl rfl (Nat.le_of_ble_eq_true rfl) (by decide) rfl dX11_best_71
            refine g_if_eq (tgt := 99) dX11_best_74 (by decide) ⟨by (first | (clear k3 k4 gc95_x1 gc95_x2; omega) | omega), by (first | (clear k3 k4 gc95_x1 gc95_x2; omega) | omega)⟩ (fun k97 => ?_) (fun k97 => ?_)
            · refine g_iinc (l1 := [(4, vI (x32_4_5 + 1)), (0, vR 0), (1, vI a1), (2, vI x32_2_5), (3, vI x32_3_5)]) dX11_best_99 rfl (by decide) rfl ?_
              refine g_goto (tgt := 32) dX11_best_102 (by decide) ?_
              refine g_forget (l1 := [(0, vR 0), (1, vI a1), (2, vI x32_2_5), (3, vI x32_3_5), (4, vI (x32_4_5 + 1))]) (by intro q hq; simp only [List.mem_cons, List.not_mem_nil, or_false] at hq ⊢; rcases hq with rfl | rfl | rfl | rfl | rfl <;> simp) ?_
              exact ih32_5 (x32_4_5 + 1) ⟨by (first | (clear k3 k4 gc95_x1 gc95_x2 k97; omega) | omega), by (first | (clear k3 k4 gc95_x1 gc95_x2 k97; omega) | omega)⟩ x32_3_5 ⟨by (first | (clear k3 k4 gc95_x1 gc95_x2 k97; omega) | omega), by (first | (clear k3 k4 gc95_x1 gc95_x2 k97; omega) | omega)⟩ x32_2_5 ⟨by (first | (clear k3 k4 gc95_x1 gc95_x2 k97; omega) | omega), by (first | (clear k3 k4 gc95_x1 gc95_x2 k97; omega) | omega)⟩ _ hBc95 (FrX.c (FrX.c (FrX.c FrX.rf hE32_5 rfl) hFc94 rfl) hFc95 rfl) (by first | exact hko2 | exact hko0) (by (first | (clear k3 k4 gc95_x1 gc95_x2 k97; omega) | (clear k3 k4 gc95_x1 gc95_x2; omega) | (clear k3 k4 gc95_x1 k97; omega) | (clear k3 k4 gc95_x2 k97; omega) | (clear k3 gc95_x1 gc95_x2 k97; omega) | (clear k4 gc95_x1 gc95_x2 k97; omega) | (clear k3 k4 gc95_x1; omega) | (clear k3; omega) | omega))
            · have k97n : 1 ≤ rc96 := by (first | (clear k3 k4 gc95_x1 gc95_x2 k97; omega) | (clear k3 k4 gc95_x1 gc95_x2; omega) | (clear k3 k4 gc95_x1 k97; omega) | (clear k3 k4 gc95_x2 k97; omega) | (clear k3 gc95_x1 gc95_x2 k97; omega) | (clear k4 gc95_x1 gc95_x2 k97; omega) | (clear k3 k4 gc95_x1; omega) | (clear k3; omega) | omega)
              clear k97
              refine g_aload_n dX11_best_77 rfl ?_
              refine g_aload_n dX11_best_78 rfl ?_
              refine x_g0_6 (n := 16) (⟨by decide, rfl⟩ : kx 0 0) ffX11_47 dX11_best_79 rfl ?_
              refine g_vI (av := [vR 16]) (o := 0) (st := []) (m_X11_allTests G Pc95 16 (⟨by decide, rfl⟩ : kx 16 14) hBc95  _ (fun rc98 hc98 Pc98 hBc98 hFc98 => ⟨rc98, rfl, ?_⟩)) cf_X11_allTests t_1206 rfl (show kx 0 0 from (⟨by decide, rfl⟩ : kx 0 0)).1 ((show kx 0 0 from (⟨by decide, rfl⟩ : kx 0 0)).sh rfl) rfl rfl (Nat.le_of_ble_eq_true rfl) (by decide) rfl dX11_best_82
              have hko2 := KO.fr hko2 hFc98 rfl
              refine g_istore (l1 := [(5, vI rc98), (0, vR 0), (1, vI a1), (2, vI x32_2_5), (3, vI x32_3_5), (4, vI x32_4_5)]) dX11_best_85 (by decide) rfl ?_
              refine g_iload dX11_best_87 rfl ?_
              refine g_iload_n dX11_best_89 rfl ?_
              refine g_icmp_ge (tgt := 99) dX11_best_90 (by decide) ⟨by (first | (clear k3 k4 gc95_x1 gc95_x2; omega) | omega), by (first | (clear k3 k4 gc95_x1 gc95_x2; omega) | omega)⟩ ⟨by (first | (clear k3 k4 gc95_x1 gc95_x2; omega) | omega), by (first | (clear k3 k4 gc95_x1 gc95_x2; omega) | omega)⟩ (fun k99 => ?_) (fun k99 => ?_)
              · refine g_iinc (l1 := [(4, vI (x32_4_5 + 1)), (5, vI rc98), (0, vR 0), (1, vI a1), (2, vI x32_2_5), (3, vI x32_3_5)]) dX11_best_99 rfl (by decide) rfl ?_
                refine g_goto (tgt := 32) dX11_best_102 (by decide) ?_
                refine g_forget (l1 := [(0, vR 0), (1, vI a1), (2, vI x32_2_5), (3, vI x32_3_5), (4, vI (x32_4_5 + 1))]) (by intro q hq; simp only [List.mem_cons, List.not_mem_nil, or_false] at hq ⊢; rcases hq with rfl | rfl | rfl | rfl | rfl <;> simp) ?_
                exact ih32_5 (x32_4_5 + 1) ⟨by (first | (clear k3 k4 gc95_x1 gc95_x2; omega) | omega), by (first | (clear k3 k4 gc95_x1 gc95_x2; omega) | omega)⟩ x32_3_5 ⟨by (first | (clear k3 k4 gc95_x1 gc95_x2; omega) | omega), by (first | (clear k3 k4 gc95_x1 gc95_x2; omega) | omega)⟩ x32_2_5 ⟨by (first | (clear k3 k4 gc95_x1 gc95_x2; omega) | omega), by (first | (clear k3 k4 gc95_x1 gc95_x2; omega) | omega)⟩ _ hBc98 (FrX.c (FrX.c (FrX.c (FrX.c FrX.rf hE32_5 rfl) hFc94 rfl) hFc95 rfl) hFc98 rfl) (by first | exact hko2 | exact hko0) (by (first | (clear k3 k4 gc95_x1 gc95_x2; omega) | (clear k3 k4 gc95_x1; omega) | (clear k3 k4 gc95_x2; omega) | (clear k3 gc95_x1 gc95_x2; omega) | (clear k4 gc95_x1 gc95_x2; omega) | (clear k3 k4; omega) | omega))
              · refine g_iload dX11_best_93 rfl ?_
                refine g_istore_n (l1 := [(2, vI rc98), (5, vI rc98), (0, vR 0), (1, vI a1), (3, vI x32_3_5), (4, vI x32_4_5)]) dX11_best_95 (by decide) rfl ?_
                refine g_iload dX11_best_96 rfl ?_
                refine g_istore_n (l1 := [(3, vI x32_4_5), (2, vI rc98), (5, vI rc98), (0, vR 0), (1, vI a1), (4, vI x32_4_5)]) dX11_best_98 (by decide) rfl ?_
                refine g_iinc (l1 := [(4, vI (x32_4_5 + 1)), (3, vI x32_4_5), (2, vI rc98), (5, vI rc98), (0, vR 0), (1, vI a1)]) dX11_best_99 rfl (by decide) rfl ?_
                refine g_goto (tgt := 32) dX11_best_102 (by decide) ?_
                refine g_forget (l1 := [(0, vR 0), (1, vI a1), (2, vI rc98), (3, vI x32_4_5), (4, vI (x32_4_5 + 1))]) (by intro q hq; simp only [List.mem_cons, List.not_mem_nil, or_false] at hq ⊢; rcases hq with rfl | rfl | rfl | rfl | rfl <;> simp) ?_
                exact ih32_5 (x32_4_5 + 1) ⟨by (first | (clear k3 k4 gc95_x1 gc95_x2; omega) | omega), by (first | (clear k3 k4 gc95_x1 gc95_x2; omega) | omega)⟩ x32_4_5 ⟨by (first | (clear k3 k4 gc95_x1 gc95_x2; omega) | omega), by (first | (clear k3 k4 gc95_x1 gc95_x2; omega) | omega)⟩ rc98 ⟨by (first | (clear k3 k4 gc95_x1 gc95_x2; omega) | omega), by (first | (clear k3 k4 gc95_x1 gc95_x2; omega) | omega)⟩ _ hBc98 (FrX.c (FrX.c (FrX.c (FrX.c FrX.rf hE32_5 rfl) hFc94 rfl) hFc95 rfl) hFc98 rfl) (by first | exact hko2 | exact hko0) (by (first | (clear k3 k4 gc95_x1 gc95_x2; omega) | (clear k3 k4 gc95_x1; omega) | (clear k3 k4 gc95_x2; omega) | (clear k3 gc95_x1 gc95_x2; omega) | (clear k4 gc95_x1 gc95_x2; omega) | (clear k3 k4; omega) | omega))
        refine g_forget (l1 := [(0, vR 0), (1, vI a1), (2, vI rc5), (3, vI (-1)), (4, vI 0)]) (by intro q hq; simp only [List.mem_cons, List.not_mem_nil, or_false] at hq ⊢; rcases hq with rfl | rfl | rfl | rfl | rfl <;> simp) ?_
        exact L32_5 _ 0 (by decide) (-1) (by decide) rc5 ⟨by (first | (clear k3 k4; omega) | omega), by (first | (clear k3 k4; omega) | omega)⟩ _ hBc5 FrX.rf (by first | exact hko2 | exact hko0) (Nat.lt_succ_self _)
      · refine g_iconst dX11_best_16 ?_
        exact g_retI dX11_best_17 rfl (hQ (-1) (by decide) _ hB FrX.rf (z0))
/-! What the class answers: X11_safe. -/
set_option maxRecDepth 100000 in
set_option maxHeartbeats 4000000 in
theorem f_X11_safe (G : GT) (P : PH) (A : PH) (a1 : Int) (a2 : Int) (h_a1 : (-2147483648) ≤ a1 ∧ a1 ≤ 2147483647) (h_a2 : (-2147483648) ≤ a2 ∧ a2 ≤ 2147483647) (hB : BdX P) (z0 : AX A P) (Q : Option PV → PH → Prop) (hQ : ∀ (r : Int) (_ : (-2147483648) ≤ r ∧ r ≤ 2147483647) (P1 : PH) (_ : BdX P1) (_ : FrX ([(14, 1), (14, 2), (14, 3)], [15]) P P1) (_ : AX A P1), Q (some (vI r)) P1) : Ct WSX G 4 iX11_safe [vR 0, vI a1, vI a2] P Q := by
  refine Ct.of (by decide) (l0 := [(0, vR 0), (1, vI a1), (2, vI a2)]) rfl (Nat.le_of_ble_eq_true rfl) ?_
  refine g_aload_n dX11_safe_0 rfl ?_
  refine x_g0_5 (n := 14) (⟨by decide, rfl⟩ : kx 0 0) ffX11_43 dX11_safe_1 rfl ?_
  refine g_iload_n dX11_safe_4 rfl ?_
  refine g_vI (av := [vI a1]) (o := 14) (st := []) (f_X5_isPlace G P 14 a1 (⟨by decide, rfl⟩ : kx 14 14) ⟨by omega, by omega⟩ hB  _ (fun rc1 hc1 gc1_k gc1_f => ⟨rc1, rfl, ?_⟩)) cf_X5_isPlace t_1184 rfl (show kx 14 14 from (⟨by decide, rfl⟩ : kx 14 14)).1 ((show kx 14 14 from (⟨by decide, rfl⟩ : kx 14 14)).sh rfl) rfl rfl (Nat.le_of_ble_eq_true rfl) (by decide) rfl dX11_safe_5
  have f2 := bx_14_1 (o := 14) hB (⟨by decide, rfl⟩ : kx 14 14)
  refine g_if_eq (tgt := 22) dX11_safe_8 (by decide) ⟨by (clear gc1_k gc1_f; omega), by (clear gc1_k gc1_f; omega)⟩ (fun k3 => ?_) (fun k3 => ?_)
  · skip
    skip
    refine g_iconst dX11_safe_22 ?_
    exact g_retI dX11_safe_23 rfl (hQ (-1) (by decide) _ hB FrX.rf (z0))
  · have k3n : 1 ≤ rc1 := by (clear gc1_k gc1_f; omega)
    clear k3
    have r_gc1_f := (gc1_f.resolve_right (by (clear gc1_k gc1_f; omega)))
    have r_gc1_k := (gc1_k.resolve_left (by (clear gc1_k gc1_f; omega)))
    refine g_aload_n dX11_safe_11 rfl ?_
    refine x_g0_5 (n := 14) (⟨by decide, rfl⟩ : kx 0 0) ffX11_43 dX11_safe_12 rfl ?_
    refine g_iload_n dX11_safe_15 rfl ?_
    refine g_vI (av := [vI a2]) (o := 14) (st := []) (f_X5_isPlace G P 14 a2 (⟨by decide, rfl⟩ : kx 14 14) ⟨by (clear gc1_k gc1_f; omega), by (clear gc1_k gc1_f; omega)⟩ hB  _ (fun rc4 hc4 gc4_k gc4_f => ⟨rc4, rfl, ?_⟩)) cf_X5_isPlace t_1184 rfl (show kx 14 14 from (⟨by decide, rfl⟩ : kx 14 14)).1 ((show kx 14 14 from (⟨by decide, rfl⟩ : kx 14 14)).sh rfl) rfl rfl (Nat.le_of_ble_eq_true rfl) (by decide) rfl dX11_safe_16
    refine g_if_ne (tgt := 24) dX11_safe_19 (by decide) ⟨by (clear gc1_k gc1_f gc4_k gc4_f; omega), by (clear gc1_k gc1_f gc4_k gc4_f; omega)⟩ (fun k5 => ?_) (fun k5 => ?_)
    · have k5n : 1 ≤ rc4 := by (clear gc1_k gc1_f gc4_k gc4_f; omega)
      clear k5
      have r_gc4_f := (gc4_f.resolve_right (by (clear gc1_k gc1_f gc4_k gc4_f; omega)))
      have r_gc4_k := (gc4_k.resolve_left (by (clear gc1_k gc1_f gc4_k gc4_f; omega)))
      skip
      skip
      refine g_aload_n dX11_safe_24 rfl ?_
      refine x_g0_6 (n := 16) (⟨by decide, rfl⟩ : kx 0 0) ffX11_47 dX11_safe_25 rfl ?_
      refine g_aload_n dX11_safe_28 rfl ?_
      refine x_g0_5 (n := 14) (⟨by decide, rfl⟩ : kx 0 0) ffX11_43 dX11_safe_29 rfl ?_
      refine g_vV (av := [vR 14]) (o := 16) (st := []) (f_X5_copy G P 16 14 (⟨by decide, rfl⟩ : kx 16 14) (⟨by decide, rfl⟩ : kx 14 14) hB (by decide) _ (fun Pc6 hBc6 hFc6 gc6_c1 gc6_c2 gc6_c3 gc6_ca gc6_ko => ⟨rfl, ?_⟩)) cf_X5_copy t_1185 rfl (show kx 16 14 from (⟨by decide, rfl⟩ : kx 16 14)).1 ((show kx 16 14 from (⟨by decide, rfl⟩ : kx 16 14)).sh rfl) rfl rfl (Nat.le_of_ble_eq_true rfl) (by decide) rfl dX11_safe_32
      have hko1 := gc6_ko
      refine g_aload_n dX11_safe_35 rfl ?_
      refine x_g0_6 (n := 16) (⟨by decide, rfl⟩ : kx 0 0) ffX11_47 dX11_safe_36 rfl ?_
      refine g_iload_n dX11_safe_39 rfl ?_
      refine g_iload_n dX11_safe_40 rfl ?_
      refine g_vV (av := [vI a1, vI a2]) (o := 16) (st := []) (f_X5_exchange G Pc6 16 a1 a2 (⟨by decide, rfl⟩ : kx 16 14) ⟨by (clear gc1_k gc1_f gc4_k gc4_f; omega), by (clear gc1_k gc1_f gc4_k gc4_f; omega)⟩ ⟨by (clear gc1_k gc1_f gc4_k gc4_f; omega), by (clear gc1_k gc1_f gc4_k gc4_f; omega)⟩ hBc6  _ (fun Pc7 hBc7 hFc7 gc7_x1 gc7_x2 gc7_xo gc7_ko => ⟨rfl, ?_⟩)) cf_X5_exchange t_1189 rfl (show kx 16 14 from (⟨by decide, rfl⟩ : kx 16 14)).1 ((show kx 16 14 from (⟨by decide, rfl⟩ : kx 16 14)).sh rfl) rfl rfl (Nat.le_of_ble_eq_true rfl) (by decide) rfl dX11_safe_41
      have hko2 := KO.t hko1 gc7_ko
      refine g_aload_n dX11_safe_44 rfl ?_
      refine g_vI (av := []) (o := 0) (st := []) (m_X11_trialTakesAlike G Pc7  hBc7  _ (fun rc8 hc8 => ⟨rc8, rfl, ?_⟩)) cf_X11_trialTakesAlike t_1193 rfl (show kx 0 0 from (⟨by decide, rfl⟩ : kx 0 0)).1 ((show kx 0 0 from (⟨by decide, rfl⟩ : kx 0 0)).sh rfl) rfl rfl (Nat.le_of_ble_eq_true rfl) (by decide) rfl dX11_safe_45
      refine g_if_eq (tgt := 55) dX11_safe_48 (by decide) ⟨by (clear gc1_k gc1_f gc4_k gc4_f gc7_x1 gc7_x2; omega), by (clear gc1_k gc1_f gc4_k gc4_f gc7_x1 gc7_x2; omega)⟩ (fun k9 => ?_) (fun k9 => ?_)
      · skip
        skip
        skip
        skip
        refine g_iconst dX11_safe_55 ?_
        exact g_retI dX11_safe_56 rfl (hQ 0 (by decide) _ hBc7 (FrX.c (FrX.c FrX.rf hFc6 rfl) hFc7 rfl) (z0.same hko2 ((FrX.g hFc7 (⟨by decide, rfl⟩ : kx 18 16) rfl).trans ((FrX.g hFc6 (⟨by decide, rfl⟩ : kx 18 16) rfl).trans rfl)) ((FrX.g hFc7 (⟨by decide, rfl⟩ : kx 18 16) rfl).trans ((FrX.g hFc6 (⟨by decide, rfl⟩ : kx 18 16) rfl).trans rfl)) ((FrX.g hFc7 (⟨by decide, rfl⟩ : kx 18 16) rfl).trans ((FrX.g hFc6 (⟨by decide, rfl⟩ : kx 18 16) rfl).trans rfl)) ((FrX.g hFc7 (⟨by decide, rfl⟩ : kx 0 0) rfl).trans ((FrX.g hFc6 (⟨by decide, rfl⟩ : kx 0 0) rfl).trans rfl)) ((FrX.g hFc7 (⟨by decide, rfl⟩ : kx 64 22) rfl).trans ((FrX.g hFc6 (⟨by decide, rfl⟩ : kx 64 22) rfl).trans rfl)) (fun j => ((FrX.g hFc7 (⟨by decide, rfl⟩ : kx 63 21) rfl).trans ((FrX.g hFc6 (⟨by decide, rfl⟩ : kx 63 21) rfl).trans rfl)))))
      · have k9n : 1 ≤ rc8 := by (clear gc1_k gc1_f gc4_k gc4_f gc7_x1 gc7_x2; omega)
        clear k9
        skip
        skip
        skip
        skip
        refine g_iconst dX11_safe_51 ?_
        refine g_goto (tgt := 56) dX11_safe_52 (by decide) ?_
        exact g_retI dX11_safe_56 rfl (hQ 1 (by decide) _ hBc7 (FrX.c (FrX.c FrX.rf hFc6 rfl) hFc7 rfl) (z0.same hko2 ((FrX.g hFc7 (⟨by decide, rfl⟩ : kx 18 16) rfl).trans ((FrX.g hFc6 (⟨by decide, rfl⟩ : kx 18 16) rfl).trans rfl)) ((FrX.g hFc7 (⟨by decide, rfl⟩ : kx 18 16) rfl).trans ((FrX.g hFc6 (⟨by decide, rfl⟩ : kx 18 16) rfl).trans rfl)) ((FrX.g hFc7 (⟨by decide, rfl⟩ : kx 18 16) rfl).trans ((FrX.g hFc6 (⟨by decide, rfl⟩ : kx 18 16) rfl).trans rfl)) ((FrX.g hFc7 (⟨by decide, rfl⟩ : kx 0 0) rfl).trans ((FrX.g hFc6 (⟨by decide, rfl⟩ : kx 0 0) rfl).trans rfl)) ((FrX.g hFc7 (⟨by decide, rfl⟩ : kx 64 22) rfl).trans ((FrX.g hFc6 (⟨by decide, rfl⟩ : kx 64 22) rfl).trans rfl)) (fun j => ((FrX.g hFc7 (⟨by decide, rfl⟩ : kx 63 21) rfl).trans ((FrX.g hFc6 (⟨by decide, rfl⟩ : kx 63 21) rfl).trans rfl)))))
    · skip
      skip
      skip
      skip
      refine g_iconst dX11_safe_22 ?_
      exact g_retI dX11_safe_23 rfl (hQ (-1) (by decide) _ hB FrX.rf (z0))
/-! What the class answers: X11_swap. -/
set_option maxRecDepth 100000 in
set_option maxHeartbeats 4000000 in
theorem f_X11_swap (G : GT) (P : PH) (A : PH) (k : Int) (a1 : Int) (a2 : Int) (h_a1 : (-2147483648) ≤ a1 ∧ a1 ≤ 2147483647) (h_a2 : (-2147483648) ≤ a2 ∧ a2 ≤ 2147483647) (hB : BdX P) (p_wa : WA k A) (z0 : AX A P) (Q : Option PV → PH → Prop) (hQ : ∀ (r : Int) (_ : 0 ≤ r ∧ r ≤ 1) (P1 : PH) (_ : BdX P1) (_ : FrX ([(14, 1), (14, 2), (14, 3), (16, 6), (16, 7)], [15, 21, 27]) P P1) (_ : (r = 1 ∧ 0 ≤ a1 ∧ a1 < A 0 0 ∧ 0 ≤ a2 ∧ a2 < A 0 0 ∧ a1 ≠ a2) ∨ (r = 0 ∧ (a1 < 0 ∨ A 0 0 ≤ a1 ∨ a2 < 0 ∨ A 0 0 ≤ a2 ∨ a1 = a2))) (_ : AX (aSwap A a1 a2) P1), Q (some (vI r)) P1) : Ct WSX G 4 iX11_swap [vR 0, vI a1, vI a2] P Q := by
  refine Ct.of (by decide) (l0 := [(0, vR 0), (1, vI a1), (2, vI a2)]) rfl (Nat.le_of_ble_eq_true rfl) ?_
  have hb := z0.b
  refine g_iload_n dX11_swap_0 rfl ?_
  refine g_iload_n dX11_swap_1 rfl ?_
  refine g_icmp_eq (tgt := 27) dX11_swap_2 (by decide) ⟨by (clear hb; omega), by (clear hb; omega)⟩ ⟨by (clear hb; omega), by (clear hb; omega)⟩ (fun k1 => ?_) (fun k1 => ?_)
  · refine g_aload_n dX11_swap_27 rfl ?_
    refine g_iconst dX11_swap_28 ?_
    refine g_vI (av := [vI 3]) (o := 0) (st := []) (m_X11_refuse G P 3 (by decide) hB  _ (fun rc2 hc2 Pc2 hBc2 hFc2 => ⟨rc2, rfl, ?_⟩)) cf_X11_refuse t_663 rfl (show kx 0 0 from (⟨by decide, rfl⟩ : kx 0 0)).1 ((show kx 0 0 from (⟨by decide, rfl⟩ : kx 0 0)).sh rfl) rfl rfl (Nat.le_of_ble_eq_true rfl) (by decide) rfl dX11_swap_29
    exact g_retZ dX11_swap_32 rfl (by (clear hb k1; omega)) (hQ rc2 ⟨by (clear hb k1; omega), by (clear hb k1; omega)⟩ _ hBc2 (FrX.c FrX.rf hFc2 rfl) (by (clear hb; omega)) (by rw [aSwap_n (by (clear hb; omega))]; exact (AX.fr (F := ([], [27])) z0 (FrX.c FrX.rf hFc2 rfl) rfl)))
  · refine g_aload_n dX11_swap_5 rfl ?_
    refine x_g0_5 (n := 14) (⟨by decide, rfl⟩ : kx 0 0) ffX11_43 dX11_swap_6 rfl ?_
    refine g_iload_n dX11_swap_9 rfl ?_
    refine g_vI (av := [vI a1]) (o := 14) (st := []) (f_X5_isPlace G P 14 a1 (⟨by decide, rfl⟩ : kx 14 14) ⟨by (clear hb k1; omega), by (clear hb k1; omega)⟩ hB  _ (fun rc3 hc3 gc3_k gc3_f => ⟨rc3, rfl, ?_⟩)) cf_X5_isPlace t_1184 rfl (show kx 14 14 from (⟨by decide, rfl⟩ : kx 14 14)).1 ((show kx 14 14 from (⟨by decide, rfl⟩ : kx 14 14)).sh rfl) rfl rfl (Nat.le_of_ble_eq_true rfl) (by decide) rfl dX11_swap_10
    have f4 := bx_14_1 (o := 14) hB (⟨by decide, rfl⟩ : kx 14 14)
    refine g_if_eq (tgt := 27) dX11_swap_13 (by decide) ⟨by (clear hb k1 gc3_k gc3_f; omega), by (clear hb k1 gc3_k gc3_f; omega)⟩ (fun k5 => ?_) (fun k5 => ?_)
    · skip
      skip
      refine g_aload_n dX11_swap_27 rfl ?_
      refine g_iconst dX11_swap_28 ?_
      refine g_vI (av := [vI 3]) (o := 0) (st := []) (m_X11_refuse G P 3 (by decide) hB  _ (fun rc6 hc6 Pc6 hBc6 hFc6 => ⟨rc6, rfl, ?_⟩)) cf_X11_refuse t_663 rfl (show kx 0 0 from (⟨by decide, rfl⟩ : kx 0 0)).1 ((show kx 0 0 from (⟨by decide, rfl⟩ : kx 0 0)).sh rfl) rfl rfl (Nat.le_of_ble_eq_true rfl) (by decide) rfl dX11_swap_29
      exact g_retZ dX11_swap_32 rfl (by (clear hb k1 gc3_k gc3_f k5; omega)) (hQ rc6 ⟨by (clear hb k1 gc3_k gc3_f k5; omega), by (clear hb k1 gc3_k gc3_f k5; omega)⟩ _ hBc6 (FrX.c FrX.rf hFc6 rfl) (by (omega)) (by rw [aSwap_n (by (omega))]; exact (AX.fr (F := ([], [27])) z0 (FrX.c FrX.rf hFc6 rfl) rfl)))
    · have k5n : 1 ≤ rc3 := by (clear hb k1 gc3_k gc3_f; omega)
      clear k5
      have r_gc3_f := (gc3_f.resolve_right (by (clear hb k1 gc3_k gc3_f; omega)))
      have r_gc3_k := (gc3_k.resolve_left (by (clear hb k1 gc3_k gc3_f; omega)))
      refine g_aload_n dX11_swap_16 rfl ?_
      refine x_g0_5 (n := 14) (⟨by decide, rfl⟩ : kx 0 0) ffX11_43 dX11_swap_17 rfl ?_
      refine g_iload_n dX11_swap_20 rfl ?_
      refine g_vI (av := [vI a2]) (o := 14) (st := []) (f_X5_isPlace G P 14 a2 (⟨by decide, rfl⟩ : kx 14 14) ⟨by (clear hb k1 gc3_k gc3_f; omega), by (clear hb k1 gc3_k gc3_f; omega)⟩ hB  _ (fun rc7 hc7 gc7_k gc7_f => ⟨rc7, rfl, ?_⟩)) cf_X5_isPlace t_1184 rfl (show kx 14 14 from (⟨by decide, rfl⟩ : kx 14 14)).1 ((show kx 14 14 from (⟨by decide, rfl⟩ : kx 14 14)).sh rfl) rfl rfl (Nat.le_of_ble_eq_true rfl) (by decide) rfl dX11_swap_21
      refine g_if_ne (tgt := 33) dX11_swap_24 (by decide) ⟨by (clear hb k1 gc3_k gc3_f gc7_k gc7_f; omega), by (clear hb k1 gc3_k gc3_f gc7_k gc7_f; omega)⟩ (fun k8 => ?_) (fun k8 => ?_)
      · have k8n : 1 ≤ rc7 := by (clear hb k1 gc3_k gc3_f gc7_k gc7_f; omega)
        clear k8
        have r_gc7_f := (gc7_f.resolve_right (by (clear hb k1 gc3_k gc3_f gc7_k gc7_f; omega)))
        have r_gc7_k := (gc7_k.resolve_left (by (clear hb k1 gc3_k gc3_f gc7_k gc7_f; omega)))
        skip
        skip
        refine g_aload_n dX11_swap_33 rfl ?_
        refine g_vV (av := []) (o := 0) (st := []) (f_X11_remember G P A k  hB p_wa (z0) _ (fun Pc9 hBc9 hFc9 ec9_0 => ⟨rfl, ?_⟩)) cf_X11_remember t_1254 rfl (show kx 0 0 from (⟨by decide, rfl⟩ : kx 0 0)).1 ((show kx 0 0 from (⟨by decide, rfl⟩ : kx 0 0)).sh rfl) rfl rfl (Nat.le_of_ble_eq_true rfl) (by decide) rfl dX11_swap_34
        refine g_aload_n dX11_swap_37 rfl ?_
        refine x_g0_5 (n := 14) (⟨by decide, rfl⟩ : kx 0 0) ffX11_43 dX11_swap_38 rfl ?_
        refine g_iload_n dX11_swap_41 rfl ?_
        refine g_iload_n dX11_swap_42 rfl ?_
        have hpu := ec9_0
        have hpb := hpu.b
        have hp0 := aPush_0 A 0 (by decide)
        refine g_vV (av := [vI a1, vI a2]) (o := 14) (st := []) (f_X5_exchange G Pc9 14 a1 a2 (⟨by decide, rfl⟩ : kx 14 14) ⟨by (clear hb k1 gc3_k gc3_f gc7_k gc7_f hpb; omega), by (clear hb k1 gc3_k gc3_f gc7_k gc7_f hpb; omega)⟩ ⟨by (clear hb k1 gc3_k gc3_f gc7_k gc7_f hpb; omega), by (clear hb k1 gc3_k gc3_f gc7_k gc7_f hpb; omega)⟩ hBc9  _ (fun Pc10 hBc10 hFc10 gc10_x1 gc10_x2 gc10_xo gc10_ko => ⟨rfl, ?_⟩)) cf_X5_exchange t_1189 rfl (show kx 14 14 from (⟨by decide, rfl⟩ : kx 14 14)).1 ((show kx 14 14 from (⟨by decide, rfl⟩ : kx 14 14)).sh rfl) rfl rfl (Nat.le_of_ble_eq_true rfl) (by decide) rfl dX11_swap_43
        have hsw9 := AX.sw hpu p_wa ⟨⟨by (clear hb k1 gc3_k gc3_f gc7_k gc7_f hpb gc10_x1 gc10_x2; omega), by (omega)⟩, ⟨by (clear hb k1 gc3_k gc3_f gc7_k gc7_f hpb gc10_x1 gc10_x2; omega), by (omega)⟩, by (clear hb gc3_k gc3_f gc7_k gc7_f hpb gc10_x1 gc10_x2; omega)⟩ (gc10_x1 (by (clear hb k1 gc3_k gc3_f gc7_k gc7_f hpb gc10_x1 gc10_x2; omega)) (by (omega)) (by (clear hb k1 gc3_k gc3_f gc7_k gc7_f hpb gc10_x1 gc10_x2; omega)) (by (omega))) (gc10_x2 (by (clear hb k1 gc3_k gc3_f gc7_k gc7_f hpb gc10_x1 gc10_x2; omega)) (by (omega)) (by (clear hb k1 gc3_k gc3_f gc7_k gc7_f hpb gc10_x1 gc10_x2; omega)) (by (omega))) gc10_xo gc10_ko hFc10
        refine g_iconst dX11_swap_46 ?_
        exact g_retZ dX11_swap_47 rfl (by decide) (hQ 1 (by decide) _ hBc10 (FrX.c (FrX.c FrX.rf hFc9 rfl) hFc10 rfl) (by (omega)) (hsw9))
      · skip
        skip
        skip
        skip
        refine g_aload_n dX11_swap_27 rfl ?_
        refine g_iconst dX11_swap_28 ?_
        refine g_vI (av := [vI 3]) (o := 0) (st := []) (m_X11_refuse G P 3 (by decide) hB  _ (fun rc11 hc11 Pc11 hBc11 hFc11 => ⟨rc11, rfl, ?_⟩)) cf_X11_refuse t_663 rfl (show kx 0 0 from (⟨by decide, rfl⟩ : kx 0 0)).1 ((show kx 0 0 from (⟨by decide, rfl⟩ : kx 0 0)).sh rfl) rfl rfl (Nat.le_of_ble_eq_true rfl) (by decide) rfl dX11_swap_29
        exact g_retZ dX11_swap_32 rfl (by (clear hb k1 gc3_k gc3_f gc7_k gc7_f k8; omega)) (hQ rc11 ⟨by (clear hb k1 gc3_k gc3_f gc7_k gc7_f k8; omega), by (clear hb k1 gc3_k gc3_f gc7_k gc7_f k8; omega)⟩ _ hBc11 (FrX.c FrX.rf hFc11 rfl) (by (omega)) (by rw [aSwap_n (by (omega))]; exact (AX.fr (F := ([], [27])) z0 (FrX.c FrX.rf hFc11 rfl) rfl)))
/-! What the class answers: X5_takeOut. -/
set_option maxRecDepth 100000 in
set_option maxHeartbeats 4000000 in
theorem f_X5_takeOut (G : GT) (P : PH) (o0 : Nat) (a1 : Int) (k_o0 : kx o0 14) (h_a1 : (-2147483648) ≤ a1 ∧ a1 ≤ 2147483647) (hB : BdX P) (Q : Option PV → PH → Prop) (hQ : ∀ (P1 : PH) (_ : BdX P1) (_ : FrX ([(14, 1)], [15]) P P1) (_ : 0 ≤ a1 → a1 < P o0 1 → P1 o0 1 = P o0 1 - 1) (_ : ∀ q : Int, q < a1 → P1 (crX o0 0) q = P (crX o0 0) q) (_ : 0 ≤ a1 → ∀ q : Int, a1 ≤ q → q + 1 < P o0 1 → P1 (crX o0 0) q = P (crX o0 0) (q + 1)) (_ : KO o0 P P1), Q none P1) : Ct WSX G 2 iX5_takeOut [vR o0, vI a1] P Q := by
  refine Ct.of (by decide) (l0 := [(0, vR o0), (1, vI a1)]) rfl (Nat.le_of_ble_eq_true rfl) ?_
  have hd9 := kx.ne (ck_14_0 k_o0) k_o0 rfl
  refine g_aload_n dX5_takeOut_0 rfl ?_
  refine g_iload_n dX5_takeOut_1 rfl ?_
  refine g_vI (av := [vI a1]) (o := o0) (st := []) (f_X5_isPlace G P o0 a1 k_o0 ⟨by (first | (clear hd9; omega) | omega), by (first | (clear hd9; omega) | omega)⟩ hB  _ (fun rc1 hc1 gc1_k gc1_f => ⟨rc1, rfl, ?_⟩)) cf_X5_isPlace t_950 rfl (show kx o0 14 from k_o0).1 ((show kx o0 14 from k_o0).sh rfl) rfl rfl (Nat.le_of_ble_eq_true rfl) (by decide) rfl dX5_takeOut_2
  have f2 := bx_14_1 (o := o0) hB k_o0
  refine g_if_eq (tgt := 50) dX5_takeOut_5 (by decide) ⟨by (first | (clear hd9 gc1_k gc1_f; omega) | omega), by (first | (clear hd9 gc1_k gc1_f; omega) | omega)⟩ (fun k3 => ?_) (fun k3 => ?_)
  · exact g_retV dX5_takeOut_50 rfl (hQ _ hB FrX.rf (fun v0 v1 => by first | exact rfl | (exfalso; (first | (clear hd9 gc1_k gc1_f k3; omega) | (clear hd9 gc1_k gc1_f; omega) | (clear hd9 gc1_k k3; omega) | (clear hd9 gc1_f k3; omega) | (clear gc1_k gc1_f k3; omega) | (clear hd9 gc1_k; omega) | omega))) (fun q hq => by first | exact (up_o hd9).trans ((hNONE q (by (first | (clear hd9 gc1_k gc1_f k3; omega) | (clear hd9 gc1_k gc1_f; omega) | (clear hd9 gc1_k k3; omega) | (clear hd9 gc1_f k3; omega) | (clear gc1_k gc1_f k3; omega) | (clear hd9 gc1_k; omega) | omega))).trans (if_pos hq)) | rfl) (fun v0 q q0 q1 => by first | exact (up_o hd9).trans ((hNONE q (by (first | (clear hd9 gc1_k gc1_f k3; omega) | (clear hd9 gc1_k gc1_f; omega) | (clear hd9 gc1_k k3; omega) | (clear hd9 gc1_f k3; omega) | (clear gc1_k gc1_f k3; omega) | (clear hd9 gc1_k; omega) | omega))).trans (if_neg (by (first | (clear hd9 gc1_k gc1_f k3; omega) | (clear hd9 gc1_k gc1_f; omega) | (clear hd9 gc1_k k3; omega) | (clear hd9 gc1_f k3; omega) | (clear gc1_k gc1_f k3; omega) | (clear hd9 gc1_k; omega) | omega)))) | (exfalso; (first | (clear hd9 gc1_k gc1_f k3; omega) | (clear hd9 gc1_k gc1_f; omega) | (clear hd9 gc1_k k3; omega) | (clear hd9 gc1_f k3; omega) | (clear gc1_k gc1_f k3; omega) | (clear hd9 gc1_k; omega) | omega))) (by first | exact KO.w hNONE (Or.inl (or14 k_o0).1) | exact KO.rf))
  · have k3n : 1 ≤ rc1 := by (first | (clear hd9 gc1_k gc1_f k3; omega) | (clear hd9 gc1_k gc1_f; omega) | (clear hd9 gc1_k k3; omega) | (clear hd9 gc1_f k3; omega) | (clear gc1_k gc1_f k3; omega) | (clear hd9 gc1_k; omega) | omega)
    clear k3
    first | (revert r_gc1_f; intro r_gc1_f) | have r_gc1_f := (gc1_f.resolve_right (by (clear hd9 gc1_k gc1_f; omega))) | have r_gc1_f := (gc1_f.resolve_left (by (clear hd9 gc1_k gc1_f; omega))) | skip
    first | (revert r_gc1_k; intro r_gc1_k) | have r_gc1_k := (gc1_k.resolve_right (by (clear hd9 gc1_k gc1_f; omega))) | have r_gc1_k := (gc1_k.resolve_left (by (clear hd9 gc1_k gc1_f; omega))) | skip
    refine g_iload_n dX5_takeOut_8 rfl ?_
    refine g_istore_n (l1 := [(2, vI a1), (0, vR o0), (1, vI a1)]) dX5_takeOut_9 (by decide) rfl ?_
    have L10_3 : ∀ (n10_3 : Nat) (x10_2_3 : Int) (h_x10_2_3 : 0 ≤ x10_2_3 ∧ x10_2_3 ≤ 11) (H10_3 : PH) (hB10_3 : BdX H10_3) (hE10_3 : FrX ([], [15]) P H10_3) (i10_0_3 : ∀ q : Int, q < x10_2_3 → H10_3 (crX o0 0) q = if q < a1 then P (crX o0 0) q else P (crX o0 0) (q + 1)) (i10_1_3 : ∀ q : Int, x10_2_3 ≤ q → H10_3 (crX o0 0) q = P (crX o0 0) q) (i10_2_3 : a1 ≤ x10_2_3) (i10_3_3 : KO o0 P H10_3) (hm10_3 : ((12 - x10_2_3) : Int).toNat < n10_3), Go WSX G 2 iX5_takeOut 10 [(0, vR o0), (2, vI x10_2_3)] [] H10_3 Q := by
      intro n10_3
      induction n10_3 with
      | zero => intro x10_2_3 h_x10_2_3 H10_3 hB10_3 hE10_3 i10_0_3 i10_1_3 i10_2_3 i10_3_3 hm10_3; exact absurd hm10_3 (Nat.not_lt_zero _)
      | succ n10_3 ih10_3 =>
      intro x10_2_3 h_x10_2_3 H10_3 hB10_3 hE10_3 i10_0_3 i10_1_3 i10_2_3 i10_3_3 hm10_3
      refine g_iload_n dX5_takeOut_10 rfl ?_
      refine g_iconst dX5_takeOut_11 ?_
      refine g_iadd dX5_takeOut_12 ?_
      refine g_aload_n dX5_takeOut_13 rfl ?_
      refine x_g14_1 (z := (P o0 1)) k_o0 ffX5_24 dX5_takeOut_14 ((FrX.g hE10_3 k_o0 rfl).trans rfl) ?_
      refine g_icmp_ge (tgt := 40) dX5_takeOut_17 (by decide) ⟨by (first | (clear hd9 gc1_k gc1_f; omega) | omega), by (first | (clear hd9 gc1_k gc1_f; omega) | omega)⟩ ⟨by have q0 := bx_14_1 (o := o0) hB k_o0; (first | (clear hd9 gc1_k gc1_f; omega) | omega), by have q0 := bx_14_1 (o := o0) hB k_o0; (first | (clear hd9 gc1_k gc1_f; omega) | omega)⟩ (fun k17 => ?_) (fun k17 => ?_)
      · first | (revert r_gc1_f; intro r_gc1_f) | have r_gc1_f := (gc1_f.resolve_right (by (clear hd9 gc1_k gc1_f k17; omega))) | have r_gc1_f := (gc1_f.resolve_left (by (clear hd9 gc1_k gc1_f k17; omega))) | skip
        first | (revert r_gc1_k; intro r_gc1_k) | have r_gc1_k := (gc1_k.resolve_right (by (clear hd9 gc1_k gc1_f k17; omega))) | have r_gc1_k := (gc1_k.resolve_left (by (clear hd9 gc1_k gc1_f k17; omega))) | skip
        refine g_aload_n dX5_takeOut_40 rfl ?_
        refine g_dup dX5_takeOut_41 rfl ?_
        refine x_g14_1 (z := (P o0 1)) k_o0 ffX5_24 dX5_takeOut_42 ((FrX.g hE10_3 k_o0 rfl).trans rfl) ?_
        refine g_iconst dX5_takeOut_45 ?_
        refine g_isub dX5_takeOut_46 ?_
        refine x_p14_1 k_o0 pfX5_24 dX5_takeOut_47 ?_
        have hB18 := by_14_1 (z := ((P o0 1) - 1)) hB10_3 k_o0 ⟨by have q0 := bx_14_1 (o := o0) hB k_o0; (first | (clear hd9 gc1_k gc1_f k17; omega) | omega), by have q0 := bx_14_1 (o := o0) hB k_o0; (first | (clear hd9 gc1_k gc1_f k17; omega) | omega)⟩
        exact g_retV dX5_takeOut_50 rfl (hQ _ hB18 (FrX.s (FrX.c FrX.rf hE10_3 rfl) k_o0 rfl) (fun v0 v1 => by first | exact up_same | (exfalso; (first | (clear hd9 gc1_k gc1_f k17; omega) | (clear hd9 gc1_k gc1_f; omega) | (clear hd9 gc1_k k17; omega) | (clear hd9 gc1_f k17; omega) | (clear gc1_k gc1_f k17; omega) | (clear hd9 gc1_k; omega) | omega))) (fun q hq => by first | exact (up_o hd9).trans ((i10_0_3 q (by (first | (clear hd9 gc1_k gc1_f k17; omega) | (clear hd9 gc1_k gc1_f; omega) | (clear hd9 gc1_k k17; omega) | (clear hd9 gc1_f k17; omega) | (clear gc1_k gc1_f k17; omega) | (clear hd9 gc1_k; omega) | omega))).trans (if_pos hq)) | rfl) (fun v0 q q0 q1 => by first | exact (up_o hd9).trans ((i10_0_3 q (by (first | (clear hd9 gc1_k gc1_f k17; omega) | (clear hd9 gc1_k gc1_f; omega) | (clear hd9 gc1_k k17; omega) | (clear hd9 gc1_f k17; omega) | (clear gc1_k gc1_f k17; omega) | (clear hd9 gc1_k; omega) | omega))).trans (if_neg (by (first | (clear hd9 gc1_k gc1_f k17; omega) | (clear hd9 gc1_k gc1_f; omega) | (clear hd9 gc1_k k17; omega) | (clear hd9 gc1_f k17; omega) | (clear gc1_k gc1_f k17; omega) | (clear hd9 gc1_k; omega) | omega)))) | (exfalso; (first | (clear hd9 gc1_k gc1_f k17; omega) | (clear hd9 gc1_k gc1_f; omega) | (clear hd9 gc1_k k17; omega) | (clear hd9 gc1_f k17; omega) | (clear gc1_k gc1_f k17; omega) | (clear hd9 gc1_k; omega) | omega))) (by first | exact KO.w i10_3_3 (Or.inl (or14 k_o0).1) | exact KO.rf))
      · first | (revert r_gc1_f; intro r_gc1_f) | have r_gc1_f := (gc1_f.resolve_right (by (clear hd9 gc1_k gc1_f k17; omega))) | have r_gc1_f := (gc1_f.resolve_left (by (clear hd9 gc1_k gc1_f k17; omega))) | skip
        first | (revert r_gc1_k; intro r_gc1_k) | have r_gc1_k := (gc1_k.resolve_right (by (clear hd9 gc1_k gc1_f k17; omega))) | have r_gc1_k := (gc1_k.resolve_left (by (clear hd9 gc1_k gc1_f k17; omega))) | skip
        refine g_aload_n dX5_takeOut_20 rfl ?_
        refine x_g14_0 (n := (crX o0 0)) k_o0 ffX5_9 dX5_takeOut_21 rfl ?_
        refine g_iload_n dX5_takeOut_24 rfl ?_
        refine g_aload_n dX5_takeOut_25 rfl ?_
        refine x_g14_0 (n := (crX o0 0)) k_o0 ffX5_9 dX5_takeOut_26 rfl ?_
        refine g_iload_n dX5_takeOut_29 rfl ?_
        refine g_iconst dX5_takeOut_30 ?_
        refine g_iadd dX5_takeOut_31 ?_
        refine x_l15 (z := (H10_3 (crX o0 0) (x10_2_3 + 1))) (ck_14_0 k_o0) dX5_takeOut_32 ⟨by (first | (clear hd9 gc1_k gc1_f k17; omega) | omega), by (first | (clear hd9 gc1_k gc1_f k17; omega) | omega)⟩ rfl ?_
        refine x_s15 (ck_14_0 k_o0) dX5_takeOut_33 ⟨by (first | (clear hd9 gc1_k gc1_f k17; omega) | omega), by (first | (clear hd9 gc1_k gc1_f k17; omega) | omega)⟩ ?_
        have hB19 := by_15 (z := (H10_3 (crX o0 0) (x10_2_3 + 1))) (k := x10_2_3) hB10_3 (ck_14_0 k_o0) ⟨by have q0 := bx_15 (o := (crX o0 0)) (k := (x10_2_3 + 1)) hB10_3 (ck_14_0 k_o0); (first | (clear hd9 gc1_k gc1_f k17; omega) | omega), by have q0 := bx_15 (o := (crX o0 0)) (k := (x10_2_3 + 1)) hB10_3 (ck_14_0 k_o0); (first | (clear hd9 gc1_k gc1_f k17; omega) | omega)⟩
        have hC9 : ∀ q : Int, q < x10_2_3 + 1 → (up H10_3 (crX o0 0) x10_2_3 (H10_3 (crX o0 0) (x10_2_3 + 1))) (crX o0 0) q = if q < a1 then P (crX o0 0) q else P (crX o0 0) (q + 1) := by
          intro q q1
          by_cases e : q = x10_2_3
          · rw [e, if_neg (by (first | (clear hd9 gc1_k gc1_f k17; omega) | (clear hd9 gc1_k gc1_f; omega) | (clear hd9 gc1_k k17; omega) | (clear hd9 gc1_f k17; omega) | (clear gc1_k gc1_f k17; omega) | (clear hd9 gc1_k; omega) | omega))]; exact Eq.trans up_same (i10_1_3 _ (by (first | (clear hd9 gc1_k gc1_f k17; omega) | (clear hd9 gc1_k gc1_f; omega) | (clear hd9 gc1_k k17; omega) | (clear hd9 gc1_f k17; omega) | (clear gc1_k gc1_f k17; omega) | (clear hd9 gc1_k; omega) | omega)))
          · exact Eq.trans (up_k e) (i10_0_3 q (by (first | (clear hd9 gc1_k gc1_f k17; omega) | (clear hd9 gc1_k gc1_f; omega) | (clear hd9 gc1_k k17; omega) | (clear hd9 gc1_f k17; omega) | (clear gc1_k gc1_f k17; omega) | (clear hd9 gc1_k; omega) | omega)))
        have hD9 : ∀ q : Int, x10_2_3 + 1 ≤ q → (up H10_3 (crX o0 0) x10_2_3 (H10_3 (crX o0 0) (x10_2_3 + 1))) (crX o0 0) q = P (crX o0 0) q := fun q q1 => Eq.trans (up_k (by (first | (clear hd9 gc1_k gc1_f k17; omega) | (clear hd9 gc1_k gc1_f; omega) | (clear hd9 gc1_k k17; omega) | (clear hd9 gc1_f k17; omega) | (clear gc1_k gc1_f k17; omega) | (clear hd9 gc1_k; omega) | omega))) (i10_1_3 q (by (first | (clear hd9 gc1_k gc1_f k17; omega) | (clear hd9 gc1_k gc1_f; omega) | (clear hd9 gc1_k k17; omega) | (clear hd9 gc1_f k17; omega) | (clear gc1_k gc1_f k17; omega) | (clear hd9 gc1_k; omega) | omega)))
        have hko9 : KO o0 P (up H10_3 (crX o0 0) x10_2_3 (H10_3 (crX o0 0) (x10_2_3 + 1))) := KO.w i10_3_3 (OB.c (or14 k_o0).1 k_o0)
        refine g_iinc (l1 := [(2, vI (x10_2_3 + 1)), (0, vR o0)]) dX5_takeOut_34 rfl (by decide) rfl ?_
        refine g_goto (tgt := 10) dX5_takeOut_37 (by decide) ?_
        refine g_forget (l1 := [(0, vR o0), (2, vI (x10_2_3 + 1))]) (by intro q hq; simp only [List.mem_cons, List.not_mem_nil, or_false] at hq ⊢; rcases hq with rfl | rfl <;> simp) ?_
        exact ih10_3 (x10_2_3 + 1) ⟨by (first | (clear hd9 gc1_k gc1_f k17; omega) | omega), by (first | (clear hd9 gc1_k gc1_f k17; omega) | omega)⟩ _ hB19 (FrX.s (FrX.c FrX.rf hE10_3 rfl) (ck_14_0 k_o0) rfl) (by first | exact hC9 | (intro q q1; rw [if_pos q1])) (by first | exact hD9 | (intro q q1; rfl)) (by (first | (clear hd9 gc1_k gc1_f k17; omega) | (clear hd9 gc1_k gc1_f; omega) | (clear hd9 gc1_k k17; omega) | (clear hd9 gc1_f k17; omega) | (clear gc1_k gc1_f k17; omega) | (clear hd9 gc1_k; omega) | omega)) (by first | exact hko9 | exact KO.rf) (by (first | (clear hd9 gc1_k gc1_f k17; omega) | (clear hd9 gc1_k gc1_f; omega) | (clear hd9 gc1_k k17; omega) | (clear hd9 gc1_f k17; omega) | (clear gc1_k gc1_f k17; omega) | (clear hd9 gc1_k; omega) | omega))
    refine g_forget (l1 := [(0, vR o0), (2, vI a1)]) (by intro q hq; simp only [List.mem_cons, List.not_mem_nil, or_false] at hq ⊢; rcases hq with rfl | rfl <;> simp) ?_
    exact L10_3 _ a1 ⟨by (first | (clear hd9 gc1_k gc1_f; omega) | omega), by (first | (clear hd9 gc1_k gc1_f; omega) | omega)⟩ _ hB FrX.rf (by first | exact hC9 | (intro q q1; rw [if_pos q1])) (by first | exact hD9 | (intro q q1; rfl)) (by (first | (clear hd9 gc1_k gc1_f; omega) | (clear hd9 gc1_k; omega) | (clear hd9 gc1_f; omega) | (clear gc1_k gc1_f; omega) | (clear hd9; omega) | omega)) (by first | exact hko9 | exact KO.rf) (Nat.lt_succ_self _)
/-! What the class answers: X11_drop. -/
set_option maxRecDepth 100000 in
set_option maxHeartbeats 4000000 in
theorem f_X11_drop (G : GT) (P : PH) (A : PH) (k : Int) (a1 : Int) (h_a1 : (-2147483648) ≤ a1 ∧ a1 ≤ 2147483647) (hB : BdX P) (p_wa : WA k A) (z0 : AX A P) (Q : Option PV → PH → Prop) (hQ : ∀ (r : Int) (_ : 0 ≤ r ∧ r ≤ 1) (P1 : PH) (_ : BdX P1) (_ : FrX ([(14, 1), (14, 2), (14, 3), (16, 6), (16, 7)], [15, 21, 27]) P P1) (_ : (r = 1 ∧ 0 ≤ a1 ∧ a1 < A 0 0) ∨ (r = 0 ∧ (a1 < 0 ∨ A 0 0 ≤ a1))) (_ : AX (aDrop A a1) P1), Q (some (vI r)) P1) : Ct WSX G 4 iX11_drop [vR 0, vI a1] P Q := by
  refine Ct.of (by decide) (l0 := [(0, vR 0), (1, vI a1)]) rfl (Nat.le_of_ble_eq_true rfl) ?_
  have hb := z0.b
  refine g_aload_n dX11_drop_0 rfl ?_
  refine x_g0_5 (n := 14) (⟨by decide, rfl⟩ : kx 0 0) ffX11_43 dX11_drop_1 rfl ?_
  refine g_iload_n dX11_drop_4 rfl ?_
  refine g_vI (av := [vI a1]) (o := 14) (st := []) (f_X5_isPlace G P 14 a1 (⟨by decide, rfl⟩ : kx 14 14) ⟨by (clear hb; omega), by (clear hb; omega)⟩ hB  _ (fun rc1 hc1 gc1_k gc1_f => ⟨rc1, rfl, ?_⟩)) cf_X5_isPlace t_1184 rfl (show kx 14 14 from (⟨by decide, rfl⟩ : kx 14 14)).1 ((show kx 14 14 from (⟨by decide, rfl⟩ : kx 14 14)).sh rfl) rfl rfl (Nat.le_of_ble_eq_true rfl) (by decide) rfl dX11_drop_5
  have f2 := bx_14_1 (o := 14) hB (⟨by decide, rfl⟩ : kx 14 14)
  refine g_if_ne (tgt := 17) dX11_drop_8 (by decide) ⟨by (clear hb gc1_k gc1_f; omega), by (clear hb gc1_k gc1_f; omega)⟩ (fun k3 => ?_) (fun k3 => ?_)
  · have k3n : 1 ≤ rc1 := by (clear hb gc1_k gc1_f; omega)
    clear k3
    have r_gc1_f := (gc1_f.resolve_right (by (clear hb gc1_k gc1_f; omega)))
    have r_gc1_k := (gc1_k.resolve_left (by (clear hb gc1_k gc1_f; omega)))
    refine g_aload_n dX11_drop_17 rfl ?_
    refine g_vV (av := []) (o := 0) (st := []) (f_X11_remember G P A k  hB p_wa (z0) _ (fun Pc4 hBc4 hFc4 ec4_0 => ⟨rfl, ?_⟩)) cf_X11_remember t_1254 rfl (show kx 0 0 from (⟨by decide, rfl⟩ : kx 0 0)).1 ((show kx 0 0 from (⟨by decide, rfl⟩ : kx 0 0)).sh rfl) rfl rfl (Nat.le_of_ble_eq_true rfl) (by decide) rfl dX11_drop_18
    refine g_aload_n dX11_drop_21 rfl ?_
    refine x_g0_5 (n := 14) (⟨by decide, rfl⟩ : kx 0 0) ffX11_43 dX11_drop_22 rfl ?_
    refine g_iload_n dX11_drop_25 rfl ?_
    have hpu := ec4_0
    have hpb := hpu.b
    have hp0 := aPush_0 A 0 (by decide)
    refine g_vV (av := [vI a1]) (o := 14) (st := []) (f_X5_takeOut G Pc4 14 a1 (⟨by decide, rfl⟩ : kx 14 14) ⟨by (clear hb gc1_k gc1_f hpb; omega), by (clear hb gc1_k gc1_f hpb; omega)⟩ hBc4  _ (fun Pc5 hBc5 hFc5 gc5_e1 gc5_el gc5_er gc5_ko => ⟨rfl, ?_⟩)) cf_X5_takeOut t_1297 rfl (show kx 14 14 from (⟨by decide, rfl⟩ : kx 14 14)).1 ((show kx 14 14 from (⟨by decide, rfl⟩ : kx 14 14)).sh rfl) rfl rfl (Nat.le_of_ble_eq_true rfl) (by decide) rfl dX11_drop_26
    have hsw9 := AX.dr hpu ⟨by (clear hb gc1_k gc1_f hpb gc5_e1 gc5_er; omega), by (clear gc1_k gc1_f hpb gc5_e1 gc5_er; omega)⟩ (gc5_e1 (by (clear hb gc1_k gc1_f hpb gc5_e1 gc5_er; omega)) (by (omega))) gc5_el (gc5_er (by (clear hb gc1_k gc1_f hpb gc5_e1 gc5_er; omega))) gc5_ko hFc5
    refine g_iconst dX11_drop_29 ?_
    exact g_retZ dX11_drop_30 rfl (by decide) (hQ 1 (by decide) _ hBc5 (FrX.c (FrX.c FrX.rf hFc4 rfl) hFc5 rfl) (by (clear gc1_k gc1_f hpb gc5_e1 gc5_er; omega)) (hsw9))
  · skip
    skip
    refine g_aload_n dX11_drop_11 rfl ?_
    refine g_iconst dX11_drop_12 ?_
    refine g_vI (av := [vI 3]) (o := 0) (st := []) (m_X11_refuse G P 3 (by decide) hB  _ (fun rc6 hc6 Pc6 hBc6 hFc6 => ⟨rc6, rfl, ?_⟩)) cf_X11_refuse t_663 rfl (show kx 0 0 from (⟨by decide, rfl⟩ : kx 0 0)).1 ((show kx 0 0 from (⟨by decide, rfl⟩ : kx 0 0)).sh rfl) rfl rfl (Nat.le_of_ble_eq_true rfl) (by decide) rfl dX11_drop_13
    exact g_retZ dX11_drop_16 rfl (by (clear hb gc1_k gc1_f k3; omega)) (hQ rc6 ⟨by (clear hb gc1_k gc1_f k3; omega), by (clear hb gc1_k gc1_f k3; omega)⟩ _ hBc6 (FrX.c FrX.rf hFc6 rfl) (by (omega)) (by rw [aDrop_n (by (omega))]; exact (AX.fr (F := ([], [27])) z0 (FrX.c FrX.rf hFc6 rfl) rfl)))
/-! What the class answers: X8_rowOn_B16. -/
set_option maxRecDepth 100000 in
set_option maxHeartbeats 4000000 in
theorem f_X8_rowOn_B16 (G : GT) (P : PH) (T : TT) (a1 : Int) (h_a1 : (-2147483648) ≤ a1 ∧ a1 ≤ 2147483647) (hB : BdX P) (p_i : 0 ≤ a1 ∧ 3 * a1 + 1 < T.2) (z0 : CX T P) (Q : Option PV → PH → Prop) (hQ : ∀ (r : Int) (_ : (-2147483648) ≤ r ∧ r ≤ 2147483647) (_ : r = 256 * T.1 (3 * a1) + T.1 (3 * a1 + 1)), Q (some (vI r)) P) : Ct WSX G 2 iX8_rowOn [vR 1, vI a1] P Q := by
  refine Ct.of (by decide) (l0 := [(0, vR 1), (1, vI a1)]) rfl (Nat.le_of_ble_eq_true rfl) ?_
  have ht := z0.1
  have hTv := z0.2
  have q11 := bx_1_1 (o := 1) hB ⟨by decide, rfl⟩
  have e0 := hTv (3 * a1) (by omega) (by omega)
  have e1 := hTv (3 * a1 + 1) (by omega) (by omega)
  refine g_aload_n dX8_rowOn_0 rfl ?_
  refine g_iconst dX8_rowOn_1 ?_
  refine g_iload_n dX8_rowOn_2 rfl ?_
  refine g_imul dX8_rowOn_3 ?_
  refine g_vI (av := [vI (3 * a1)]) (o := 1) (st := []) (f_X1_byteAt_B16 G P (3 * a1) ⟨by omega, by omega⟩ hB  _ (fun rc1 hc1 gc1_t => ⟨rc1, rfl, ?_⟩)) cf_X1_byteAt t_1218 rfl (show kx 1 1 from (⟨by decide, rfl⟩ : kx 1 1)).1 ((show kx 1 1 from (⟨by decide, rfl⟩ : kx 1 1)).sh rfl) rfl rfl (Nat.le_of_ble_eq_true rfl) (by decide) rfl dX8_rowOn_4
  refine g_sipush dX8_rowOn_7 (by decide) ?_
  refine g_imul dX8_rowOn_10 ?_
  refine g_aload_n dX8_rowOn_11 rfl ?_
  refine g_iconst dX8_rowOn_12 ?_
  refine g_iload_n dX8_rowOn_13 rfl ?_
  refine g_imul dX8_rowOn_14 ?_
  refine g_iconst dX8_rowOn_15 ?_
  refine g_iadd dX8_rowOn_16 ?_
  refine g_vI (av := [vI ((3 * a1) + 1)]) (o := 1) (st := [vI (rc1 * 256)]) (f_X1_byteAt_B16 G P ((3 * a1) + 1) ⟨by (first | (clear gc1_t; omega) | omega), by (first | (clear gc1_t; omega) | omega)⟩ hB  _ (fun rc2 hc2 gc2_t => ⟨rc2, rfl, ?_⟩)) cf_X1_byteAt t_1218 rfl (show kx 1 1 from (⟨by decide, rfl⟩ : kx 1 1)).1 ((show kx 1 1 from (⟨by decide, rfl⟩ : kx 1 1)).sh rfl) rfl rfl (Nat.le_of_ble_eq_true rfl) (by decide) rfl dX8_rowOn_17
  refine g_iadd dX8_rowOn_20 ?_
  exact g_retI dX8_rowOn_21 rfl (hQ ((rc1 * 256) + rc2) ⟨by (first | (clear gc1_t gc2_t; omega) | omega), by (first | (clear gc1_t gc2_t; omega) | omega)⟩ (by (first | (clear gc1_t gc2_t; omega) | (clear gc1_t; omega) | (clear gc2_t; omega) | omega)))
/-! What the class answers: X9_isRow. -/
set_option maxRecDepth 100000 in
set_option maxHeartbeats 4000000 in
theorem f_X9_isRow (G : GT) (P : PH) (o0 : Nat) (a1 : Int) (k_o0 : kx o0 28) (h_a1 : (-2147483648) ≤ a1 ∧ a1 ≤ 2147483647) (hB : BdX P) (Q : Option PV → PH → Prop) (hQ : ∀ (r : Int) (_ : 0 ≤ r ∧ r ≤ 1) (_ : r = 0 ∨ (0 ≤ a1 ∧ a1 < P o0 7)) (_ : (r = 1 ∧ 0 ≤ a1 ∧ a1 < P o0 7) ∨ (r = 0 ∧ (a1 < 0 ∨ P o0 7 ≤ a1))), Q (some (vI r)) P) : Ct WSX G 1 iX9_isRow [vR o0, vI a1] P Q := by
  refine Ct.of (by decide) (l0 := [(0, vR o0), (1, vI a1)]) rfl (Nat.le_of_ble_eq_true rfl) ?_
  refine g_iload_n dX9_isRow_0 rfl ?_
  refine g_if_lt (tgt := 16) dX9_isRow_1 (by decide) ⟨by omega, by omega⟩ (fun k1 => ?_) (fun k1 => ?_)
  · refine g_iconst dX9_isRow_16 ?_
    exact g_retZ dX9_isRow_17 rfl (by decide) (hQ 0 (by decide) (by (first | (clear k1; omega) | omega)) (by (first | (clear k1; omega) | omega)))
  · refine g_iload_n dX9_isRow_4 rfl ?_
    refine g_aload_n dX9_isRow_5 rfl ?_
    refine x_g28_7 (z := (P o0 7)) k_o0 ffX9_43 dX9_isRow_6 rfl ?_
    have f2 := bx_28_7 (o := o0) hB k_o0
    refine g_icmp_ge (tgt := 16) dX9_isRow_9 (by decide) ⟨by (first | (clear k1; omega) | omega), by (first | (clear k1; omega) | omega)⟩ ⟨by have q0 := bx_28_7 (o := o0) hB k_o0; (first | (clear k1; omega) | omega), by have q0 := bx_28_7 (o := o0) hB k_o0; (first | (clear k1; omega) | omega)⟩ (fun k3 => ?_) (fun k3 => ?_)
    · refine g_iconst dX9_isRow_16 ?_
      exact g_retZ dX9_isRow_17 rfl (by decide) (hQ 0 (by decide) (by (first | (clear k1 k3; omega) | (clear k1; omega) | (clear k3; omega) | omega)) (by (first | (clear k1 k3; omega) | (clear k1; omega) | (clear k3; omega) | omega)))
    · refine g_iconst dX9_isRow_12 ?_
      refine g_goto (tgt := 17) dX9_isRow_13 (by decide) ?_
      exact g_retZ dX9_isRow_17 rfl (by decide) (hQ 1 (by decide) (by (first | (clear k1 k3; omega) | (clear k1; omega) | (clear k3; omega) | omega)) (by (first | (clear k1 k3; omega) | (clear k1; omega) | (clear k3; omega) | omega)))
/-! What the class answers: X11_run. -/
set_option maxRecDepth 100000 in
set_option maxHeartbeats 4000000 in
theorem f_X11_run (G : GT) (P : PH) (A : PH) (k : Int) (K : PH) (M : PH) (a1 : Int) (h_a1 : (-2147483648) ≤ a1 ∧ a1 ≤ 2147483647) (hB : BdX P) (p_wa : WA k A) (p_wm : 0 < M 0 0 ∨ M 0 1 ≤ 0) (p_k5 : k ≤ 600) (z0 : AX A P) (z1 : XTB K M P) (Q : Option PV → PH → Prop) (hQ : ∀ (r : Int) (_ : (-2147483648) ≤ r ∧ r ≤ 2147483647) (P1 : PH) (_ : BdX P1) (_ : FrX ([(5, 2), (14, 1), (14, 2), (14, 3), (16, 5), (16, 6), (16, 7), (51, 12), (51, 14)], [6, 15, 17, 18, 19, 21, 27]) P P1) (_ : AX (aRun A M a1) P1), Q (some (vI r)) P1) : Ct WSX G 7 iX11_run [vR 0, vI a1] P Q := by
  refine Ct.of (by decide) (l0 := [(0, vR 0), (1, vI a1)]) rfl (Nat.le_of_ble_eq_true rfl) ?_
  have hb := z0.b
  have hp3 := aPush_0 A 3 (by decide)
  have hx7 := z1.2.b
  have hw3 := p_wa.2.2.1
  refine g_aload_n dX11_run_0 rfl ?_
  refine x_g0_10 (n := (P 0 10).toNat) (⟨by decide, rfl⟩ : kx 0 0) ffX11_71 dX11_run_1 (br_0_10 hB) ?_
  refine g_iload_n dX11_run_4 rfl ?_
  refine g_vI (av := [vI a1]) (o := (P 0 10).toNat) (st := []) (f_X9_isRow G P (P 0 10).toNat a1 (bk_0_10 hB) ⟨by (first | (clear p_wm hb hx7; omega) | omega), by (first | (clear p_wm hb hx7; omega) | omega)⟩ hB  _ (fun rc1 hc1 gc1_k gc1_f => ⟨rc1, rfl, ?_⟩)) cf_X9_isRow t_1014 rfl (show kx (P 0 10).toNat 28 from (bk_0_10 hB)).1 ((show kx (P 0 10).toNat 28 from (bk_0_10 hB)).sh rfl) rfl rfl (Nat.le_of_ble_eq_true rfl) (by decide) rfl dX11_run_5
  have f2 := bx_28_7 (o := (P 0 10).toNat) hB (bk_0_10 hB)
  refine g_if_ne (tgt := 19) dX11_run_8 (by decide) ⟨by (first | (clear p_wm hb hx7 gc1_k gc1_f; omega) | omega), by (first | (clear p_wm hb hx7 gc1_k gc1_f; omega) | omega)⟩ (fun k3 => ?_) (fun k3 => ?_)
  · have k3n : 1 ≤ rc1 := by (first | (clear p_wm hb hx7 gc1_k gc1_f k3; omega) | (clear p_wm hb hx7 gc1_k gc1_f; omega) | (clear p_wm hb hx7 gc1_k k3; omega) | (clear p_wm hb hx7 gc1_f k3; omega) | (clear p_wm hb gc1_k gc1_f k3; omega) | (clear p_wm hx7 gc1_k gc1_f k3; omega) | (clear hb hx7 gc1_k gc1_f k3; omega) | (clear p_wm hb hx7 gc1_k; omega) | (clear hb p_wm; omega) | omega)
    clear k3
    first | (revert r_gc1_f; intro r_gc1_f) | have r_gc1_f := (gc1_f.resolve_right (by (clear p_wm hb hx7 gc1_k gc1_f; omega))) | have r_gc1_f := (gc1_f.resolve_left (by (clear p_wm hb hx7 gc1_k gc1_f; omega))) | skip
    first | (revert r_gc1_k; intro r_gc1_k) | have r_gc1_k := (gc1_k.resolve_right (by (clear p_wm hb hx7 gc1_k gc1_f; omega))) | have r_gc1_k := (gc1_k.resolve_left (by (clear p_wm hb hx7 gc1_k gc1_f; omega))) | skip
    first | (revert r_p_wm; intro r_p_wm) | have r_p_wm := (p_wm.resolve_right (by (clear p_wm hb hx7 gc1_k gc1_f; omega))) | have r_p_wm := (p_wm.resolve_left (by (clear p_wm hb hx7 gc1_k gc1_f; omega))) | skip
    refine g_aload_n dX11_run_19 rfl ?_
    refine g_vV (av := []) (o := 0) (st := []) (f_X11_remember G P A k  hB p_wa (z0) _ (fun Pc4 hBc4 hFc4 ec4_0 => ⟨rfl, ?_⟩)) cf_X11_remember t_1254 rfl (show kx 0 0 from (⟨by decide, rfl⟩ : kx 0 0)).1 ((show kx 0 0 from (⟨by decide, rfl⟩ : kx 0 0)).sh rfl) rfl rfl (Nat.le_of_ble_eq_true rfl) (by decide) rfl dX11_run_20
    refine g_aload_n dX11_run_23 rfl ?_
    refine g_iload_n dX11_run_24 rfl ?_
    refine g_vI (av := [vI a1]) (o := 0) (st := []) (f_X11_runRow G Pc4 (aPush A) a1 ⟨by (first | (clear p_wm hb hx7 gc1_k gc1_f; omega) | omega), by (first | (clear p_wm hb hx7 gc1_k gc1_f; omega) | omega)⟩ hBc4 (by (first | (clear p_wm hb hx7 gc1_k gc1_f; omega) | (clear p_wm hb hx7 gc1_k; omega) | (clear p_wm hb hx7 gc1_f; omega) | (clear p_wm hb gc1_k gc1_f; omega) | (clear p_wm hx7 gc1_k gc1_f; omega) | (clear hb hx7 gc1_k gc1_f; omega) | (clear p_wm hb hx7; omega) | (clear p_wm; omega) | omega)) (ec4_0) _ (fun rc5 hc5 Pc5 hBc5 hFc5 ec5_0 => ⟨rc5, rfl, ?_⟩)) cf_X11_runRow t_1266 rfl (show kx 0 0 from (⟨by decide, rfl⟩ : kx 0 0)).1 ((show kx 0 0 from (⟨by decide, rfl⟩ : kx 0 0)).sh rfl) rfl rfl (Nat.le_of_ble_eq_true rfl) (by decide) rfl dX11_run_25
    exact g_retI dX11_run_28 rfl (hQ rc5 ⟨by (first | (clear p_wm hb hx7 gc1_k gc1_f; omega) | omega), by (first | (clear p_wm hb hx7 gc1_k gc1_f; omega) | omega)⟩ _ hBc5 (FrX.c (FrX.c FrX.rf hFc4 rfl) hFc5 rfl) (by rw [aRun_y ⟨by (first | (clear p_wm hb hx7 gc1_k gc1_f; omega) | (clear p_wm hb hx7 gc1_k; omega) | (clear p_wm hb hx7 gc1_f; omega) | (clear p_wm hb gc1_k gc1_f; omega) | (clear p_wm hx7 gc1_k gc1_f; omega) | (clear hb hx7 gc1_k gc1_f; omega) | (clear p_wm hb hx7; omega) | (clear p_wm; omega) | omega), by (first | (clear p_wm hb hx7 gc1_k gc1_f; omega) | (clear p_wm hb hx7 gc1_k; omega) | (clear p_wm hb hx7 gc1_f; omega) | (clear p_wm hb gc1_k gc1_f; omega) | (clear p_wm hx7 gc1_k gc1_f; omega) | (clear hb hx7 gc1_k gc1_f; omega) | (clear p_wm hb hx7; omega) | (clear p_wm; omega) | omega), by (first | (clear p_wm hb hx7 gc1_k gc1_f; omega) | (clear p_wm hb hx7 gc1_k; omega) | (clear p_wm hb hx7 gc1_f; omega) | (clear p_wm hb gc1_k gc1_f; omega) | (clear p_wm hx7 gc1_k gc1_f; omega) | (clear hb hx7 gc1_k gc1_f; omega) | (clear p_wm hb hx7; omega) | (clear p_wm; omega) | omega)⟩, ← hp3]; exact ec5_0))
  · first | (revert r_gc1_f; intro r_gc1_f) | have r_gc1_f := (gc1_f.resolve_right (by (clear p_wm hb hx7 gc1_k gc1_f k3; omega))) | have r_gc1_f := (gc1_f.resolve_left (by (clear p_wm hb hx7 gc1_k gc1_f k3; omega))) | skip
    first | (revert r_gc1_k; intro r_gc1_k) | have r_gc1_k := (gc1_k.resolve_right (by (clear p_wm hb hx7 gc1_k gc1_f k3; omega))) | have r_gc1_k := (gc1_k.resolve_left (by (clear p_wm hb hx7 gc1_k gc1_f k3; omega))) | skip
    first | (revert r_p_wm; intro r_p_wm) | have r_p_wm := (p_wm.resolve_right (by (clear p_wm hb hx7 gc1_k gc1_f k3; omega))) | have r_p_wm := (p_wm.resolve_left (by (clear p_wm hb hx7 gc1_k gc1_f k3; omega))) | skip
    refine g_aload_n dX11_run_11 rfl ?_
    refine g_iconst dX11_run_12 ?_
    refine g_vI (av := [vI 2]) (o := 0) (st := []) (m_X11_refuse G P 2 (by decide) hB  _ (fun rc6 hc6 Pc6 hBc6 hFc6 => ⟨rc6, rfl, ?_⟩)) cf_X11_refuse t_663 rfl (show kx 0 0 from (⟨by decide, rfl⟩ : kx 0 0)).1 ((show kx 0 0 from (⟨by decide, rfl⟩ : kx 0 0)).sh rfl) rfl rfl (Nat.le_of_ble_eq_true rfl) (by decide) rfl dX11_run_13
    refine g_pop dX11_run_16 rfl ?_
    refine g_iconst dX11_run_17 ?_
    exact g_retI dX11_run_18 rfl (hQ (-1) (by decide) _ hBc6 (FrX.c FrX.rf hFc6 rfl) (by rw [aRun_n (by (first | (clear p_wm hb hx7 gc1_k gc1_f k3; omega) | (clear p_wm hb hx7 gc1_k gc1_f; omega) | (clear p_wm hb hx7 gc1_k k3; omega) | (clear p_wm hb hx7 gc1_f k3; omega) | (clear p_wm hb gc1_k gc1_f k3; omega) | (clear p_wm hx7 gc1_k gc1_f k3; omega) | (clear hb hx7 gc1_k gc1_f k3; omega) | (clear p_wm hb hx7 gc1_k; omega) | (clear hb p_wm; omega) | omega))]; exact (AX.fr (F := ([], [27])) z0 (FrX.c FrX.rf hFc6 rfl) rfl)))
/-! What the class answers: X8_read_B16. -/
set_option maxRecDepth 100000 in
set_option maxHeartbeats 4000000 in
theorem f_X8_read_B16 (G : GT) (P : PH) (T : TT) (M : PH) (A : PH) (o1 : Nat) (o2 : Nat) (k_o1 : kx o1 28) (k_o2 : kx o2 14) (hB : BdX P) (p_w : o2 = 14) (p_m : 0 < M 0 0) (z0 : CX T P) (z1 : AX A P) (z2 : XM M o1 P) (Q : Option PV → PH → Prop) (hQ : ∀ (r : Int) (_ : 0 ≤ r ∧ r ≤ 1) (P1 : PH) (_ : BdX P1) (_ : FrX ([(22, 2)], [23, 24]) P P1) (_ : (r = 1 ∧ seOk T M A) ∨ (r = 0 ∧ ¬ seOk T M A)) (_ : AX (aSee T M A) P1), Q (some (vI r)) P1) : Ct WSX G 3 iX8_read [vR 64, vR 1, vR o1, vR o2] P Q := by
  refine Ct.of (by decide) (l0 := [(0, vR 64), (1, vR 1), (2, vR o1), (3, vR o2)]) rfl (Nat.le_of_ble_eq_true rfl) ?_
  have ht := z0.1
  have hTv := z0.2
  have q11 := bx_1_1 (o := 1) hB ⟨by decide, rfl⟩
  have hb := z1.b
  have hx7 := z2.b
  have h14 : P o2 1 = A 0 0 := by rw [p_w]; exact hb.1
  refine g_aload_n dX8_read_0 rfl ?_
  refine x_g1_1 (z := (P 1 1)) (⟨by decide, rfl⟩ : kx 1 1) ffX8_24 dX8_read_1 rfl ?_
  refine g_iconst dX8_read_4 ?_
  refine g_idiv dX8_read_5 ⟨(by decide), by decide⟩ ?_
  refine g_nm (fun b1 e_b1 => ?_)
  have h_b1 := idiv_p (x := (P 1 1)) (y := 3) ⟨by have q0 := bx_1_1 (o := 1) hB (⟨by decide, rfl⟩ : kx 1 1); (clear hb hx7; omega), by have q0 := bx_1_1 (o := 1) hB (⟨by decide, rfl⟩ : kx 1 1); (clear hb hx7; omega)⟩ ⟨by (clear hb hx7; omega), by (clear hb hx7; omega)⟩
  rw [← e_b1] at h_b1
  have f_b1_0 := bx_1_1 (o := 1) hB (⟨by decide, rfl⟩ : kx 1 1)
  refine g_istore (l1 := [(4, vI b1), (0, vR 64), (1, vR 1), (2, vR o1), (3, vR o2)]) dX8_read_6 (by decide) rfl ?_
  refine g_iload dX8_read_8 rfl ?_
  refine g_iconst dX8_read_10 ?_
  refine g_icmp_lt (tgt := 32) dX8_read_11 (by decide) ⟨by (clear hb hx7; omega), by (clear hb hx7; omega)⟩ (by decide) (fun k2 => ?_) (fun k2 => ?_)
  · have hno : ¬ seOk T M A := fun q => by have h := q.1; unfold sHd at h; (clear hb hx7; omega)
    refine g_iconst dX8_read_32 ?_
    exact g_retZ dX8_read_33 rfl (by decide) (hQ 0 (by decide) _ hB FrX.rf (Or.inr ⟨rfl, hno⟩) (by rw [aSee_n hno]; exact z1))
  · refine g_iload dX8_read_14 rfl ?_
    refine g_bipush dX8_read_16 (by decide) ?_
    refine g_icmp_gt (tgt := 32) dX8_read_18 (by decide) ⟨by (clear hb hx7 k2; omega), by (clear hb hx7 k2; omega)⟩ (by decide) (fun k3 => ?_) (fun k3 => ?_)
    · have hno : ¬ seOk T M A := fun q => by have h := q.1; unfold sHd at h; (clear hb hx7 k2; omega)
      refine g_iconst dX8_read_32 ?_
      exact g_retZ dX8_read_33 rfl (by decide) (hQ 0 (by decide) _ hB FrX.rf (Or.inr ⟨rfl, hno⟩) (by rw [aSee_n hno]; exact z1))
    · refine g_aload_n dX8_read_21 rfl ?_
      refine x_g1_1 (z := (P 1 1)) (⟨by decide, rfl⟩ : kx 1 1) ffX8_24 dX8_read_22 rfl ?_
      refine g_iconst dX8_read_25 ?_
      refine g_iload dX8_read_26 rfl ?_
      refine g_imul dX8_read_28 ?_
      have f4 := bx_1_1 (o := 1) hB (⟨by decide, rfl⟩ : kx 1 1)
      refine g_icmp_eq (tgt := 34) dX8_read_29 (by decide) ⟨by have q0 := bx_1_1 (o := 1) hB (⟨by decide, rfl⟩ : kx 1 1); (clear hb hx7 k2 k3; omega), by have q0 := bx_1_1 (o := 1) hB (⟨by decide, rfl⟩ : kx 1 1); (clear hb hx7 k2 k3; omega)⟩ ⟨by (clear hb hx7 k2 k3; omega), by (clear hb hx7 k2 k3; omega)⟩ (fun k5 => ?_) (fun k5 => ?_)
      · refine g_iconst dX8_read_34 ?_
        refine g_istore (l1 := [(5, vI 0), (4, vI b1), (0, vR 64), (1, vR 1), (2, vR o1), (3, vR o2)]) dX8_read_35 (by decide) rfl ?_
        have L37_5 : ∀ (n37_5 : Nat) (x37_5_5 : Int) (h_x37_5_5 : 0 ≤ x37_5_5 ∧ x37_5_5 ≤ 16) (i37_0_5 : SLI T M A x37_5_5) (hm37_5 : ((17 - x37_5_5) : Int).toNat < n37_5), Go WSX G 3 iX8_read 37 [(0, vR 64), (1, vR 1), (2, vR o1), (3, vR o2), (4, vI b1), (5, vI x37_5_5)] [] P Q := by
          intro n37_5
          induction n37_5 with
          | zero => intro x37_5_5 h_x37_5_5 i37_0_5 hm37_5; exact absurd hm37_5 (Nat.not_lt_zero _)
          | succ n37_5 ih37_5 =>
          intro x37_5_5 h_x37_5_5 i37_0_5 hm37_5
          refine g_iload dX8_read_37 rfl ?_
          refine g_iload dX8_read_39 rfl ?_
          refine g_icmp_ge (tgt := 94) dX8_read_41 (by decide) ⟨by (clear hb hx7 k2 k3 k5; omega), by (clear hb hx7 k2 k3 k5; omega)⟩ ⟨by (clear hb hx7 k2 k3 k5; omega), by (clear hb hx7 k2 k3 k5; omega)⟩ (fun k633 => ?_) (fun k633 => ?_)
          · refine g_aload_n dX8_read_94 rfl ?_
            have hsl := i37_0_5
            have hse : seOk T M A := ⟨⟨p_m, by (clear hb hx7 k3 k5; omega), by (clear hb hx7 k2 k3; omega), by (clear hb hx7 k2 k3; omega)⟩, fun i i0 i1 => hsl i i0 (by (clear hb hx7 k2 k3; omega))⟩
            refine g_iload dX8_read_95 rfl ?_
            refine x_p22_2 (⟨by decide, rfl⟩ : kx 64 22) pfX8_49 dX8_read_97 ?_
            have hB634 := by_22_2 (z := b1) hB (⟨by decide, rfl⟩ : kx 64 22) ⟨by (clear hb hx7 k2 k3 k5; omega), by (clear hb hx7 k2 k3 k5; omega)⟩
            refine g_iconst dX8_read_100 ?_
            refine g_istore (l1 := [(5, vI 0), (0, vR 64), (1, vR 1), (2, vR o1), (3, vR o2), (4, vI b1)]) dX8_read_101 (by decide) rfl ?_
            have L103_634 : ∀ (n103_634 : Nat) (x103_5_634 : Int) (h_x103_5_634 : 0 ≤ x103_5_634 ∧ x103_5_634 ≤ 16) (H103_634 : PH) (hB103_634 : BdX H103_634) (hE103_634 : FrX ([], [23, 24]) (up P 64 2 b1) H103_634) (hm103_634 : ((17 - x103_5_634) : Int).toNat < n103_634), Go WSX G 3 iX8_read 103 [(0, vR 64), (1, vR 1), (3, vR o2), (4, vI b1), (5, vI x103_5_634)] [] H103_634 Q := by
              intro n103_634
              induction n103_634 with
              | zero => intro x103_5_634 h_x103_5_634 H103_634 hB103_634 hE103_634 hm103_634; exact absurd hm103_634 (Nat.not_lt_zero _)
              | succ n103_634 ih103_634 =>
              intro x103_5_634 h_x103_5_634 H103_634 hB103_634 hE103_634 hm103_634
              refine g_iload dX8_read_103 rfl ?_
              refine g_iload dX8_read_105 rfl ?_
              refine g_icmp_ge (tgt := 150) dX8_read_107 (by decide) ⟨by (clear hb hx7 k2 k3 k5; omega), by (clear hb hx7 k2 k3 k5; omega)⟩ ⟨by (clear hb hx7 k2 k3 k5; omega), by (clear hb hx7 k2 k3 k5; omega)⟩ (fun k708 => ?_) (fun k708 => ?_)
              · refine g_iconst dX8_read_150 ?_
                exact g_retZ dX8_read_151 rfl (by decide) (hQ 1 (by decide) _ hB103_634 (FrX.c (FrX.s FrX.rf (⟨by decide, rfl⟩ : kx 64 22) rfl) hE103_634 rfl) (Or.inl ⟨rfl, hse⟩) (by rw [aSee_y hse]; exact z1.se (F := ([(22, 2)], [23, 24])) (by have q := (((FrX.g hE103_634 (⟨by decide, rfl⟩ : kx 64 22) rfl).trans up_same) : H103_634 64 2 = b1); (clear hb hx7 k2 k3 k5; omega)) (FrX.c (FrX.s FrX.rf (⟨by decide, rfl⟩ : kx 64 22) rfl) hE103_634 rfl) rfl))
              · refine g_aload_n dX8_read_110 rfl ?_
                refine x_g22_0 (n := 65) (⟨by decide, rfl⟩ : kx 64 22) ffX8_9 dX8_read_111 rfl ?_
                refine g_iload dX8_read_114 rfl ?_
                refine g_aload_n dX8_read_116 rfl ?_
                refine g_iload dX8_read_117 rfl ?_
                refine g_sI (av := [vR 1, vI x103_5_634]) (st := [vI x103_5_634, vR 65]) (f_X8_rowOn_B16 G H103_634 T x103_5_634 ⟨by (clear hb hx7 k2 k3 k5; omega), by (clear hb hx7 k2 k3 k5; omega)⟩ hB103_634 (by (clear hb hx7 k2 k3 k5; omega)) ((CX.fr (F := ([(22, 2)], [23, 24])) z0 (FrX.c (FrX.s FrX.rf (⟨by decide, rfl⟩ : kx 64 22) rfl) hE103_634 rfl) rfl)) _ (fun rc709 hc709 gc709_r => ⟨rc709, rfl, ?_⟩)) cf_X8_rowOn t_1219 rfl (Nat.le_of_ble_eq_true rfl) (by decide) rfl dX8_read_119
                refine x_s23 (⟨by decide, rfl⟩ : kx 65 23) dX8_read_122 ⟨by (clear hb hx7 k2 k3 k5; omega), by (clear hb hx7 k2 k3 k5; omega)⟩ ?_
                have hB710 := by_23 (z := rc709) (k := x103_5_634) hB103_634 (⟨by decide, rfl⟩ : kx 65 23) ⟨by (clear hb hx7 k2 k3 k5; omega), by (clear hb hx7 k2 k3 k5; omega)⟩
                refine g_aload_n dX8_read_123 rfl ?_
                refine x_g22_1 (n := 66) (⟨by decide, rfl⟩ : kx 64 22) ffX8_15 dX8_read_124 rfl ?_
                refine g_iload dX8_read_127 rfl ?_
                refine g_aload_n dX8_read_129 rfl ?_
                refine g_aload_n dX8_read_130 rfl ?_
                refine g_iconst dX8_read_131 ?_
                refine g_iload dX8_read_132 rfl ?_
                refine g_imul dX8_read_134 ?_
                refine g_iconst dX8_read_135 ?_
                refine g_iadd dX8_read_136 ?_
                refine g_vI (av := [vI ((3 * x103_5_634) + 2)]) (o := 1) (st := [vR o2, vI x103_5_634, vR 66]) (f_X1_byteAt_B16 G (up H103_634 65 x103_5_634 rc709) ((3 * x103_5_634) + 2) ⟨by (clear hb hx7 k2 k3 k5; omega), by (clear hb hx7 k2 k3 k5; omega)⟩ hB710  _ (fun rc711 hc711 gc711_t => ⟨rc711, rfl, ?_⟩)) cf_X1_byteAt t_1218 rfl (show kx 1 1 from (⟨by decide, rfl⟩ : kx 1 1)).1 ((show kx 1 1 from (⟨by decide, rfl⟩ : kx 1 1)).sh rfl) rfl rfl (Nat.le_of_ble_eq_true rfl) (by decide) rfl dX8_read_137
                have zq712 : (up H103_634 65 x103_5_634 rc709) 1 1 = (P 1 1) := ((up_o (kx.ne (⟨by decide, rfl⟩ : kx 1 1) (⟨by decide, rfl⟩ : kx 65 23) rfl)).trans ((FrX.g hE103_634 (⟨by decide, rfl⟩ : kx 1 1) rfl).trans ((up_o (kx.ne (⟨by decide, rfl⟩ : kx 1 1) (⟨by decide, rfl⟩ : kx 64 22) rfl)).trans rfl)))
                refine g_vI (av := [vI rc711]) (o := o2) (st := [vI x103_5_634, vR 66]) (f_X5_armAt G (up H103_634 65 x103_5_634 rc709) o2 rc711 k_o2 ⟨by (clear hb hx7 k2 k3 k5 gc711_t; omega), by (clear hb hx7 k2 k3 k5 gc711_t; omega)⟩ hB710  _ (fun rc713 hc713 gc713_t => ⟨rc713, rfl, ?_⟩)) cf_X5_armAt t_1224 rfl (show kx o2 14 from k_o2).1 ((show kx o2 14 from k_o2).sh rfl) rfl rfl (Nat.le_of_ble_eq_true rfl) (by decide) rfl dX8_read_140
                have zq714 : (up H103_634 65 x103_5_634 rc709) o2 1 = (P o2 1) := ((up_o (kx.ne k_o2 (⟨by decide, rfl⟩ : kx 65 23) rfl)).trans ((FrX.g hE103_634 k_o2 rfl).trans ((up_o (kx.ne k_o2 (⟨by decide, rfl⟩ : kx 64 22) rfl)).trans rfl)))
                refine x_s24 (⟨by decide, rfl⟩ : kx 66 24) dX8_read_143 ⟨by (clear hb hx7 k2 k3 k5 gc711_t gc713_t; omega), by (clear hb hx7 k2 k3 k5 gc711_t gc713_t; omega)⟩ ?_
                have hB715 := by_24 (z := rc713) (k := x103_5_634) hB710 (⟨by decide, rfl⟩ : kx 66 24) ⟨by (clear hb hx7 k2 k3 k5 gc711_t gc713_t; omega), by (clear hb hx7 k2 k3 k5 gc711_t gc713_t; omega)⟩
                refine g_iinc (l1 := [(5, vI (x103_5_634 + 1)), (0, vR 64), (1, vR 1), (3, vR o2), (4, vI b1)]) dX8_read_144 rfl (by decide) rfl ?_
                refine g_goto (tgt := 103) dX8_read_147 (by decide) ?_
                refine g_forget (l1 := [(0, vR 64), (1, vR 1), (3, vR o2), (4, vI b1), (5, vI (x103_5_634 + 1))]) (by intro q hq; simp only [List.mem_cons, List.not_mem_nil, or_false] at hq ⊢; rcases hq with rfl | rfl | rfl | rfl | rfl <;> simp) ?_
                exact ih103_634 (x103_5_634 + 1) ⟨by (clear hb hx7 k2 k3 k5 gc711_t gc713_t; omega), by (clear hb hx7 k2 k3 k5 gc711_t gc713_t; omega)⟩ _ hB715 (FrX.s (FrX.s (FrX.c FrX.rf hE103_634 rfl) (⟨by decide, rfl⟩ : kx 65 23) rfl) (⟨by decide, rfl⟩ : kx 66 24) rfl) (by (clear hb hx7 k2 k3 k5 gc711_t gc713_t; omega))
            refine g_forget (l1 := [(0, vR 64), (1, vR 1), (3, vR o2), (4, vI b1), (5, vI 0)]) (by intro q hq; simp only [List.mem_cons, List.not_mem_nil, or_false] at hq ⊢; rcases hq with rfl | rfl | rfl | rfl | rfl <;> simp) ?_
            exact L103_634 _ 0 (by decide) _ hB634 FrX.rf (Nat.lt_succ_self _)
          · have e2 := hTv (3 * x37_5_5 + 2) (by (clear hb hx7 k2 k3 k5; omega)) (by (clear hb hx7 k2 k3 k5; omega))
            have e0 := hTv (3 * x37_5_5) (by (clear hb hx7 k2 k3 k5; omega)) (by (clear hb hx7 k2 k3 k5; omega))
            have e1 := hTv (3 * x37_5_5 + 1) (by (clear hb hx7 k2 k3 k5; omega)) (by (clear hb hx7 k2 k3 k5; omega))
            have qb0 := bx_2 (o := 2) (k := 3 * x37_5_5) hB ⟨by decide, rfl⟩
            have qb1 := bx_2 (o := 2) (k := 3 * x37_5_5 + 1) hB ⟨by decide, rfl⟩
            have qb2 := bx_2 (o := 2) (k := 3 * x37_5_5 + 2) hB ⟨by decide, rfl⟩
            refine g_aload_n dX8_read_44 rfl ?_
            refine g_iconst dX8_read_45 ?_
            refine g_iload dX8_read_46 rfl ?_
            refine g_imul dX8_read_48 ?_
            refine g_iconst dX8_read_49 ?_
            refine g_iadd dX8_read_50 ?_
            refine g_vI (av := [vI ((3 * x37_5_5) + 2)]) (o := 1) (st := []) (f_X1_byteAt_B16 G P ((3 * x37_5_5) + 2) ⟨by (clear hb hx7 k2 k3 k5; omega), by (clear hb hx7 k2 k3 k5; omega)⟩ hB  _ (fun rc716 hc716 gc716_t => ⟨rc716, rfl, ?_⟩)) cf_X1_byteAt t_1218 rfl (show kx 1 1 from (⟨by decide, rfl⟩ : kx 1 1)).1 ((show kx 1 1 from (⟨by decide, rfl⟩ : kx 1 1)).sh rfl) rfl rfl (Nat.le_of_ble_eq_true rfl) (by decide) rfl dX8_read_51
            refine g_istore (l1 := [(6, vI rc716), (0, vR 64), (1, vR 1), (2, vR o1), (3, vR o2), (4, vI b1), (5, vI x37_5_5)]) dX8_read_54 (by decide) rfl ?_
            refine g_aload_n dX8_read_56 rfl ?_
            refine g_aload_n dX8_read_57 rfl ?_
            refine g_iload dX8_read_58 rfl ?_
            refine g_sI (av := [vR 1, vI x37_5_5]) (st := [vR o1]) (f_X8_rowOn_B16 G P T x37_5_5 ⟨by (clear hb hx7 k2 k3 k5 gc716_t; omega), by (clear hb hx7 k2 k3 k5 gc716_t; omega)⟩ hB (by (clear hb hx7 k2 k3 k5 gc716_t; omega)) (z0) _ (fun rc717 hc717 gc717_r => ⟨rc717, rfl, ?_⟩)) cf_X8_rowOn t_1219 rfl (Nat.le_of_ble_eq_true rfl) (by decide) rfl dX8_read_60
            refine g_vI (av := [vI rc717]) (o := o1) (st := []) (f_X9_isRow G P o1 rc717 k_o1 ⟨by (clear hb hx7 k2 k3 k5 gc716_t; omega), by (clear hb hx7 k2 k3 k5 gc716_t; omega)⟩ hB  _ (fun rc718 hc718 gc718_k gc718_f => ⟨rc718, rfl, ?_⟩)) cf_X9_isRow t_1222 rfl (show kx o1 28 from k_o1).1 ((show kx o1 28 from k_o1).sh rfl) rfl rfl (Nat.le_of_ble_eq_true rfl) (by decide) rfl dX8_read_63
            have f719 := bx_28_7 (o := o1) hB k_o1
            refine g_if_eq (tgt := 86) dX8_read_66 (by decide) ⟨by (clear hb hx7 k2 k3 k5 gc716_t gc718_k gc718_f; omega), by (clear hb hx7 k2 k3 k5 gc716_t gc718_k gc718_f; omega)⟩ (fun k720 => ?_) (fun k720 => ?_)
            · have r_gc718_f := (gc718_f.resolve_left (by (clear hb hx7 k2 k3 k5 gc716_t gc718_k gc718_f; omega)))
              have r_gc718_k := (gc718_k.resolve_right (by (clear hb hx7 k2 k3 k5 gc716_t gc718_k gc718_f; omega)))
              have r_gc716_t := (gc716_t.resolve_right (by (clear hb hx7 k2 k3 k5 gc716_t gc718_k gc718_f; omega)))
              have hno : ¬ seOk T M A := fun q => by have h := q.2 x37_5_5 (by (clear hb hx7 k2 k3 k5 gc716_t gc718_k gc718_f; omega)) (by (clear hb hx7 k2 k3 k5 gc716_t gc718_k gc718_f; omega)); unfold sOk at h; (clear hb k2 k3 k5 gc716_t gc718_k gc718_f; omega)
              refine g_iconst dX8_read_86 ?_
              exact g_retZ dX8_read_87 rfl (by decide) (hQ 0 (by decide) _ hB FrX.rf (Or.inr ⟨rfl, hno⟩) (by rw [aSee_n hno]; exact z1))
            · have k720n : 1 ≤ rc718 := by (clear hb hx7 k2 k3 k5 gc716_t gc718_k gc718_f; omega)
              clear k720
              have r_gc718_f := (gc718_f.resolve_right (by (clear hb hx7 k2 k3 k5 gc716_t gc718_k gc718_f; omega)))
              have r_gc718_k := (gc718_k.resolve_left (by (clear hb hx7 k2 k3 k5 gc716_t gc718_k gc718_f; omega)))
              have r_gc716_t := (gc716_t.resolve_right (by (clear hb hx7 k2 k3 k5 gc716_t gc718_k gc718_f; omega)))
              refine g_iload dX8_read_69 rfl ?_
              refine g_sipush dX8_read_71 (by decide) ?_
              refine g_icmp_eq (tgt := 88) dX8_read_74 (by decide) ⟨by (clear hb hx7 k2 k3 k5 gc716_t gc718_k gc718_f; omega), by (clear hb hx7 k2 k3 k5 gc716_t gc718_k gc718_f; omega)⟩ (by decide) (fun k721 => ?_) (fun k721 => ?_)
              · skip
                skip
                skip
                have hsl9 : SLI T M A (x37_5_5 + 1) := (i37_0_5).go (show sOk T M A x37_5_5 from And.intro (by (clear hb k2 k3 k5 gc716_t gc718_k gc718_f; omega)) (by (clear hb hx7 k2 k3 k5 gc716_t gc718_k gc718_f; omega)))
                refine g_iinc (l1 := [(5, vI (x37_5_5 + 1)), (6, vI rc716), (0, vR 64), (1, vR 1), (2, vR o1), (3, vR o2), (4, vI b1)]) dX8_read_88 rfl (by decide) rfl ?_
                refine g_goto (tgt := 37) dX8_read_91 (by decide) ?_
                refine g_forget (l1 := [(0, vR 64), (1, vR 1), (2, vR o1), (3, vR o2), (4, vI b1), (5, vI (x37_5_5 + 1))]) (by intro q hq; simp only [List.mem_cons, List.not_mem_nil, or_false] at hq ⊢; rcases hq with rfl | rfl | rfl | rfl | rfl | rfl <;> simp) ?_
                exact ih37_5 (x37_5_5 + 1) ⟨by (clear hb hx7 k2 k3 k5 gc716_t gc718_k gc718_f; omega), by (omega)⟩ (by first | exact hsl9 | exact SLI.z) (by (clear hb hx7 k2 k3 k5 gc716_t gc718_k gc718_f; omega))
              · have k721n : rc716 ≤ 254 := by (clear hb hx7 k2 k3 k5 gc716_t gc718_k gc718_f; omega)
                clear k721
                skip
                skip
                skip
                refine g_aload_n dX8_read_77 rfl ?_
                refine g_iload dX8_read_78 rfl ?_
                refine g_vI (av := [vI rc716]) (o := o2) (st := []) (f_X5_isPlace G P o2 rc716 k_o2 ⟨by (clear hb hx7 k2 k3 k5 gc716_t gc718_k gc718_f; omega), by (clear hb hx7 k2 k3 k5 gc716_t gc718_k gc718_f; omega)⟩ hB  _ (fun rc722 hc722 gc722_k gc722_f => ⟨rc722, rfl, ?_⟩)) cf_X5_isPlace t_1223 rfl (show kx o2 14 from k_o2).1 ((show kx o2 14 from k_o2).sh rfl) rfl rfl (Nat.le_of_ble_eq_true rfl) (by decide) rfl dX8_read_80
                have f723 := bx_14_1 (o := o2) hB k_o2
                refine g_if_ne (tgt := 88) dX8_read_83 (by decide) ⟨by (clear hb hx7 k2 k3 k5 gc716_t gc718_k gc718_f gc722_k gc722_f; omega), by (clear hb hx7 k2 k3 k5 gc716_t gc718_k gc718_f gc722_k gc722_f; omega)⟩ (fun k724 => ?_) (fun k724 => ?_)
                · have k724n : 1 ≤ rc722 := by (clear hb hx7 k2 k3 k5 gc716_t gc718_k gc718_f gc722_k gc722_f; omega)
                  clear k724
                  have r_gc722_f := (gc722_f.resolve_right (by (clear hb hx7 k2 k3 k5 gc716_t gc718_k gc718_f gc722_k gc722_f; omega)))
                  have r_gc722_k := (gc722_k.resolve_left (by (clear hb hx7 k2 k3 k5 gc716_t gc718_k gc718_f gc722_k gc722_f; omega)))
                  skip
                  skip
                  skip
                  have hsl9 : SLI T M A (x37_5_5 + 1) := (i37_0_5).go (show sOk T M A x37_5_5 from And.intro (by (omega)) (by (clear hb hx7 k2 k3 k5 gc716_t gc718_k gc718_f gc722_k gc722_f; omega)))
                  refine g_iinc (l1 := [(5, vI (x37_5_5 + 1)), (6, vI rc716), (0, vR 64), (1, vR 1), (2, vR o1), (3, vR o2), (4, vI b1)]) dX8_read_88 rfl (by decide) rfl ?_
                  refine g_goto (tgt := 37) dX8_read_91 (by decide) ?_
                  refine g_forget (l1 := [(0, vR 64), (1, vR 1), (2, vR o1), (3, vR o2), (4, vI b1), (5, vI (x37_5_5 + 1))]) (by intro q hq; simp only [List.mem_cons, List.not_mem_nil, or_false] at hq ⊢; rcases hq with rfl | rfl | rfl | rfl | rfl | rfl <;> simp) ?_
                  exact ih37_5 (x37_5_5 + 1) ⟨by (clear hb hx7 k2 k3 k5 gc716_t gc718_k gc718_f gc722_k gc722_f; omega), by (omega)⟩ (by first | exact hsl9 | exact SLI.z) (by (clear hb hx7 k2 k3 k5 gc716_t gc718_k gc718_f gc722_k gc722_f; omega))
                · have r_gc722_f := (gc722_f.resolve_left (by (clear hb hx7 k2 k3 k5 gc716_t gc718_k gc718_f gc722_k gc722_f; omega)))
                  have r_gc722_k := (gc722_k.resolve_right (by (clear hb hx7 k2 k3 k5 gc716_t gc718_k gc718_f gc722_k gc722_f; omega)))
                  skip
                  skip
                  skip
                  have hno : ¬ seOk T M A := fun q => by have h := q.2 x37_5_5 (by (clear hb hx7 k2 k3 k5 gc716_t gc718_k gc718_f gc722_k gc722_f; omega)) (by (clear hb hx7 k2 k3 k5 gc716_t gc718_k gc718_f gc722_k gc722_f; omega)); unfold sOk at h; (clear hb hx7 k2 k3 k5 gc716_t gc718_k gc718_f gc722_k gc722_f; omega)
                  refine g_iconst dX8_read_86 ?_
                  exact g_retZ dX8_read_87 rfl (by decide) (hQ 0 (by decide) _ hB FrX.rf (Or.inr ⟨rfl, hno⟩) (by rw [aSee_n hno]; exact z1))
        refine g_forget (l1 := [(0, vR 64), (1, vR 1), (2, vR o1), (3, vR o2), (4, vI b1), (5, vI 0)]) (by intro q hq; simp only [List.mem_cons, List.not_mem_nil, or_false] at hq ⊢; rcases hq with rfl | rfl | rfl | rfl | rfl | rfl <;> simp) ?_
        exact L37_5 _ 0 (by decide) (by first | exact hsl9 | exact SLI.z) (Nat.lt_succ_self _)
      · have hno : ¬ seOk T M A := fun q => by have h := q.1; unfold sHd at h; (clear hb hx7 k2 k3; omega)
        refine g_iconst dX8_read_32 ?_
        exact g_retZ dX8_read_33 rfl (by decide) (hQ 0 (by decide) _ hB FrX.rf (Or.inr ⟨rfl, hno⟩) (by rw [aSee_n hno]; exact z1))
/-! What the class answers: X11_see. -/
set_option maxRecDepth 100000 in
set_option maxHeartbeats 4000000 in
theorem f_X11_see (G : GT) (P : PH) (T : TT) (K : PH) (M : PH) (A : PH) (hB : BdX P) (z0 : CX T P) (z1 : AX A P) (z2 : XTB K M P) (Q : Option PV → PH → Prop) (hQ : ∀ (r : Int) (_ : (-2147483648) ≤ r ∧ r ≤ 2147483647) (P1 : PH) (_ : BdX P1) (_ : FrX ([(1, 1), (22, 2)], [23, 24, 27]) P P1) (_ : P1 1 1 = 0) (_ : (r = -1 ∧ ¬ seOk T M A) ∨ (r = T.2 / 3 ∧ seOk T M A)) (_ : AX (aSee T M A) P1), Q (some (vI r)) P1) : Ct WSX G 4 iX11_see [vR 0] P Q := by
  refine Ct.of (by decide) (l0 := [(0, vR 0)]) rfl (Nat.le_of_ble_eq_true rfl) ?_
  have iv1 : XM M (P 0 10).toNat P := z2.2
  refine g_aload_n dX11_see_0 rfl ?_
  refine g_vI (av := []) (o := 0) (st := []) (f_X11_matched G P K M  hB (z2) _ (fun rc2 hc2 gc2_m => ⟨rc2, rfl, ?_⟩)) cf_X11_matched t_937 rfl (show kx 0 0 from (⟨by decide, rfl⟩ : kx 0 0)).1 ((show kx 0 0 from (⟨by decide, rfl⟩ : kx 0 0)).sh rfl) rfl rfl (Nat.le_of_ble_eq_true rfl) (by decide) rfl dX11_see_1
  refine g_if_eq (tgt := 33) dX11_see_4 (by decide) ⟨by (clear gc2_m; omega), by (clear gc2_m; omega)⟩ (fun k3 => ?_) (fun k3 => ?_)
  · skip
    refine g_iconst dX11_see_33 ?_
    refine g_istore_n (l1 := [(1, vI 0), (0, vR 0)]) dX11_see_34 (by decide) rfl ?_
    refine g_aload_n dX11_see_35 rfl ?_
    refine x_g0_0 (n := 1) (⟨by decide, rfl⟩ : kx 0 0) ffX11_14 dX11_see_36 rfl ?_
    refine g_iconst dX11_see_39 ?_
    refine x_p1_1 (⟨by decide, rfl⟩ : kx 1 1) pfX11_100 dX11_see_40 ?_
    have hB4 := by_1_1 (z := 0) hB (⟨by decide, rfl⟩ : kx 1 1) (by decide)
    refine g_iload_n dX11_see_43 rfl ?_
    refine g_if_ne (tgt := 55) dX11_see_44 (by decide) (by decide) (fun k5 => by exfalso; (clear gc2_m k3; omega)) (fun k5 => ?_)
    skip
    refine g_aload_n dX11_see_47 rfl ?_
    refine g_iconst dX11_see_48 ?_
    refine g_vI (av := [vI 5]) (o := 0) (st := []) (m_X11_refuse G (up P 1 1 0) 5 (by decide) hB4  _ (fun rc6 hc6 Pc6 hBc6 hFc6 => ⟨rc6, rfl, ?_⟩)) cf_X11_refuse t_663 rfl (show kx 0 0 from (⟨by decide, rfl⟩ : kx 0 0)).1 ((show kx 0 0 from (⟨by decide, rfl⟩ : kx 0 0)).sh rfl) rfl rfl (Nat.le_of_ble_eq_true rfl) (by decide) rfl dX11_see_49
    refine g_pop dX11_see_52 rfl ?_
    refine g_iconst dX11_see_53 ?_
    exact g_retI dX11_see_54 rfl (hQ (-1) (by decide) _ hBc6 (FrX.c (FrX.s FrX.rf (⟨by decide, rfl⟩ : kx 1 1) rfl) hFc6 rfl) (by have q0 := (((FrX.g hFc6 (⟨by decide, rfl⟩ : kx 1 1) rfl).trans up_same) : Pc6 1 1 = 0); (clear gc2_m k3 k5; omega)) (by first | exact hrs.elim (fun h => by exfalso; (first | (clear gc2_m k3 k5; omega) | (clear gc2_m k3; omega) | (clear gc2_m k5; omega) | (clear k3 k5; omega) | (clear gc2_m; omega) | omega)) (fun h => Or.inl ⟨rfl, h.2⟩) | exact Or.inl ⟨rfl, fun q => by have h := q.1.1; (omega)⟩) (by first | (rw [aSee_n (fun q => by have h := q.1.1; (omega))]; exact (AX.fr (F := ([(1, 1)], [27])) z1 (FrX.c (FrX.s FrX.rf (⟨by decide, rfl⟩ : kx 1 1) rfl) hFc6 rfl) rfl)) | exact (by first | (rw [show (aSee T M A) = A by (first | (clear gc2_m k3 k5; omega) | (clear gc2_m k3; omega) | (clear gc2_m k5; omega) | (clear k3 k5; omega) | (clear gc2_m; omega) | omega)]; exact (AX.fr (F := ([(1, 1)], [27])) z1 (FrX.c (FrX.s FrX.rf (⟨by decide, rfl⟩ : kx 1 1) rfl) hFc6 rfl) rfl)))))
  · have k3n : 1 ≤ rc2 := by (clear gc2_m; omega)
    clear k3
    have r_gc2_m := (gc2_m.resolve_right (by (clear gc2_m; omega)))
    refine g_aload_n dX11_see_7 rfl ?_
    refine x_g0_8 (n := 64) (⟨by decide, rfl⟩ : kx 0 0) ffX11_60 dX11_see_8 rfl ?_
    refine g_aload_n dX11_see_11 rfl ?_
    refine x_g0_0 (n := 1) (⟨by decide, rfl⟩ : kx 0 0) ffX11_14 dX11_see_12 rfl ?_
    refine g_aload_n dX11_see_15 rfl ?_
    refine x_g0_10 (n := (P 0 10).toNat) (⟨by decide, rfl⟩ : kx 0 0) ffX11_71 dX11_see_16 (br_0_10 hB) ?_
    refine g_aload_n dX11_see_19 rfl ?_
    refine x_g0_5 (n := 14) (⟨by decide, rfl⟩ : kx 0 0) ffX11_43 dX11_see_20 rfl ?_
    refine g_vI (av := [vR 1, vR (P 0 10).toNat, vR 14]) (o := 64) (st := []) (f_X8_read_B16 G P T M A (P 0 10).toNat 14 (bk_0_10 hB) (⟨by decide, rfl⟩ : kx 14 14) hB (rfl) (by (clear gc2_m; omega)) (z0) (z1) (iv1) _ (fun rc7 hc7 Pc7 hBc7 hFc7 gc7_s ec7_0 => ⟨rc7, rfl, ?_⟩)) cf_X8_read t_1214 rfl (show kx 64 22 from (⟨by decide, rfl⟩ : kx 64 22)).1 ((show kx 64 22 from (⟨by decide, rfl⟩ : kx 64 22)).sh rfl) rfl rfl (Nat.le_of_ble_eq_true rfl) (by decide) rfl dX11_see_23
    have hrs := gc7_s
    have h64 := ec7_0.b.2.2.2.2.2.2
    refine g_if_eq (tgt := 33) dX11_see_26 (by decide) ⟨by (clear gc2_m gc7_s hrs; omega), by (clear gc2_m gc7_s hrs; omega)⟩ (fun k8 => ?_) (fun k8 => ?_)
    · skip
      skip
      skip
      refine g_iconst dX11_see_33 ?_
      refine g_istore_n (l1 := [(1, vI 0), (0, vR 0)]) dX11_see_34 (by decide) rfl ?_
      refine g_aload_n dX11_see_35 rfl ?_
      refine x_g0_0 (n := 1) (⟨by decide, rfl⟩ : kx 0 0) ffX11_14 dX11_see_36 rfl ?_
      refine g_iconst dX11_see_39 ?_
      refine x_p1_1 (⟨by decide, rfl⟩ : kx 1 1) pfX11_100 dX11_see_40 ?_
      have hB9 := by_1_1 (z := 0) hBc7 (⟨by decide, rfl⟩ : kx 1 1) (by decide)
      refine g_iload_n dX11_see_43 rfl ?_
      refine g_if_ne (tgt := 55) dX11_see_44 (by decide) (by decide) (fun k10 => by exfalso; (clear gc2_m gc7_s hrs k8; omega)) (fun k10 => ?_)
      skip
      skip
      skip
      refine g_aload_n dX11_see_47 rfl ?_
      refine g_iconst dX11_see_48 ?_
      refine g_vI (av := [vI 5]) (o := 0) (st := []) (m_X11_refuse G (up Pc7 1 1 0) 5 (by decide) hB9  _ (fun rc11 hc11 Pc11 hBc11 hFc11 => ⟨rc11, rfl, ?_⟩)) cf_X11_refuse t_663 rfl (show kx 0 0 from (⟨by decide, rfl⟩ : kx 0 0)).1 ((show kx 0 0 from (⟨by decide, rfl⟩ : kx 0 0)).sh rfl) rfl rfl (Nat.le_of_ble_eq_true rfl) (by decide) rfl dX11_see_49
      refine g_pop dX11_see_52 rfl ?_
      refine g_iconst dX11_see_53 ?_
      exact g_retI dX11_see_54 rfl (hQ (-1) (by decide) _ hBc11 (FrX.c (FrX.s (FrX.c FrX.rf hFc7 rfl) (⟨by decide, rfl⟩ : kx 1 1) rfl) hFc11 rfl) (by have q0 := (((FrX.g hFc11 (⟨by decide, rfl⟩ : kx 1 1) rfl).trans up_same) : Pc11 1 1 = 0); (clear gc2_m gc7_s hrs k8 k10; omega)) (by first | exact hrs.elim (fun h => by exfalso; (clear gc2_m gc7_s hrs k10; omega)) (fun h => Or.inl ⟨rfl, h.2⟩) | exact Or.inl ⟨rfl, fun q => by have h := q.1.1; (first | (clear gc2_m gc7_s hrs k8 k10; omega) | (clear gc2_m gc7_s hrs k8; omega) | (clear gc2_m gc7_s hrs k10; omega) | (clear gc2_m gc7_s k8 k10; omega) | (clear gc2_m hrs k8 k10; omega) | (clear gc7_s hrs k8 k10; omega) | (clear gc2_m gc7_s hrs; omega) | (clear gc2_m; omega) | omega)⟩) (by first | (rw [aSee_n (fun q => by have h := q.1.1; (first | (clear gc2_m gc7_s hrs k8 k10; omega) | (clear gc2_m gc7_s hrs k8; omega) | (clear gc2_m gc7_s hrs k10; omega) | (clear gc2_m gc7_s k8 k10; omega) | (clear gc2_m hrs k8 k10; omega) | (clear gc7_s hrs k8 k10; omega) | (clear gc2_m gc7_s hrs; omega) | (clear gc2_m; omega) | omega))]; exact (by first | (rw [show A = (aSee T M A) by (first | (clear gc2_m gc7_s hrs k8 k10; omega) | (clear gc2_m gc7_s hrs k8; omega) | (clear gc2_m gc7_s hrs k10; omega) | (clear gc2_m gc7_s k8 k10; omega) | (clear gc2_m hrs k8 k10; omega) | (clear gc7_s hrs k8 k10; omega) | (clear gc2_m gc7_s hrs; omega) | (clear gc2_m; omega) | omega)]; exact (AX.fr (F := ([(1, 1)], [27])) ec7_0 (FrX.c (FrX.s FrX.rf (⟨by decide, rfl⟩ : kx 1 1) rfl) hFc11 rfl) rfl)))) | exact (AX.fr (F := ([(1, 1)], [27])) ec7_0 (FrX.c (FrX.s FrX.rf (⟨by decide, rfl⟩ : kx 1 1) rfl) hFc11 rfl) rfl)))
    · have k8n : 1 ≤ rc7 := by (clear gc2_m gc7_s hrs; omega)
      clear k8
      have r_hrs := (hrs.resolve_right (by (clear gc2_m gc7_s hrs; omega)))
      have r_gc7_s := (gc7_s.resolve_right (by (clear gc2_m gc7_s hrs; omega)))
      skip
      refine g_iconst dX11_see_29 ?_
      refine g_goto (tgt := 34) dX11_see_30 (by decide) ?_
      refine g_istore_n (l1 := [(1, vI 1), (0, vR 0)]) dX11_see_34 (by decide) rfl ?_
      refine g_aload_n dX11_see_35 rfl ?_
      refine x_g0_0 (n := 1) (⟨by decide, rfl⟩ : kx 0 0) ffX11_14 dX11_see_36 rfl ?_
      refine g_iconst dX11_see_39 ?_
      refine x_p1_1 (⟨by decide, rfl⟩ : kx 1 1) pfX11_100 dX11_see_40 ?_
      have hB12 := by_1_1 (z := 0) hBc7 (⟨by decide, rfl⟩ : kx 1 1) (by decide)
      refine g_iload_n dX11_see_43 rfl ?_
      refine g_if_ne (tgt := 55) dX11_see_44 (by decide) (by decide) (fun k13 => ?_) (fun k13 => by exfalso; (clear gc2_m gc7_s hrs; omega))
      skip
      skip
      skip
      refine g_aload_n dX11_see_55 rfl ?_
      refine x_g0_8 (n := 64) (⟨by decide, rfl⟩ : kx 0 0) ffX11_60 dX11_see_56 rfl ?_
      refine x_g22_2 (z := (Pc7 64 2)) (⟨by decide, rfl⟩ : kx 64 22) ffX11_153 dX11_see_59 ((up_o (kx.ne (⟨by decide, rfl⟩ : kx 64 22) (⟨by decide, rfl⟩ : kx 1 1) rfl)).trans rfl) ?_
      exact g_retI dX11_see_62 rfl (hQ (Pc7 64 2) ⟨by have q0 := bx_22_2 (o := 64) hBc7 (⟨by decide, rfl⟩ : kx 64 22); (clear gc2_m gc7_s hrs k13; omega), by have q0 := bx_22_2 (o := 64) hBc7 (⟨by decide, rfl⟩ : kx 64 22); (clear gc2_m gc7_s hrs k13; omega)⟩ _ hB12 (FrX.s (FrX.c FrX.rf hFc7 rfl) (⟨by decide, rfl⟩ : kx 1 1) rfl) (by have q0 := bx_22_2 (o := 64) hBc7 (⟨by decide, rfl⟩ : kx 64 22); have q1 := (up_same : (up Pc7 1 1 0) 1 1 = 0); (clear gc2_m gc7_s hrs k13; omega)) (by first | exact hrs.elim (fun h => Or.inr ⟨by have e : (aSee T M A) 0 6 = T.2 / 3 := (by rw [aSee_y h.2]; exact up_same); have q := (((up_o (kx.ne (⟨by decide, rfl⟩ : kx 64 22) (⟨by decide, rfl⟩ : kx 1 1) rfl)).trans rfl) : (up Pc7 1 1 0) 64 2 = (Pc7 64 2)); (clear gc2_m gc7_s hrs k13; omega), h.2⟩) (fun h => by exfalso; (clear gc2_m gc7_s hrs k13; omega)) | (exfalso; (first | (clear gc2_m gc7_s hrs k13; omega) | (clear gc2_m gc7_s hrs; omega) | (clear gc2_m gc7_s k13; omega) | (clear gc2_m hrs k13; omega) | (clear gc7_s hrs k13; omega) | (clear gc2_m gc7_s; omega) | omega))) (by first | exact (AX.fr (F := ([(1, 1)], [])) ec7_0 (FrX.s FrX.rf (⟨by decide, rfl⟩ : kx 1 1) rfl) rfl) | (exfalso; (first | (clear gc2_m gc7_s hrs k13; omega) | (clear gc2_m gc7_s hrs; omega) | (clear gc2_m gc7_s k13; omega) | (clear gc2_m hrs k13; omega) | (clear gc7_s hrs k13; omega) | (clear gc2_m gc7_s; omega) | omega))))
