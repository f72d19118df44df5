/-! What the class answers: X3_addCon. -/
set_option maxRecDepth 100000 in
set_option maxHeartbeats 4000000 in
theorem f_X3_addCon (G : GT) (P : PH) (K : PH) (o0 : Nat) (a1 : Int) (a2 : Int) (a3 : Int) (a4 : Int) (a5 : Int) (k_o0 : kx o0 29) (h_a1 : (-2147483648) ≤ a1 ∧ a1 ≤ 2147483647) (h_a2 : (-2147483648) ≤ a2 ∧ a2 ≤ 2147483647) (h_a3 : (-2147483648) ≤ a3 ∧ a3 ≤ 2147483647) (h_a4 : (-2147483648) ≤ a4 ∧ a4 ≤ 2147483647) (h_a5 : (-2147483648) ≤ a5 ∧ a5 ≤ 2147483647) (hB : BdX P) (p_aw : AW K) (p_l5 : 1 ≤ K 0 0 ∧ K 3 (K 0 0 - 1) ≤ 5) (p_ib : 1 ≤ a5 ∧ a5 ≤ 4012000) (z0 : XK K o0 P) (Q : Option PV → PH → Prop) (hQ : ∀ (P1 : PH) (_ : BdX P1) (_ : FrX ([(29, 10)], [32, 33, 34, 35, 36, 37, 38]) P P1) (_ : XK (cNew K a1 a2 a3 a4 a5) o0 P1) (_ : KT (tbX o0) P P1), Q none P1) : Ct WSX G 2 iX3_addCon [vR o0, vI a1, vI a2, vI a3, vI a4, vI a5] P Q := by
  refine Ct.of (by decide) (l0 := [(0, vR o0), (1, vI a1), (2, vI a2), (3, vI a3), (4, vI a4), (5, vI a5)]) rfl (Nat.le_of_ble_eq_true rfl) ?_
  have kt0 : KT (tbX o0) P P := KT.rf
  have hb := z0.b
  have hk3 : P (crX o0 3) ((P o0 9) - 1) = K 2 (K 0 0 - 1) := by
    have q := (z0.k (k := P o0 9 - 1) (by (first | (clear hb; omega) | omega)) (by (first | (clear hb; omega) | omega))).2.2.2
    rw [show K 2 (P o0 9 - 1) = K 2 (K 0 0 - 1) by rw [hb.1]] at q
    exact q
  have hk := (z0.k (k := P o0 9 - 1) (by (first | (clear hb; omega) | omega)) (by (first | (clear hb; omega) | omega))).2.2.1
  rw [show K 3 (P o0 9 - 1) = K 3 (K 0 0 - 1) by rw [hb.1]] at hk
  have ha := p_aw.1
  have ha1 := p_aw.2.1 (K 0 0 - 1) (by (first | (clear hb; omega) | omega)) (by (first | (clear hb; omega) | omega))
  refine g_aload_n dX3_addCon_0 rfl ?_
  refine x_g29_9 (z := (P o0 9)) k_o0 ffX3_39 dX3_addCon_1 rfl ?_
  refine g_iconst dX3_addCon_4 ?_
  refine g_isub dX3_addCon_5 ?_
  refine g_istore (l1 := [(6, vI ((P o0 9) - 1)), (0, vR o0), (1, vI a1), (2, vI a2), (3, vI a3), (4, vI a4), (5, vI a5)]) dX3_addCon_6 (by decide) rfl ?_
  refine g_aload_n dX3_addCon_8 rfl ?_
  refine g_iload dX3_addCon_9 rfl ?_
  have f1 := bx_29_9 (o := o0) hB k_o0
  refine g_vI (av := [vI ((P o0 9) - 1)]) (o := o0) (st := []) (f_X3_isKind G P o0 ((P o0 9) - 1) k_o0 ⟨by have q0 := bx_29_9 (o := o0) hB k_o0; (first | (clear hb; omega) | omega), by have q0 := bx_29_9 (o := o0) hB k_o0; (first | (clear hb; omega) | omega)⟩ hB  _ (fun rc2 hc2 gc2_k gc2_f => ⟨rc2, rfl, ?_⟩)) cf_X3_isKind t_760 rfl (show kx o0 29 from k_o0).1 ((show kx o0 29 from k_o0).sh rfl) rfl rfl (Nat.le_of_ble_eq_true rfl) (by decide) rfl dX3_addCon_11
  refine g_if_eq (tgt := 131) dX3_addCon_14 (by decide) ⟨by (first | (clear hb gc2_k gc2_f; omega) | omega), by (first | (clear hb gc2_k gc2_f; omega) | omega)⟩ (fun k3 => ?_) (fun k3 => ?_)
  · exact g_retV dX3_addCon_131 rfl (hQ _ hB FrX.rf (by first | exact z0.con rfl rfl rfl (fun j hj => rfl) rfl (fun j hj => rfl) rfl (fun j hj => rfl) rfl (fun j hj => rfl) rfl (fun j hj => rfl) rfl (fun j hj => rfl) rfl (fun j hj => rfl) (fun j => rfl) (fun j => rfl) (by (first | (clear hb gc2_k gc2_f; omega) | (clear hb gc2_k; omega) | (clear hb gc2_f; omega) | (clear gc2_k gc2_f; omega) | (clear hb; omega) | omega)) | (exfalso; (first | (clear hb gc2_k gc2_f; omega) | (clear hb gc2_k; omega) | (clear hb gc2_f; omega) | (clear gc2_k gc2_f; omega) | (clear hb; omega) | omega))) (kt0))
  · have k3n : 1 ≤ rc2 := by (first | (clear hb gc2_k gc2_f; omega) | (clear hb gc2_k; omega) | (clear hb gc2_f; omega) | (clear gc2_k gc2_f; omega) | (clear hb; omega) | omega)
    clear k3
    first | (revert r_gc2_f; intro r_gc2_f) | have r_gc2_f := (gc2_f.resolve_right (by (clear hb gc2_k gc2_f; omega))) | have r_gc2_f := (gc2_f.resolve_left (by (clear hb gc2_k gc2_f; omega))) | skip
    first | (revert r_gc2_k; intro r_gc2_k) | have r_gc2_k := (gc2_k.resolve_right (by (clear hb gc2_k gc2_f; omega))) | have r_gc2_k := (gc2_k.resolve_left (by (clear hb gc2_k gc2_f; omega))) | skip
    refine g_aload_n dX3_addCon_17 rfl ?_
    refine x_g29_2 (n := (crX o0 2)) k_o0 ffX3_18 dX3_addCon_18 rfl ?_
    refine g_iload dX3_addCon_21 rfl ?_
    refine x_l32 (z := (P (crX o0 2) ((P o0 9) - 1))) (ck_29_2 k_o0) dX3_addCon_23 ⟨by have q0 := bx_29_9 (o := o0) hB k_o0; (first | (clear hb gc2_k gc2_f; omega) | omega), by have q0 := bx_29_9 (o := o0) hB k_o0; (first | (clear hb gc2_k gc2_f; omega) | omega)⟩ rfl ?_
    refine g_bipush dX3_addCon_24 (by decide) ?_
    have f4 := bx_32 (o := (crX o0 2)) (k := ((P o0 9) - 1)) hB (ck_29_2 k_o0)
    refine g_icmp_ge (tgt := 131) dX3_addCon_26 (by decide) ⟨by have q0 := bx_32 (o := (crX o0 2)) (k := ((P o0 9) - 1)) hB (ck_29_2 k_o0); (first | (clear hb gc2_k gc2_f; omega) | omega), by have q0 := bx_32 (o := (crX o0 2)) (k := ((P o0 9) - 1)) hB (ck_29_2 k_o0); (first | (clear hb gc2_k gc2_f; omega) | omega)⟩ (by decide) (fun k5 => ?_) (fun k5 => ?_)
    · exact g_retV dX3_addCon_131 rfl (hQ _ hB FrX.rf (by first | exact z0.con rfl rfl rfl (fun j hj => rfl) rfl (fun j hj => rfl) rfl (fun j hj => rfl) rfl (fun j hj => rfl) rfl (fun j hj => rfl) rfl (fun j hj => rfl) rfl (fun j hj => rfl) (fun j => rfl) (fun j => rfl) (by (first | (clear hb gc2_k gc2_f k5; omega) | (clear hb gc2_k gc2_f; omega) | (clear hb gc2_k k5; omega) | (clear hb gc2_f k5; omega) | (clear gc2_k gc2_f k5; omega) | (clear hb gc2_k; omega) | omega)) | (exfalso; (first | (clear hb gc2_k gc2_f k5; omega) | (clear hb gc2_k gc2_f; omega) | (clear hb gc2_k k5; omega) | (clear hb gc2_f k5; omega) | (clear gc2_k gc2_f k5; omega) | (clear hb gc2_k; omega) | omega))) (kt0))
    · first | (revert r_gc2_f; intro r_gc2_f) | have r_gc2_f := (gc2_f.resolve_right (by (clear hb gc2_k gc2_f k5; omega))) | have r_gc2_f := (gc2_f.resolve_left (by (clear hb gc2_k gc2_f k5; omega))) | skip
      first | (revert r_gc2_k; intro r_gc2_k) | have r_gc2_k := (gc2_k.resolve_right (by (clear hb gc2_k gc2_f k5; omega))) | have r_gc2_k := (gc2_k.resolve_left (by (clear hb gc2_k gc2_f k5; omega))) | skip
      refine g_aload_n dX3_addCon_29 rfl ?_
      refine x_g29_10 (z := (P o0 10)) k_o0 ffX3_43 dX3_addCon_30 rfl ?_
      refine g_aload_n dX3_addCon_33 rfl ?_
      refine x_g29_4 (n := (crX o0 4)) k_o0 ffX3_24 dX3_addCon_34 rfl ?_
      refine x_n34 (ck_29_4 k_o0) dX3_addCon_37 ?_
      have f6 := bx_29_10 (o := o0) hB k_o0
      refine g_icmp_ge (tgt := 131) dX3_addCon_38 (by decide) ⟨by have q0 := bx_29_10 (o := o0) hB k_o0; (first | (clear hb gc2_k gc2_f k5; omega) | omega), by have q0 := bx_29_10 (o := o0) hB k_o0; (first | (clear hb gc2_k gc2_f k5; omega) | omega)⟩ (by decide) (fun k7 => ?_) (fun k7 => ?_)
      · exact g_retV dX3_addCon_131 rfl (hQ _ hB FrX.rf (by first | exact z0.con rfl rfl rfl (fun j hj => rfl) rfl (fun j hj => rfl) rfl (fun j hj => rfl) rfl (fun j hj => rfl) rfl (fun j hj => rfl) rfl (fun j hj => rfl) rfl (fun j hj => rfl) (fun j => rfl) (fun j => rfl) (by (first | (clear hb gc2_k gc2_f k5; omega) | (clear hb gc2_k gc2_f; omega) | (clear hb gc2_k k5; omega) | (clear hb gc2_f k5; omega) | (clear gc2_k gc2_f k5; omega) | (clear hb gc2_k; omega) | omega)) | (exfalso; (first | (clear hb gc2_k gc2_f k5; omega) | (clear hb gc2_k gc2_f; omega) | (clear hb gc2_k k5; omega) | (clear hb gc2_f k5; omega) | (clear gc2_k gc2_f k5; omega) | (clear hb gc2_k; omega) | omega))) (kt0))
      · first | (revert r_gc2_f; intro r_gc2_f) | have r_gc2_f := (gc2_f.resolve_right (by (clear hb gc2_k gc2_f k5; omega))) | have r_gc2_f := (gc2_f.resolve_left (by (clear hb gc2_k gc2_f k5; omega))) | skip
        first | (revert r_gc2_k; intro r_gc2_k) | have r_gc2_k := (gc2_k.resolve_right (by (clear hb gc2_k gc2_f k5; omega))) | have r_gc2_k := (gc2_k.resolve_left (by (clear hb gc2_k gc2_f k5; omega))) | skip
        refine g_aload_n dX3_addCon_41 rfl ?_
        refine x_g29_4 (n := (crX o0 4)) k_o0 ffX3_24 dX3_addCon_42 rfl ?_
        refine g_aload_n dX3_addCon_45 rfl ?_
        refine x_g29_10 (z := (P o0 10)) k_o0 ffX3_43 dX3_addCon_46 rfl ?_
        refine g_iload_n dX3_addCon_49 rfl ?_
        refine x_s34 (ck_29_4 k_o0) dX3_addCon_50 ⟨by have q0 := bx_29_10 (o := o0) hB k_o0; (first | (clear hb gc2_k gc2_f k5; omega) | omega), by have q0 := bx_29_10 (o := o0) hB k_o0; (first | (clear hb gc2_k gc2_f k5; omega) | omega)⟩ ?_
        have hB8 := by_34 (z := a1) (k := (P o0 10)) hB (ck_29_4 k_o0) ⟨by (first | (clear hb gc2_k gc2_f k5; omega) | omega), by (first | (clear hb gc2_k gc2_f k5; omega) | omega)⟩
        have kt9 : KT (tbX o0) P (up P (crX o0 4) (P o0 10) a1) := KT.w kt0 (TB.c (Or.inl rfl) (k_o0).1 (by decide))
        refine g_aload_n dX3_addCon_51 rfl ?_
        refine x_g29_5 (n := (crX o0 5)) k_o0 ffX3_27 dX3_addCon_52 rfl ?_
        refine g_aload_n dX3_addCon_55 rfl ?_
        refine x_g29_10 (z := (P o0 10)) k_o0 ffX3_43 dX3_addCon_56 ((up_o (kx.ne k_o0 (ck_29_4 k_o0) rfl)).trans rfl) ?_
        refine g_aload_n dX3_addCon_59 rfl ?_
        refine x_g29_3 (n := (crX o0 3)) k_o0 ffX3_21 dX3_addCon_60 rfl ?_
        refine g_iload dX3_addCon_63 rfl ?_
        refine x_l33 (z := (P (crX o0 3) ((P o0 9) - 1))) (ck_29_3 k_o0) dX3_addCon_65 ⟨by have q0 := bx_29_9 (o := o0) hB k_o0; (first | (clear hb gc2_k gc2_f k5; omega) | omega), by have q0 := bx_29_9 (o := o0) hB k_o0; (first | (clear hb gc2_k gc2_f k5; omega) | omega)⟩ ((up_o (kx.ne (ck_29_3 k_o0) (ck_29_4 k_o0) rfl)).trans rfl) ?_
        refine x_s35 (ck_29_5 k_o0) dX3_addCon_66 ⟨by have q0 := bx_29_10 (o := o0) hB k_o0; (first | (clear hb gc2_k gc2_f k5; omega) | omega), by have q0 := bx_29_10 (o := o0) hB k_o0; (first | (clear hb gc2_k gc2_f k5; omega) | omega)⟩ ?_
        have hB10 := by_35 (z := (P (crX o0 3) ((P o0 9) - 1))) (k := (P o0 10)) hB8 (ck_29_5 k_o0) ⟨by have q0 := bx_33 (o := (crX o0 3)) (k := ((P o0 9) - 1)) hB (ck_29_3 k_o0); (first | (clear hb gc2_k gc2_f k5; omega) | omega), by have q0 := bx_33 (o := (crX o0 3)) (k := ((P o0 9) - 1)) hB (ck_29_3 k_o0); (first | (clear hb gc2_k gc2_f k5; omega) | omega)⟩
        have kt11 : KT (tbX o0) P (up (up P (crX o0 4) (P o0 10) a1) (crX o0 5) (P o0 10) (P (crX o0 3) ((P o0 9) - 1))) := KT.w kt9 (TB.c (Or.inl rfl) (k_o0).1 (by decide))
        refine g_aload_n dX3_addCon_67 rfl ?_
        refine x_g29_6 (n := (crX o0 6)) k_o0 ffX3_30 dX3_addCon_68 rfl ?_
        refine g_aload_n dX3_addCon_71 rfl ?_
        refine x_g29_10 (z := (P o0 10)) k_o0 ffX3_43 dX3_addCon_72 ((up_o (kx.ne k_o0 (ck_29_5 k_o0) rfl)).trans ((up_o (kx.ne k_o0 (ck_29_4 k_o0) rfl)).trans rfl)) ?_
        refine g_iload_n dX3_addCon_75 rfl ?_
        refine x_s36 (ck_29_6 k_o0) dX3_addCon_76 ⟨by have q0 := bx_29_10 (o := o0) hB k_o0; (first | (clear hb gc2_k gc2_f k5; omega) | omega), by have q0 := bx_29_10 (o := o0) hB k_o0; (first | (clear hb gc2_k gc2_f k5; omega) | omega)⟩ ?_
        have hB12 := by_36 (z := a2) (k := (P o0 10)) hB10 (ck_29_6 k_o0) ⟨by (first | (clear hb gc2_k gc2_f k5; omega) | omega), by (first | (clear hb gc2_k gc2_f k5; omega) | omega)⟩
        have kt13 : KT (tbX o0) P (up (up (up P (crX o0 4) (P o0 10) a1) (crX o0 5) (P o0 10) (P (crX o0 3) ((P o0 9) - 1))) (crX o0 6) (P o0 10) a2) := KT.w kt11 (TB.c (Or.inl rfl) (k_o0).1 (by decide))
        refine g_aload_n dX3_addCon_77 rfl ?_
        refine x_g29_7 (n := (crX o0 7)) k_o0 ffX3_33 dX3_addCon_78 rfl ?_
        refine g_aload_n dX3_addCon_81 rfl ?_
        refine x_g29_10 (z := (P o0 10)) k_o0 ffX3_43 dX3_addCon_82 ((up_o (kx.ne k_o0 (ck_29_6 k_o0) rfl)).trans ((up_o (kx.ne k_o0 (ck_29_5 k_o0) rfl)).trans ((up_o (kx.ne k_o0 (ck_29_4 k_o0) rfl)).trans rfl))) ?_
        refine g_iload_n dX3_addCon_85 rfl ?_
        refine x_s37 (ck_29_7 k_o0) dX3_addCon_86 ⟨by have q0 := bx_29_10 (o := o0) hB k_o0; (first | (clear hb gc2_k gc2_f k5; omega) | omega), by have q0 := bx_29_10 (o := o0) hB k_o0; (first | (clear hb gc2_k gc2_f k5; omega) | omega)⟩ ?_
        have hB14 := by_37 (z := a3) (k := (P o0 10)) hB12 (ck_29_7 k_o0) ⟨by (first | (clear hb gc2_k gc2_f k5; omega) | omega), by (first | (clear hb gc2_k gc2_f k5; omega) | omega)⟩
        have kt15 : KT (tbX o0) P (up (up (up (up P (crX o0 4) (P o0 10) a1) (crX o0 5) (P o0 10) (P (crX o0 3) ((P o0 9) - 1))) (crX o0 6) (P o0 10) a2) (crX o0 7) (P o0 10) a3) := KT.w kt13 (TB.c (Or.inl rfl) (k_o0).1 (by decide))
        refine g_aload_n dX3_addCon_87 rfl ?_
        refine x_g29_8 (n := (crX o0 8)) k_o0 ffX3_36 dX3_addCon_88 rfl ?_
        refine g_aload_n dX3_addCon_91 rfl ?_
        refine x_g29_10 (z := (P o0 10)) k_o0 ffX3_43 dX3_addCon_92 ((up_o (kx.ne k_o0 (ck_29_7 k_o0) rfl)).trans ((up_o (kx.ne k_o0 (ck_29_6 k_o0) rfl)).trans ((up_o (kx.ne k_o0 (ck_29_5 k_o0) rfl)).trans ((up_o (kx.ne k_o0 (ck_29_4 k_o0) rfl)).trans rfl)))) ?_
        refine g_iload dX3_addCon_95 rfl ?_
        refine x_s38 (ck_29_8 k_o0) dX3_addCon_97 ⟨by have q0 := bx_29_10 (o := o0) hB k_o0; (first | (clear hb gc2_k gc2_f k5; omega) | omega), by have q0 := bx_29_10 (o := o0) hB k_o0; (first | (clear hb gc2_k gc2_f k5; omega) | omega)⟩ ?_
        have hB16 := by_38 (z := a4) (k := (P o0 10)) hB14 (ck_29_8 k_o0) ⟨by (first | (clear hb gc2_k gc2_f k5; omega) | omega), by (first | (clear hb gc2_k gc2_f k5; omega) | omega)⟩
        have kt17 : KT (tbX o0) P (up (up (up (up (up P (crX o0 4) (P o0 10) a1) (crX o0 5) (P o0 10) (P (crX o0 3) ((P o0 9) - 1))) (crX o0 6) (P o0 10) a2) (crX o0 7) (P o0 10) a3) (crX o0 8) (P o0 10) a4) := KT.w kt15 (TB.c (Or.inl rfl) (k_o0).1 (by decide))
        refine g_aload_n dX3_addCon_98 rfl ?_
        refine g_dup dX3_addCon_99 rfl ?_
        refine x_g29_10 (z := (P o0 10)) k_o0 ffX3_43 dX3_addCon_100 ((up_o (kx.ne k_o0 (ck_29_8 k_o0) rfl)).trans ((up_o (kx.ne k_o0 (ck_29_7 k_o0) rfl)).trans ((up_o (kx.ne k_o0 (ck_29_6 k_o0) rfl)).trans ((up_o (kx.ne k_o0 (ck_29_5 k_o0) rfl)).trans ((up_o (kx.ne k_o0 (ck_29_4 k_o0) rfl)).trans rfl))))) ?_
        refine g_iconst dX3_addCon_103 ?_
        refine g_iadd dX3_addCon_104 ?_
        refine x_p29_10 k_o0 pfX3_43 dX3_addCon_105 ?_
        have hB18 := by_29_10 (z := ((P o0 10) + 1)) hB16 k_o0 ⟨by have q0 := bx_29_10 (o := o0) hB k_o0; (first | (clear hb gc2_k gc2_f k5; omega) | omega), by have q0 := bx_29_10 (o := o0) hB k_o0; (first | (clear hb gc2_k gc2_f k5; omega) | omega)⟩
        have kt19 : KT (tbX o0) P (up (up (up (up (up (up P (crX o0 4) (P o0 10) a1) (crX o0 5) (P o0 10) (P (crX o0 3) ((P o0 9) - 1))) (crX o0 6) (P o0 10) a2) (crX o0 7) (P o0 10) a3) (crX o0 8) (P o0 10) a4) o0 10 ((P o0 10) + 1)) := KT.w kt17 (Or.inl rfl)
        refine g_aload_n dX3_addCon_108 rfl ?_
        refine x_g29_2 (n := (crX o0 2)) k_o0 ffX3_18 dX3_addCon_109 rfl ?_
        refine g_iload dX3_addCon_112 rfl ?_
        refine g_dup2 dX3_addCon_114 rfl rfl ?_
        refine x_l32 (z := (P (crX o0 2) ((P o0 9) - 1))) (ck_29_2 k_o0) dX3_addCon_115 ⟨by have q0 := bx_29_9 (o := o0) hB k_o0; (first | (clear hb gc2_k gc2_f k5; omega) | omega), by have q0 := bx_29_9 (o := o0) hB k_o0; (first | (clear hb gc2_k gc2_f k5; omega) | omega)⟩ ((up_o (kx.ne (ck_29_2 k_o0) k_o0 rfl)).trans ((up_o (kx.ne (ck_29_2 k_o0) (ck_29_8 k_o0) rfl)).trans ((up_o (kx.ne (ck_29_2 k_o0) (ck_29_7 k_o0) rfl)).trans ((up_o (kx.ne (ck_29_2 k_o0) (ck_29_6 k_o0) rfl)).trans ((up_o (kx.ne (ck_29_2 k_o0) (ck_29_5 k_o0) rfl)).trans ((up_o (kx.ne (ck_29_2 k_o0) (ck_29_4 k_o0) rfl)).trans rfl)))))) ?_
        refine g_iconst dX3_addCon_116 ?_
        refine g_iadd dX3_addCon_117 ?_
        refine x_s32 (ck_29_2 k_o0) dX3_addCon_118 ⟨by have q0 := bx_29_9 (o := o0) hB k_o0; (first | (clear hb gc2_k gc2_f k5; omega) | omega), by have q0 := bx_29_9 (o := o0) hB k_o0; (first | (clear hb gc2_k gc2_f k5; omega) | omega)⟩ ?_
        have hB20 := by_32 (z := ((P (crX o0 2) ((P o0 9) - 1)) + 1)) (k := ((P o0 9) - 1)) hB18 (ck_29_2 k_o0) ⟨by have q0 := bx_32 (o := (crX o0 2)) (k := ((P o0 9) - 1)) hB (ck_29_2 k_o0); (first | (clear hb gc2_k gc2_f k5; omega) | omega), by have q0 := bx_32 (o := (crX o0 2)) (k := ((P o0 9) - 1)) hB (ck_29_2 k_o0); (first | (clear hb gc2_k gc2_f k5; omega) | omega)⟩
        have kt21 : KT (tbX o0) P (up (up (up (up (up (up (up P (crX o0 4) (P o0 10) a1) (crX o0 5) (P o0 10) (P (crX o0 3) ((P o0 9) - 1))) (crX o0 6) (P o0 10) a2) (crX o0 7) (P o0 10) a3) (crX o0 8) (P o0 10) a4) o0 10 ((P o0 10) + 1)) (crX o0 2) ((P o0 9) - 1) ((P (crX o0 2) ((P o0 9) - 1)) + 1)) := KT.w kt19 (TB.c (Or.inl rfl) (k_o0).1 (by decide))
        refine g_aload_n dX3_addCon_119 rfl ?_
        refine x_g29_3 (n := (crX o0 3)) k_o0 ffX3_21 dX3_addCon_120 rfl ?_
        refine g_iload dX3_addCon_123 rfl ?_
        refine g_dup2 dX3_addCon_125 rfl rfl ?_
        refine x_l33 (z := (P (crX o0 3) ((P o0 9) - 1))) (ck_29_3 k_o0) dX3_addCon_126 ⟨by have q0 := bx_29_9 (o := o0) hB k_o0; (first | (clear hb gc2_k gc2_f k5; omega) | omega), by have q0 := bx_29_9 (o := o0) hB k_o0; (first | (clear hb gc2_k gc2_f k5; omega) | omega)⟩ ((up_o (kx.ne (ck_29_3 k_o0) (ck_29_2 k_o0) rfl)).trans ((up_o (kx.ne (ck_29_3 k_o0) k_o0 rfl)).trans ((up_o (kx.ne (ck_29_3 k_o0) (ck_29_8 k_o0) rfl)).trans ((up_o (kx.ne (ck_29_3 k_o0) (ck_29_7 k_o0) rfl)).trans ((up_o (kx.ne (ck_29_3 k_o0) (ck_29_6 k_o0) rfl)).trans ((up_o (kx.ne (ck_29_3 k_o0) (ck_29_5 k_o0) rfl)).trans ((up_o (kx.ne (ck_29_3 k_o0) (ck_29_4 k_o0) rfl)).trans rfl))))))) ?_
        refine g_iload dX3_addCon_127 rfl ?_
        refine g_iadd dX3_addCon_129 ?_
        refine x_s33 (ck_29_3 k_o0) dX3_addCon_130 ⟨by have q0 := bx_29_9 (o := o0) hB k_o0; (first | (clear hb gc2_k gc2_f k5; omega) | omega), by have q0 := bx_29_9 (o := o0) hB k_o0; (first | (clear hb gc2_k gc2_f k5; omega) | omega)⟩ ?_
        have hB22 := by_33 (z := ((P (crX o0 3) ((P o0 9) - 1)) + a5)) (k := ((P o0 9) - 1)) hB20 (ck_29_3 k_o0) ⟨by have q0 := bx_33 (o := (crX o0 3)) (k := ((P o0 9) - 1)) hB (ck_29_3 k_o0); (first | (clear hb gc2_k gc2_f k5; omega) | omega), by have q0 := bx_33 (o := (crX o0 3)) (k := ((P o0 9) - 1)) hB (ck_29_3 k_o0); (first | (clear hb gc2_k gc2_f k5; omega) | omega)⟩
        have kt23 : KT (tbX o0) P (up (up (up (up (up (up (up (up P (crX o0 4) (P o0 10) a1) (crX o0 5) (P o0 10) (P (crX o0 3) ((P o0 9) - 1))) (crX o0 6) (P o0 10) a2) (crX o0 7) (P o0 10) a3) (crX o0 8) (P o0 10) a4) o0 10 ((P o0 10) + 1)) (crX o0 2) ((P o0 9) - 1) ((P (crX o0 2) ((P o0 9) - 1)) + 1)) (crX o0 3) ((P o0 9) - 1) ((P (crX o0 3) ((P o0 9) - 1)) + a5)) := KT.w kt21 (TB.c (Or.inl rfl) (k_o0).1 (by decide))
        exact g_retV dX3_addCon_131 rfl (hQ _ hB22 (FrX.s (FrX.s (FrX.s (FrX.s (FrX.s (FrX.s (FrX.s (FrX.s FrX.rf (ck_29_4 k_o0) rfl) (ck_29_5 k_o0) rfl) (ck_29_6 k_o0) rfl) (ck_29_7 k_o0) rfl) (ck_29_8 k_o0) rfl) k_o0 rfl) (ck_29_2 k_o0) rfl) (ck_29_3 k_o0) rfl) (by first | exact z0.con ((up_o (kx.ne k_o0 (ck_29_3 k_o0) rfl)).trans ((up_o (kx.ne k_o0 (ck_29_2 k_o0) rfl)).trans ((up_k (by decide)).trans ((up_o (kx.ne k_o0 (ck_29_8 k_o0) rfl)).trans ((up_o (kx.ne k_o0 (ck_29_7 k_o0) rfl)).trans ((up_o (kx.ne k_o0 (ck_29_6 k_o0) rfl)).trans ((up_o (kx.ne k_o0 (ck_29_5 k_o0) rfl)).trans ((up_o (kx.ne k_o0 (ck_29_4 k_o0) rfl)).trans rfl)))))))) ((up_o (kx.ne k_o0 (ck_29_3 k_o0) rfl)).trans ((up_o (kx.ne k_o0 (ck_29_2 k_o0) rfl)).trans up_same)) ((up_o (kx.ne (ck_29_4 k_o0) (ck_29_3 k_o0) rfl)).trans ((up_o (kx.ne (ck_29_4 k_o0) (ck_29_2 k_o0) rfl)).trans ((up_o (kx.ne (ck_29_4 k_o0) k_o0 rfl)).trans ((up_o (kx.ne (ck_29_4 k_o0) (ck_29_8 k_o0) rfl)).trans ((up_o (kx.ne (ck_29_4 k_o0) (ck_29_7 k_o0) rfl)).trans ((up_o (kx.ne (ck_29_4 k_o0) (ck_29_6 k_o0) rfl)).trans ((up_o (kx.ne (ck_29_4 k_o0) (ck_29_5 k_o0) rfl)).trans up_same))))))) (fun j hj => ((up_o (kx.ne (ck_29_4 k_o0) (ck_29_3 k_o0) rfl)).trans ((up_o (kx.ne (ck_29_4 k_o0) (ck_29_2 k_o0) rfl)).trans ((up_o (kx.ne (ck_29_4 k_o0) k_o0 rfl)).trans ((up_o (kx.ne (ck_29_4 k_o0) (ck_29_8 k_o0) rfl)).trans ((up_o (kx.ne (ck_29_4 k_o0) (ck_29_7 k_o0) rfl)).trans ((up_o (kx.ne (ck_29_4 k_o0) (ck_29_6 k_o0) rfl)).trans ((up_o (kx.ne (ck_29_4 k_o0) (ck_29_5 k_o0) rfl)).trans ((up_k hj).trans rfl))))))))) ((up_o (kx.ne (ck_29_5 k_o0) (ck_29_3 k_o0) rfl)).trans ((up_o (kx.ne (ck_29_5 k_o0) (ck_29_2 k_o0) rfl)).trans ((up_o (kx.ne (ck_29_5 k_o0) k_o0 rfl)).trans ((up_o (kx.ne (ck_29_5 k_o0) (ck_29_8 k_o0) rfl)).trans ((up_o (kx.ne (ck_29_5 k_o0) (ck_29_7 k_o0) rfl)).trans ((up_o (kx.ne (ck_29_5 k_o0) (ck_29_6 k_o0) rfl)).trans up_same)))))) (fun j hj => ((up_o (kx.ne (ck_29_5 k_o0) (ck_29_3 k_o0) rfl)).trans ((up_o (kx.ne (ck_29_5 k_o0) (ck_29_2 k_o0) rfl)).trans ((up_o (kx.ne (ck_29_5 k_o0) k_o0 rfl)).trans ((up_o (kx.ne (ck_29_5 k_o0) (ck_29_8 k_o0) rfl)).trans ((up_o (kx.ne (ck_29_5 k_o0) (ck_29_7 k_o0) rfl)).trans ((up_o (kx.ne (ck_29_5 k_o0) (ck_29_6 k_o0) rfl)).trans ((up_k hj).trans ((up_o (kx.ne (ck_29_5 k_o0) (ck_29_4 k_o0) rfl)).trans rfl))))))))) ((up_o (kx.ne (ck_29_6 k_o0) (ck_29_3 k_o0) rfl)).trans ((up_o (kx.ne (ck_29_6 k_o0) (ck_29_2 k_o0) rfl)).trans ((up_o (kx.ne (ck_29_6 k_o0) k_o0 rfl)).trans ((up_o (kx.ne (ck_29_6 k_o0) (ck_29_8 k_o0) rfl)).trans ((up_o (kx.ne (ck_29_6 k_o0) (ck_29_7 k_o0) rfl)).trans up_same))))) (fun j hj => ((up_o (kx.ne (ck_29_6 k_o0) (ck_29_3 k_o0) rfl)).trans ((up_o (kx.ne (ck_29_6 k_o0) (ck_29_2 k_o0) rfl)).trans ((up_o (kx.ne (ck_29_6 k_o0) k_o0 rfl)).trans ((up_o (kx.ne (ck_29_6 k_o0) (ck_29_8 k_o0) rfl)).trans ((up_o (kx.ne (ck_29_6 k_o0) (ck_29_7 k_o0) rfl)).trans ((up_k hj).trans ((up_o (kx.ne (ck_29_6 k_o0) (ck_29_5 k_o0) rfl)).trans ((up_o (kx.ne (ck_29_6 k_o0) (ck_29_4 k_o0) rfl)).trans rfl))))))))) ((up_o (kx.ne (ck_29_7 k_o0) (ck_29_3 k_o0) rfl)).trans ((up_o (kx.ne (ck_29_7 k_o0) (ck_29_2 k_o0) rfl)).trans ((up_o (kx.ne (ck_29_7 k_o0) k_o0 rfl)).trans ((up_o (kx.ne (ck_29_7 k_o0) (ck_29_8 k_o0) rfl)).trans up_same)))) (fun j hj => ((up_o (kx.ne (ck_29_7 k_o0) (ck_29_3 k_o0) rfl)).trans ((up_o (kx.ne (ck_29_7 k_o0) (ck_29_2 k_o0) rfl)).trans ((up_o (kx.ne (ck_29_7 k_o0) k_o0 rfl)).trans ((up_o (kx.ne (ck_29_7 k_o0) (ck_29_8 k_o0) rfl)).trans ((up_k hj).trans ((up_o (kx.ne (ck_29_7 k_o0) (ck_29_6 k_o0) rfl)).trans ((up_o (kx.ne (ck_29_7 k_o0) (ck_29_5 k_o0) rfl)).trans ((up_o (kx.ne (ck_29_7 k_o0) (ck_29_4 k_o0) rfl)).trans rfl))))))))) ((up_o (kx.ne (ck_29_8 k_o0) (ck_29_3 k_o0) rfl)).trans ((up_o (kx.ne (ck_29_8 k_o0) (ck_29_2 k_o0) rfl)).trans ((up_o (kx.ne (ck_29_8 k_o0) k_o0 rfl)).trans up_same))) (fun j hj => ((up_o (kx.ne (ck_29_8 k_o0) (ck_29_3 k_o0) rfl)).trans ((up_o (kx.ne (ck_29_8 k_o0) (ck_29_2 k_o0) rfl)).trans ((up_o (kx.ne (ck_29_8 k_o0) k_o0 rfl)).trans ((up_k hj).trans ((up_o (kx.ne (ck_29_8 k_o0) (ck_29_7 k_o0) rfl)).trans ((up_o (kx.ne (ck_29_8 k_o0) (ck_29_6 k_o0) rfl)).trans ((up_o (kx.ne (ck_29_8 k_o0) (ck_29_5 k_o0) rfl)).trans ((up_o (kx.ne (ck_29_8 k_o0) (ck_29_4 k_o0) rfl)).trans rfl))))))))) ((up_o (kx.ne (ck_29_2 k_o0) (ck_29_3 k_o0) rfl)).trans up_same) (fun j hj => ((up_o (kx.ne (ck_29_2 k_o0) (ck_29_3 k_o0) rfl)).trans ((up_k hj).trans ((up_o (kx.ne (ck_29_2 k_o0) k_o0 rfl)).trans ((up_o (kx.ne (ck_29_2 k_o0) (ck_29_8 k_o0) rfl)).trans ((up_o (kx.ne (ck_29_2 k_o0) (ck_29_7 k_o0) rfl)).trans ((up_o (kx.ne (ck_29_2 k_o0) (ck_29_6 k_o0) rfl)).trans ((up_o (kx.ne (ck_29_2 k_o0) (ck_29_5 k_o0) rfl)).trans ((up_o (kx.ne (ck_29_2 k_o0) (ck_29_4 k_o0) rfl)).trans rfl))))))))) up_same (fun j hj => ((up_k hj).trans ((up_o (kx.ne (ck_29_3 k_o0) (ck_29_2 k_o0) rfl)).trans ((up_o (kx.ne (ck_29_3 k_o0) k_o0 rfl)).trans ((up_o (kx.ne (ck_29_3 k_o0) (ck_29_8 k_o0) rfl)).trans ((up_o (kx.ne (ck_29_3 k_o0) (ck_29_7 k_o0) rfl)).trans ((up_o (kx.ne (ck_29_3 k_o0) (ck_29_6 k_o0) rfl)).trans ((up_o (kx.ne (ck_29_3 k_o0) (ck_29_5 k_o0) rfl)).trans ((up_o (kx.ne (ck_29_3 k_o0) (ck_29_4 k_o0) rfl)).trans rfl))))))))) (fun j => ((up_o (kx.ne (ck_29_0 k_o0) (ck_29_3 k_o0) rfl)).trans ((up_o (kx.ne (ck_29_0 k_o0) (ck_29_2 k_o0) rfl)).trans ((up_o (kx.ne (ck_29_0 k_o0) k_o0 rfl)).trans ((up_o (kx.ne (ck_29_0 k_o0) (ck_29_8 k_o0) rfl)).trans ((up_o (kx.ne (ck_29_0 k_o0) (ck_29_7 k_o0) rfl)).trans ((up_o (kx.ne (ck_29_0 k_o0) (ck_29_6 k_o0) rfl)).trans ((up_o (kx.ne (ck_29_0 k_o0) (ck_29_5 k_o0) rfl)).trans ((up_o (kx.ne (ck_29_0 k_o0) (ck_29_4 k_o0) rfl)).trans rfl))))))))) (fun j => ((up_o (kx.ne (ck_29_1 k_o0) (ck_29_3 k_o0) rfl)).trans ((up_o (kx.ne (ck_29_1 k_o0) (ck_29_2 k_o0) rfl)).trans ((up_o (kx.ne (ck_29_1 k_o0) k_o0 rfl)).trans ((up_o (kx.ne (ck_29_1 k_o0) (ck_29_8 k_o0) rfl)).trans ((up_o (kx.ne (ck_29_1 k_o0) (ck_29_7 k_o0) rfl)).trans ((up_o (kx.ne (ck_29_1 k_o0) (ck_29_6 k_o0) rfl)).trans ((up_o (kx.ne (ck_29_1 k_o0) (ck_29_5 k_o0) rfl)).trans ((up_o (kx.ne (ck_29_1 k_o0) (ck_29_4 k_o0) rfl)).trans rfl))))))))) (by (first | (clear hb gc2_k gc2_f k5; omega) | (clear hb gc2_k gc2_f; omega) | (clear hb gc2_k k5; omega) | (clear hb gc2_f k5; omega) | (clear gc2_k gc2_f k5; omega) | (clear hb gc2_k; omega) | omega)) | (exfalso; (first | (clear hb gc2_k gc2_f k5; omega) | (clear hb gc2_k gc2_f; omega) | (clear hb gc2_k k5; omega) | (clear hb gc2_f k5; omega) | (clear gc2_k gc2_f k5; omega) | (clear hb gc2_k; omega) | omega))) (kt23))
/-! What the class answers: X9_clear. -/
set_option maxRecDepth 100000 in
set_option maxHeartbeats 4000000 in
theorem f_X9_clear (G : GT) (P : PH) (o0 : Nat) (k_o0 : kx o0 28) (hB : BdX P) (Q : Option PV → PH → Prop) (hQ : ∀ (P1 : PH) (_ : BdX P1) (_ : FrX ([(28, 6), (28, 7), (28, 8), (28, 9), (28, 10), (29, 9), (29, 10)], []) P P1) (_ : XK K0 (crX o0 0) P1) (_ : XM M0 o0 P1) (_ : KT (tbX o0) P P1), Q none P1) : Ct WSX G 2 iX9_clear [vR o0] P Q := by
  refine Ct.of (by decide) (l0 := [(0, vR o0)]) rfl (Nat.le_of_ble_eq_true rfl) ?_
  have kt0 : KT (tbX o0) P P := KT.rf
  refine g_aload_n dX9_clear_0 rfl ?_
  refine x_g28_0 (n := (crX o0 0)) k_o0 ffX9_12 dX9_clear_1 rfl ?_
  refine g_vV (av := []) (o := (crX o0 0)) (st := []) (f_X3_clear G P (crX o0 0) (ck_28_0 k_o0) hB  _ (fun Pc1 hBc1 hFc1 ec1_0 ec1_1 => ⟨rfl, ?_⟩)) cf_X3_clear t_691 rfl (show kx (crX o0 0) 29 from (ck_28_0 k_o0)).1 ((show kx (crX o0 0) 29 from (ck_28_0 k_o0)).sh rfl) rfl rfl (Nat.le_of_ble_eq_true rfl) (by decide) rfl dX9_clear_4
  have kt2 : KT (tbX o0) P Pc1 := KT.t kt0 (KT.e ec1_1 (tb28_0 k_o0))
  refine g_aload_n dX9_clear_7 rfl ?_
  refine g_iconst dX9_clear_8 ?_
  refine x_p28_6 k_o0 pfX9_39 dX9_clear_9 ?_
  have hB3 := by_28_6 (z := 0) hBc1 k_o0 (by decide)
  have kt4 : KT (tbX o0) P (up Pc1 o0 6 0) := KT.w kt2 (Or.inl rfl)
  refine g_aload_n dX9_clear_12 rfl ?_
  refine g_iconst dX9_clear_13 ?_
  refine x_p28_7 k_o0 pfX9_43 dX9_clear_14 ?_
  have hB5 := by_28_7 (z := 0) hB3 k_o0 (by decide)
  have kt6 : KT (tbX o0) P (up (up Pc1 o0 6 0) o0 7 0) := KT.w kt4 (Or.inl rfl)
  refine g_aload_n dX9_clear_17 rfl ?_
  refine g_iconst dX9_clear_18 ?_
  refine x_p28_8 k_o0 pfX9_46 dX9_clear_19 ?_
  have hB7 := by_28_8 (z := 0) hB5 k_o0 (by decide)
  have kt8 : KT (tbX o0) P (up (up (up Pc1 o0 6 0) o0 7 0) o0 8 0) := KT.w kt6 (Or.inl rfl)
  refine g_aload_n dX9_clear_22 rfl ?_
  refine g_iconst dX9_clear_23 ?_
  refine x_p28_9 k_o0 pfX9_49 dX9_clear_24 ?_
  have hB9 := by_28_9 (z := 0) hB7 k_o0 (by decide)
  have kt10 : KT (tbX o0) P (up (up (up (up Pc1 o0 6 0) o0 7 0) o0 8 0) o0 9 0) := KT.w kt8 (Or.inl rfl)
  refine g_aload_n dX9_clear_27 rfl ?_
  refine g_sipush dX9_clear_28 (by decide) ?_
  refine x_p28_10 k_o0 pfX9_52 dX9_clear_31 ?_
  have hB11 := by_28_10 (z := 300) hB9 k_o0 (by decide)
  have kt12 : KT (tbX o0) P (up (up (up (up (up Pc1 o0 6 0) o0 7 0) o0 8 0) o0 9 0) o0 10 300) := KT.w kt10 (Or.inl rfl)
  exact g_retV dX9_clear_34 rfl (hQ _ hB11 (FrX.s (FrX.s (FrX.s (FrX.s (FrX.s (FrX.c FrX.rf hFc1 rfl) k_o0 rfl) k_o0 rfl) k_o0 rfl) k_o0 rfl) k_o0 rfl) ((XK.fr (F := ([(28, 6), (28, 7), (28, 8), (28, 9), (28, 10)], [])) ec1_0 (FrX.s (FrX.s (FrX.s (FrX.s (FrX.s FrX.rf k_o0 rfl) k_o0 rfl) k_o0 rfl) k_o0 rfl) k_o0 rfl) rfl)) (XM.zero k_o0 ((up_k (by decide)).trans ((up_k (by decide)).trans ((up_k (by decide)).trans ((up_k (by decide)).trans up_same)))) ((up_k (by decide)).trans ((up_k (by decide)).trans ((up_k (by decide)).trans up_same))) ((up_k (by decide)).trans ((up_k (by decide)).trans up_same)) ((up_k (by decide)).trans up_same) up_same) (kt12))
/-! What the class answers: X9_addArm. -/
set_option maxRecDepth 100000 in
set_option maxHeartbeats 4000000 in
theorem f_X9_addArm (G : GT) (P : PH) (M : PH) (o0 : Nat) (a1 : Int) (k_o0 : kx o0 28) (h_a1 : (-2147483648) ≤ a1 ∧ a1 ≤ 2147483647) (hB : BdX P) (p_a11 : M 0 2 ≤ 11) (z0 : XM M o0 P) (Q : Option PV → PH → Prop) (hQ : ∀ (P1 : PH) (_ : BdX P1) (_ : FrX ([(28, 8)], [42]) P P1) (_ : XM (aNew M a1) o0 P1) (_ : KT (tbX o0) P P1), Q none P1) : Ct WSX G 1 iX9_addArm [vR o0, vI a1] P Q := by
  refine Ct.of (by decide) (l0 := [(0, vR o0), (1, vI a1)]) rfl (Nat.le_of_ble_eq_true rfl) ?_
  have kt0 : KT (tbX o0) P P := KT.rf
  have hb := z0.b
  refine g_aload_n dX9_addArm_0 rfl ?_
  refine x_g28_8 (z := (P o0 8)) k_o0 ffX9_46 dX9_addArm_1 rfl ?_
  refine g_bipush dX9_addArm_4 (by decide) ?_
  have f1 := bx_28_8 (o := o0) hB k_o0
  refine g_icmp_ge (tgt := 29) dX9_addArm_6 (by decide) ⟨by have q0 := bx_28_8 (o := o0) hB k_o0; (first | (clear hb; omega) | omega), by have q0 := bx_28_8 (o := o0) hB k_o0; (first | (clear hb; omega) | omega)⟩ (by decide) (fun k2 => ?_) (fun k2 => ?_)
  · exact g_retV dX9_addArm_29 rfl (hQ _ hB FrX.rf (by first | exact z0.arm rfl rfl rfl rfl rfl (fun j => rfl) rfl (fun j hj => rfl) | (exfalso; (first | (clear hb; omega) | omega))) (kt0))
  · refine g_aload_n dX9_addArm_9 rfl ?_
    refine x_g28_4 (n := (crX o0 4)) k_o0 ffX9_28 dX9_addArm_10 rfl ?_
    refine g_aload_n dX9_addArm_13 rfl ?_
    refine x_g28_8 (z := (P o0 8)) k_o0 ffX9_46 dX9_addArm_14 rfl ?_
    refine g_iload_n dX9_addArm_17 rfl ?_
    refine x_s42 (ck_28_4 k_o0) dX9_addArm_18 ⟨by have q0 := bx_28_8 (o := o0) hB k_o0; (first | (clear hb; omega) | omega), by have q0 := bx_28_8 (o := o0) hB k_o0; (first | (clear hb; omega) | omega)⟩ ?_
    have hB3 := by_42 (z := a1) (k := (P o0 8)) hB (ck_28_4 k_o0) ⟨by (first | (clear hb; omega) | omega), by (first | (clear hb; omega) | omega)⟩
    have kt4 : KT (tbX o0) P (up P (crX o0 4) (P o0 8) a1) := KT.w kt0 (TB.c (Or.inl rfl) (k_o0).1 (by decide))
    refine g_aload_n dX9_addArm_19 rfl ?_
    refine g_dup dX9_addArm_20 rfl ?_
    refine x_g28_8 (z := (P o0 8)) k_o0 ffX9_46 dX9_addArm_21 ((up_o (kx.ne k_o0 (ck_28_4 k_o0) rfl)).trans rfl) ?_
    refine g_iconst dX9_addArm_24 ?_
    refine g_iadd dX9_addArm_25 ?_
    refine x_p28_8 k_o0 pfX9_46 dX9_addArm_26 ?_
    have hB5 := by_28_8 (z := ((P o0 8) + 1)) hB3 k_o0 ⟨by have q0 := bx_28_8 (o := o0) hB k_o0; (first | (clear hb; omega) | omega), by have q0 := bx_28_8 (o := o0) hB k_o0; (first | (clear hb; omega) | omega)⟩
    have kt6 : KT (tbX o0) P (up (up P (crX o0 4) (P o0 8) a1) o0 8 ((P o0 8) + 1)) := KT.w kt4 (Or.inl rfl)
    exact g_retV dX9_addArm_29 rfl (hQ _ hB5 (FrX.s (FrX.s FrX.rf (ck_28_4 k_o0) rfl) k_o0 rfl) (by first | exact z0.arm ((up_k (by decide)).trans ((up_o (kx.ne k_o0 (ck_28_4 k_o0) rfl)).trans rfl)) ((up_k (by decide)).trans ((up_o (kx.ne k_o0 (ck_28_4 k_o0) rfl)).trans rfl)) up_same ((up_k (by decide)).trans ((up_o (kx.ne k_o0 (ck_28_4 k_o0) rfl)).trans rfl)) ((up_k (by decide)).trans ((up_o (kx.ne k_o0 (ck_28_4 k_o0) rfl)).trans rfl)) (fun j => ((up_o (kx.ne (ck_28_1 k_o0) k_o0 rfl)).trans ((up_o (kx.ne (ck_28_1 k_o0) (ck_28_4 k_o0) rfl)).trans rfl))) ((up_o (kx.ne (ck_28_4 k_o0) k_o0 rfl)).trans up_same) (fun j hj => ((up_o (kx.ne (ck_28_4 k_o0) k_o0 rfl)).trans ((up_k hj).trans rfl))) | (exfalso; (first | (clear hb; omega) | omega))) (kt6))
