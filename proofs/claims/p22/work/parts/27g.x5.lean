section
/-! Contracts of the class: x5. -/
def st_X11_writeValue_B10 (G : GT) (n : Nat) : Prop := ∀ (P : PH) (o1 : Nat) (a2 : Int) (a3 : Int) (a4 : Int) (k_o1 : kx o1 29) (h_a2 : (-2147483648) ≤ a2 ∧ a2 ≤ 2147483647) (h_a3 : (-2147483648) ≤ a3 ∧ a3 ≤ 2147483647) (h_a4 : 0 ≤ a4 ∧ a4 ≤ 2147483647) (hB : BdX P) (hm : (6 - a4 : Int).toNat < n) (Q : Option PV → PH → Prop) (hQ : ∀ (P1 : PH) (_ : BdX P1) (_ : FrX ([(3, 1)], [4]) P P1), Q none P1), Ct WSX G (3 + 1 * n) iX11_writeValue [vR 3, vR o1, vI a2, vI a3, vI a4] P Q
set_option maxRecDepth 100000 in
set_option maxHeartbeats 4000000 in
theorem mr_X11_writeValue_B10 (G : GT) (n : Nat) : st_X11_writeValue_B10 G n := by
  induction n with
  | zero => intro P o1 a2 a3 a4 k_o1 h_a2 h_a3 h_a4 hB  hm; exact absurd hm (Nat.not_lt_zero _)
  | succ n ih =>
    intro P o1 a2 a3 a4 k_o1 h_a2 h_a3 h_a4 hB  hm Q hQ
    refine Ct.of (by decide) (l0 := [(0, vR 3), (1, vR o1), (2, vI a2), (3, vI a3), (4, vI a4)]) rfl (Nat.le_of_ble_eq_true rfl) ?_
    refine g_iload_n dX11_writeValue_0 rfl ?_
    refine g_iconst dX11_writeValue_1 ?_
    refine g_icmp_ne (tgt := 11) dX11_writeValue_2 (by decide) ⟨by omega, by omega⟩ (by decide) (fun k1 => ?_) (fun k1 => ?_)
    · refine g_aload_n dX11_writeValue_11 rfl ?_
      refine g_iload_n dX11_writeValue_12 rfl ?_
      refine g_iload_n dX11_writeValue_13 rfl ?_
      refine g_vI (av := [vI a2, vI a3]) (o := o1) (st := []) (m_X3_conOf G P o1 a2 a3 k_o1 ⟨by omega, by omega⟩ ⟨by omega, by omega⟩ hB  _ (fun rc2 hc2 => ⟨rc2, rfl, ?_⟩)) cf_X3_conOf t_1045 rfl (show kx o1 29 from k_o1).1 ((show kx o1 29 from k_o1).sh rfl) rfl rfl (Nat.le_of_ble_eq_true rfl) (by omega) rfl dX11_writeValue_14
      refine g_istore (l1 := [(5, vI rc2), (0, vR 3), (1, vR o1), (2, vI a2), (3, vI a3), (4, vI a4)]) dX11_writeValue_17 (by decide) rfl ?_
      refine g_iload dX11_writeValue_19 rfl ?_
      refine g_iconst dX11_writeValue_21 ?_
      refine g_icmp_eq (tgt := 31) dX11_writeValue_22 (by decide) ⟨by omega, by omega⟩ (by decide) (fun k3 => ?_) (fun k3 => ?_)
      · exact g_retV dX11_writeValue_31 rfl (hQ _ hB FrX.rf )
      · refine g_iload dX11_writeValue_25 rfl ?_
        refine g_iconst dX11_writeValue_27 ?_
        refine g_icmp_le (tgt := 32) dX11_writeValue_28 (by decide) ⟨by omega, by omega⟩ (by decide) (fun k4 => ?_) (fun k4 => ?_)
        · refine g_aload_n dX11_writeValue_32 rfl ?_
          refine g_aload_n dX11_writeValue_33 rfl ?_
          refine x_g29_4 (n := (crX o1 4)) k_o1 ffX11_201 dX11_writeValue_34 rfl ?_
          refine g_iload dX11_writeValue_37 rfl ?_
          refine x_l34 (z := (P (crX o1 4) rc2)) (ck_29_4 k_o1) dX11_writeValue_39 ⟨by omega, by omega⟩ rfl ?_
          have f5 := bx_34 (o := (crX o1 4)) (k := rc2) hB (ck_29_4 k_o1)
          refine g_vV (av := [vI (P (crX o1 4) rc2)]) (o := 3) (st := []) (m_X1_addName_B10 G P (P (crX o1 4) rc2) ⟨by have q0 := bx_34 (o := (crX o1 4)) (k := rc2) hB (ck_29_4 k_o1); omega, by have q0 := bx_34 (o := (crX o1 4)) (k := rc2) hB (ck_29_4 k_o1); omega⟩ hB  _ (fun Pc6 hBc6 hFc6 => ⟨rfl, ?_⟩)) cf_X1_addName t_1049 rfl (show kx 3 3 from (⟨by decide, rfl⟩ : kx 3 3)).1 ((show kx 3 3 from (⟨by decide, rfl⟩ : kx 3 3)).sh rfl) rfl rfl (Nat.le_of_ble_eq_true rfl) (by omega) rfl dX11_writeValue_40
          refine g_aload_n dX11_writeValue_43 rfl ?_
          refine g_iload dX11_writeValue_44 rfl ?_
          refine g_vI (av := [vI rc2]) (o := o1) (st := []) (m_X3_secondSize G Pc6 o1 rc2 k_o1 ⟨by omega, by omega⟩ hBc6  _ (fun rc7 hc7 => ⟨rc7, rfl, ?_⟩)) cf_X3_secondSize t_1054 rfl (show kx o1 29 from k_o1).1 ((show kx o1 29 from k_o1).sh rfl) rfl rfl (Nat.le_of_ble_eq_true rfl) (by omega) rfl dX11_writeValue_46
          refine g_istore (l1 := [(6, vI rc7), (5, vI rc2), (0, vR 3), (1, vR o1), (2, vI a2), (3, vI a3), (4, vI a4)]) dX11_writeValue_49 (by decide) rfl ?_
          refine g_aload_n dX11_writeValue_51 rfl ?_
          refine x_g29_6 (n := (crX o1 6)) k_o1 ffX11_288 dX11_writeValue_52 rfl ?_
          refine g_iload dX11_writeValue_55 rfl ?_
          refine x_l36 (z := (P (crX o1 6) rc2)) (ck_29_6 k_o1) dX11_writeValue_57 ⟨by omega, by omega⟩ ((FrX.g hFc6 (ck_29_6 k_o1) rfl).trans rfl) ?_
          have f8 := bx_36 (o := (crX o1 6)) (k := rc2) hB (ck_29_6 k_o1)
          refine g_if_eq (tgt := 66) dX11_writeValue_58 (by decide) ⟨by have q0 := bx_36 (o := (crX o1 6)) (k := rc2) hB (ck_29_6 k_o1); omega, by have q0 := bx_36 (o := (crX o1 6)) (k := rc2) hB (ck_29_6 k_o1); omega⟩ (fun k9 => ?_) (fun k9 => ?_)
          · exact g_retV dX11_writeValue_66 rfl (hQ _ hBc6 (FrX.c FrX.rf hFc6 rfl) )
          · refine g_iload dX11_writeValue_61 rfl ?_
            refine g_if_gt (tgt := 67) dX11_writeValue_63 (by decide) ⟨by omega, by omega⟩ (fun k10 => ?_) (fun k10 => ?_)
            · refine g_iload_n dX11_writeValue_67 rfl ?_
              refine g_aload_n dX11_writeValue_68 rfl ?_
              refine x_g29_5 (n := (crX o1 5)) k_o1 ffX11_291 dX11_writeValue_69 rfl ?_
              refine g_iload dX11_writeValue_72 rfl ?_
              refine x_l35 (z := (P (crX o1 5) rc2)) (ck_29_5 k_o1) dX11_writeValue_74 ⟨by omega, by omega⟩ ((FrX.g hFc6 (ck_29_5 k_o1) rfl).trans rfl) ?_
              refine g_isub dX11_writeValue_75 ?_
              refine g_norm (fun r11 h_r11 e_r11 => ?_)
              refine g_istore (l1 := [(7, vI r11), (6, vI rc7), (5, vI rc2), (0, vR 3), (1, vR o1), (2, vI a2), (3, vI a3), (4, vI a4)]) dX11_writeValue_76 (by decide) rfl ?_
              refine g_aload_n dX11_writeValue_78 rfl ?_
              refine g_bipush dX11_writeValue_79 (by decide) ?_
              refine g_vV (av := [vI 40]) (o := 3) (st := []) (m_X1_add_B10 G Pc6 40 (by decide) hBc6  _ (fun Pc12 hBc12 hFc12 => ⟨rfl, ?_⟩)) cf_X1_add t_1033 rfl (show kx 3 3 from (⟨by decide, rfl⟩ : kx 3 3)).1 ((show kx 3 3 from (⟨by decide, rfl⟩ : kx 3 3)).sh rfl) rfl rfl (Nat.le_of_ble_eq_true rfl) (by omega) rfl dX11_writeValue_81
              refine g_aload_n dX11_writeValue_84 rfl ?_
              refine g_aload_n dX11_writeValue_85 rfl ?_
              refine g_aload_n dX11_writeValue_86 rfl ?_
              refine x_g29_7 (n := (crX o1 7)) k_o1 ffX11_294 dX11_writeValue_87 rfl ?_
              refine g_iload dX11_writeValue_90 rfl ?_
              refine x_l37 (z := (P (crX o1 7) rc2)) (ck_29_7 k_o1) dX11_writeValue_92 ⟨by omega, by omega⟩ ((FrX.g hFc12 (ck_29_7 k_o1) rfl).trans ((FrX.g hFc6 (ck_29_7 k_o1) rfl).trans rfl)) ?_
              refine g_iload dX11_writeValue_93 rfl ?_
              refine g_iload dX11_writeValue_95 rfl ?_
              refine g_idiv dX11_writeValue_97 ⟨⟨by omega, by omega⟩, by omega⟩ ?_
              refine g_nm (fun b13 e_b13 => ?_)
              have h_b13 := idiv_ir r11 rc7
              rw [← e_b13] at h_b13
              refine g_iload dX11_writeValue_98 rfl ?_
              refine g_iconst dX11_writeValue_100 ?_
              refine g_iadd dX11_writeValue_101 ?_
              have f14 := bx_37 (o := (crX o1 7)) (k := rc2) hB (ck_29_7 k_o1)
              refine g_sV (av := [vR 3, vR o1, vI (P (crX o1 7) rc2), vI b13, vI (a4 + 1)]) (st := []) (ih Pc12 o1 (P (crX o1 7) rc2) b13 (a4 + 1) k_o1 ⟨by have q0 := bx_37 (o := (crX o1 7)) (k := rc2) hB (ck_29_7 k_o1); omega, by have q0 := bx_37 (o := (crX o1 7)) (k := rc2) hB (ck_29_7 k_o1); omega⟩ ⟨by omega, by omega⟩ ⟨by omega, by omega⟩ hBc12 (by omega) _ (fun Pc15 hBc15 hFc15 => ⟨rfl, ?_⟩)) cf_X11_writeValue t_1038 rfl (Nat.le_of_ble_eq_true rfl) (by omega) rfl dX11_writeValue_102
              refine g_aload_n dX11_writeValue_105 rfl ?_
              refine x_g29_6 (n := (crX o1 6)) k_o1 ffX11_288 dX11_writeValue_106 rfl ?_
              refine g_iload dX11_writeValue_109 rfl ?_
              refine x_l36 (z := (P (crX o1 6) rc2)) (ck_29_6 k_o1) dX11_writeValue_111 ⟨by omega, by omega⟩ ((FrX.g hFc15 (ck_29_6 k_o1) rfl).trans ((FrX.g hFc12 (ck_29_6 k_o1) rfl).trans ((FrX.g hFc6 (ck_29_6 k_o1) rfl).trans rfl))) ?_
              refine g_iconst dX11_writeValue_112 ?_
              have J143_21 : ∀ (H143_21 : PH) (hB143_21 : BdX H143_21) (hE143_21 : FrX ([(3, 1)], [4]) Pc15 H143_21), Go WSX G (3 + 1 * (n + 1)) iX11_writeValue 143 [(0, vR 3)] [] H143_21 Q := by
                intro H143_21 hB143_21 hE143_21
                refine g_aload_n dX11_writeValue_143 rfl ?_
                refine g_bipush dX11_writeValue_144 (by decide) ?_
                refine g_vV (av := [vI 41]) (o := 3) (st := []) (m_X1_add_B10 G H143_21 41 (by decide) hB143_21  _ (fun Pc23 hBc23 hFc23 => ⟨rfl, ?_⟩)) cf_X1_add t_1033 rfl (show kx 3 3 from (⟨by decide, rfl⟩ : kx 3 3)).1 ((show kx 3 3 from (⟨by decide, rfl⟩ : kx 3 3)).sh rfl) rfl rfl (Nat.le_of_ble_eq_true rfl) (by omega) rfl dX11_writeValue_146
                exact g_retV dX11_writeValue_149 rfl (hQ _ hBc23 (FrX.c (FrX.c (FrX.c (FrX.c (FrX.c FrX.rf hFc6 rfl) hFc12 rfl) hFc15 rfl) hE143_21 rfl) hFc23 rfl) )
              refine g_icmp_ne (tgt := 143) dX11_writeValue_113 (by decide) ⟨by have q0 := bx_36 (o := (crX o1 6)) (k := rc2) hB (ck_29_6 k_o1); omega, by have q0 := bx_36 (o := (crX o1 6)) (k := rc2) hB (ck_29_6 k_o1); omega⟩ (by decide) (fun k24 => ?_) (fun k24 => ?_)
              · refine g_forget (l1 := [(0, vR 3)]) (by intro q hq; simp only [List.mem_cons, List.not_mem_nil, or_false] at hq ⊢; rcases hq with rfl <;> simp) ?_
                exact J143_21 _ hBc15 FrX.rf
              · refine g_aload_n dX11_writeValue_116 rfl ?_
                refine g_bipush dX11_writeValue_117 (by decide) ?_
                refine g_vV (av := [vI 44]) (o := 3) (st := []) (m_X1_add_B10 G Pc15 44 (by decide) hBc15  _ (fun Pc25 hBc25 hFc25 => ⟨rfl, ?_⟩)) cf_X1_add t_1033 rfl (show kx 3 3 from (⟨by decide, rfl⟩ : kx 3 3)).1 ((show kx 3 3 from (⟨by decide, rfl⟩ : kx 3 3)).sh rfl) rfl rfl (Nat.le_of_ble_eq_true rfl) (by omega) rfl dX11_writeValue_119
                refine g_aload_n dX11_writeValue_122 rfl ?_
                refine g_aload_n dX11_writeValue_123 rfl ?_
                refine g_aload_n dX11_writeValue_124 rfl ?_
                refine x_g29_8 (n := (crX o1 8)) k_o1 ffX11_297 dX11_writeValue_125 rfl ?_
                refine g_iload dX11_writeValue_128 rfl ?_
                refine x_l38 (z := (P (crX o1 8) rc2)) (ck_29_8 k_o1) dX11_writeValue_130 ⟨by omega, by omega⟩ ((FrX.g hFc25 (ck_29_8 k_o1) rfl).trans ((FrX.g hFc15 (ck_29_8 k_o1) rfl).trans ((FrX.g hFc12 (ck_29_8 k_o1) rfl).trans ((FrX.g hFc6 (ck_29_8 k_o1) rfl).trans rfl)))) ?_
                refine g_iload dX11_writeValue_131 rfl ?_
                refine g_iload dX11_writeValue_133 rfl ?_
                refine g_irem dX11_writeValue_135 ⟨⟨by omega, by omega⟩, by omega⟩ ?_
                refine g_nm (fun b26 e_b26 => ?_)
                have h_b26 := irem_any (x := r11) (y := rc7) ⟨by omega, by omega⟩ ⟨by omega, by omega⟩
                rw [← e_b26] at h_b26
                refine g_iload dX11_writeValue_136 rfl ?_
                refine g_iconst dX11_writeValue_138 ?_
                refine g_iadd dX11_writeValue_139 ?_
                have f27 := bx_38 (o := (crX o1 8)) (k := rc2) hB (ck_29_8 k_o1)
                refine g_sV (av := [vR 3, vR o1, vI (P (crX o1 8) rc2), vI b26, vI (a4 + 1)]) (st := []) (ih Pc25 o1 (P (crX o1 8) rc2) b26 (a4 + 1) k_o1 ⟨by have q0 := bx_38 (o := (crX o1 8)) (k := rc2) hB (ck_29_8 k_o1); omega, by have q0 := bx_38 (o := (crX o1 8)) (k := rc2) hB (ck_29_8 k_o1); omega⟩ ⟨by omega, by omega⟩ ⟨by omega, by omega⟩ hBc25 (by omega) _ (fun Pc28 hBc28 hFc28 => ⟨rfl, ?_⟩)) cf_X11_writeValue t_1038 rfl (Nat.le_of_ble_eq_true rfl) (by omega) rfl dX11_writeValue_140
                refine g_forget (l1 := [(0, vR 3)]) (by intro q hq; simp only [List.mem_cons, List.not_mem_nil, or_false] at hq ⊢; rcases hq with rfl <;> simp) ?_
                exact J143_21 _ hBc28 (FrX.c (FrX.c FrX.rf hFc25 rfl) hFc28 rfl)
            · exact g_retV dX11_writeValue_66 rfl (hQ _ hBc6 (FrX.c FrX.rf hFc6 rfl) )
        · exact g_retV dX11_writeValue_31 rfl (hQ _ hB FrX.rf )
    · refine g_aload_n dX11_writeValue_5 rfl ?_
      refine g_iload_n dX11_writeValue_6 rfl ?_
      refine g_vV (av := [vI a3]) (o := 3) (st := []) (m_X1_addNumber_B10 G P a3 ⟨by omega, by omega⟩ hB  _ (fun Pc29 hBc29 hFc29 => ⟨rfl, ?_⟩)) cf_X1_addNumber t_1041 rfl (show kx 3 3 from (⟨by decide, rfl⟩ : kx 3 3)).1 ((show kx 3 3 from (⟨by decide, rfl⟩ : kx 3 3)).sh rfl) rfl rfl (Nat.le_of_ble_eq_true rfl) (by omega) rfl dX11_writeValue_7
      exact g_retV dX11_writeValue_10 rfl (hQ _ hBc29 (FrX.c FrX.rf hFc29 rfl) )
theorem m_X11_writeValue_B10 (G : GT) (P : PH) (o1 : Nat) (a2 : Int) (a3 : Int) (a4 : Int) (k_o1 : kx o1 29) (h_a2 : (-2147483648) ≤ a2 ∧ a2 ≤ 2147483647) (h_a3 : (-2147483648) ≤ a3 ∧ a3 ≤ 2147483647) (h_a4 : 0 ≤ a4 ∧ a4 ≤ 2147483647) (hB : BdX P) (hm : (6 - a4 : Int).toNat < 7) (Q : Option PV → PH → Prop) (hQ : ∀ (P1 : PH) (_ : BdX P1) (_ : FrX ([(3, 1)], [4]) P P1), Q none P1) : Ct WSX G 10 iX11_writeValue [vR 3, vR o1, vI a2, vI a3, vI a4] P Q := mr_X11_writeValue_B10 G 7 P o1 a2 a3 a4 k_o1 h_a2 h_a3 h_a4 hB  hm Q hQ
set_option maxRecDepth 100000 in
set_option maxHeartbeats 4000000 in
theorem m_X11_refuse (G : GT) (P : PH) (a1 : Int) (h_a1 : (-2147483648) ≤ a1 ∧ a1 ≤ 2147483647) (hB : BdX P) (Q : Option PV → PH → Prop) (hQ : ∀ (r : Int) (_ : 0 ≤ r ∧ r ≤ 0) (P1 : PH) (_ : BdX P1) (_ : FrX ([], [27]) P P1), Q (some (vI r)) P1) : Ct WSX G 1 iX11_refuse [vR 0, vI a1] P Q := by
  refine Ct.of (by decide) (l0 := [(0, vR 0), (1, vI a1)]) rfl (Nat.le_of_ble_eq_true rfl) ?_
  refine g_iload_n dX11_refuse_0 rfl ?_
  refine g_if_lt (tgt := 20) dX11_refuse_1 (by decide) ⟨by omega, by omega⟩ (fun k1 => ?_) (fun k1 => ?_)
  · refine g_iconst dX11_refuse_20 ?_
    exact g_retZ dX11_refuse_21 rfl (by decide) (hQ 0 (by decide) _ hB FrX.rf )
  · refine g_iload_n dX11_refuse_4 rfl ?_
    refine g_bipush dX11_refuse_5 (by decide) ?_
    refine g_icmp_ge (tgt := 20) dX11_refuse_7 (by decide) ⟨by omega, by omega⟩ (by decide) (fun k2 => ?_) (fun k2 => ?_)
    · refine g_iconst dX11_refuse_20 ?_
      exact g_retZ dX11_refuse_21 rfl (by decide) (hQ 0 (by decide) _ hB FrX.rf )
    · refine g_aload_n dX11_refuse_10 rfl ?_
      refine x_g0_9 (n := 69) (⟨by decide, rfl⟩ : kx 0 0) ffX11_64 dX11_refuse_11 rfl ?_
      refine g_iload_n dX11_refuse_14 rfl ?_
      refine g_dup2 dX11_refuse_15 rfl rfl ?_
      refine x_l27 (z := (P 69 a1)) (⟨by decide, rfl⟩ : kx 69 27) dX11_refuse_16 ⟨by omega, by omega⟩ rfl ?_
      refine g_iconst dX11_refuse_17 ?_
      refine g_iadd dX11_refuse_18 ?_
      refine g_norm (fun r3 h_r3 e_r3 => ?_)
      refine x_s27 (⟨by decide, rfl⟩ : kx 69 27) dX11_refuse_19 ⟨by omega, by omega⟩ ?_
      have hB4 := by_27 (z := r3) (k := a1) hB (⟨by decide, rfl⟩ : kx 69 27) ⟨by omega, by omega⟩
      refine g_iconst dX11_refuse_20 ?_
      exact g_retZ dX11_refuse_21 rfl (by decide) (hQ 0 (by decide) _ hB4 (FrX.s FrX.rf (⟨by decide, rfl⟩ : kx 69 27) rfl) )
set_option maxRecDepth 100000 in
set_option maxHeartbeats 4000000 in
theorem m_X11_fault (G : GT) (P : PH) (a1 : Int) (h_a1 : (-2147483648) ≤ a1 ∧ a1 ≤ 2147483647) (hB : BdX P) (Q : Option PV → PH → Prop) (hQ : ∀ (r : Int) (_ : (-2147483648) ≤ r ∧ r ≤ 2147483647), Q (some (vI r)) P) : Ct WSX G 1 iX11_fault [vR 0, vI a1] P Q := by
  refine Ct.of (by decide) (l0 := [(0, vR 0), (1, vI a1)]) rfl (Nat.le_of_ble_eq_true rfl) ?_
  refine g_iload_n dX11_fault_0 rfl ?_
  refine g_if_ne (tgt := 12) dX11_fault_1 (by decide) ⟨by omega, by omega⟩ (fun k1 => ?_) (fun k1 => ?_)
  · refine g_iload_n dX11_fault_12 rfl ?_
    refine g_iconst dX11_fault_13 ?_
    refine g_icmp_ne (tgt := 27) dX11_fault_14 (by decide) ⟨by omega, by omega⟩ (by decide) (fun k2 => ?_) (fun k2 => ?_)
    · refine g_iconst dX11_fault_27 ?_
      exact g_retI dX11_fault_28 rfl (hQ (-1) (by decide) )
    · refine g_aload_n dX11_fault_17 rfl ?_
      refine x_g0_12 (n := 110) (⟨by decide, rfl⟩ : kx 0 0) ffX11_83 dX11_fault_18 rfl ?_
      refine x_g45_4 (z := (P 110 4)) (⟨by decide, rfl⟩ : kx 110 45) ffX11_159 dX11_fault_21 rfl ?_
      refine g_goto (tgt := 28) dX11_fault_24 (by decide) ?_
      exact g_retI dX11_fault_28 rfl (hQ (P 110 4) ⟨by have q0 := bx_45_4 (o := 110) hB (⟨by decide, rfl⟩ : kx 110 45); omega, by have q0 := bx_45_4 (o := 110) hB (⟨by decide, rfl⟩ : kx 110 45); omega⟩ )
  · refine g_aload_n dX11_fault_4 rfl ?_
    refine x_g0_12 (n := 110) (⟨by decide, rfl⟩ : kx 0 0) ffX11_83 dX11_fault_5 rfl ?_
    refine x_g45_3 (z := (P 110 3)) (⟨by decide, rfl⟩ : kx 110 45) ffX11_156 dX11_fault_8 rfl ?_
    exact g_retI dX11_fault_11 rfl (hQ (P 110 3) ⟨by have q0 := bx_45_3 (o := 110) hB (⟨by decide, rfl⟩ : kx 110 45); omega, by have q0 := bx_45_3 (o := 110) hB (⟨by decide, rfl⟩ : kx 110 45); omega⟩ )
set_option maxRecDepth 100000 in
set_option maxHeartbeats 4000000 in
theorem m_X11_isUseful (G : GT) (P : PH) (a1 : Int) (h_a1 : (-2147483648) ≤ a1 ∧ a1 ≤ 2147483647) (hB : BdX P) (Q : Option PV → PH → Prop) (hQ : ∀ (r : Int) (_ : 0 ≤ r ∧ r ≤ 1), Q (some (vI r)) P) : Ct WSX G 3 iX11_isUseful [vR 0, vI a1] P Q := by
  refine Ct.of (by decide) (l0 := [(0, vR 0), (1, vI a1)]) rfl (Nat.le_of_ble_eq_true rfl) ?_
  refine g_aload_n dX11_isUseful_0 rfl ?_
  refine x_g0_5 (n := 14) (⟨by decide, rfl⟩ : kx 0 0) ffX11_43 dX11_isUseful_1 rfl ?_
  refine g_iload_n dX11_isUseful_4 rfl ?_
  refine g_vI (av := [vI a1]) (o := 14) (st := []) (m_X5_armAt G P 14 a1 (⟨by decide, rfl⟩ : kx 14 14) ⟨by omega, by omega⟩ hB  _ (fun rc1 hc1 => ⟨rc1, rfl, ?_⟩)) cf_X5_armAt t_946 rfl (show kx 14 14 from (⟨by decide, rfl⟩ : kx 14 14)).1 ((show kx 14 14 from (⟨by decide, rfl⟩ : kx 14 14)).sh rfl) rfl rfl (Nat.le_of_ble_eq_true rfl) (by decide) rfl dX11_isUseful_5
  refine g_istore_n (l1 := [(2, vI rc1), (0, vR 0), (1, vI a1)]) dX11_isUseful_8 (by decide) rfl ?_
  refine g_aload_n dX11_isUseful_9 rfl ?_
  refine x_g0_5 (n := 14) (⟨by decide, rfl⟩ : kx 0 0) ffX11_43 dX11_isUseful_10 rfl ?_
  refine g_aload_n dX11_isUseful_13 rfl ?_
  refine x_g0_10 (n := (P 0 10).toNat) (⟨by decide, rfl⟩ : kx 0 0) ffX11_71 dX11_isUseful_14 (br_0_10 hB) ?_
  refine g_iload_n dX11_isUseful_17 rfl ?_
  refine g_vI (av := [vR (P 0 10).toNat, vI a1]) (o := 14) (st := []) (m_X5_unguarded G P 14 (P 0 10).toNat a1 (⟨by decide, rfl⟩ : kx 14 14) (bk_0_10 hB) ⟨by omega, by omega⟩ hB  _ (fun rc2 hc2 => ⟨rc2, rfl, ?_⟩)) cf_X5_unguarded t_962 rfl (show kx 14 14 from (⟨by decide, rfl⟩ : kx 14 14)).1 ((show kx 14 14 from (⟨by decide, rfl⟩ : kx 14 14)).sh rfl) rfl rfl (Nat.le_of_ble_eq_true rfl) (by decide) rfl dX11_isUseful_18
  refine g_istore_n (l1 := [(3, vI rc2), (2, vI rc1), (0, vR 0), (1, vI a1)]) dX11_isUseful_21 (by decide) rfl ?_
  refine g_iconst dX11_isUseful_22 ?_
  refine g_istore (l1 := [(4, vI 0), (3, vI rc2), (2, vI rc1), (0, vR 0), (1, vI a1)]) dX11_isUseful_23 (by decide) rfl ?_
  have L25_2 : ∀ (n25_2 : Nat) (x25_4_2 : Int) (h_x25_4_2 : 0 ≤ x25_4_2 ∧ x25_4_2 ≤ 4096) (hm25_2 : ((4097 - x25_4_2) : Int).toNat < n25_2), Go WSX G 3 iX11_isUseful 25 [(0, vR 0), (2, vI rc1), (3, vI rc2), (4, vI x25_4_2)] [] P Q := by
    intro n25_2
    induction n25_2 with
    | zero => intro x25_4_2 h_x25_4_2 hm25_2; exact absurd hm25_2 (Nat.not_lt_zero _)
    | succ n25_2 ih25_2 =>
    intro x25_4_2 h_x25_4_2 hm25_2
    refine g_iload dX11_isUseful_25 rfl ?_
    refine g_aload_n dX11_isUseful_27 rfl ?_
    refine x_g0_3 (n := 8) (⟨by decide, rfl⟩ : kx 0 0) ffX11_33 dX11_isUseful_28 rfl ?_
    refine x_g8_3 (z := (P 8 3)) (⟨by decide, rfl⟩ : kx 8 8) ffX11_231 dX11_isUseful_31 rfl ?_
    have f123 := bx_8_3 (o := 8) hB (⟨by decide, rfl⟩ : kx 8 8)
    refine g_icmp_ge (tgt := 73) dX11_isUseful_34 (by decide) ⟨by omega, by omega⟩ ⟨by have q0 := bx_8_3 (o := 8) hB (⟨by decide, rfl⟩ : kx 8 8); omega, by have q0 := bx_8_3 (o := 8) hB (⟨by decide, rfl⟩ : kx 8 8); omega⟩ (fun k124 => ?_) (fun k124 => ?_)
    · refine g_iconst dX11_isUseful_73 ?_
      exact g_retZ dX11_isUseful_74 rfl (by decide) (hQ 0 (by decide) )
    · refine g_aload_n dX11_isUseful_37 rfl ?_
      refine x_g0_3 (n := 8) (⟨by decide, rfl⟩ : kx 0 0) ffX11_33 dX11_isUseful_38 rfl ?_
      refine x_g8_0 (n := 9) (⟨by decide, rfl⟩ : kx 8 8) ffX11_232 dX11_isUseful_41 rfl ?_
      refine g_iload dX11_isUseful_44 rfl ?_
      refine x_l9 (z := (P 9 x25_4_2)) (⟨by decide, rfl⟩ : kx 9 9) dX11_isUseful_46 ⟨by omega, by omega⟩ rfl ?_
      refine g_istore (l1 := [(5, vI (P 9 x25_4_2)), (0, vR 0), (2, vI rc1), (3, vI rc2), (4, vI x25_4_2)]) dX11_isUseful_47 (by decide) rfl ?_
      refine g_iload dX11_isUseful_49 rfl ?_
      refine g_iload_n dX11_isUseful_51 rfl ?_
      have f125 := bx_9 (o := 9) (k := x25_4_2) hB (⟨by decide, rfl⟩ : kx 9 9)
      refine g_sI (av := [vI (P 9 x25_4_2), vI rc1]) (st := []) (m_X11_isIn G P (P 9 x25_4_2) rc1 ⟨by have q0 := bx_9 (o := 9) (k := x25_4_2) hB (⟨by decide, rfl⟩ : kx 9 9); omega, by have q0 := bx_9 (o := 9) (k := x25_4_2) hB (⟨by decide, rfl⟩ : kx 9 9); omega⟩ ⟨by omega, by omega⟩ hB  _ (fun rc126 hc126 => ⟨rc126, rfl, ?_⟩)) cf_X11_isIn t_967 rfl (Nat.le_of_ble_eq_true rfl) (by decide) rfl dX11_isUseful_52
      refine g_if_eq (tgt := 67) dX11_isUseful_55 (by decide) ⟨by omega, by omega⟩ (fun k127 => ?_) (fun k127 => ?_)
      · refine g_iinc (l1 := [(4, vI (x25_4_2 + 1)), (5, vI (P 9 x25_4_2)), (0, vR 0), (2, vI rc1), (3, vI rc2)]) dX11_isUseful_67 rfl (by decide) rfl ?_
        refine g_goto (tgt := 25) dX11_isUseful_70 (by decide) ?_
        refine g_forget (l1 := [(0, vR 0), (2, vI rc1), (3, vI rc2), (4, vI (x25_4_2 + 1))]) (by intro q hq; simp only [List.mem_cons, List.not_mem_nil, or_false] at hq ⊢; rcases hq with rfl | rfl | rfl | rfl <;> simp) ?_
        exact ih25_2 (x25_4_2 + 1) ⟨by omega, by omega⟩ (by omega)
      · refine g_iload dX11_isUseful_58 rfl ?_
        refine g_iload_n dX11_isUseful_60 rfl ?_
        refine g_iand dX11_isUseful_61 ?_
        refine g_nm (fun b128 e_b128 => ?_)
        have h_b128 := iand_ir (P 9 x25_4_2) rc2
        rw [← e_b128] at h_b128
        refine g_if_ne (tgt := 67) dX11_isUseful_62 (by decide) ⟨by omega, by omega⟩ (fun k129 => ?_) (fun k129 => ?_)
        · refine g_iinc (l1 := [(4, vI (x25_4_2 + 1)), (5, vI (P 9 x25_4_2)), (0, vR 0), (2, vI rc1), (3, vI rc2)]) dX11_isUseful_67 rfl (by decide) rfl ?_
          refine g_goto (tgt := 25) dX11_isUseful_70 (by decide) ?_
          refine g_forget (l1 := [(0, vR 0), (2, vI rc1), (3, vI rc2), (4, vI (x25_4_2 + 1))]) (by intro q hq; simp only [List.mem_cons, List.not_mem_nil, or_false] at hq ⊢; rcases hq with rfl | rfl | rfl | rfl <;> simp) ?_
          exact ih25_2 (x25_4_2 + 1) ⟨by omega, by omega⟩ (by omega)
        · refine g_iconst dX11_isUseful_65 ?_
          exact g_retZ dX11_isUseful_66 rfl (by decide) (hQ 1 (by decide) )
  refine g_forget (l1 := [(0, vR 0), (2, vI rc1), (3, vI rc2), (4, vI 0)]) (by intro q hq; simp only [List.mem_cons, List.not_mem_nil, or_false] at hq ⊢; rcases hq with rfl | rfl | rfl | rfl <;> simp) ?_
  exact L25_2 _ 0 (by decide) (Nat.lt_succ_self _)
set_option maxRecDepth 100000 in
set_option maxHeartbeats 4000000 in
theorem m_X11_rowsFitting (G : GT) (P : PH) (a1 : Int) (h_a1 : (-2147483648) ≤ a1 ∧ a1 ≤ 2147483647) (hB : BdX P) (Q : Option PV → PH → Prop) (hQ : ∀ (r : Int) (_ : (-2147483648) ≤ r ∧ r ≤ 2147483647), Q (some (vI r)) P) : Ct WSX G 2 iX11_rowsFitting [vR 0, vI a1] P Q := by
  refine Ct.of (by decide) (l0 := [(0, vR 0), (1, vI a1)]) rfl (Nat.le_of_ble_eq_true rfl) ?_
  refine g_iconst dX11_rowsFitting_0 ?_
  refine g_istore_n (l1 := [(2, vI 0), (0, vR 0), (1, vI a1)]) dX11_rowsFitting_1 (by decide) rfl ?_
  refine g_iconst dX11_rowsFitting_2 ?_
  refine g_istore_n (l1 := [(3, vI 0), (2, vI 0), (0, vR 0), (1, vI a1)]) dX11_rowsFitting_3 (by decide) rfl ?_
  have L4_0 : ∀ (n4_0 : Nat) (x4_3_0 : Int) (h_x4_3_0 : 0 ≤ x4_3_0 ∧ x4_3_0 ≤ 4096) (x4_2_0 : Int) (h_x4_2_0 : (-2147483648) ≤ x4_2_0 ∧ x4_2_0 ≤ 2147483647) (hm4_0 : ((4097 - x4_3_0) : Int).toNat < n4_0), Go WSX G 2 iX11_rowsFitting 4 [(0, vR 0), (1, vI a1), (2, vI x4_2_0), (3, vI x4_3_0)] [] P Q := by
    intro n4_0
    induction n4_0 with
    | zero => intro x4_3_0 h_x4_3_0 x4_2_0 h_x4_2_0 hm4_0; exact absurd hm4_0 (Nat.not_lt_zero _)
    | succ n4_0 ih4_0 =>
    intro x4_3_0 h_x4_3_0 x4_2_0 h_x4_2_0 hm4_0
    refine g_iload_n dX11_rowsFitting_4 rfl ?_
    refine g_aload_n dX11_rowsFitting_5 rfl ?_
    refine x_g0_3 (n := 8) (⟨by decide, rfl⟩ : kx 0 0) ffX11_33 dX11_rowsFitting_6 rfl ?_
    refine x_g8_3 (z := (P 8 3)) (⟨by decide, rfl⟩ : kx 8 8) ffX11_231 dX11_rowsFitting_9 rfl ?_
    have f103 := bx_8_3 (o := 8) hB (⟨by decide, rfl⟩ : kx 8 8)
    refine g_icmp_ge (tgt := 49) dX11_rowsFitting_12 (by decide) ⟨by omega, by omega⟩ ⟨by have q0 := bx_8_3 (o := 8) hB (⟨by decide, rfl⟩ : kx 8 8); omega, by have q0 := bx_8_3 (o := 8) hB (⟨by decide, rfl⟩ : kx 8 8); omega⟩ (fun k104 => ?_) (fun k104 => ?_)
    · refine g_iload_n dX11_rowsFitting_49 rfl ?_
      exact g_retI dX11_rowsFitting_50 rfl (hQ x4_2_0 ⟨by omega, by omega⟩ )
    · refine g_aload_n dX11_rowsFitting_15 rfl ?_
      refine x_g0_3 (n := 8) (⟨by decide, rfl⟩ : kx 0 0) ffX11_33 dX11_rowsFitting_16 rfl ?_
      refine x_g8_0 (n := 9) (⟨by decide, rfl⟩ : kx 8 8) ffX11_232 dX11_rowsFitting_19 rfl ?_
      refine g_iload_n dX11_rowsFitting_22 rfl ?_
      refine x_l9 (z := (P 9 x4_3_0)) (⟨by decide, rfl⟩ : kx 9 9) dX11_rowsFitting_23 ⟨by omega, by omega⟩ rfl ?_
      refine g_iload_n dX11_rowsFitting_24 rfl ?_
      have f105 := bx_9 (o := 9) (k := x4_3_0) hB (⟨by decide, rfl⟩ : kx 9 9)
      refine g_sI (av := [vI (P 9 x4_3_0), vI a1]) (st := []) (m_X11_isIn G P (P 9 x4_3_0) a1 ⟨by have q0 := bx_9 (o := 9) (k := x4_3_0) hB (⟨by decide, rfl⟩ : kx 9 9); omega, by have q0 := bx_9 (o := 9) (k := x4_3_0) hB (⟨by decide, rfl⟩ : kx 9 9); omega⟩ ⟨by omega, by omega⟩ hB  _ (fun rc106 hc106 => ⟨rc106, rfl, ?_⟩)) cf_X11_isIn t_967 rfl (Nat.le_of_ble_eq_true rfl) (by decide) rfl dX11_rowsFitting_25
      refine g_if_eq (tgt := 43) dX11_rowsFitting_28 (by decide) ⟨by omega, by omega⟩ (fun k107 => ?_) (fun k107 => ?_)
      · refine g_iinc (l1 := [(3, vI (x4_3_0 + 1)), (0, vR 0), (1, vI a1), (2, vI x4_2_0)]) dX11_rowsFitting_43 rfl (by decide) rfl ?_
        refine g_goto (tgt := 4) dX11_rowsFitting_46 (by decide) ?_
        refine g_forget (l1 := [(0, vR 0), (1, vI a1), (2, vI x4_2_0), (3, vI (x4_3_0 + 1))]) (by intro q hq; simp only [List.mem_cons, List.not_mem_nil, or_false] at hq ⊢; rcases hq with rfl | rfl | rfl | rfl <;> simp) ?_
        exact ih4_0 (x4_3_0 + 1) ⟨by omega, by omega⟩ x4_2_0 ⟨by omega, by omega⟩ (by omega)
      · refine g_iload_n dX11_rowsFitting_31 rfl ?_
        refine g_aload_n dX11_rowsFitting_32 rfl ?_
        refine x_g0_3 (n := 8) (⟨by decide, rfl⟩ : kx 0 0) ffX11_33 dX11_rowsFitting_33 rfl ?_
        refine x_g8_1 (n := 10) (⟨by decide, rfl⟩ : kx 8 8) ffX11_238 dX11_rowsFitting_36 rfl ?_
        refine g_iload_n dX11_rowsFitting_39 rfl ?_
        refine x_l10 (z := (P 10 x4_3_0)) (⟨by decide, rfl⟩ : kx 10 10) dX11_rowsFitting_40 ⟨by omega, by omega⟩ rfl ?_
        refine g_iadd dX11_rowsFitting_41 ?_
        refine g_norm (fun r108 h_r108 e_r108 => ?_)
        refine g_istore_n (l1 := [(2, vI r108), (0, vR 0), (1, vI a1), (3, vI x4_3_0)]) dX11_rowsFitting_42 (by decide) rfl ?_
        refine g_iinc (l1 := [(3, vI (x4_3_0 + 1)), (2, vI r108), (0, vR 0), (1, vI a1)]) dX11_rowsFitting_43 rfl (by decide) rfl ?_
        refine g_goto (tgt := 4) dX11_rowsFitting_46 (by decide) ?_
        refine g_forget (l1 := [(0, vR 0), (1, vI a1), (2, vI r108), (3, vI (x4_3_0 + 1))]) (by intro q hq; simp only [List.mem_cons, List.not_mem_nil, or_false] at hq ⊢; rcases hq with rfl | rfl | rfl | rfl <;> simp) ?_
        exact ih4_0 (x4_3_0 + 1) ⟨by omega, by omega⟩ r108 ⟨by omega, by omega⟩ (by omega)
  refine g_forget (l1 := [(0, vR 0), (1, vI a1), (2, vI 0), (3, vI 0)]) (by intro q hq; simp only [List.mem_cons, List.not_mem_nil, or_false] at hq ⊢; rcases hq with rfl | rfl | rfl | rfl <;> simp) ?_
  exact L4_0 _ 0 (by decide) 0 (by decide) (Nat.lt_succ_self _)
set_option maxRecDepth 100000 in
set_option maxHeartbeats 4000000 in
theorem m_X11_rowsTaken (G : GT) (P : PH) (a1 : Int) (h_a1 : (-2147483648) ≤ a1 ∧ a1 ≤ 2147483647) (hB : BdX P) (Q : Option PV → PH → Prop) (hQ : ∀ (r : Int) (_ : (-2147483648) ≤ r ∧ r ≤ 2147483647), Q (some (vI r)) P) : Ct WSX G 3 iX11_rowsTaken [vR 0, vI a1] P Q := by
  refine Ct.of (by decide) (l0 := [(0, vR 0), (1, vI a1)]) rfl (Nat.le_of_ble_eq_true rfl) ?_
  refine g_iconst dX11_rowsTaken_0 ?_
  refine g_istore_n (l1 := [(2, vI 0), (0, vR 0), (1, vI a1)]) dX11_rowsTaken_1 (by decide) rfl ?_
  refine g_iconst dX11_rowsTaken_2 ?_
  refine g_istore_n (l1 := [(3, vI 0), (2, vI 0), (0, vR 0), (1, vI a1)]) dX11_rowsTaken_3 (by decide) rfl ?_
  have L4_0 : ∀ (n4_0 : Nat) (x4_3_0 : Int) (h_x4_3_0 : 0 ≤ x4_3_0 ∧ x4_3_0 ≤ 4096) (x4_2_0 : Int) (h_x4_2_0 : (-2147483648) ≤ x4_2_0 ∧ x4_2_0 ≤ 2147483647) (hm4_0 : ((4097 - x4_3_0) : Int).toNat < n4_0), Go WSX G 3 iX11_rowsTaken 4 [(0, vR 0), (1, vI a1), (2, vI x4_2_0), (3, vI x4_3_0)] [] P Q := by
    intro n4_0
    induction n4_0 with
    | zero => intro x4_3_0 h_x4_3_0 x4_2_0 h_x4_2_0 hm4_0; exact absurd hm4_0 (Nat.not_lt_zero _)
    | succ n4_0 ih4_0 =>
    intro x4_3_0 h_x4_3_0 x4_2_0 h_x4_2_0 hm4_0
    refine g_iload_n dX11_rowsTaken_4 rfl ?_
    refine g_aload_n dX11_rowsTaken_5 rfl ?_
    refine x_g0_3 (n := 8) (⟨by decide, rfl⟩ : kx 0 0) ffX11_33 dX11_rowsTaken_6 rfl ?_
    refine x_g8_3 (z := (P 8 3)) (⟨by decide, rfl⟩ : kx 8 8) ffX11_231 dX11_rowsTaken_9 rfl ?_
    have f120 := bx_8_3 (o := 8) hB (⟨by decide, rfl⟩ : kx 8 8)
    refine g_icmp_ge (tgt := 64) dX11_rowsTaken_12 (by decide) ⟨by omega, by omega⟩ ⟨by have q0 := bx_8_3 (o := 8) hB (⟨by decide, rfl⟩ : kx 8 8); omega, by have q0 := bx_8_3 (o := 8) hB (⟨by decide, rfl⟩ : kx 8 8); omega⟩ (fun k121 => ?_) (fun k121 => ?_)
    · refine g_iload_n dX11_rowsTaken_64 rfl ?_
      exact g_retI dX11_rowsTaken_65 rfl (hQ x4_2_0 ⟨by omega, by omega⟩ )
    · refine g_aload_n dX11_rowsTaken_15 rfl ?_
      refine x_g0_5 (n := 14) (⟨by decide, rfl⟩ : kx 0 0) ffX11_43 dX11_rowsTaken_16 rfl ?_
      refine g_aload_n dX11_rowsTaken_19 rfl ?_
      refine x_g0_10 (n := (P 0 10).toNat) (⟨by decide, rfl⟩ : kx 0 0) ffX11_71 dX11_rowsTaken_20 (br_0_10 hB) ?_
      refine g_aload_n dX11_rowsTaken_23 rfl ?_
      refine x_g0_3 (n := 8) (⟨by decide, rfl⟩ : kx 0 0) ffX11_33 dX11_rowsTaken_24 rfl ?_
      refine x_g8_0 (n := 9) (⟨by decide, rfl⟩ : kx 8 8) ffX11_232 dX11_rowsTaken_27 rfl ?_
      refine g_iload_n dX11_rowsTaken_30 rfl ?_
      refine x_l9 (z := (P 9 x4_3_0)) (⟨by decide, rfl⟩ : kx 9 9) dX11_rowsTaken_31 ⟨by omega, by omega⟩ rfl ?_
      refine g_aload_n dX11_rowsTaken_32 rfl ?_
      refine x_g0_5 (n := 14) (⟨by decide, rfl⟩ : kx 0 0) ffX11_43 dX11_rowsTaken_33 rfl ?_
      refine x_g14_2 (z := (P 14 2)) (⟨by decide, rfl⟩ : kx 14 14) ffX11_177 dX11_rowsTaken_36 rfl ?_
      have f122 := bx_9 (o := 9) (k := x4_3_0) hB (⟨by decide, rfl⟩ : kx 9 9)
      have f123 := bx_14_2 (o := 14) hB (⟨by decide, rfl⟩ : kx 14 14)
      refine g_vI (av := [vR (P 0 10).toNat, vI (P 9 x4_3_0), vI (P 14 2)]) (o := 14) (st := []) (m_X5_placeTaking G P 14 (P 0 10).toNat (P 9 x4_3_0) (P 14 2) (⟨by decide, rfl⟩ : kx 14 14) (bk_0_10 hB) ⟨by have q0 := bx_9 (o := 9) (k := x4_3_0) hB (⟨by decide, rfl⟩ : kx 9 9); omega, by have q0 := bx_9 (o := 9) (k := x4_3_0) hB (⟨by decide, rfl⟩ : kx 9 9); omega⟩ ⟨by have q0 := bx_14_2 (o := 14) hB (⟨by decide, rfl⟩ : kx 14 14); omega, by have q0 := bx_14_2 (o := 14) hB (⟨by decide, rfl⟩ : kx 14 14); omega⟩ hB  _ (fun rc124 hc124 => ⟨rc124, rfl, ?_⟩)) cf_X5_placeTaking t_978 rfl (show kx 14 14 from (⟨by decide, rfl⟩ : kx 14 14)).1 ((show kx 14 14 from (⟨by decide, rfl⟩ : kx 14 14)).sh rfl) rfl rfl (Nat.le_of_ble_eq_true rfl) (by decide) rfl dX11_rowsTaken_39
      refine g_iload_n dX11_rowsTaken_42 rfl ?_
      refine g_icmp_ne (tgt := 58) dX11_rowsTaken_43 (by decide) ⟨by omega, by omega⟩ ⟨by omega, by omega⟩ (fun k125 => ?_) (fun k125 => ?_)
      · refine g_iinc (l1 := [(3, vI (x4_3_0 + 1)), (0, vR 0), (1, vI a1), (2, vI x4_2_0)]) dX11_rowsTaken_58 rfl (by decide) rfl ?_
        refine g_goto (tgt := 4) dX11_rowsTaken_61 (by decide) ?_
        refine g_forget (l1 := [(0, vR 0), (1, vI a1), (2, vI x4_2_0), (3, vI (x4_3_0 + 1))]) (by intro q hq; simp only [List.mem_cons, List.not_mem_nil, or_false] at hq ⊢; rcases hq with rfl | rfl | rfl | rfl <;> simp) ?_
        exact ih4_0 (x4_3_0 + 1) ⟨by omega, by omega⟩ x4_2_0 ⟨by omega, by omega⟩ (by omega)
      · refine g_iload_n dX11_rowsTaken_46 rfl ?_
        refine g_aload_n dX11_rowsTaken_47 rfl ?_
        refine x_g0_3 (n := 8) (⟨by decide, rfl⟩ : kx 0 0) ffX11_33 dX11_rowsTaken_48 rfl ?_
        refine x_g8_1 (n := 10) (⟨by decide, rfl⟩ : kx 8 8) ffX11_238 dX11_rowsTaken_51 rfl ?_
        refine g_iload_n dX11_rowsTaken_54 rfl ?_
        refine x_l10 (z := (P 10 x4_3_0)) (⟨by decide, rfl⟩ : kx 10 10) dX11_rowsTaken_55 ⟨by omega, by omega⟩ rfl ?_
        refine g_iadd dX11_rowsTaken_56 ?_
        refine g_norm (fun r126 h_r126 e_r126 => ?_)
        refine g_istore_n (l1 := [(2, vI r126), (0, vR 0), (1, vI a1), (3, vI x4_3_0)]) dX11_rowsTaken_57 (by decide) rfl ?_
        refine g_iinc (l1 := [(3, vI (x4_3_0 + 1)), (2, vI r126), (0, vR 0), (1, vI a1)]) dX11_rowsTaken_58 rfl (by decide) rfl ?_
        refine g_goto (tgt := 4) dX11_rowsTaken_61 (by decide) ?_
        refine g_forget (l1 := [(0, vR 0), (1, vI a1), (2, vI r126), (3, vI (x4_3_0 + 1))]) (by intro q hq; simp only [List.mem_cons, List.not_mem_nil, or_false] at hq ⊢; rcases hq with rfl | rfl | rfl | rfl <;> simp) ?_
        exact ih4_0 (x4_3_0 + 1) ⟨by omega, by omega⟩ r126 ⟨by omega, by omega⟩ (by omega)
  refine g_forget (l1 := [(0, vR 0), (1, vI a1), (2, vI 0), (3, vI 0)]) (by intro q hq; simp only [List.mem_cons, List.not_mem_nil, or_false] at hq ⊢; rcases hq with rfl | rfl | rfl | rfl <;> simp) ?_
  exact L4_0 _ 0 (by decide) 0 (by decide) (Nat.lt_succ_self _)
set_option maxRecDepth 100000 in
set_option maxHeartbeats 4000000 in
theorem m_X11_fits (G : GT) (P : PH) (a1 : Int) (a2 : Int) (a3 : Int) (h_a1 : (-2147483648) ≤ a1 ∧ a1 ≤ 2147483647) (h_a2 : (-2147483648) ≤ a2 ∧ a2 ≤ 2147483647) (h_a3 : (-2147483648) ≤ a3 ∧ a3 ≤ 2147483647) (hB : BdX P) (Q : Option PV → PH → Prop) (hQ : ∀ (r : Int) (_ : (-2147483648) ≤ r ∧ r ≤ 2147483647), Q (some (vI r)) P) : Ct WSX G 3 iX11_fits [vR 0, vI a1, vI a2, vI a3] P Q := by
  refine Ct.of (by decide) (l0 := [(0, vR 0), (1, vI a1), (2, vI a2), (3, vI a3)]) rfl (Nat.le_of_ble_eq_true rfl) ?_
  refine g_aload_n dX11_fits_0 rfl ?_
  refine x_g0_5 (n := 14) (⟨by decide, rfl⟩ : kx 0 0) ffX11_43 dX11_fits_1 rfl ?_
  refine g_iload_n dX11_fits_4 rfl ?_
  refine g_vI (av := [vI a1]) (o := 14) (st := []) (m_X5_armAt G P 14 a1 (⟨by decide, rfl⟩ : kx 14 14) ⟨by omega, by omega⟩ hB  _ (fun rc1 hc1 => ⟨rc1, rfl, ?_⟩)) cf_X5_armAt t_946 rfl (show kx 14 14 from (⟨by decide, rfl⟩ : kx 14 14)).1 ((show kx 14 14 from (⟨by decide, rfl⟩ : kx 14 14)).sh rfl) rfl rfl (Nat.le_of_ble_eq_true rfl) (by decide) rfl dX11_fits_5
  refine g_istore (l1 := [(4, vI rc1), (0, vR 0), (1, vI a1), (2, vI a2), (3, vI a3)]) dX11_fits_8 (by decide) rfl ?_
  refine g_iload dX11_fits_10 rfl ?_
  refine g_iconst dX11_fits_12 ?_
  refine g_icmp_eq (tgt := 31) dX11_fits_13 (by decide) ⟨by omega, by omega⟩ (by decide) (fun k2 => ?_) (fun k2 => ?_)
  · refine g_iconst dX11_fits_31 ?_
    exact g_retI dX11_fits_32 rfl (hQ (-1) (by decide) )
  · refine g_iload_n dX11_fits_16 rfl ?_
    refine g_if_lt (tgt := 31) dX11_fits_17 (by decide) ⟨by omega, by omega⟩ (fun k3 => ?_) (fun k3 => ?_)
    · refine g_iconst dX11_fits_31 ?_
      exact g_retI dX11_fits_32 rfl (hQ (-1) (by decide) )
    · refine g_iload_n dX11_fits_20 rfl ?_
      refine g_aload_n dX11_fits_21 rfl ?_
      refine x_g0_10 (n := (P 0 10).toNat) (⟨by decide, rfl⟩ : kx 0 0) ffX11_71 dX11_fits_22 (br_0_10 hB) ?_
      refine x_g28_6 (z := (P (P 0 10).toNat 6)) (bk_0_10 hB) ffX11_130 dX11_fits_25 rfl ?_
      have f4 := bx_28_6 (o := (P 0 10).toNat) hB (bk_0_10 hB)
      refine g_icmp_lt (tgt := 33) dX11_fits_28 (by decide) ⟨by omega, by omega⟩ ⟨by have q0 := bx_28_6 (o := (P 0 10).toNat) hB (bk_0_10 hB); omega, by have q0 := bx_28_6 (o := (P 0 10).toNat) hB (bk_0_10 hB); omega⟩ (fun k5 => ?_) (fun k5 => ?_)
      · refine g_iload_n dX11_fits_33 rfl ?_
        refine g_if_lt (tgt := 50) dX11_fits_34 (by decide) ⟨by omega, by omega⟩ (fun k6 => ?_) (fun k6 => ?_)
        · refine g_iconst dX11_fits_50 ?_
          exact g_retI dX11_fits_51 rfl (hQ (-1) (by decide) )
        · refine g_iload_n dX11_fits_37 rfl ?_
          refine g_aload_n dX11_fits_38 rfl ?_
          refine x_g0_10 (n := (P 0 10).toNat) (⟨by decide, rfl⟩ : kx 0 0) ffX11_71 dX11_fits_39 (br_0_10 hB) ?_
          refine x_g28_2 (n := (crX (P 0 10).toNat 2)) (bk_0_10 hB) ffX11_245 dX11_fits_42 rfl ?_
          refine g_iload_n dX11_fits_45 rfl ?_
          refine x_l40 (z := (P (crX (P 0 10).toNat 2) a2)) (ck_28_2 (bk_0_10 hB)) dX11_fits_46 ⟨by omega, by omega⟩ rfl ?_
          have f7 := bx_40 (o := (crX (P 0 10).toNat 2)) (k := a2) hB (ck_28_2 (bk_0_10 hB))
          refine g_icmp_lt (tgt := 52) dX11_fits_47 (by decide) ⟨by omega, by omega⟩ ⟨by have q0 := bx_40 (o := (crX (P 0 10).toNat 2)) (k := a2) hB (ck_28_2 (bk_0_10 hB)); omega, by have q0 := bx_40 (o := (crX (P 0 10).toNat 2)) (k := a2) hB (ck_28_2 (bk_0_10 hB)); omega⟩ (fun k8 => ?_) (fun k8 => ?_)
          · refine g_aload_n dX11_fits_52 rfl ?_
            refine x_g0_10 (n := (P 0 10).toNat) (⟨by decide, rfl⟩ : kx 0 0) ffX11_71 dX11_fits_53 (br_0_10 hB) ?_
            refine g_iload_n dX11_fits_56 rfl ?_
            refine g_iload_n dX11_fits_57 rfl ?_
            refine g_vI (av := [vI a2, vI a3]) (o := (P 0 10).toNat) (st := []) (m_X9_armsFitting G P (P 0 10).toNat a2 a3 (bk_0_10 hB) ⟨by omega, by omega⟩ ⟨by omega, by omega⟩ hB  _ (fun rc9 hc9 => ⟨rc9, rfl, ?_⟩)) cf_X9_armsFitting t_987 rfl (show kx (P 0 10).toNat 28 from (bk_0_10 hB)).1 ((show kx (P 0 10).toNat 28 from (bk_0_10 hB)).sh rfl) rfl rfl (Nat.le_of_ble_eq_true rfl) (by decide) rfl dX11_fits_58
            refine g_iload dX11_fits_61 rfl ?_
            refine g_sI (av := [vI rc9, vI rc1]) (st := []) (m_X11_isIn G P rc9 rc1 ⟨by omega, by omega⟩ ⟨by omega, by omega⟩ hB  _ (fun rc10 hc10 => ⟨rc10, rfl, ?_⟩)) cf_X11_isIn t_967 rfl (Nat.le_of_ble_eq_true rfl) (by decide) rfl dX11_fits_63
            refine g_if_eq (tgt := 73) dX11_fits_66 (by decide) ⟨by omega, by omega⟩ (fun k11 => ?_) (fun k11 => ?_)
            · refine g_iconst dX11_fits_73 ?_
              exact g_retI dX11_fits_74 rfl (hQ 0 (by decide) )
            · refine g_iconst dX11_fits_69 ?_
              refine g_goto (tgt := 74) dX11_fits_70 (by decide) ?_
              exact g_retI dX11_fits_74 rfl (hQ 1 (by decide) )
          · refine g_iconst dX11_fits_50 ?_
            exact g_retI dX11_fits_51 rfl (hQ (-1) (by decide) )
      · refine g_iconst dX11_fits_31 ?_
        exact g_retI dX11_fits_32 rfl (hQ (-1) (by decide) )
set_option maxRecDepth 100000 in
set_option maxHeartbeats 4000000 in
theorem m_X11_holds (G : GT) (P : PH) (a1 : Int) (a2 : Int) (h_a1 : (-2147483648) ≤ a1 ∧ a1 ≤ 2147483647) (h_a2 : (-2147483648) ≤ a2 ∧ a2 ≤ 2147483647) (hB : BdX P) (Q : Option PV → PH → Prop) (hQ : ∀ (r : Int) (_ : (-2147483648) ≤ r ∧ r ≤ 2147483647), Q (some (vI r)) P) : Ct WSX G 3 iX11_holds [vR 0, vI a1, vI a2] P Q := by
  refine Ct.of (by decide) (l0 := [(0, vR 0), (1, vI a1), (2, vI a2)]) rfl (Nat.le_of_ble_eq_true rfl) ?_
  refine g_aload_n dX11_holds_0 rfl ?_
  refine x_g0_5 (n := 14) (⟨by decide, rfl⟩ : kx 0 0) ffX11_43 dX11_holds_1 rfl ?_
  refine g_iload_n dX11_holds_4 rfl ?_
  refine g_vI (av := [vI a1]) (o := 14) (st := []) (m_X5_armAt G P 14 a1 (⟨by decide, rfl⟩ : kx 14 14) ⟨by omega, by omega⟩ hB  _ (fun rc1 hc1 => ⟨rc1, rfl, ?_⟩)) cf_X5_armAt t_946 rfl (show kx 14 14 from (⟨by decide, rfl⟩ : kx 14 14)).1 ((show kx 14 14 from (⟨by decide, rfl⟩ : kx 14 14)).sh rfl) rfl rfl (Nat.le_of_ble_eq_true rfl) (by decide) rfl dX11_holds_5
  refine g_istore_n (l1 := [(3, vI rc1), (0, vR 0), (1, vI a1), (2, vI a2)]) dX11_holds_8 (by decide) rfl ?_
  refine g_aload_n dX11_holds_9 rfl ?_
  refine x_g0_5 (n := 14) (⟨by decide, rfl⟩ : kx 0 0) ffX11_43 dX11_holds_10 rfl ?_
  refine g_iload_n dX11_holds_13 rfl ?_
  refine g_vI (av := [vI a2]) (o := 14) (st := []) (m_X5_armAt G P 14 a2 (⟨by decide, rfl⟩ : kx 14 14) ⟨by omega, by omega⟩ hB  _ (fun rc2 hc2 => ⟨rc2, rfl, ?_⟩)) cf_X5_armAt t_946 rfl (show kx 14 14 from (⟨by decide, rfl⟩ : kx 14 14)).1 ((show kx 14 14 from (⟨by decide, rfl⟩ : kx 14 14)).sh rfl) rfl rfl (Nat.le_of_ble_eq_true rfl) (by decide) rfl dX11_holds_14
  refine g_istore (l1 := [(4, vI rc2), (3, vI rc1), (0, vR 0), (1, vI a1), (2, vI a2)]) dX11_holds_17 (by decide) rfl ?_
  refine g_iload_n dX11_holds_19 rfl ?_
  refine g_iconst dX11_holds_20 ?_
  refine g_icmp_eq (tgt := 30) dX11_holds_21 (by decide) ⟨by omega, by omega⟩ (by decide) (fun k3 => ?_) (fun k3 => ?_)
  · refine g_iconst dX11_holds_30 ?_
    exact g_retI dX11_holds_31 rfl (hQ (-1) (by decide) )
  · refine g_iload dX11_holds_24 rfl ?_
    refine g_iconst dX11_holds_26 ?_
    refine g_icmp_ne (tgt := 32) dX11_holds_27 (by decide) ⟨by omega, by omega⟩ (by decide) (fun k4 => ?_) (fun k4 => ?_)
    · refine g_iconst dX11_holds_32 ?_
      refine g_istore (l1 := [(5, vI 0), (4, vI rc2), (3, vI rc1), (0, vR 0), (1, vI a1), (2, vI a2)]) dX11_holds_33 (by decide) rfl ?_
      have L35_4 : ∀ (n35_4 : Nat) (x35_5_4 : Int) (h_x35_5_4 : 0 ≤ x35_5_4 ∧ x35_5_4 ≤ 4096) (hm35_4 : ((4097 - x35_5_4) : Int).toNat < n35_4), Go WSX G 3 iX11_holds 35 [(0, vR 0), (3, vI rc1), (4, vI rc2), (5, vI x35_5_4)] [] P Q := by
        intro n35_4
        induction n35_4 with
        | zero => intro x35_5_4 h_x35_5_4 hm35_4; exact absurd hm35_4 (Nat.not_lt_zero _)
        | succ n35_4 ih35_4 =>
        intro x35_5_4 h_x35_5_4 hm35_4
        refine g_iload dX11_holds_35 rfl ?_
        refine g_aload_n dX11_holds_37 rfl ?_
        refine x_g0_3 (n := 8) (⟨by decide, rfl⟩ : kx 0 0) ffX11_33 dX11_holds_38 rfl ?_
        refine x_g8_3 (z := (P 8 3)) (⟨by decide, rfl⟩ : kx 8 8) ffX11_231 dX11_holds_41 rfl ?_
        have f125 := bx_8_3 (o := 8) hB (⟨by decide, rfl⟩ : kx 8 8)
        refine g_icmp_ge (tgt := 86) dX11_holds_44 (by decide) ⟨by omega, by omega⟩ ⟨by have q0 := bx_8_3 (o := 8) hB (⟨by decide, rfl⟩ : kx 8 8); omega, by have q0 := bx_8_3 (o := 8) hB (⟨by decide, rfl⟩ : kx 8 8); omega⟩ (fun k126 => ?_) (fun k126 => ?_)
        · refine g_iconst dX11_holds_86 ?_
          exact g_retI dX11_holds_87 rfl (hQ 1 (by decide) )
        · refine g_aload_n dX11_holds_47 rfl ?_
          refine x_g0_3 (n := 8) (⟨by decide, rfl⟩ : kx 0 0) ffX11_33 dX11_holds_48 rfl ?_
          refine x_g8_0 (n := 9) (⟨by decide, rfl⟩ : kx 8 8) ffX11_232 dX11_holds_51 rfl ?_
          refine g_iload dX11_holds_54 rfl ?_
          refine x_l9 (z := (P 9 x35_5_4)) (⟨by decide, rfl⟩ : kx 9 9) dX11_holds_56 ⟨by omega, by omega⟩ rfl ?_
          refine g_istore (l1 := [(6, vI (P 9 x35_5_4)), (0, vR 0), (3, vI rc1), (4, vI rc2), (5, vI x35_5_4)]) dX11_holds_57 (by decide) rfl ?_
          refine g_iload dX11_holds_59 rfl ?_
          refine g_iload dX11_holds_61 rfl ?_
          have f127 := bx_9 (o := 9) (k := x35_5_4) hB (⟨by decide, rfl⟩ : kx 9 9)
          refine g_sI (av := [vI (P 9 x35_5_4), vI rc2]) (st := []) (m_X11_isIn G P (P 9 x35_5_4) rc2 ⟨by have q0 := bx_9 (o := 9) (k := x35_5_4) hB (⟨by decide, rfl⟩ : kx 9 9); omega, by have q0 := bx_9 (o := 9) (k := x35_5_4) hB (⟨by decide, rfl⟩ : kx 9 9); omega⟩ ⟨by omega, by omega⟩ hB  _ (fun rc128 hc128 => ⟨rc128, rfl, ?_⟩)) cf_X11_isIn t_967 rfl (Nat.le_of_ble_eq_true rfl) (by decide) rfl dX11_holds_63
          refine g_if_eq (tgt := 80) dX11_holds_66 (by decide) ⟨by omega, by omega⟩ (fun k129 => ?_) (fun k129 => ?_)
          · refine g_iinc (l1 := [(5, vI (x35_5_4 + 1)), (6, vI (P 9 x35_5_4)), (0, vR 0), (3, vI rc1), (4, vI rc2)]) dX11_holds_80 rfl (by decide) rfl ?_
            refine g_goto (tgt := 35) dX11_holds_83 (by decide) ?_
            refine g_forget (l1 := [(0, vR 0), (3, vI rc1), (4, vI rc2), (5, vI (x35_5_4 + 1))]) (by intro q hq; simp only [List.mem_cons, List.not_mem_nil, or_false] at hq ⊢; rcases hq with rfl | rfl | rfl | rfl <;> simp) ?_
            exact ih35_4 (x35_5_4 + 1) ⟨by omega, by omega⟩ (by omega)
          · refine g_iload dX11_holds_69 rfl ?_
            refine g_iload_n dX11_holds_71 rfl ?_
            refine g_sI (av := [vI (P 9 x35_5_4), vI rc1]) (st := []) (m_X11_isIn G P (P 9 x35_5_4) rc1 ⟨by have q0 := bx_9 (o := 9) (k := x35_5_4) hB (⟨by decide, rfl⟩ : kx 9 9); omega, by have q0 := bx_9 (o := 9) (k := x35_5_4) hB (⟨by decide, rfl⟩ : kx 9 9); omega⟩ ⟨by omega, by omega⟩ hB  _ (fun rc130 hc130 => ⟨rc130, rfl, ?_⟩)) cf_X11_isIn t_967 rfl (Nat.le_of_ble_eq_true rfl) (by decide) rfl dX11_holds_72
            refine g_if_ne (tgt := 80) dX11_holds_75 (by decide) ⟨by omega, by omega⟩ (fun k131 => ?_) (fun k131 => ?_)
            · refine g_iinc (l1 := [(5, vI (x35_5_4 + 1)), (6, vI (P 9 x35_5_4)), (0, vR 0), (3, vI rc1), (4, vI rc2)]) dX11_holds_80 rfl (by decide) rfl ?_
              refine g_goto (tgt := 35) dX11_holds_83 (by decide) ?_
              refine g_forget (l1 := [(0, vR 0), (3, vI rc1), (4, vI rc2), (5, vI (x35_5_4 + 1))]) (by intro q hq; simp only [List.mem_cons, List.not_mem_nil, or_false] at hq ⊢; rcases hq with rfl | rfl | rfl | rfl <;> simp) ?_
              exact ih35_4 (x35_5_4 + 1) ⟨by omega, by omega⟩ (by omega)
            · refine g_iconst dX11_holds_78 ?_
              exact g_retI dX11_holds_79 rfl (hQ 0 (by decide) )
      refine g_forget (l1 := [(0, vR 0), (3, vI rc1), (4, vI rc2), (5, vI 0)]) (by intro q hq; simp only [List.mem_cons, List.not_mem_nil, or_false] at hq ⊢; rcases hq with rfl | rfl | rfl | rfl <;> simp) ?_
      exact L35_4 _ 0 (by decide) (Nat.lt_succ_self _)
    · refine g_iconst dX11_holds_30 ?_
      exact g_retI dX11_holds_31 rfl (hQ (-1) (by decide) )
set_option maxRecDepth 100000 in
set_option maxHeartbeats 4000000 in
theorem m_X11_countMissing (G : GT) (P : PH) (a1 : Int) (h_a1 : (-2147483648) ≤ a1 ∧ a1 ≤ 2147483647) (hB : BdX P) (Q : Option PV → PH → Prop) (hQ : ∀ (r : Int) (_ : (-2147483648) ≤ r ∧ r ≤ 2147483647), Q (some (vI r)) P) : Ct WSX G 1 iX11_countMissing [vR 0, vI a1] P Q := by
  refine Ct.of (by decide) (l0 := [(0, vR 0), (1, vI a1)]) rfl (Nat.le_of_ble_eq_true rfl) ?_
  refine g_iconst dX11_countMissing_0 ?_
  refine g_istore_n (l1 := [(2, vI 0), (0, vR 0), (1, vI a1)]) dX11_countMissing_1 (by decide) rfl ?_
  refine g_iconst dX11_countMissing_2 ?_
  refine g_istore_n (l1 := [(3, vI 0), (2, vI 0), (0, vR 0), (1, vI a1)]) dX11_countMissing_3 (by decide) rfl ?_
  have L4_0 : ∀ (n4_0 : Nat) (x4_3_0 : Int) (h_x4_3_0 : 0 ≤ x4_3_0 ∧ x4_3_0 ≤ 4096) (x4_2_0 : Int) (h_x4_2_0 : (-2147483648) ≤ x4_2_0 ∧ x4_2_0 ≤ 2147483647) (hm4_0 : ((4097 - x4_3_0) : Int).toNat < n4_0), Go WSX G 1 iX11_countMissing 4 [(0, vR 0), (1, vI a1), (2, vI x4_2_0), (3, vI x4_3_0)] [] P Q := by
    intro n4_0
    induction n4_0 with
    | zero => intro x4_3_0 h_x4_3_0 x4_2_0 h_x4_2_0 hm4_0; exact absurd hm4_0 (Nat.not_lt_zero _)
    | succ n4_0 ih4_0 =>
    intro x4_3_0 h_x4_3_0 x4_2_0 h_x4_2_0 hm4_0
    refine g_iload_n dX11_countMissing_4 rfl ?_
    refine g_aload_n dX11_countMissing_5 rfl ?_
    refine x_g0_3 (n := 8) (⟨by decide, rfl⟩ : kx 0 0) ffX11_33 dX11_countMissing_6 rfl ?_
    refine x_g8_3 (z := (P 8 3)) (⟨by decide, rfl⟩ : kx 8 8) ffX11_231 dX11_countMissing_9 rfl ?_
    have f86 := bx_8_3 (o := 8) hB (⟨by decide, rfl⟩ : kx 8 8)
    refine g_icmp_ge (tgt := 47) dX11_countMissing_12 (by decide) ⟨by omega, by omega⟩ ⟨by have q0 := bx_8_3 (o := 8) hB (⟨by decide, rfl⟩ : kx 8 8); omega, by have q0 := bx_8_3 (o := 8) hB (⟨by decide, rfl⟩ : kx 8 8); omega⟩ (fun k87 => ?_) (fun k87 => ?_)
    · refine g_iload_n dX11_countMissing_47 rfl ?_
      exact g_retI dX11_countMissing_48 rfl (hQ x4_2_0 ⟨by omega, by omega⟩ )
    · refine g_aload_n dX11_countMissing_15 rfl ?_
      refine x_g0_3 (n := 8) (⟨by decide, rfl⟩ : kx 0 0) ffX11_33 dX11_countMissing_16 rfl ?_
      refine x_g8_0 (n := 9) (⟨by decide, rfl⟩ : kx 8 8) ffX11_232 dX11_countMissing_19 rfl ?_
      refine g_iload_n dX11_countMissing_22 rfl ?_
      refine x_l9 (z := (P 9 x4_3_0)) (⟨by decide, rfl⟩ : kx 9 9) dX11_countMissing_23 ⟨by omega, by omega⟩ rfl ?_
      refine g_iload_n dX11_countMissing_24 rfl ?_
      refine g_iand dX11_countMissing_25 ?_
      refine g_nm (fun b88 e_b88 => ?_)
      have h_b88 := iand_ir (P 9 x4_3_0) a1
      rw [← e_b88] at h_b88
      refine g_if_ne (tgt := 41) dX11_countMissing_26 (by decide) ⟨by omega, by omega⟩ (fun k89 => ?_) (fun k89 => ?_)
      · refine g_iinc (l1 := [(3, vI (x4_3_0 + 1)), (0, vR 0), (1, vI a1), (2, vI x4_2_0)]) dX11_countMissing_41 rfl (by decide) rfl ?_
        refine g_goto (tgt := 4) dX11_countMissing_44 (by decide) ?_
        refine g_forget (l1 := [(0, vR 0), (1, vI a1), (2, vI x4_2_0), (3, vI (x4_3_0 + 1))]) (by intro q hq; simp only [List.mem_cons, List.not_mem_nil, or_false] at hq ⊢; rcases hq with rfl | rfl | rfl | rfl <;> simp) ?_
        exact ih4_0 (x4_3_0 + 1) ⟨by omega, by omega⟩ x4_2_0 ⟨by omega, by omega⟩ (by omega)
      · refine g_iload_n dX11_countMissing_29 rfl ?_
        refine g_aload_n dX11_countMissing_30 rfl ?_
        refine x_g0_3 (n := 8) (⟨by decide, rfl⟩ : kx 0 0) ffX11_33 dX11_countMissing_31 rfl ?_
        refine x_g8_1 (n := 10) (⟨by decide, rfl⟩ : kx 8 8) ffX11_238 dX11_countMissing_34 rfl ?_
        refine g_iload_n dX11_countMissing_37 rfl ?_
        refine x_l10 (z := (P 10 x4_3_0)) (⟨by decide, rfl⟩ : kx 10 10) dX11_countMissing_38 ⟨by omega, by omega⟩ rfl ?_
        refine g_iadd dX11_countMissing_39 ?_
        refine g_norm (fun r90 h_r90 e_r90 => ?_)
        refine g_istore_n (l1 := [(2, vI r90), (0, vR 0), (1, vI a1), (3, vI x4_3_0)]) dX11_countMissing_40 (by decide) rfl ?_
        refine g_iinc (l1 := [(3, vI (x4_3_0 + 1)), (2, vI r90), (0, vR 0), (1, vI a1)]) dX11_countMissing_41 rfl (by decide) rfl ?_
        refine g_goto (tgt := 4) dX11_countMissing_44 (by decide) ?_
        refine g_forget (l1 := [(0, vR 0), (1, vI a1), (2, vI r90), (3, vI (x4_3_0 + 1))]) (by intro q hq; simp only [List.mem_cons, List.not_mem_nil, or_false] at hq ⊢; rcases hq with rfl | rfl | rfl | rfl <;> simp) ?_
        exact ih4_0 (x4_3_0 + 1) ⟨by omega, by omega⟩ r90 ⟨by omega, by omega⟩ (by omega)
  refine g_forget (l1 := [(0, vR 0), (1, vI a1), (2, vI 0), (3, vI 0)]) (by intro q hq; simp only [List.mem_cons, List.not_mem_nil, or_false] at hq ⊢; rcases hq with rfl | rfl | rfl | rfl <;> simp) ?_
  exact L4_0 _ 0 (by decide) 0 (by decide) (Nat.lt_succ_self _)
set_option maxRecDepth 100000 in
set_option maxHeartbeats 4000000 in
theorem m_X11_findMissing (G : GT) (P : PH) (a1 : Int) (a2 : Int) (h_a1 : (-2147483648) ≤ a1 ∧ a1 ≤ 2147483647) (h_a2 : (-2147483648) ≤ a2 ∧ a2 ≤ 2147483647) (hB : BdX P) (Q : Option PV → PH → Prop) (hQ : ∀ (r : Int) (_ : (-2147483648) ≤ r ∧ r ≤ 2147483647), Q (some (vI r)) P) : Ct WSX G 3 iX11_findMissing [vR 0, vI a1, vI a2] P Q := by
  refine Ct.of (by decide) (l0 := [(0, vR 0), (1, vI a1), (2, vI a2)]) rfl (Nat.le_of_ble_eq_true rfl) ?_
  refine g_iconst dX11_findMissing_0 ?_
  refine g_istore_n (l1 := [(3, vI 0), (0, vR 0), (1, vI a1), (2, vI a2)]) dX11_findMissing_1 (by decide) rfl ?_
  refine g_iconst dX11_findMissing_2 ?_
  refine g_istore (l1 := [(4, vI 0), (3, vI 0), (0, vR 0), (1, vI a1), (2, vI a2)]) dX11_findMissing_3 (by decide) rfl ?_
  have L5_0 : ∀ (n5_0 : Nat) (x5_4_0 : Int) (h_x5_4_0 : 0 ≤ x5_4_0 ∧ x5_4_0 ≤ 2147483647) (x5_3_0 : Int) (h_x5_3_0 : 0 ≤ x5_3_0 ∧ x5_3_0 ≤ 2147483647) (i5_0_0 : x5_3_0 ≤ x5_4_0) (hm5_0 : ((2147483648 - x5_4_0) : Int).toNat < n5_0), Go WSX G 3 iX11_findMissing 5 [(0, vR 0), (1, vI a1), (2, vI a2), (3, vI x5_3_0), (4, vI x5_4_0)] [] P Q := by
    intro n5_0
    induction n5_0 with
    | zero => intro x5_4_0 h_x5_4_0 x5_3_0 h_x5_3_0 i5_0_0 hm5_0; exact absurd hm5_0 (Nat.not_lt_zero _)
    | succ n5_0 ih5_0 =>
    intro x5_4_0 h_x5_4_0 x5_3_0 h_x5_3_0 i5_0_0 hm5_0
    refine g_iload dX11_findMissing_5 rfl ?_
    refine g_aload_n dX11_findMissing_7 rfl ?_
    refine x_g0_10 (n := (P 0 10).toNat) (⟨by decide, rfl⟩ : kx 0 0) ffX11_71 dX11_findMissing_8 (br_0_10 hB) ?_
    refine x_g28_7 (z := (P (P 0 10).toNat 7)) (bk_0_10 hB) ffX11_173 dX11_findMissing_11 rfl ?_
    have f134 := bx_28_7 (o := (P 0 10).toNat) hB (bk_0_10 hB)
    refine g_icmp_ge (tgt := 48) dX11_findMissing_14 (by decide) ⟨by omega, by omega⟩ ⟨by have q0 := bx_28_7 (o := (P 0 10).toNat) hB (bk_0_10 hB); omega, by have q0 := bx_28_7 (o := (P 0 10).toNat) hB (bk_0_10 hB); omega⟩ (fun k135 => ?_) (fun k135 => ?_)
    · refine g_iconst dX11_findMissing_48 ?_
      exact g_retI dX11_findMissing_49 rfl (hQ (-1) (by decide) )
    · refine g_aload_n dX11_findMissing_17 rfl ?_
      refine x_g0_10 (n := (P 0 10).toNat) (⟨by decide, rfl⟩ : kx 0 0) ffX11_71 dX11_findMissing_18 (br_0_10 hB) ?_
      refine g_iload dX11_findMissing_21 rfl ?_
      refine g_vI (av := [vI x5_4_0]) (o := (P 0 10).toNat) (st := []) (m_X9_armsOf G P (P 0 10).toNat x5_4_0 (bk_0_10 hB) ⟨by omega, by omega⟩ hB  _ (fun rc136 hc136 => ⟨rc136, rfl, ?_⟩)) cf_X9_armsOf t_1004 rfl (show kx (P 0 10).toNat 28 from (bk_0_10 hB)).1 ((show kx (P 0 10).toNat 28 from (bk_0_10 hB)).sh rfl) rfl rfl (Nat.le_of_ble_eq_true rfl) (by decide) rfl dX11_findMissing_23
      refine g_iload_n dX11_findMissing_26 rfl ?_
      refine g_iand dX11_findMissing_27 ?_
      refine g_nm (fun b137 e_b137 => ?_)
      have h_b137 := iand_ir rc136 a1
      rw [← e_b137] at h_b137
      refine g_if_ne (tgt := 42) dX11_findMissing_28 (by decide) ⟨by omega, by omega⟩ (fun k138 => ?_) (fun k138 => ?_)
      · refine g_iinc (l1 := [(4, vI (x5_4_0 + 1)), (0, vR 0), (1, vI a1), (2, vI a2), (3, vI x5_3_0)]) dX11_findMissing_42 rfl (by decide) rfl ?_
        refine g_goto (tgt := 5) dX11_findMissing_45 (by decide) ?_
        refine g_forget (l1 := [(0, vR 0), (1, vI a1), (2, vI a2), (3, vI x5_3_0), (4, vI (x5_4_0 + 1))]) (by intro q hq; simp only [List.mem_cons, List.not_mem_nil, or_false] at hq ⊢; rcases hq with rfl | rfl | rfl | rfl | rfl <;> simp) ?_
        exact ih5_0 (x5_4_0 + 1) ⟨by omega, by omega⟩ x5_3_0 ⟨by omega, by omega⟩ (by omega) (by omega)
      · refine g_iload_n dX11_findMissing_31 rfl ?_
        refine g_iload_n dX11_findMissing_32 rfl ?_
        refine g_icmp_ne (tgt := 39) dX11_findMissing_33 (by decide) ⟨by omega, by omega⟩ ⟨by omega, by omega⟩ (fun k139 => ?_) (fun k139 => ?_)
        · refine g_iinc (l1 := [(3, vI (x5_3_0 + 1)), (0, vR 0), (1, vI a1), (2, vI a2), (4, vI x5_4_0)]) dX11_findMissing_39 rfl (by decide) rfl ?_
          refine g_iinc (l1 := [(4, vI (x5_4_0 + 1)), (3, vI (x5_3_0 + 1)), (0, vR 0), (1, vI a1), (2, vI a2)]) dX11_findMissing_42 rfl (by decide) rfl ?_
          refine g_goto (tgt := 5) dX11_findMissing_45 (by decide) ?_
          refine g_forget (l1 := [(0, vR 0), (1, vI a1), (2, vI a2), (3, vI (x5_3_0 + 1)), (4, vI (x5_4_0 + 1))]) (by intro q hq; simp only [List.mem_cons, List.not_mem_nil, or_false] at hq ⊢; rcases hq with rfl | rfl | rfl | rfl | rfl <;> simp) ?_
          exact ih5_0 (x5_4_0 + 1) ⟨by omega, by omega⟩ (x5_3_0 + 1) ⟨by omega, by omega⟩ (by omega) (by omega)
        · refine g_iload dX11_findMissing_36 rfl ?_
          exact g_retI dX11_findMissing_38 rfl (hQ x5_4_0 ⟨by omega, by omega⟩ )
  refine g_forget (l1 := [(0, vR 0), (1, vI a1), (2, vI a2), (3, vI 0), (4, vI 0)]) (by intro q hq; simp only [List.mem_cons, List.not_mem_nil, or_false] at hq ⊢; rcases hq with rfl | rfl | rfl | rfl | rfl <;> simp) ?_
  exact L5_0 _ 0 (by decide) 0 (by decide) (by omega) (Nat.lt_succ_self _)
set_option maxRecDepth 100000 in
set_option maxHeartbeats 4000000 in
theorem m_X11_taken (G : GT) (P : PH) (a1 : Int) (h_a1 : (-2147483648) ≤ a1 ∧ a1 ≤ 2147483647) (hB : BdX P) (Q : Option PV → PH → Prop) (hQ : ∀ (r : Int) (_ : (-2147483648) ≤ r ∧ r ≤ 2147483647), Q (some (vI r)) P) : Ct WSX G 3 iX11_taken [vR 0, vI a1] P Q := by
  refine Ct.of (by decide) (l0 := [(0, vR 0), (1, vI a1)]) rfl (Nat.le_of_ble_eq_true rfl) ?_
  refine g_aload_n dX11_taken_0 rfl ?_
  refine x_g0_10 (n := (P 0 10).toNat) (⟨by decide, rfl⟩ : kx 0 0) ffX11_71 dX11_taken_1 (br_0_10 hB) ?_
  refine g_iload_n dX11_taken_4 rfl ?_
  refine g_vI (av := [vI a1]) (o := (P 0 10).toNat) (st := []) (m_X9_isRow G P (P 0 10).toNat a1 (bk_0_10 hB) ⟨by omega, by omega⟩ hB  _ (fun rc1 hc1 gc1_k => ⟨rc1, rfl, ?_⟩)) cf_X9_isRow t_1014 rfl (show kx (P 0 10).toNat 28 from (bk_0_10 hB)).1 ((show kx (P 0 10).toNat 28 from (bk_0_10 hB)).sh rfl) rfl rfl (Nat.le_of_ble_eq_true rfl) (by decide) rfl dX11_taken_5
  have f2 := bx_28_7 (o := (P 0 10).toNat) hB (bk_0_10 hB)
  refine g_if_ne (tgt := 13) dX11_taken_8 (by decide) ⟨by omega, by omega⟩ (fun k3 => ?_) (fun k3 => ?_)
  · refine g_aload_n dX11_taken_13 rfl ?_
    refine x_g0_5 (n := 14) (⟨by decide, rfl⟩ : kx 0 0) ffX11_43 dX11_taken_14 rfl ?_
    refine g_aload_n dX11_taken_17 rfl ?_
    refine x_g0_10 (n := (P 0 10).toNat) (⟨by decide, rfl⟩ : kx 0 0) ffX11_71 dX11_taken_18 (br_0_10 hB) ?_
    refine g_aload_n dX11_taken_21 rfl ?_
    refine x_g0_10 (n := (P 0 10).toNat) (⟨by decide, rfl⟩ : kx 0 0) ffX11_71 dX11_taken_22 (br_0_10 hB) ?_
    refine g_iload_n dX11_taken_25 rfl ?_
    refine g_vI (av := [vI a1]) (o := (P 0 10).toNat) (st := [vR (P 0 10).toNat, vR 14]) (m_X9_armsOf G P (P 0 10).toNat a1 (bk_0_10 hB) ⟨by omega, by omega⟩ hB  _ (fun rc4 hc4 => ⟨rc4, rfl, ?_⟩)) cf_X9_armsOf t_1004 rfl (show kx (P 0 10).toNat 28 from (bk_0_10 hB)).1 ((show kx (P 0 10).toNat 28 from (bk_0_10 hB)).sh rfl) rfl rfl (Nat.le_of_ble_eq_true rfl) (by decide) rfl dX11_taken_26
    refine g_aload_n dX11_taken_29 rfl ?_
    refine x_g0_5 (n := 14) (⟨by decide, rfl⟩ : kx 0 0) ffX11_43 dX11_taken_30 rfl ?_
    refine x_g14_2 (z := (P 14 2)) (⟨by decide, rfl⟩ : kx 14 14) ffX11_177 dX11_taken_33 rfl ?_
    have f5 := bx_14_2 (o := 14) hB (⟨by decide, rfl⟩ : kx 14 14)
    refine g_vI (av := [vR (P 0 10).toNat, vI rc4, vI (P 14 2)]) (o := 14) (st := []) (m_X5_placeTaking G P 14 (P 0 10).toNat rc4 (P 14 2) (⟨by decide, rfl⟩ : kx 14 14) (bk_0_10 hB) ⟨by omega, by omega⟩ ⟨by have q0 := bx_14_2 (o := 14) hB (⟨by decide, rfl⟩ : kx 14 14); omega, by have q0 := bx_14_2 (o := 14) hB (⟨by decide, rfl⟩ : kx 14 14); omega⟩ hB  _ (fun rc6 hc6 => ⟨rc6, rfl, ?_⟩)) cf_X5_placeTaking t_978 rfl (show kx 14 14 from (⟨by decide, rfl⟩ : kx 14 14)).1 ((show kx 14 14 from (⟨by decide, rfl⟩ : kx 14 14)).sh rfl) rfl rfl (Nat.le_of_ble_eq_true rfl) (by decide) rfl dX11_taken_36
    exact g_retI dX11_taken_39 rfl (hQ rc6 ⟨by omega, by omega⟩ )
  · refine g_iconst dX11_taken_11 ?_
    exact g_retI dX11_taken_12 rfl (hQ (-1) (by decide) )
set_option maxRecDepth 100000 in
set_option maxHeartbeats 4000000 in
theorem m_X11_row (G : GT) (P : PH) (hB : BdX P) (Q : Option PV → PH → Prop) (hQ : ∀ (r : Int) (_ : (-2147483648) ≤ r ∧ r ≤ 2147483647) (P1 : PH) (_ : BdX P1) (_ : FrX ([(1, 1), (45, 2), (45, 3), (45, 4), (46, 1), (46, 2), (46, 3), (46, 4), (46, 5), (46, 6), (46, 7), (46, 8)], [27]) P P1) (_ : P1 1 1 = 0), Q (some (vI r)) P1) : Ct WSX G 13 iX11_row [vR 0] P Q := by
  refine Ct.of (by decide) (l0 := [(0, vR 0)]) rfl (Nat.le_of_ble_eq_true rfl) ?_
  refine g_aload_n dX11_row_0 rfl ?_
  refine x_g0_12 (n := 110) (⟨by decide, rfl⟩ : kx 0 0) ffX11_83 dX11_row_1 rfl ?_
  refine g_aload_n dX11_row_4 rfl ?_
  refine x_g0_0 (n := 1) (⟨by decide, rfl⟩ : kx 0 0) ffX11_14 dX11_row_5 rfl ?_
  refine g_aload_n dX11_row_8 rfl ?_
  refine x_g0_10 (n := (P 0 10).toNat) (⟨by decide, rfl⟩ : kx 0 0) ffX11_71 dX11_row_9 (br_0_10 hB) ?_
  refine g_vI (av := [vR 1, vR (P 0 10).toNat]) (o := 110) (st := []) (m_X6_readRow_B16 G P (P 0 10).toNat (bk_0_10 hB) hB  _ (fun rc1 hc1 Pc1 hBc1 hFc1 vc1_TX => ⟨rc1, rfl, ?_⟩)) cf_X6_readRow t_1022 rfl (show kx 110 45 from (⟨by decide, rfl⟩ : kx 110 45)).1 ((show kx 110 45 from (⟨by decide, rfl⟩ : kx 110 45)).sh rfl) rfl rfl (Nat.le_of_ble_eq_true rfl) (by decide) rfl dX11_row_12
  refine g_istore_n (l1 := [(1, vI rc1), (0, vR 0)]) dX11_row_15 (by decide) rfl ?_
  refine g_aload_n dX11_row_16 rfl ?_
  refine x_g0_0 (n := 1) (⟨by decide, rfl⟩ : kx 0 0) ffX11_14 dX11_row_17 rfl ?_
  refine g_iconst dX11_row_20 ?_
  refine x_p1_1 (⟨by decide, rfl⟩ : kx 1 1) pfX11_100 dX11_row_21 ?_
  have hB2 := by_1_1 (z := 0) hBc1 (⟨by decide, rfl⟩ : kx 1 1) (by decide)
  refine g_iload_n dX11_row_24 rfl ?_
  refine g_iconst dX11_row_25 ?_
  refine g_icmp_ne (tgt := 35) dX11_row_26 (by decide) ⟨by omega, by omega⟩ (by decide) (fun k3 => ?_) (fun k3 => ?_)
  · refine g_iload_n dX11_row_35 rfl ?_
    exact g_retI dX11_row_36 rfl (hQ rc1 ⟨by omega, by omega⟩ _ hB2 (FrX.s (FrX.c FrX.rf hFc1 rfl) (⟨by decide, rfl⟩ : kx 1 1) rfl) (by have q0 := (up_same : (up Pc1 1 1 0) 1 1 = 0); omega))
  · refine g_aload_n dX11_row_29 rfl ?_
    refine g_iconst dX11_row_30 ?_
    refine g_vI (av := [vI 1]) (o := 0) (st := []) (m_X11_refuse G (up Pc1 1 1 0) 1 (by decide) hB2  _ (fun rc4 hc4 Pc4 hBc4 hFc4 => ⟨rc4, rfl, ?_⟩)) cf_X11_refuse t_663 rfl (show kx 0 0 from (⟨by decide, rfl⟩ : kx 0 0)).1 ((show kx 0 0 from (⟨by decide, rfl⟩ : kx 0 0)).sh rfl) rfl rfl (Nat.le_of_ble_eq_true rfl) (by decide) rfl dX11_row_31
    refine g_pop dX11_row_34 rfl ?_
    refine g_iload_n dX11_row_35 rfl ?_
    exact g_retI dX11_row_36 rfl (hQ rc1 ⟨by omega, by omega⟩ _ hBc4 (FrX.c (FrX.s (FrX.c FrX.rf hFc1 rfl) (⟨by decide, rfl⟩ : kx 1 1) rfl) hFc4 rfl) (by have q0 := (((FrX.g hFc4 (⟨by decide, rfl⟩ : kx 1 1) rfl).trans up_same) : Pc4 1 1 = 0); omega))
set_option maxRecDepth 100000 in
set_option maxHeartbeats 4000000 in
theorem m_X11_text (G : GT) (P : PH) (a1 : Int) (h_a1 : (-2147483648) ≤ a1 ∧ a1 ≤ 2147483647) (hB : BdX P) (Q : Option PV → PH → Prop) (hQ : ∀ (r : Int) (_ : (-2147483648) ≤ r ∧ r ≤ 2147483647) (P1 : PH) (_ : BdX P1) (_ : FrX ([(3, 1)], [4]) P P1), Q (some (vI r)) P1) : Ct WSX G 11 iX11_text [vR 0, vI a1] P Q := by
  refine Ct.of (by decide) (l0 := [(0, vR 0), (1, vI a1)]) rfl (Nat.le_of_ble_eq_true rfl) ?_
  refine g_aload_n dX11_text_0 rfl ?_
  refine x_g0_10 (n := (P 0 10).toNat) (⟨by decide, rfl⟩ : kx 0 0) ffX11_71 dX11_text_1 (br_0_10 hB) ?_
  refine g_iload_n dX11_text_4 rfl ?_
  refine g_vI (av := [vI a1]) (o := (P 0 10).toNat) (st := []) (m_X9_isRow G P (P 0 10).toNat a1 (bk_0_10 hB) ⟨by omega, by omega⟩ hB  _ (fun rc1 hc1 gc1_k => ⟨rc1, rfl, ?_⟩)) cf_X9_isRow t_1014 rfl (show kx (P 0 10).toNat 28 from (bk_0_10 hB)).1 ((show kx (P 0 10).toNat 28 from (bk_0_10 hB)).sh rfl) rfl rfl (Nat.le_of_ble_eq_true rfl) (by decide) rfl dX11_text_5
  have f2 := bx_28_7 (o := (P 0 10).toNat) hB (bk_0_10 hB)
  refine g_if_ne (tgt := 13) dX11_text_8 (by decide) ⟨by omega, by omega⟩ (fun k3 => ?_) (fun k3 => ?_)
  · refine g_aload_n dX11_text_13 rfl ?_
    refine x_g0_1 (n := 3) (⟨by decide, rfl⟩ : kx 0 0) ffX11_18 dX11_text_14 rfl ?_
    refine g_iconst dX11_text_17 ?_
    refine x_p3_1 (⟨by decide, rfl⟩ : kx 3 3) pfX11_100 dX11_text_18 ?_
    have hB4 := by_3_1 (z := 0) hB (⟨by decide, rfl⟩ : kx 3 3) (by decide)
    refine g_iconst dX11_text_21 ?_
    refine g_istore_n (l1 := [(2, vI 0), (0, vR 0), (1, vI a1)]) dX11_text_22 (by decide) rfl ?_
    have L23_4 : ∀ (n23_4 : Nat) (x23_2_4 : Int) (h_x23_2_4 : 0 ≤ x23_2_4 ∧ x23_2_4 ≤ 4) (H23_4 : PH) (hB23_4 : BdX H23_4) (hE23_4 : FrX ([(3, 1)], [4]) (up P 3 1 0) H23_4) (hm23_4 : ((5 - x23_2_4) : Int).toNat < n23_4), Go WSX G 11 iX11_text 23 [(0, vR 0), (1, vI a1), (2, vI x23_2_4)] [] H23_4 Q := by
      intro n23_4
      induction n23_4 with
      | zero => intro x23_2_4 h_x23_2_4 H23_4 hB23_4 hE23_4 hm23_4; exact absurd hm23_4 (Nat.not_lt_zero _)
      | succ n23_4 ih23_4 =>
      intro x23_2_4 h_x23_2_4 H23_4 hB23_4 hE23_4 hm23_4
      refine g_iload_n dX11_text_23 rfl ?_
      refine g_aload_n dX11_text_24 rfl ?_
      refine x_g0_10 (n := (P 0 10).toNat) (⟨by decide, rfl⟩ : kx 0 0) ffX11_71 dX11_text_25 ((FrX.g hE23_4 (⟨by decide, rfl⟩ : kx 0 0) rfl).trans ((up_o (kx.ne (⟨by decide, rfl⟩ : kx 0 0) (⟨by decide, rfl⟩ : kx 3 3) rfl)).trans (br_0_10 hB))) ?_
      refine x_g28_6 (z := (P (P 0 10).toNat 6)) (bk_0_10 hB) ffX11_130 dX11_text_28 ((FrX.g hE23_4 (bk_0_10 hB) rfl).trans ((up_o (kx.ne (bk_0_10 hB) (⟨by decide, rfl⟩ : kx 3 3) rfl)).trans rfl)) ?_
      have f72 := bx_28_6 (o := (P 0 10).toNat) hB (bk_0_10 hB)
      refine g_icmp_ge (tgt := 86) dX11_text_31 (by decide) ⟨by omega, by omega⟩ ⟨by have q0 := bx_28_6 (o := (P 0 10).toNat) hB (bk_0_10 hB); omega, by have q0 := bx_28_6 (o := (P 0 10).toNat) hB (bk_0_10 hB); omega⟩ (fun k73 => ?_) (fun k73 => ?_)
      · refine g_aload_n dX11_text_86 rfl ?_
        refine x_g0_1 (n := 3) (⟨by decide, rfl⟩ : kx 0 0) ffX11_18 dX11_text_87 rfl ?_
        refine x_g3_1 (z := (H23_4 3 1)) (⟨by decide, rfl⟩ : kx 3 3) ffX11_100 dX11_text_90 rfl ?_
        exact g_retI dX11_text_93 rfl (hQ (H23_4 3 1) ⟨by have q0 := bx_3_1 (o := 3) hB23_4 (⟨by decide, rfl⟩ : kx 3 3); omega, by have q0 := bx_3_1 (o := 3) hB23_4 (⟨by decide, rfl⟩ : kx 3 3); omega⟩ _ hB23_4 (FrX.c (FrX.s FrX.rf (⟨by decide, rfl⟩ : kx 3 3) rfl) hE23_4 rfl) )
      · refine g_iload_n dX11_text_34 rfl ?_
        refine g_if_le (tgt := 47) dX11_text_35 (by decide) ⟨by omega, by omega⟩ (fun k74 => ?_) (fun k74 => ?_)
        · refine g_aload_n dX11_text_47 rfl ?_
          refine x_g0_1 (n := 3) (⟨by decide, rfl⟩ : kx 0 0) ffX11_18 dX11_text_48 rfl ?_
          refine g_aload_n dX11_text_51 rfl ?_
          refine x_g0_10 (n := (P 0 10).toNat) (⟨by decide, rfl⟩ : kx 0 0) ffX11_71 dX11_text_52 ((FrX.g hE23_4 (⟨by decide, rfl⟩ : kx 0 0) rfl).trans ((up_o (kx.ne (⟨by decide, rfl⟩ : kx 0 0) (⟨by decide, rfl⟩ : kx 3 3) rfl)).trans (br_0_10 hB))) ?_
          refine x_g28_0 (n := (crX (P 0 10).toNat 0)) (bk_0_10 hB) ffX11_162 dX11_text_55 rfl ?_
          refine g_aload_n dX11_text_58 rfl ?_
          refine x_g0_10 (n := (P 0 10).toNat) (⟨by decide, rfl⟩ : kx 0 0) ffX11_71 dX11_text_59 ((FrX.g hE23_4 (⟨by decide, rfl⟩ : kx 0 0) rfl).trans ((up_o (kx.ne (⟨by decide, rfl⟩ : kx 0 0) (⟨by decide, rfl⟩ : kx 3 3) rfl)).trans (br_0_10 hB))) ?_
          refine x_g28_1 (n := (crX (P 0 10).toNat 1)) (bk_0_10 hB) ffX11_266 dX11_text_62 rfl ?_
          refine g_iload_n dX11_text_65 rfl ?_
          refine x_l39 (z := (P (crX (P 0 10).toNat 1) x23_2_4)) (ck_28_1 (bk_0_10 hB)) dX11_text_66 ⟨by omega, by omega⟩ ((FrX.g hE23_4 (ck_28_1 (bk_0_10 hB)) rfl).trans ((up_o (kx.ne (ck_28_1 (bk_0_10 hB)) (⟨by decide, rfl⟩ : kx 3 3) rfl)).trans rfl)) ?_
          refine g_aload_n dX11_text_67 rfl ?_
          refine x_g0_10 (n := (P 0 10).toNat) (⟨by decide, rfl⟩ : kx 0 0) ffX11_71 dX11_text_68 ((FrX.g hE23_4 (⟨by decide, rfl⟩ : kx 0 0) rfl).trans ((up_o (kx.ne (⟨by decide, rfl⟩ : kx 0 0) (⟨by decide, rfl⟩ : kx 3 3) rfl)).trans (br_0_10 hB))) ?_
          refine g_iload_n dX11_text_71 rfl ?_
          refine g_iload_n dX11_text_72 rfl ?_
          refine g_vI (av := [vI a1, vI x23_2_4]) (o := (P 0 10).toNat) (st := [vI (P (crX (P 0 10).toNat 1) x23_2_4), vR (crX (P 0 10).toNat 0), vR 3]) (m_X9_valueOf G H23_4 (P 0 10).toNat a1 x23_2_4 (bk_0_10 hB) ⟨by omega, by omega⟩ ⟨by omega, by omega⟩ hB23_4  _ (fun rc75 hc75 => ⟨rc75, rfl, ?_⟩)) cf_X9_valueOf t_1034 rfl (show kx (P 0 10).toNat 28 from (bk_0_10 hB)).1 ((show kx (P 0 10).toNat 28 from (bk_0_10 hB)).sh rfl) rfl rfl (Nat.le_of_ble_eq_true rfl) (by decide) rfl dX11_text_73
          refine g_iconst dX11_text_76 ?_
          have f76 := bx_39 (o := (crX (P 0 10).toNat 1)) (k := x23_2_4) hB (ck_28_1 (bk_0_10 hB))
          refine g_sV (av := [vR 3, vR (crX (P 0 10).toNat 0), vI (P (crX (P 0 10).toNat 1) x23_2_4), vI rc75, vI 0]) (st := []) (m_X11_writeValue_B10 G H23_4 (crX (P 0 10).toNat 0) (P (crX (P 0 10).toNat 1) x23_2_4) rc75 0 (ck_28_0 (bk_0_10 hB)) ⟨by have q0 := bx_39 (o := (crX (P 0 10).toNat 1)) (k := x23_2_4) hB (ck_28_1 (bk_0_10 hB)); omega, by have q0 := bx_39 (o := (crX (P 0 10).toNat 1)) (k := x23_2_4) hB (ck_28_1 (bk_0_10 hB)); omega⟩ ⟨by omega, by omega⟩ (by decide) hB23_4 (by omega) _ (fun Pc77 hBc77 hFc77 => ⟨rfl, ?_⟩)) cf_X11_writeValue t_1038 rfl (Nat.le_of_ble_eq_true rfl) (by decide) rfl dX11_text_77
          refine g_iinc (l1 := [(2, vI (x23_2_4 + 1)), (0, vR 0), (1, vI a1)]) dX11_text_80 rfl (by decide) rfl ?_
          refine g_goto (tgt := 23) dX11_text_83 (by decide) ?_
          refine g_forget (l1 := [(0, vR 0), (1, vI a1), (2, vI (x23_2_4 + 1))]) (by intro q hq; simp only [List.mem_cons, List.not_mem_nil, or_false] at hq ⊢; rcases hq with rfl | rfl | rfl <;> simp) ?_
          exact ih23_4 (x23_2_4 + 1) ⟨by omega, by omega⟩ _ hBc77 (FrX.c (FrX.c FrX.rf hE23_4 rfl) hFc77 rfl) (by omega)
        · refine g_aload_n dX11_text_38 rfl ?_
          refine x_g0_1 (n := 3) (⟨by decide, rfl⟩ : kx 0 0) ffX11_18 dX11_text_39 rfl ?_
          refine g_bipush dX11_text_42 (by decide) ?_
          refine g_vV (av := [vI 44]) (o := 3) (st := []) (m_X1_add_B10 G H23_4 44 (by decide) hB23_4  _ (fun Pc78 hBc78 hFc78 => ⟨rfl, ?_⟩)) cf_X1_add t_1033 rfl (show kx 3 3 from (⟨by decide, rfl⟩ : kx 3 3)).1 ((show kx 3 3 from (⟨by decide, rfl⟩ : kx 3 3)).sh rfl) rfl rfl (Nat.le_of_ble_eq_true rfl) (by decide) rfl dX11_text_44
          refine g_aload_n dX11_text_47 rfl ?_
          refine x_g0_1 (n := 3) (⟨by decide, rfl⟩ : kx 0 0) ffX11_18 dX11_text_48 rfl ?_
          refine g_aload_n dX11_text_51 rfl ?_
          refine x_g0_10 (n := (P 0 10).toNat) (⟨by decide, rfl⟩ : kx 0 0) ffX11_71 dX11_text_52 ((FrX.g hFc78 (⟨by decide, rfl⟩ : kx 0 0) rfl).trans ((FrX.g hE23_4 (⟨by decide, rfl⟩ : kx 0 0) rfl).trans ((up_o (kx.ne (⟨by decide, rfl⟩ : kx 0 0) (⟨by decide, rfl⟩ : kx 3 3) rfl)).trans (br_0_10 hB)))) ?_
          refine x_g28_0 (n := (crX (P 0 10).toNat 0)) (bk_0_10 hB) ffX11_162 dX11_text_55 rfl ?_
          refine g_aload_n dX11_text_58 rfl ?_
          refine x_g0_10 (n := (P 0 10).toNat) (⟨by decide, rfl⟩ : kx 0 0) ffX11_71 dX11_text_59 ((FrX.g hFc78 (⟨by decide, rfl⟩ : kx 0 0) rfl).trans ((FrX.g hE23_4 (⟨by decide, rfl⟩ : kx 0 0) rfl).trans ((up_o (kx.ne (⟨by decide, rfl⟩ : kx 0 0) (⟨by decide, rfl⟩ : kx 3 3) rfl)).trans (br_0_10 hB)))) ?_
          refine x_g28_1 (n := (crX (P 0 10).toNat 1)) (bk_0_10 hB) ffX11_266 dX11_text_62 rfl ?_
          refine g_iload_n dX11_text_65 rfl ?_
          refine x_l39 (z := (P (crX (P 0 10).toNat 1) x23_2_4)) (ck_28_1 (bk_0_10 hB)) dX11_text_66 ⟨by omega, by omega⟩ ((FrX.g hFc78 (ck_28_1 (bk_0_10 hB)) rfl).trans ((FrX.g hE23_4 (ck_28_1 (bk_0_10 hB)) rfl).trans ((up_o (kx.ne (ck_28_1 (bk_0_10 hB)) (⟨by decide, rfl⟩ : kx 3 3) rfl)).trans rfl))) ?_
          refine g_aload_n dX11_text_67 rfl ?_
          refine x_g0_10 (n := (P 0 10).toNat) (⟨by decide, rfl⟩ : kx 0 0) ffX11_71 dX11_text_68 ((FrX.g hFc78 (⟨by decide, rfl⟩ : kx 0 0) rfl).trans ((FrX.g hE23_4 (⟨by decide, rfl⟩ : kx 0 0) rfl).trans ((up_o (kx.ne (⟨by decide, rfl⟩ : kx 0 0) (⟨by decide, rfl⟩ : kx 3 3) rfl)).trans (br_0_10 hB)))) ?_
          refine g_iload_n dX11_text_71 rfl ?_
          refine g_iload_n dX11_text_72 rfl ?_
          refine g_vI (av := [vI a1, vI x23_2_4]) (o := (P 0 10).toNat) (st := [vI (P (crX (P 0 10).toNat 1) x23_2_4), vR (crX (P 0 10).toNat 0), vR 3]) (m_X9_valueOf G Pc78 (P 0 10).toNat a1 x23_2_4 (bk_0_10 hB) ⟨by omega, by omega⟩ ⟨by omega, by omega⟩ hBc78  _ (fun rc79 hc79 => ⟨rc79, rfl, ?_⟩)) cf_X9_valueOf t_1034 rfl (show kx (P 0 10).toNat 28 from (bk_0_10 hB)).1 ((show kx (P 0 10).toNat 28 from (bk_0_10 hB)).sh rfl) rfl rfl (Nat.le_of_ble_eq_true rfl) (by decide) rfl dX11_text_73
          refine g_iconst dX11_text_76 ?_
          have f80 := bx_39 (o := (crX (P 0 10).toNat 1)) (k := x23_2_4) hB (ck_28_1 (bk_0_10 hB))
          refine g_sV (av := [vR 3, vR (crX (P 0 10).toNat 0), vI (P (crX (P 0 10).toNat 1) x23_2_4), vI rc79, vI 0]) (st := []) (m_X11_writeValue_B10 G Pc78 (crX (P 0 10).toNat 0) (P (crX (P 0 10).toNat 1) x23_2_4) rc79 0 (ck_28_0 (bk_0_10 hB)) ⟨by have q0 := bx_39 (o := (crX (P 0 10).toNat 1)) (k := x23_2_4) hB (ck_28_1 (bk_0_10 hB)); omega, by have q0 := bx_39 (o := (crX (P 0 10).toNat 1)) (k := x23_2_4) hB (ck_28_1 (bk_0_10 hB)); omega⟩ ⟨by omega, by omega⟩ (by decide) hBc78 (by omega) _ (fun Pc81 hBc81 hFc81 => ⟨rfl, ?_⟩)) cf_X11_writeValue t_1038 rfl (Nat.le_of_ble_eq_true rfl) (by decide) rfl dX11_text_77
          refine g_iinc (l1 := [(2, vI (x23_2_4 + 1)), (0, vR 0), (1, vI a1)]) dX11_text_80 rfl (by decide) rfl ?_
          refine g_goto (tgt := 23) dX11_text_83 (by decide) ?_
          refine g_forget (l1 := [(0, vR 0), (1, vI a1), (2, vI (x23_2_4 + 1))]) (by intro q hq; simp only [List.mem_cons, List.not_mem_nil, or_false] at hq ⊢; rcases hq with rfl | rfl | rfl <;> simp) ?_
          exact ih23_4 (x23_2_4 + 1) ⟨by omega, by omega⟩ _ hBc81 (FrX.c (FrX.c (FrX.c FrX.rf hE23_4 rfl) hFc78 rfl) hFc81 rfl) (by omega)
    refine g_forget (l1 := [(0, vR 0), (1, vI a1), (2, vI 0)]) (by intro q hq; simp only [List.mem_cons, List.not_mem_nil, or_false] at hq ⊢; rcases hq with rfl | rfl | rfl <;> simp) ?_
    exact L23_4 _ 0 (by decide) _ hB4 FrX.rf (Nat.lt_succ_self _)
  · refine g_iconst dX11_text_11 ?_
    exact g_retI dX11_text_12 rfl (hQ (-1) (by decide) _ hB FrX.rf )
set_option maxRecDepth 100000 in
set_option maxHeartbeats 4000000 in
theorem m_X11_octet (G : GT) (P : PH) (a1 : Int) (h_a1 : (-2147483648) ≤ a1 ∧ a1 ≤ 2147483647) (hB : BdX P) (Q : Option PV → PH → Prop) (hQ : ∀ (r : Int) (_ : (-2147483648) ≤ r ∧ r ≤ 2147483647), Q (some (vI r)) P) : Ct WSX G 2 iX11_octet [vR 0, vI a1] P Q := by
  refine Ct.of (by decide) (l0 := [(0, vR 0), (1, vI a1)]) rfl (Nat.le_of_ble_eq_true rfl) ?_
  refine g_aload_n dX11_octet_0 rfl ?_
  refine x_g0_1 (n := 3) (⟨by decide, rfl⟩ : kx 0 0) ffX11_18 dX11_octet_1 rfl ?_
  refine g_iload_n dX11_octet_4 rfl ?_
  refine g_vI (av := [vI a1]) (o := 3) (st := []) (m_X1_byteAt_B10 G P a1 ⟨by omega, by omega⟩ hB  _ (fun rc1 hc1 => ⟨rc1, rfl, ?_⟩)) cf_X1_byteAt t_1059 rfl (show kx 3 3 from (⟨by decide, rfl⟩ : kx 3 3)).1 ((show kx 3 3 from (⟨by decide, rfl⟩ : kx 3 3)).sh rfl) rfl rfl (Nat.le_of_ble_eq_true rfl) (by decide) rfl dX11_octet_5
  exact g_retI dX11_octet_8 rfl (hQ rc1 ⟨by omega, by omega⟩ )
set_option maxRecDepth 100000 in
set_option maxHeartbeats 4000000 in
theorem m_X11_trialTakesAlike (G : GT) (P : PH) (hB : BdX P) (Q : Option PV → PH → Prop) (hQ : ∀ (r : Int) (_ : 0 ≤ r ∧ r ≤ 1), Q (some (vI r)) P) : Ct WSX G 3 iX11_trialTakesAlike [vR 0] P Q := by
  refine Ct.of (by decide) (l0 := [(0, vR 0)]) rfl (Nat.le_of_ble_eq_true rfl) ?_
  refine g_iconst dX11_trialTakesAlike_0 ?_
  refine g_istore_n (l1 := [(1, vI 0), (0, vR 0)]) dX11_trialTakesAlike_1 (by decide) rfl ?_
  have L2_0 : ∀ (n2_0 : Nat) (x2_1_0 : Int) (h_x2_1_0 : 0 ≤ x2_1_0 ∧ x2_1_0 ≤ 4096) (hm2_0 : ((4097 - x2_1_0) : Int).toNat < n2_0), Go WSX G 3 iX11_trialTakesAlike 2 [(0, vR 0), (1, vI x2_1_0)] [] P Q := by
    intro n2_0
    induction n2_0 with
    | zero => intro x2_1_0 h_x2_1_0 hm2_0; exact absurd hm2_0 (Nat.not_lt_zero _)
    | succ n2_0 ih2_0 =>
    intro x2_1_0 h_x2_1_0 hm2_0
    refine g_iload_n dX11_trialTakesAlike_2 rfl ?_
    refine g_aload_n dX11_trialTakesAlike_3 rfl ?_
    refine x_g0_3 (n := 8) (⟨by decide, rfl⟩ : kx 0 0) ffX11_33 dX11_trialTakesAlike_4 rfl ?_
    refine x_g8_3 (z := (P 8 3)) (⟨by decide, rfl⟩ : kx 8 8) ffX11_231 dX11_trialTakesAlike_7 rfl ?_
    have f121 := bx_8_3 (o := 8) hB (⟨by decide, rfl⟩ : kx 8 8)
    refine g_icmp_ge (tgt := 59) dX11_trialTakesAlike_10 (by decide) ⟨by omega, by omega⟩ ⟨by have q0 := bx_8_3 (o := 8) hB (⟨by decide, rfl⟩ : kx 8 8); omega, by have q0 := bx_8_3 (o := 8) hB (⟨by decide, rfl⟩ : kx 8 8); omega⟩ (fun k122 => ?_) (fun k122 => ?_)
    · refine g_iconst dX11_trialTakesAlike_59 ?_
      exact g_retZ dX11_trialTakesAlike_60 rfl (by decide) (hQ 1 (by decide) )
    · refine g_aload_n dX11_trialTakesAlike_13 rfl ?_
      refine x_g0_3 (n := 8) (⟨by decide, rfl⟩ : kx 0 0) ffX11_33 dX11_trialTakesAlike_14 rfl ?_
      refine x_g8_0 (n := 9) (⟨by decide, rfl⟩ : kx 8 8) ffX11_232 dX11_trialTakesAlike_17 rfl ?_
      refine g_iload_n dX11_trialTakesAlike_20 rfl ?_
      refine x_l9 (z := (P 9 x2_1_0)) (⟨by decide, rfl⟩ : kx 9 9) dX11_trialTakesAlike_21 ⟨by omega, by omega⟩ rfl ?_
      refine g_istore_n (l1 := [(2, vI (P 9 x2_1_0)), (0, vR 0), (1, vI x2_1_0)]) dX11_trialTakesAlike_22 (by decide) rfl ?_
      refine g_aload_n dX11_trialTakesAlike_23 rfl ?_
      refine x_g0_5 (n := 14) (⟨by decide, rfl⟩ : kx 0 0) ffX11_43 dX11_trialTakesAlike_24 rfl ?_
      refine g_aload_n dX11_trialTakesAlike_27 rfl ?_
      refine x_g0_10 (n := (P 0 10).toNat) (⟨by decide, rfl⟩ : kx 0 0) ffX11_71 dX11_trialTakesAlike_28 (br_0_10 hB) ?_
      refine g_iload_n dX11_trialTakesAlike_31 rfl ?_
      have f123 := bx_9 (o := 9) (k := x2_1_0) hB (⟨by decide, rfl⟩ : kx 9 9)
      refine g_vL (av := [vR (P 0 10).toNat, vI (P 9 x2_1_0)]) (o := 14) (st := []) (m_X5_takings G P 14 (P 0 10).toNat (P 9 x2_1_0) (⟨by decide, rfl⟩ : kx 14 14) (bk_0_10 hB) ⟨by have q0 := bx_9 (o := 9) (k := x2_1_0) hB (⟨by decide, rfl⟩ : kx 9 9); omega, by have q0 := bx_9 (o := 9) (k := x2_1_0) hB (⟨by decide, rfl⟩ : kx 9 9); omega⟩ hB  _ (fun rc124 hc124 => ⟨rc124, rfl, ?_⟩)) cf_X5_takings t_1197 rfl (show kx 14 14 from (⟨by decide, rfl⟩ : kx 14 14)).1 ((show kx 14 14 from (⟨by decide, rfl⟩ : kx 14 14)).sh rfl) rfl rfl (Nat.le_of_ble_eq_true rfl) (by decide) rfl dX11_trialTakesAlike_32
      refine g_aload_n dX11_trialTakesAlike_35 rfl ?_
      refine x_g0_6 (n := 16) (⟨by decide, rfl⟩ : kx 0 0) ffX11_47 dX11_trialTakesAlike_36 rfl ?_
      refine g_aload_n dX11_trialTakesAlike_39 rfl ?_
      refine x_g0_10 (n := (P 0 10).toNat) (⟨by decide, rfl⟩ : kx 0 0) ffX11_71 dX11_trialTakesAlike_40 (br_0_10 hB) ?_
      refine g_iload_n dX11_trialTakesAlike_43 rfl ?_
      refine g_vL (av := [vR (P 0 10).toNat, vI (P 9 x2_1_0)]) (o := 16) (st := [vL rc124]) (m_X5_takings G P 16 (P 0 10).toNat (P 9 x2_1_0) (⟨by decide, rfl⟩ : kx 16 14) (bk_0_10 hB) ⟨by have q0 := bx_9 (o := 9) (k := x2_1_0) hB (⟨by decide, rfl⟩ : kx 9 9); omega, by have q0 := bx_9 (o := 9) (k := x2_1_0) hB (⟨by decide, rfl⟩ : kx 9 9); omega⟩ hB  _ (fun rc125 hc125 => ⟨rc125, rfl, ?_⟩)) cf_X5_takings t_1197 rfl (show kx 16 14 from (⟨by decide, rfl⟩ : kx 16 14)).1 ((show kx 16 14 from (⟨by decide, rfl⟩ : kx 16 14)).sh rfl) rfl rfl (Nat.le_of_ble_eq_true rfl) (by decide) rfl dX11_trialTakesAlike_44
      refine g_lcmp dX11_trialTakesAlike_47 ⟨by omega, by omega⟩ ⟨by omega, by omega⟩ ?_
      refine g_nm (fun b126 e_b126 => ?_)
      have h_b126 := lcmpv_b rc124 rc125
      have h0_b126 := lcmpv_0 (x := rc124) (y := rc125)
      have h1_b126 := lcmpv_lt (x := rc124) (y := rc125)
      have h2_b126 := lcmpv_gt (x := rc124) (y := rc125)
      rw [← e_b126] at h_b126 h0_b126 h1_b126 h2_b126
      refine g_if_eq (tgt := 53) dX11_trialTakesAlike_48 (by decide) ⟨by omega, by omega⟩ (fun k127 => ?_) (fun k127 => ?_)
      · refine g_iinc (l1 := [(1, vI (x2_1_0 + 1)), (2, vI (P 9 x2_1_0)), (0, vR 0)]) dX11_trialTakesAlike_53 rfl (by decide) rfl ?_
        refine g_goto (tgt := 2) dX11_trialTakesAlike_56 (by decide) ?_
        refine g_forget (l1 := [(0, vR 0), (1, vI (x2_1_0 + 1))]) (by intro q hq; simp only [List.mem_cons, List.not_mem_nil, or_false] at hq ⊢; rcases hq with rfl | rfl <;> simp) ?_
        exact ih2_0 (x2_1_0 + 1) ⟨by omega, by omega⟩ (by omega)
      · refine g_iconst dX11_trialTakesAlike_51 ?_
        exact g_retZ dX11_trialTakesAlike_52 rfl (by decide) (hQ 0 (by decide) )
  refine g_forget (l1 := [(0, vR 0), (1, vI 0)]) (by intro q hq; simp only [List.mem_cons, List.not_mem_nil, or_false] at hq ⊢; rcases hq with rfl | rfl <;> simp) ?_
  exact L2_0 _ 0 (by decide) (Nat.lt_succ_self _)
set_option maxRecDepth 100000 in
set_option maxHeartbeats 4000000 in
theorem m_X11_allTests (G : GT) (P : PH) (o1 : Nat) (k_o1 : kx o1 14) (hB : BdX P) (Q : Option PV → PH → Prop) (hQ : ∀ (r : Int) (_ : (-2147483648) ≤ r ∧ r ≤ 2147483647) (P1 : PH) (_ : BdX P1) (_ : FrX ([(5, 2), (11, 3), (51, 4), (51, 5), (51, 12), (51, 14)], [6, 7, 12, 13, 54]) P P1), Q (some (vI r)) P1) : Ct WSX G 30 iX11_allTests [vR 0, vR o1] P Q := by
  refine Ct.of (by decide) (l0 := [(0, vR 0), (1, vR o1)]) rfl (Nat.le_of_ble_eq_true rfl) ?_
  refine g_aload_n dX11_allTests_0 rfl ?_
  refine x_g0_13 (n := 125) (⟨by decide, rfl⟩ : kx 0 0) ffX11_92 dX11_allTests_1 rfl ?_
  refine g_aload_n dX11_allTests_4 rfl ?_
  refine g_aload_n dX11_allTests_5 rfl ?_
  refine x_g14_3 (z := (P o1 3)) k_o1 ffX11_180 dX11_allTests_6 rfl ?_
  have f1 := bx_14_3 (o := o1) hB k_o1
  refine g_vL (av := [vR o1, vI (P o1 3)]) (o := 125) (st := []) (m_X10_measureAll G P o1 (P o1 3) k_o1 ⟨by have q0 := bx_14_3 (o := o1) hB k_o1; omega, by have q0 := bx_14_3 (o := o1) hB k_o1; omega⟩ hB  _ (fun rc2 hc2 Pc2 hBc2 hFc2 => ⟨rc2, rfl, ?_⟩)) cf_X10_measureAll t_1070 rfl (show kx 125 51 from (⟨by decide, rfl⟩ : kx 125 51)).1 ((show kx 125 51 from (⟨by decide, rfl⟩ : kx 125 51)).sh rfl) rfl rfl (Nat.le_of_ble_eq_true rfl) (by decide) rfl dX11_allTests_9
  refine g_sI (av := [vL rc2]) (st := []) (m_X10_testsIn G Pc2 rc2 ⟨by omega, by omega⟩ hBc2  _ (fun rc3 hc3 => ⟨rc3, rfl, ?_⟩)) cf_X10_testsIn t_1148 rfl (Nat.le_of_ble_eq_true rfl) (by decide) rfl dX11_allTests_12
  exact g_retI dX11_allTests_15 rfl (hQ rc3 ⟨by omega, by omega⟩ _ hBc2 (FrX.c FrX.rf hFc2 rfl) )
set_option maxRecDepth 100000 in
set_option maxHeartbeats 4000000 in
theorem m_X11_kept (G : GT) (P : PH) (a1 : Int) (a2 : Int) (h_a1 : (-2147483648) ≤ a1 ∧ a1 ≤ 2147483647) (h_a2 : (-2147483648) ≤ a2 ∧ a2 ≤ 2147483647) (hB : BdX P) (Q : Option PV → PH → Prop) (hQ : ∀ (r : Int) (_ : (-2147483648) ≤ r ∧ r ≤ 2147483647), Q (some (vI r)) P) : Ct WSX G 4 iX11_kept [vR 0, vI a1, vI a2] P Q := by
  refine Ct.of (by decide) (l0 := [(0, vR 0), (1, vI a1), (2, vI a2)]) rfl (Nat.le_of_ble_eq_true rfl) ?_
  refine g_aload_n dX11_kept_0 rfl ?_
  refine x_g0_7 (n := 18) (⟨by decide, rfl⟩ : kx 0 0) ffX11_53 dX11_kept_1 rfl ?_
  refine g_iload_n dX11_kept_4 rfl ?_
  refine g_iload_n dX11_kept_5 rfl ?_
  refine g_vI (av := [vI a1, vI a2]) (o := 18) (st := []) (m_X0_tellKept G P a1 a2 ⟨by omega, by omega⟩ ⟨by omega, by omega⟩ hB  _ (fun rc1 hc1 => ⟨rc1, rfl, ?_⟩)) cf_X0_tellKept t_1326 rfl (show kx 18 16 from (⟨by decide, rfl⟩ : kx 18 16)).1 ((show kx 18 16 from (⟨by decide, rfl⟩ : kx 18 16)).sh rfl) rfl rfl (Nat.le_of_ble_eq_true rfl) (by decide) rfl dX11_kept_6
  exact g_retI dX11_kept_9 rfl (hQ rc1 ⟨by omega, by omega⟩ )
set_option maxRecDepth 100000 in
set_option maxHeartbeats 4000000 in
theorem m_X11_status (G : GT) (P : PH) (a1 : Int) (h_a1 : (-2147483648) ≤ a1 ∧ a1 ≤ 2147483647) (hB : BdX P) (Q : Option PV → PH → Prop) (hQ : ∀ (r : Int) (_ : (-2147483648) ≤ r ∧ r ≤ 2147483647), Q (some (vI r)) P) : Ct WSX G 1 iX11_status [vR 0, vI a1] P Q := by
  refine Ct.of (by decide) (l0 := [(0, vR 0), (1, vI a1)]) rfl (Nat.le_of_ble_eq_true rfl) ?_
  refine g_iload_n dX11_status_0 rfl ?_
  refine g_if_lt (tgt := 19) dX11_status_1 (by decide) ⟨by omega, by omega⟩ (fun k1 => ?_) (fun k1 => ?_)
  · refine g_iconst dX11_status_19 ?_
    exact g_retI dX11_status_20 rfl (hQ (-1) (by decide) )
  · refine g_iload_n dX11_status_4 rfl ?_
    refine g_bipush dX11_status_5 (by decide) ?_
    refine g_icmp_ge (tgt := 19) dX11_status_7 (by decide) ⟨by omega, by omega⟩ (by decide) (fun k2 => ?_) (fun k2 => ?_)
    · refine g_iconst dX11_status_19 ?_
      exact g_retI dX11_status_20 rfl (hQ (-1) (by decide) )
    · refine g_aload_n dX11_status_10 rfl ?_
      refine x_g0_9 (n := 69) (⟨by decide, rfl⟩ : kx 0 0) ffX11_64 dX11_status_11 rfl ?_
      refine g_iload_n dX11_status_14 rfl ?_
      refine x_l27 (z := (P 69 a1)) (⟨by decide, rfl⟩ : kx 69 27) dX11_status_15 ⟨by omega, by omega⟩ rfl ?_
      refine g_goto (tgt := 20) dX11_status_16 (by decide) ?_
      exact g_retI dX11_status_20 rfl (hQ (P 69 a1) ⟨by have q0 := bx_27 (o := 69) (k := a1) hB (⟨by decide, rfl⟩ : kx 69 27); omega, by have q0 := bx_27 (o := 69) (k := a1) hB (⟨by decide, rfl⟩ : kx 69 27); omega⟩ )
set_option maxRecDepth 100000 in
set_option maxHeartbeats 4000000 in
theorem m_X11_matched (G : GT) (P : PH) (hB : BdX P) (Q : Option PV → PH → Prop) (hQ : ∀ (r : Int) (_ : 0 ≤ r ∧ r ≤ 1), Q (some (vI r)) P) : Ct WSX G 1 iX11_matched [vR 0] P Q := by
  refine Ct.of (by decide) (l0 := [(0, vR 0)]) rfl (Nat.le_of_ble_eq_true rfl) ?_
  refine g_aload_n dX11_matched_0 rfl ?_
  refine x_g0_10 (n := (P 0 10).toNat) (⟨by decide, rfl⟩ : kx 0 0) ffX11_71 dX11_matched_1 (br_0_10 hB) ?_
  refine x_g28_6 (z := (P (P 0 10).toNat 6)) (bk_0_10 hB) ffX11_130 dX11_matched_4 rfl ?_
  have f1 := bx_28_6 (o := (P 0 10).toNat) hB (bk_0_10 hB)
  refine g_if_le (tgt := 14) dX11_matched_7 (by decide) ⟨by have q0 := bx_28_6 (o := (P 0 10).toNat) hB (bk_0_10 hB); omega, by have q0 := bx_28_6 (o := (P 0 10).toNat) hB (bk_0_10 hB); omega⟩ (fun k2 => ?_) (fun k2 => ?_)
  · refine g_iconst dX11_matched_14 ?_
    exact g_retZ dX11_matched_15 rfl (by decide) (hQ 0 (by decide) )
  · refine g_iconst dX11_matched_10 ?_
    refine g_goto (tgt := 15) dX11_matched_11 (by decide) ?_
    exact g_retZ dX11_matched_15 rfl (by decide) (hQ 1 (by decide) )
set_option maxRecDepth 100000 in
set_option maxHeartbeats 4000000 in
theorem m_X11_arm (G : GT) (P : PH) (a1 : Int) (a2 : Int) (h_a1 : (-2147483648) ≤ a1 ∧ a1 ≤ 2147483647) (h_a2 : (-2147483648) ≤ a2 ∧ a2 ≤ 2147483647) (hB : BdX P) (Q : Option PV → PH → Prop) (hQ : ∀ (r : Int) (_ : (-2147483648) ≤ r ∧ r ≤ 2147483647), Q (some (vI r)) P) : Ct WSX G 4 iX11_arm [vR 0, vI a1, vI a2] P Q := by
  refine Ct.of (by decide) (l0 := [(0, vR 0), (1, vI a1), (2, vI a2)]) rfl (Nat.le_of_ble_eq_true rfl) ?_
  refine g_aload_n dX11_arm_0 rfl ?_
  refine x_g0_5 (n := 14) (⟨by decide, rfl⟩ : kx 0 0) ffX11_43 dX11_arm_1 rfl ?_
  refine g_iload_n dX11_arm_4 rfl ?_
  refine g_vI (av := [vI a1]) (o := 14) (st := []) (m_X5_armAt G P 14 a1 (⟨by decide, rfl⟩ : kx 14 14) ⟨by omega, by omega⟩ hB  _ (fun rc1 hc1 => ⟨rc1, rfl, ?_⟩)) cf_X5_armAt t_946 rfl (show kx 14 14 from (⟨by decide, rfl⟩ : kx 14 14)).1 ((show kx 14 14 from (⟨by decide, rfl⟩ : kx 14 14)).sh rfl) rfl rfl (Nat.le_of_ble_eq_true rfl) (by decide) rfl dX11_arm_5
  refine g_istore_n (l1 := [(3, vI rc1), (0, vR 0), (1, vI a1), (2, vI a2)]) dX11_arm_8 (by decide) rfl ?_
  refine g_iload_n dX11_arm_9 rfl ?_
  refine g_iconst dX11_arm_10 ?_
  refine g_icmp_ne (tgt := 16) dX11_arm_11 (by decide) ⟨by omega, by omega⟩ (by decide) (fun k2 => ?_) (fun k2 => ?_)
  · refine g_iload_n dX11_arm_16 rfl ?_
    by_cases k3 : a2 = 0
    · refine g_tswI (tgt := 52) 0 dX11_arm_17 ⟨by omega, by omega⟩ (by omega) (by omega) rfl (by decide) ?_
      refine g_iload_n dX11_arm_52 rfl ?_
      exact g_retI dX11_arm_53 rfl (hQ rc1 ⟨by omega, by omega⟩ )
    by_cases k4 : a2 = 1
    · refine g_tswI (tgt := 54) 1 dX11_arm_17 ⟨by omega, by omega⟩ (by omega) (by omega) rfl (by decide) ?_
      refine g_aload_n dX11_arm_54 rfl ?_
      refine x_g0_10 (n := (P 0 10).toNat) (⟨by decide, rfl⟩ : kx 0 0) ffX11_71 dX11_arm_55 (br_0_10 hB) ?_
      refine g_iload_n dX11_arm_58 rfl ?_
      refine g_vI (av := [vI rc1]) (o := (P 0 10).toNat) (st := []) (m_X9_guardOf G P (P 0 10).toNat rc1 (bk_0_10 hB) ⟨by omega, by omega⟩ hB  _ (fun rc5 hc5 => ⟨rc5, rfl, ?_⟩)) cf_X9_guardOf t_954 rfl (show kx (P 0 10).toNat 28 from (bk_0_10 hB)).1 ((show kx (P 0 10).toNat 28 from (bk_0_10 hB)).sh rfl) rfl rfl (Nat.le_of_ble_eq_true rfl) (by decide) rfl dX11_arm_59
      exact g_retI dX11_arm_62 rfl (hQ rc5 ⟨by omega, by omega⟩ )
    by_cases k6 : a2 = 2
    · refine g_tswI (tgt := 63) 2 dX11_arm_17 ⟨by omega, by omega⟩ (by omega) (by omega) rfl (by decide) ?_
      refine g_aload_n dX11_arm_63 rfl ?_
      refine g_iload_n dX11_arm_64 rfl ?_
      refine g_vI (av := [vI a1]) (o := 0) (st := []) (m_X11_isUseful G P a1 ⟨by omega, by omega⟩ hB  _ (fun rc7 hc7 => ⟨rc7, rfl, ?_⟩)) cf_X11_isUseful t_958 rfl (show kx 0 0 from (⟨by decide, rfl⟩ : kx 0 0)).1 ((show kx 0 0 from (⟨by decide, rfl⟩ : kx 0 0)).sh rfl) rfl rfl (Nat.le_of_ble_eq_true rfl) (by decide) rfl dX11_arm_65
      refine g_if_eq (tgt := 75) dX11_arm_68 (by decide) ⟨by omega, by omega⟩ (fun k8 => ?_) (fun k8 => ?_)
      · refine g_iconst dX11_arm_75 ?_
        exact g_retI dX11_arm_76 rfl (hQ 0 (by decide) )
      · refine g_iconst dX11_arm_71 ?_
        refine g_goto (tgt := 76) dX11_arm_72 (by decide) ?_
        exact g_retI dX11_arm_76 rfl (hQ 1 (by decide) )
    by_cases k9 : a2 = 3
    · refine g_tswI (tgt := 77) 3 dX11_arm_17 ⟨by omega, by omega⟩ (by omega) (by omega) rfl (by decide) ?_
      refine g_aload_n dX11_arm_77 rfl ?_
      refine g_iload_n dX11_arm_78 rfl ?_
      refine g_vI (av := [vI rc1]) (o := 0) (st := []) (m_X11_rowsFitting G P rc1 ⟨by omega, by omega⟩ hB  _ (fun rc10 hc10 => ⟨rc10, rfl, ?_⟩)) cf_X11_rowsFitting t_970 rfl (show kx 0 0 from (⟨by decide, rfl⟩ : kx 0 0)).1 ((show kx 0 0 from (⟨by decide, rfl⟩ : kx 0 0)).sh rfl) rfl rfl (Nat.le_of_ble_eq_true rfl) (by decide) rfl dX11_arm_79
      exact g_retI dX11_arm_82 rfl (hQ rc10 ⟨by omega, by omega⟩ )
    by_cases k11 : a2 = 4
    · refine g_tswI (tgt := 83) 4 dX11_arm_17 ⟨by omega, by omega⟩ (by omega) (by omega) rfl (by decide) ?_
      refine g_aload_n dX11_arm_83 rfl ?_
      refine g_iload_n dX11_arm_84 rfl ?_
      refine g_vI (av := [vI a1]) (o := 0) (st := []) (m_X11_rowsTaken G P a1 ⟨by omega, by omega⟩ hB  _ (fun rc12 hc12 => ⟨rc12, rfl, ?_⟩)) cf_X11_rowsTaken t_974 rfl (show kx 0 0 from (⟨by decide, rfl⟩ : kx 0 0)).1 ((show kx 0 0 from (⟨by decide, rfl⟩ : kx 0 0)).sh rfl) rfl rfl (Nat.le_of_ble_eq_true rfl) (by decide) rfl dX11_arm_85
      exact g_retI dX11_arm_88 rfl (hQ rc12 ⟨by omega, by omega⟩ )
    refine g_tswO (tgt := 89) dX11_arm_17 ⟨by omega, by omega⟩ (by omega) (by decide) ?_
    refine g_iconst dX11_arm_89 ?_
    exact g_retI dX11_arm_90 rfl (hQ (-1) (by decide) )
  · refine g_iconst dX11_arm_14 ?_
    exact g_retI dX11_arm_15 rfl (hQ (-1) (by decide) )
set_option maxRecDepth 100000 in
set_option maxHeartbeats 4000000 in
theorem m_X11_missing (G : GT) (P : PH) (a1 : Int) (h_a1 : (-2147483648) ≤ a1 ∧ a1 ≤ 2147483647) (hB : BdX P) (Q : Option PV → PH → Prop) (hQ : ∀ (r : Int) (_ : (-2147483648) ≤ r ∧ r ≤ 2147483647), Q (some (vI r)) P) : Ct WSX G 4 iX11_missing [vR 0, vI a1] P Q := by
  refine Ct.of (by decide) (l0 := [(0, vR 0), (1, vI a1)]) rfl (Nat.le_of_ble_eq_true rfl) ?_
  refine g_aload_n dX11_missing_0 rfl ?_
  refine g_vI (av := []) (o := 0) (st := []) (m_X11_matched G P  hB  _ (fun rc1 hc1 => ⟨rc1, rfl, ?_⟩)) cf_X11_matched t_937 rfl (show kx 0 0 from (⟨by decide, rfl⟩ : kx 0 0)).1 ((show kx 0 0 from (⟨by decide, rfl⟩ : kx 0 0)).sh rfl) rfl rfl (Nat.le_of_ble_eq_true rfl) (by decide) rfl dX11_missing_1
  refine g_if_eq (tgt := 12) dX11_missing_4 (by decide) ⟨by omega, by omega⟩ (fun k2 => ?_) (fun k2 => ?_)
  · refine g_iconst dX11_missing_12 ?_
    exact g_retI dX11_missing_13 rfl (hQ (-1) (by decide) )
  · refine g_iload_n dX11_missing_7 rfl ?_
    refine g_iconst dX11_missing_8 ?_
    refine g_icmp_ge (tgt := 14) dX11_missing_9 (by decide) ⟨by omega, by omega⟩ (by decide) (fun k3 => ?_) (fun k3 => ?_)
    · refine g_aload_n dX11_missing_14 rfl ?_
      refine x_g0_5 (n := 14) (⟨by decide, rfl⟩ : kx 0 0) ffX11_43 dX11_missing_15 rfl ?_
      refine g_aload_n dX11_missing_18 rfl ?_
      refine x_g0_10 (n := (P 0 10).toNat) (⟨by decide, rfl⟩ : kx 0 0) ffX11_71 dX11_missing_19 (br_0_10 hB) ?_
      refine g_aload_n dX11_missing_22 rfl ?_
      refine x_g0_5 (n := 14) (⟨by decide, rfl⟩ : kx 0 0) ffX11_43 dX11_missing_23 rfl ?_
      refine x_g14_1 (z := (P 14 1)) (⟨by decide, rfl⟩ : kx 14 14) ffX11_176 dX11_missing_26 rfl ?_
      have f4 := bx_14_1 (o := 14) hB (⟨by decide, rfl⟩ : kx 14 14)
      refine g_vI (av := [vR (P 0 10).toNat, vI (P 14 1)]) (o := 14) (st := []) (m_X5_unguarded G P 14 (P 0 10).toNat (P 14 1) (⟨by decide, rfl⟩ : kx 14 14) (bk_0_10 hB) ⟨by have q0 := bx_14_1 (o := 14) hB (⟨by decide, rfl⟩ : kx 14 14); omega, by have q0 := bx_14_1 (o := 14) hB (⟨by decide, rfl⟩ : kx 14 14); omega⟩ hB  _ (fun rc5 hc5 => ⟨rc5, rfl, ?_⟩)) cf_X5_unguarded t_962 rfl (show kx 14 14 from (⟨by decide, rfl⟩ : kx 14 14)).1 ((show kx 14 14 from (⟨by decide, rfl⟩ : kx 14 14)).sh rfl) rfl rfl (Nat.le_of_ble_eq_true rfl) (by decide) rfl dX11_missing_29
      refine g_istore_n (l1 := [(2, vI rc5), (0, vR 0), (1, vI a1)]) dX11_missing_32 (by decide) rfl ?_
      refine g_iload_n dX11_missing_33 rfl ?_
      refine g_iconst dX11_missing_34 ?_
      refine g_icmp_ne (tgt := 46) dX11_missing_35 (by decide) ⟨by omega, by omega⟩ (by decide) (fun k6 => ?_) (fun k6 => ?_)
      · refine g_aload_n dX11_missing_46 rfl ?_
        refine g_iload_n dX11_missing_47 rfl ?_
        refine g_iload_n dX11_missing_48 rfl ?_
        refine g_vI (av := [vI rc5, vI a1]) (o := 0) (st := []) (m_X11_findMissing G P rc5 a1 ⟨by omega, by omega⟩ ⟨by omega, by omega⟩ hB  _ (fun rc7 hc7 => ⟨rc7, rfl, ?_⟩)) cf_X11_findMissing t_1000 rfl (show kx 0 0 from (⟨by decide, rfl⟩ : kx 0 0)).1 ((show kx 0 0 from (⟨by decide, rfl⟩ : kx 0 0)).sh rfl) rfl rfl (Nat.le_of_ble_eq_true rfl) (by decide) rfl dX11_missing_49
        exact g_retI dX11_missing_52 rfl (hQ rc7 ⟨by omega, by omega⟩ )
      · refine g_aload_n dX11_missing_38 rfl ?_
        refine g_iload_n dX11_missing_39 rfl ?_
        refine g_vI (av := [vI rc5]) (o := 0) (st := []) (m_X11_countMissing G P rc5 ⟨by omega, by omega⟩ hB  _ (fun rc8 hc8 => ⟨rc8, rfl, ?_⟩)) cf_X11_countMissing t_996 rfl (show kx 0 0 from (⟨by decide, rfl⟩ : kx 0 0)).1 ((show kx 0 0 from (⟨by decide, rfl⟩ : kx 0 0)).sh rfl) rfl rfl (Nat.le_of_ble_eq_true rfl) (by decide) rfl dX11_missing_40
        refine g_goto (tgt := 52) dX11_missing_43 (by decide) ?_
        exact g_retI dX11_missing_52 rfl (hQ rc8 ⟨by omega, by omega⟩ )
    · refine g_iconst dX11_missing_12 ?_
      exact g_retI dX11_missing_13 rfl (hQ (-1) (by decide) )
set_option maxRecDepth 100000 in
set_option maxHeartbeats 4000000 in
theorem m_X11_tree (G : GT) (P : PH) (a1 : Int) (a2 : Int) (h_a1 : (-2147483648) ≤ a1 ∧ a1 ≤ 2147483647) (h_a2 : (-2147483648) ≤ a2 ∧ a2 ≤ 2147483647) (hB : BdX P) (Q : Option PV → PH → Prop) (hQ : ∀ (r : Int) (_ : (-2147483648) ≤ r ∧ r ≤ 2147483647) (P1 : PH) (_ : BdX P1) (_ : FrX ([(5, 2), (11, 3), (51, 4), (51, 5), (51, 12), (51, 14)], [6, 7, 12, 13, 54]) P P1), Q (some (vI r)) P1) : Ct WSX G 30 iX11_tree [vR 0, vI a1, vI a2] P Q := by
  refine Ct.of (by decide) (l0 := [(0, vR 0), (1, vI a1), (2, vI a2)]) rfl (Nat.le_of_ble_eq_true rfl) ?_
  refine g_aload_n dX11_tree_0 rfl ?_
  refine g_vI (av := []) (o := 0) (st := []) (m_X11_matched G P  hB  _ (fun rc1 hc1 => ⟨rc1, rfl, ?_⟩)) cf_X11_matched t_937 rfl (show kx 0 0 from (⟨by decide, rfl⟩ : kx 0 0)).1 ((show kx 0 0 from (⟨by decide, rfl⟩ : kx 0 0)).sh rfl) rfl rfl (Nat.le_of_ble_eq_true rfl) (by decide) rfl dX11_tree_1
  refine g_if_eq (tgt := 14) dX11_tree_4 (by decide) ⟨by omega, by omega⟩ (fun k2 => ?_) (fun k2 => ?_)
  · refine g_iconst dX11_tree_14 ?_
    exact g_retI dX11_tree_15 rfl (hQ (-1) (by decide) _ hB FrX.rf )
  · refine g_iload_n dX11_tree_7 rfl ?_
    refine g_sI (av := [vI a1]) (st := []) (m_X11_isRule G P a1 ⟨by omega, by omega⟩ hB  _ (fun rc3 hc3 gc3_p => ⟨rc3, rfl, ?_⟩)) cf_X11_isRule t_1067 rfl (Nat.le_of_ble_eq_true rfl) (by decide) rfl dX11_tree_8
    refine g_if_ne (tgt := 16) dX11_tree_11 (by decide) ⟨by omega, by omega⟩ (fun k4 => ?_) (fun k4 => ?_)
    · refine g_aload_n dX11_tree_16 rfl ?_
      refine x_g0_13 (n := 125) (⟨by decide, rfl⟩ : kx 0 0) ffX11_92 dX11_tree_17 rfl ?_
      refine g_aload_n dX11_tree_20 rfl ?_
      refine x_g0_5 (n := 14) (⟨by decide, rfl⟩ : kx 0 0) ffX11_43 dX11_tree_21 rfl ?_
      refine g_iload_n dX11_tree_24 rfl ?_
      refine g_vL (av := [vR 14, vI a1]) (o := 125) (st := []) (m_X10_measureAll G P 14 a1 (⟨by decide, rfl⟩ : kx 14 14) ⟨by omega, by omega⟩ hB  _ (fun rc5 hc5 Pc5 hBc5 hFc5 => ⟨rc5, rfl, ?_⟩)) cf_X10_measureAll t_1070 rfl (show kx 125 51 from (⟨by decide, rfl⟩ : kx 125 51)).1 ((show kx 125 51 from (⟨by decide, rfl⟩ : kx 125 51)).sh rfl) rfl rfl (Nat.le_of_ble_eq_true rfl) (by decide) rfl dX11_tree_25
      refine g_lstore_n (l1 := [(3, vL rc5), (0, vR 0), (1, vI a1), (2, vI a2)]) dX11_tree_28 (by decide) rfl ?_
      refine g_iload_n dX11_tree_29 rfl ?_
      by_cases k6 : a2 = 0
      · refine g_tswI (tgt := 60) 0 dX11_tree_30 ⟨by omega, by omega⟩ (by omega) (by omega) rfl (by decide) ?_
        refine g_lload_n dX11_tree_60 rfl ?_
        refine g_sI (av := [vL rc5]) (st := []) (m_X10_nodesIn G Pc5 rc5 ⟨by omega, by omega⟩ hBc5  _ (fun rc7 hc7 => ⟨rc7, rfl, ?_⟩)) cf_X10_nodesIn t_1146 rfl (Nat.le_of_ble_eq_true rfl) (by decide) rfl dX11_tree_61
        exact g_retI dX11_tree_64 rfl (hQ rc7 ⟨by omega, by omega⟩ _ hBc5 (FrX.c FrX.rf hFc5 rfl) )
      by_cases k8 : a2 = 1
      · refine g_tswI (tgt := 65) 1 dX11_tree_30 ⟨by omega, by omega⟩ (by omega) (by omega) rfl (by decide) ?_
        refine g_aload_n dX11_tree_65 rfl ?_
        refine x_g0_13 (n := 125) (⟨by decide, rfl⟩ : kx 0 0) ffX11_92 dX11_tree_66 rfl ?_
        refine x_g51_5 (z := (Pc5 125 5)) (⟨by decide, rfl⟩ : kx 125 51) ffX11_314 dX11_tree_69 rfl ?_
        exact g_retI dX11_tree_72 rfl (hQ (Pc5 125 5) ⟨by have q0 := bx_51_5 (o := 125) hBc5 (⟨by decide, rfl⟩ : kx 125 51); omega, by have q0 := bx_51_5 (o := 125) hBc5 (⟨by decide, rfl⟩ : kx 125 51); omega⟩ _ hBc5 (FrX.c FrX.rf hFc5 rfl) )
      by_cases k9 : a2 = 2
      · refine g_tswI (tgt := 73) 2 dX11_tree_30 ⟨by omega, by omega⟩ (by omega) (by omega) rfl (by decide) ?_
        refine g_lload_n dX11_tree_73 rfl ?_
        refine g_sI (av := [vL rc5]) (st := []) (m_X10_longestIn G Pc5 rc5 ⟨by omega, by omega⟩ hBc5  _ (fun rc10 hc10 => ⟨rc10, rfl, ?_⟩)) cf_X10_longestIn t_1147 rfl (Nat.le_of_ble_eq_true rfl) (by decide) rfl dX11_tree_74
        exact g_retI dX11_tree_77 rfl (hQ rc10 ⟨by omega, by omega⟩ _ hBc5 (FrX.c FrX.rf hFc5 rfl) )
      by_cases k11 : a2 = 3
      · refine g_tswI (tgt := 78) 3 dX11_tree_30 ⟨by omega, by omega⟩ (by omega) (by omega) rfl (by decide) ?_
        refine g_lload_n dX11_tree_78 rfl ?_
        refine g_sI (av := [vL rc5]) (st := []) (m_X10_testsIn G Pc5 rc5 ⟨by omega, by omega⟩ hBc5  _ (fun rc12 hc12 => ⟨rc12, rfl, ?_⟩)) cf_X10_testsIn t_1148 rfl (Nat.le_of_ble_eq_true rfl) (by decide) rfl dX11_tree_79
        exact g_retI dX11_tree_82 rfl (hQ rc12 ⟨by omega, by omega⟩ _ hBc5 (FrX.c FrX.rf hFc5 rfl) )
      refine g_tswO (tgt := 83) dX11_tree_30 ⟨by omega, by omega⟩ (by omega) (by decide) ?_
      refine g_iconst dX11_tree_83 ?_
      exact g_retI dX11_tree_84 rfl (hQ (-1) (by decide) _ hBc5 (FrX.c FrX.rf hFc5 rfl) )
    · refine g_iconst dX11_tree_14 ?_
      exact g_retI dX11_tree_15 rfl (hQ (-1) (by decide) _ hB FrX.rf )
set_option maxRecDepth 100000 in
set_option maxHeartbeats 4000000 in
theorem m_X11_first (G : GT) (P : PH) (a1 : Int) (h_a1 : (-2147483648) ≤ a1 ∧ a1 ≤ 2147483647) (hB : BdX P) (Q : Option PV → PH → Prop) (hQ : ∀ (r : Int) (_ : (-2147483648) ≤ r ∧ r ≤ 2147483647) (P1 : PH) (_ : BdX P1) (_ : FrX ([(5, 2), (51, 12), (51, 14)], [6]) P P1), Q (some (vI r)) P1) : Ct WSX G 6 iX11_first [vR 0, vI a1] P Q := by
  refine Ct.of (by decide) (l0 := [(0, vR 0), (1, vI a1)]) rfl (Nat.le_of_ble_eq_true rfl) ?_
  refine g_aload_n dX11_first_0 rfl ?_
  refine g_vI (av := []) (o := 0) (st := []) (m_X11_matched G P  hB  _ (fun rc1 hc1 => ⟨rc1, rfl, ?_⟩)) cf_X11_matched t_937 rfl (show kx 0 0 from (⟨by decide, rfl⟩ : kx 0 0)).1 ((show kx 0 0 from (⟨by decide, rfl⟩ : kx 0 0)).sh rfl) rfl rfl (Nat.le_of_ble_eq_true rfl) (by decide) rfl dX11_first_1
  refine g_if_eq (tgt := 14) dX11_first_4 (by decide) ⟨by omega, by omega⟩ (fun k2 => ?_) (fun k2 => ?_)
  · refine g_iconst dX11_first_14 ?_
    exact g_retI dX11_first_15 rfl (hQ (-1) (by decide) _ hB FrX.rf )
  · refine g_iload_n dX11_first_7 rfl ?_
    refine g_sI (av := [vI a1]) (st := []) (m_X11_isRule G P a1 ⟨by omega, by omega⟩ hB  _ (fun rc3 hc3 gc3_p => ⟨rc3, rfl, ?_⟩)) cf_X11_isRule t_1067 rfl (Nat.le_of_ble_eq_true rfl) (by decide) rfl dX11_first_8
    refine g_if_ne (tgt := 16) dX11_first_11 (by decide) ⟨by omega, by omega⟩ (fun k4 => ?_) (fun k4 => ?_)
    · refine g_aload_n dX11_first_16 rfl ?_
      refine x_g0_13 (n := 125) (⟨by decide, rfl⟩ : kx 0 0) ffX11_92 dX11_first_17 rfl ?_
      refine g_aload_n dX11_first_20 rfl ?_
      refine x_g0_5 (n := 14) (⟨by decide, rfl⟩ : kx 0 0) ffX11_43 dX11_first_21 rfl ?_
      refine g_iload_n dX11_first_24 rfl ?_
      refine g_vI (av := [vR 14, vI a1]) (o := 125) (st := []) (m_X10_firstColumn G P 14 a1 (⟨by decide, rfl⟩ : kx 14 14) ⟨by omega, by omega⟩ hB  _ (fun rc5 hc5 Pc5 hBc5 hFc5 => ⟨rc5, rfl, ?_⟩)) cf_X10_firstColumn t_1153 rfl (show kx 125 51 from (⟨by decide, rfl⟩ : kx 125 51)).1 ((show kx 125 51 from (⟨by decide, rfl⟩ : kx 125 51)).sh rfl) rfl rfl (Nat.le_of_ble_eq_true rfl) (by decide) rfl dX11_first_25
      exact g_retI dX11_first_28 rfl (hQ rc5 ⟨by omega, by omega⟩ _ hBc5 (FrX.c FrX.rf hFc5 rfl) )
    · refine g_iconst dX11_first_14 ?_
      exact g_retI dX11_first_15 rfl (hQ (-1) (by decide) _ hB FrX.rf )
set_option maxRecDepth 100000 in
set_option maxHeartbeats 4000000 in
theorem m_X11_scopes (G : GT) (P : PH) (a1 : Int) (a2 : Int) (a3 : Int) (h_a1 : (-2147483648) ≤ a1 ∧ a1 ≤ 2147483647) (h_a2 : (-2147483648) ≤ a2 ∧ a2 ≤ 2147483647) (h_a3 : (-2147483648) ≤ a3 ∧ a3 ≤ 2147483647) (hB : BdX P) (Q : Option PV → PH → Prop) (hQ : ∀ (r : Int) (_ : (-2147483648) ≤ r ∧ r ≤ 2147483647) (P1 : PH) (_ : BdX P1) (_ : FrX ([(5, 2), (11, 3), (51, 7), (51, 8), (51, 9), (51, 10), (51, 11), (51, 12), (51, 14)], [6, 7, 12, 13, 55]) P P1), Q (some (vI r)) P1) : Ct WSX G 30 iX11_scopes [vR 0, vI a1, vI a2, vI a3] P Q := by
  refine Ct.of (by decide) (l0 := [(0, vR 0), (1, vI a1), (2, vI a2), (3, vI a3)]) rfl (Nat.le_of_ble_eq_true rfl) ?_
  refine g_aload_n dX11_scopes_0 rfl ?_
  refine g_vI (av := []) (o := 0) (st := []) (m_X11_matched G P  hB  _ (fun rc1 hc1 => ⟨rc1, rfl, ?_⟩)) cf_X11_matched t_937 rfl (show kx 0 0 from (⟨by decide, rfl⟩ : kx 0 0)).1 ((show kx 0 0 from (⟨by decide, rfl⟩ : kx 0 0)).sh rfl) rfl rfl (Nat.le_of_ble_eq_true rfl) (by decide) rfl dX11_scopes_1
  refine g_if_eq (tgt := 14) dX11_scopes_4 (by decide) ⟨by omega, by omega⟩ (fun k2 => ?_) (fun k2 => ?_)
  · refine g_iconst dX11_scopes_14 ?_
    exact g_retI dX11_scopes_15 rfl (hQ (-1) (by decide) _ hB FrX.rf )
  · refine g_iload_n dX11_scopes_7 rfl ?_
    refine g_sI (av := [vI a1]) (st := []) (m_X11_isRule G P a1 ⟨by omega, by omega⟩ hB  _ (fun rc3 hc3 gc3_p => ⟨rc3, rfl, ?_⟩)) cf_X11_isRule t_1067 rfl (Nat.le_of_ble_eq_true rfl) (by decide) rfl dX11_scopes_8
    refine g_if_ne (tgt := 16) dX11_scopes_11 (by decide) ⟨by omega, by omega⟩ (fun k4 => ?_) (fun k4 => ?_)
    · refine g_aload_n dX11_scopes_16 rfl ?_
      refine x_g0_13 (n := 125) (⟨by decide, rfl⟩ : kx 0 0) ffX11_92 dX11_scopes_17 rfl ?_
      refine g_aload_n dX11_scopes_20 rfl ?_
      refine x_g0_5 (n := 14) (⟨by decide, rfl⟩ : kx 0 0) ffX11_43 dX11_scopes_21 rfl ?_
      refine g_iload_n dX11_scopes_24 rfl ?_
      refine g_vV (av := [vR 14, vI a1]) (o := 125) (st := []) (m_X10_buildAll G P 14 a1 (⟨by decide, rfl⟩ : kx 14 14) ⟨by omega, by omega⟩ hB  _ (fun Pc5 hBc5 hFc5 => ⟨rfl, ?_⟩)) cf_X10_buildAll t_1161 rfl (show kx 125 51 from (⟨by decide, rfl⟩ : kx 125 51)).1 ((show kx 125 51 from (⟨by decide, rfl⟩ : kx 125 51)).sh rfl) rfl rfl (Nat.le_of_ble_eq_true rfl) (by decide) rfl dX11_scopes_25
      refine g_iload_n dX11_scopes_28 rfl ?_
      by_cases k6 : a2 = 0
      · refine g_tswI (tgt := 60) 0 dX11_scopes_29 ⟨by omega, by omega⟩ (by omega) (by omega) rfl (by decide) ?_
        refine g_aload_n dX11_scopes_60 rfl ?_
        refine x_g0_13 (n := 125) (⟨by decide, rfl⟩ : kx 0 0) ffX11_92 dX11_scopes_61 rfl ?_
        refine x_g51_7 (z := (Pc5 125 7)) (⟨by decide, rfl⟩ : kx 125 51) ffX11_331 dX11_scopes_64 rfl ?_
        exact g_retI dX11_scopes_67 rfl (hQ (Pc5 125 7) ⟨by have q0 := bx_51_7 (o := 125) hBc5 (⟨by decide, rfl⟩ : kx 125 51); omega, by have q0 := bx_51_7 (o := 125) hBc5 (⟨by decide, rfl⟩ : kx 125 51); omega⟩ _ hBc5 (FrX.c FrX.rf hFc5 rfl) )
      by_cases k7 : a2 = 1
      · refine g_tswI (tgt := 68) 1 dX11_scopes_29 ⟨by omega, by omega⟩ (by omega) (by omega) rfl (by decide) ?_
        refine g_aload_n dX11_scopes_68 rfl ?_
        refine x_g0_13 (n := 125) (⟨by decide, rfl⟩ : kx 0 0) ffX11_92 dX11_scopes_69 rfl ?_
        refine x_g51_9 (z := (Pc5 125 9)) (⟨by decide, rfl⟩ : kx 125 51) ffX11_334 dX11_scopes_72 rfl ?_
        exact g_retI dX11_scopes_75 rfl (hQ (Pc5 125 9) ⟨by have q0 := bx_51_9 (o := 125) hBc5 (⟨by decide, rfl⟩ : kx 125 51); omega, by have q0 := bx_51_9 (o := 125) hBc5 (⟨by decide, rfl⟩ : kx 125 51); omega⟩ _ hBc5 (FrX.c FrX.rf hFc5 rfl) )
      by_cases k8 : a2 = 2
      · refine g_tswI (tgt := 76) 2 dX11_scopes_29 ⟨by omega, by omega⟩ (by omega) (by omega) rfl (by decide) ?_
        refine g_aload_n dX11_scopes_76 rfl ?_
        refine x_g0_13 (n := 125) (⟨by decide, rfl⟩ : kx 0 0) ffX11_92 dX11_scopes_77 rfl ?_
        refine x_g51_11 (z := (Pc5 125 11)) (⟨by decide, rfl⟩ : kx 125 51) ffX11_337 dX11_scopes_80 rfl ?_
        have f9 := bx_51_11 (o := 125) hBc5 (⟨by decide, rfl⟩ : kx 125 51)
        refine g_if_eq (tgt := 90) dX11_scopes_83 (by decide) ⟨by have q0 := bx_51_11 (o := 125) hBc5 (⟨by decide, rfl⟩ : kx 125 51); omega, by have q0 := bx_51_11 (o := 125) hBc5 (⟨by decide, rfl⟩ : kx 125 51); omega⟩ (fun k10 => ?_) (fun k10 => ?_)
        · refine g_iconst dX11_scopes_90 ?_
          exact g_retI dX11_scopes_91 rfl (hQ 0 (by decide) _ hBc5 (FrX.c FrX.rf hFc5 rfl) )
        · refine g_iconst dX11_scopes_86 ?_
          refine g_goto (tgt := 91) dX11_scopes_87 (by decide) ?_
          exact g_retI dX11_scopes_91 rfl (hQ 1 (by decide) _ hBc5 (FrX.c FrX.rf hFc5 rfl) )
      by_cases k11 : a2 = 3
      · refine g_tswI (tgt := 92) 3 dX11_scopes_29 ⟨by omega, by omega⟩ (by omega) (by omega) rfl (by decide) ?_
        refine g_aload_n dX11_scopes_92 rfl ?_
        refine x_g0_13 (n := 125) (⟨by decide, rfl⟩ : kx 0 0) ffX11_92 dX11_scopes_93 rfl ?_
        refine g_iload_n dX11_scopes_96 rfl ?_
        refine g_vI (av := [vI a3]) (o := 125) (st := []) (m_X10_scopeShutAs G Pc5 a3 ⟨by omega, by omega⟩ hBc5  _ (fun rc12 hc12 => ⟨rc12, rfl, ?_⟩)) cf_X10_scopeShutAs t_1176 rfl (show kx 125 51 from (⟨by decide, rfl⟩ : kx 125 51)).1 ((show kx 125 51 from (⟨by decide, rfl⟩ : kx 125 51)).sh rfl) rfl rfl (Nat.le_of_ble_eq_true rfl) (by decide) rfl dX11_scopes_97
        exact g_retI dX11_scopes_100 rfl (hQ rc12 ⟨by omega, by omega⟩ _ hBc5 (FrX.c FrX.rf hFc5 rfl) )
      refine g_tswO (tgt := 101) dX11_scopes_29 ⟨by omega, by omega⟩ (by omega) (by decide) ?_
      refine g_iconst dX11_scopes_101 ?_
      exact g_retI dX11_scopes_102 rfl (hQ (-1) (by decide) _ hBc5 (FrX.c FrX.rf hFc5 rfl) )
    · refine g_iconst dX11_scopes_14 ?_
      exact g_retI dX11_scopes_15 rfl (hQ (-1) (by decide) _ hB FrX.rf )
set_option maxRecDepth 100000 in
set_option maxHeartbeats 4000000 in
theorem m_X11_sets (G : GT) (P : PH) (a1 : Int) (h_a1 : (-2147483648) ≤ a1 ∧ a1 ≤ 2147483647) (hB : BdX P) (Q : Option PV → PH → Prop) (hQ : ∀ (r : Int) (_ : (-2147483648) ≤ r ∧ r ≤ 2147483647) (P1 : PH) (_ : BdX P1) (_ : FrX ([(22, 4)], [25]) P P1), Q (some (vI r)) P1) : Ct WSX G 5 iX11_sets [vR 0, vI a1] P Q := by
  refine Ct.of (by decide) (l0 := [(0, vR 0), (1, vI a1)]) rfl (Nat.le_of_ble_eq_true rfl) ?_
  refine g_aload_n dX11_sets_0 rfl ?_
  refine g_vI (av := []) (o := 0) (st := []) (m_X11_matched G P  hB  _ (fun rc1 hc1 => ⟨rc1, rfl, ?_⟩)) cf_X11_matched t_937 rfl (show kx 0 0 from (⟨by decide, rfl⟩ : kx 0 0)).1 ((show kx 0 0 from (⟨by decide, rfl⟩ : kx 0 0)).sh rfl) rfl rfl (Nat.le_of_ble_eq_true rfl) (by decide) rfl dX11_sets_1
  refine g_if_eq (tgt := 12) dX11_sets_4 (by decide) ⟨by omega, by omega⟩ (fun k2 => ?_) (fun k2 => ?_)
  · refine g_iconst dX11_sets_12 ?_
    exact g_retI dX11_sets_13 rfl (hQ (-1) (by decide) _ hB FrX.rf )
  · refine g_iload_n dX11_sets_7 rfl ?_
    refine g_iconst dX11_sets_8 ?_
    refine g_icmp_ge (tgt := 14) dX11_sets_9 (by decide) ⟨by omega, by omega⟩ (by decide) (fun k3 => ?_) (fun k3 => ?_)
    · refine g_aload_n dX11_sets_14 rfl ?_
      refine x_g0_8 (n := 64) (⟨by decide, rfl⟩ : kx 0 0) ffX11_60 dX11_sets_15 rfl ?_
      refine g_aload_n dX11_sets_18 rfl ?_
      refine x_g0_10 (n := (P 0 10).toNat) (⟨by decide, rfl⟩ : kx 0 0) ffX11_71 dX11_sets_19 (br_0_10 hB) ?_
      refine g_aload_n dX11_sets_22 rfl ?_
      refine x_g0_5 (n := 14) (⟨by decide, rfl⟩ : kx 0 0) ffX11_43 dX11_sets_23 rfl ?_
      refine g_vV (av := [vR (P 0 10).toNat, vR 14]) (o := 64) (st := []) (m_X8_findSets G P (P 0 10).toNat 14 (bk_0_10 hB) (⟨by decide, rfl⟩ : kx 14 14) hB  _ (fun Pc4 hBc4 hFc4 => ⟨rfl, ?_⟩)) cf_X8_findSets t_1229 rfl (show kx 64 22 from (⟨by decide, rfl⟩ : kx 64 22)).1 ((show kx 64 22 from (⟨by decide, rfl⟩ : kx 64 22)).sh rfl) rfl rfl (Nat.le_of_ble_eq_true rfl) (by decide) rfl dX11_sets_26
      refine g_iload_n dX11_sets_29 rfl ?_
      refine g_iconst dX11_sets_30 ?_
      refine g_icmp_ne (tgt := 42) dX11_sets_31 (by decide) ⟨by omega, by omega⟩ (by decide) (fun k5 => ?_) (fun k5 => ?_)
      · refine g_iload_n dX11_sets_42 rfl ?_
        refine g_aload_n dX11_sets_43 rfl ?_
        refine x_g0_8 (n := 64) (⟨by decide, rfl⟩ : kx 0 0) ffX11_60 dX11_sets_44 rfl ?_
        refine x_g22_4 (z := (Pc4 64 4)) (⟨by decide, rfl⟩ : kx 64 22) ffX11_372 dX11_sets_47 rfl ?_
        have f6 := bx_22_4 (o := 64) hBc4 (⟨by decide, rfl⟩ : kx 64 22)
        refine g_icmp_ge (tgt := 65) dX11_sets_50 (by decide) ⟨by omega, by omega⟩ ⟨by have q0 := bx_22_4 (o := 64) hBc4 (⟨by decide, rfl⟩ : kx 64 22); omega, by have q0 := bx_22_4 (o := 64) hBc4 (⟨by decide, rfl⟩ : kx 64 22); omega⟩ (fun k7 => ?_) (fun k7 => ?_)
        · refine g_iconst dX11_sets_65 ?_
          exact g_retI dX11_sets_66 rfl (hQ (-1) (by decide) _ hBc4 (FrX.c FrX.rf hFc4 rfl) )
        · refine g_aload_n dX11_sets_53 rfl ?_
          refine x_g0_8 (n := 64) (⟨by decide, rfl⟩ : kx 0 0) ffX11_60 dX11_sets_54 rfl ?_
          refine x_g22_3 (n := 67) (⟨by decide, rfl⟩ : kx 64 22) ffX11_375 dX11_sets_57 rfl ?_
          refine g_iload_n dX11_sets_60 rfl ?_
          refine x_l25 (z := (Pc4 67 a1)) (⟨by decide, rfl⟩ : kx 67 25) dX11_sets_61 ⟨by omega, by omega⟩ rfl ?_
          refine g_goto (tgt := 66) dX11_sets_62 (by decide) ?_
          exact g_retI dX11_sets_66 rfl (hQ (Pc4 67 a1) ⟨by have q0 := bx_25 (o := 67) (k := a1) hBc4 (⟨by decide, rfl⟩ : kx 67 25); omega, by have q0 := bx_25 (o := 67) (k := a1) hBc4 (⟨by decide, rfl⟩ : kx 67 25); omega⟩ _ hBc4 (FrX.c FrX.rf hFc4 rfl) )
      · refine g_aload_n dX11_sets_34 rfl ?_
        refine x_g0_8 (n := 64) (⟨by decide, rfl⟩ : kx 0 0) ffX11_60 dX11_sets_35 rfl ?_
        refine x_g22_4 (z := (Pc4 64 4)) (⟨by decide, rfl⟩ : kx 64 22) ffX11_372 dX11_sets_38 rfl ?_
        exact g_retI dX11_sets_41 rfl (hQ (Pc4 64 4) ⟨by have q0 := bx_22_4 (o := 64) hBc4 (⟨by decide, rfl⟩ : kx 64 22); omega, by have q0 := bx_22_4 (o := 64) hBc4 (⟨by decide, rfl⟩ : kx 64 22); omega⟩ _ hBc4 (FrX.c FrX.rf hFc4 rfl) )
    · refine g_iconst dX11_sets_12 ?_
      exact g_retI dX11_sets_13 rfl (hQ (-1) (by decide) _ hB FrX.rf )
set_option maxRecDepth 100000 in
set_option maxHeartbeats 4000000 in
theorem m_X11_tells (G : GT) (P : PH) (a1 : Int) (h_a1 : (-2147483648) ≤ a1 ∧ a1 ≤ 2147483647) (hB : BdX P) (Q : Option PV → PH → Prop) (hQ : ∀ (r : Int) (_ : (-2147483648) ≤ r ∧ r ≤ 2147483647) (P1 : PH) (_ : BdX P1) (_ : FrX ([(5, 2), (22, 4)], [6, 25, 26]) P P1), Q (some (vI r)) P1) : Ct WSX G 5 iX11_tells [vR 0, vI a1] P Q := by
  refine Ct.of (by decide) (l0 := [(0, vR 0), (1, vI a1)]) rfl (Nat.le_of_ble_eq_true rfl) ?_
  refine g_aload_n dX11_tells_0 rfl ?_
  refine g_vI (av := []) (o := 0) (st := []) (m_X11_matched G P  hB  _ (fun rc1 hc1 => ⟨rc1, rfl, ?_⟩)) cf_X11_matched t_937 rfl (show kx 0 0 from (⟨by decide, rfl⟩ : kx 0 0)).1 ((show kx 0 0 from (⟨by decide, rfl⟩ : kx 0 0)).sh rfl) rfl rfl (Nat.le_of_ble_eq_true rfl) (by decide) rfl dX11_tells_1
  refine g_if_eq (tgt := 16) dX11_tells_4 (by decide) ⟨by omega, by omega⟩ (fun k2 => ?_) (fun k2 => ?_)
  · refine g_iconst dX11_tells_16 ?_
    exact g_retI dX11_tells_17 rfl (hQ (-1) (by decide) _ hB FrX.rf )
  · refine g_iload_n dX11_tells_7 rfl ?_
    refine g_if_lt (tgt := 16) dX11_tells_8 (by decide) ⟨by omega, by omega⟩ (fun k3 => ?_) (fun k3 => ?_)
    · refine g_iconst dX11_tells_16 ?_
      exact g_retI dX11_tells_17 rfl (hQ (-1) (by decide) _ hB FrX.rf )
    · refine g_iload_n dX11_tells_11 rfl ?_
      refine g_iconst dX11_tells_12 ?_
      refine g_icmp_le (tgt := 18) dX11_tells_13 (by decide) ⟨by omega, by omega⟩ (by decide) (fun k4 => ?_) (fun k4 => ?_)
      · refine g_aload_n dX11_tells_18 rfl ?_
        refine x_g0_8 (n := 64) (⟨by decide, rfl⟩ : kx 0 0) ffX11_60 dX11_tells_19 rfl ?_
        refine g_aload_n dX11_tells_22 rfl ?_
        refine x_g0_10 (n := (P 0 10).toNat) (⟨by decide, rfl⟩ : kx 0 0) ffX11_71 dX11_tells_23 (br_0_10 hB) ?_
        refine g_aload_n dX11_tells_26 rfl ?_
        refine x_g0_5 (n := 14) (⟨by decide, rfl⟩ : kx 0 0) ffX11_43 dX11_tells_27 rfl ?_
        refine g_vV (av := [vR (P 0 10).toNat, vR 14]) (o := 64) (st := []) (m_X8_findSets G P (P 0 10).toNat 14 (bk_0_10 hB) (⟨by decide, rfl⟩ : kx 14 14) hB  _ (fun Pc5 hBc5 hFc5 => ⟨rfl, ?_⟩)) cf_X8_findSets t_1229 rfl (show kx 64 22 from (⟨by decide, rfl⟩ : kx 64 22)).1 ((show kx 64 22 from (⟨by decide, rfl⟩ : kx 64 22)).sh rfl) rfl rfl (Nat.le_of_ble_eq_true rfl) (by decide) rfl dX11_tells_30
        refine g_aload_n dX11_tells_33 rfl ?_
        refine x_g0_8 (n := 64) (⟨by decide, rfl⟩ : kx 0 0) ffX11_60 dX11_tells_34 rfl ?_
        refine x_g22_4 (z := (Pc5 64 4)) (⟨by decide, rfl⟩ : kx 64 22) ffX11_372 dX11_tells_37 rfl ?_
        have f6 := bx_22_4 (o := 64) hBc5 (⟨by decide, rfl⟩ : kx 64 22)
        refine g_if_ne (tgt := 45) dX11_tells_40 (by decide) ⟨by have q0 := bx_22_4 (o := 64) hBc5 (⟨by decide, rfl⟩ : kx 64 22); omega, by have q0 := bx_22_4 (o := 64) hBc5 (⟨by decide, rfl⟩ : kx 64 22); omega⟩ (fun k7 => ?_) (fun k7 => ?_)
        · refine g_iconst dX11_tells_45 ?_
          refine g_istore_n (l1 := [(2, vI (-1)), (0, vR 0), (1, vI a1)]) dX11_tells_46 (by decide) rfl ?_
          refine g_iconst dX11_tells_47 ?_
          refine g_istore_n (l1 := [(3, vI 0), (2, vI (-1)), (0, vR 0), (1, vI a1)]) dX11_tells_48 (by decide) rfl ?_
          refine g_aload_n dX11_tells_49 rfl ?_
          refine x_g0_2 (n := 5) (⟨by decide, rfl⟩ : kx 0 0) ffX11_24 dX11_tells_50 rfl ?_
          refine g_vV (av := []) (o := 5) (st := []) (m_X4_renew G Pc5  hBc5  _ (fun Pc8 hBc8 hFc8 => ⟨rfl, ?_⟩)) cf_X4_renew t_1243 rfl (show kx 5 5 from (⟨by decide, rfl⟩ : kx 5 5)).1 ((show kx 5 5 from (⟨by decide, rfl⟩ : kx 5 5)).sh rfl) rfl rfl (Nat.le_of_ble_eq_true rfl) (by decide) rfl dX11_tells_53
          refine g_iconst dX11_tells_56 ?_
          refine g_istore (l1 := [(4, vI 0), (3, vI 0), (2, vI (-1)), (0, vR 0), (1, vI a1)]) dX11_tells_57 (by decide) rfl ?_
          have L59_8 : ∀ (n59_8 : Nat) (x59_4_8 : Int) (h_x59_4_8 : 0 ≤ x59_4_8 ∧ x59_4_8 ≤ 1000) (x59_3_8 : Int) (h_x59_3_8 : (-2147483648) ≤ x59_3_8 ∧ x59_3_8 ≤ 2147483647) (x59_2_8 : Int) (h_x59_2_8 : (-1) ≤ x59_2_8 ∧ x59_2_8 ≤ 999) (H59_8 : PH) (hB59_8 : BdX H59_8) (hE59_8 : FrX ([], [6, 26]) Pc8 H59_8) (hm59_8 : ((1001 - x59_4_8) : Int).toNat < n59_8), Go WSX G 5 iX11_tells 59 [(0, vR 0), (1, vI a1), (2, vI x59_2_8), (3, vI x59_3_8), (4, vI x59_4_8)] [] H59_8 Q := by
            intro n59_8
            induction n59_8 with
            | zero => intro x59_4_8 h_x59_4_8 x59_3_8 h_x59_3_8 x59_2_8 h_x59_2_8 H59_8 hB59_8 hE59_8 hm59_8; exact absurd hm59_8 (Nat.not_lt_zero _)
            | succ n59_8 ih59_8 =>
            intro x59_4_8 h_x59_4_8 x59_3_8 h_x59_3_8 x59_2_8 h_x59_2_8 H59_8 hB59_8 hE59_8 hm59_8
            refine g_iload dX11_tells_59 rfl ?_
            refine g_sipush dX11_tells_61 (by decide) ?_
            have J144_753 : ∀ (_ : True), Go WSX G 5 iX11_tells 144 [(1, vI a1), (2, vI x59_2_8), (3, vI x59_3_8)] [] H59_8 Q := by
              intro _
              refine g_iload_n dX11_tells_144 rfl ?_
              refine g_if_ne (tgt := 152) dX11_tells_145 (by decide) ⟨by omega, by omega⟩ (fun k755 => ?_) (fun k755 => ?_)
              · refine g_iload_n dX11_tells_152 rfl ?_
                exact g_retI dX11_tells_153 rfl (hQ x59_3_8 ⟨by omega, by omega⟩ _ hB59_8 (FrX.c (FrX.c (FrX.c FrX.rf hFc5 rfl) hFc8 rfl) hE59_8 rfl) )
              · refine g_iload_n dX11_tells_148 rfl ?_
                refine g_goto (tgt := 153) dX11_tells_149 (by decide) ?_
                exact g_retI dX11_tells_153 rfl (hQ x59_2_8 ⟨by omega, by omega⟩ _ hB59_8 (FrX.c (FrX.c (FrX.c FrX.rf hFc5 rfl) hFc8 rfl) hE59_8 rfl) )
            refine g_icmp_ge (tgt := 144) dX11_tells_64 (by decide) ⟨by omega, by omega⟩ (by decide) (fun k756 => ?_) (fun k756 => ?_)
            · refine g_forget (l1 := [(1, vI a1), (2, vI x59_2_8), (3, vI x59_3_8)]) (by intro q hq; simp only [List.mem_cons, List.not_mem_nil, or_false] at hq ⊢; rcases hq with rfl | rfl | rfl <;> simp) ?_
              exact J144_753 trivial
            · refine g_iload dX11_tells_67 rfl ?_
              refine g_aload_n dX11_tells_69 rfl ?_
              refine x_g0_10 (n := (P 0 10).toNat) (⟨by decide, rfl⟩ : kx 0 0) ffX11_71 dX11_tells_70 ((FrX.g hE59_8 (⟨by decide, rfl⟩ : kx 0 0) rfl).trans ((FrX.g hFc8 (⟨by decide, rfl⟩ : kx 0 0) rfl).trans ((FrX.g hFc5 (⟨by decide, rfl⟩ : kx 0 0) rfl).trans (br_0_10 hB)))) ?_
              refine x_g28_7 (z := (P (P 0 10).toNat 7)) (bk_0_10 hB) ffX11_173 dX11_tells_73 ((FrX.g hE59_8 (bk_0_10 hB) rfl).trans ((FrX.g hFc8 (bk_0_10 hB) rfl).trans ((FrX.g hFc5 (bk_0_10 hB) rfl).trans rfl))) ?_
              have f757 := bx_28_7 (o := (P 0 10).toNat) hB (bk_0_10 hB)
              refine g_icmp_ge (tgt := 144) dX11_tells_76 (by decide) ⟨by omega, by omega⟩ ⟨by have q0 := bx_28_7 (o := (P 0 10).toNat) hB (bk_0_10 hB); omega, by have q0 := bx_28_7 (o := (P 0 10).toNat) hB (bk_0_10 hB); omega⟩ (fun k758 => ?_) (fun k758 => ?_)
              · refine g_forget (l1 := [(1, vI a1), (2, vI x59_2_8), (3, vI x59_3_8)]) (by intro q hq; simp only [List.mem_cons, List.not_mem_nil, or_false] at hq ⊢; rcases hq with rfl | rfl | rfl <;> simp) ?_
                exact J144_753 trivial
              · refine g_aload_n dX11_tells_79 rfl ?_
                refine x_g0_10 (n := (P 0 10).toNat) (⟨by decide, rfl⟩ : kx 0 0) ffX11_71 dX11_tells_80 ((FrX.g hE59_8 (⟨by decide, rfl⟩ : kx 0 0) rfl).trans ((FrX.g hFc8 (⟨by decide, rfl⟩ : kx 0 0) rfl).trans ((FrX.g hFc5 (⟨by decide, rfl⟩ : kx 0 0) rfl).trans (br_0_10 hB)))) ?_
                refine g_iload dX11_tells_83 rfl ?_
                refine g_vI (av := [vI x59_4_8]) (o := (P 0 10).toNat) (st := []) (m_X9_armsOf G H59_8 (P 0 10).toNat x59_4_8 (bk_0_10 hB) ⟨by omega, by omega⟩ hB59_8  _ (fun rc759 hc759 => ⟨rc759, rfl, ?_⟩)) cf_X9_armsOf t_1004 rfl (show kx (P 0 10).toNat 28 from (bk_0_10 hB)).1 ((show kx (P 0 10).toNat 28 from (bk_0_10 hB)).sh rfl) rfl rfl (Nat.le_of_ble_eq_true rfl) (by decide) rfl dX11_tells_85
                refine g_istore (l1 := [(5, vI rc759), (0, vR 0), (1, vI a1), (2, vI x59_2_8), (3, vI x59_3_8), (4, vI x59_4_8)]) dX11_tells_88 (by decide) rfl ?_
                refine g_aload_n dX11_tells_90 rfl ?_
                refine x_g0_2 (n := 5) (⟨by decide, rfl⟩ : kx 0 0) ffX11_24 dX11_tells_91 rfl ?_
                refine g_iload dX11_tells_94 rfl ?_
                refine g_vI (av := [vI rc759]) (o := 5) (st := []) (m_X4_isNew G H59_8 rc759 ⟨by omega, by omega⟩ hB59_8  _ (fun rc760 hc760 Pc760 hBc760 hFc760 gc760_n => ⟨rc760, rfl, ?_⟩)) cf_X4_isNew t_1244 rfl (show kx 5 5 from (⟨by decide, rfl⟩ : kx 5 5)).1 ((show kx 5 5 from (⟨by decide, rfl⟩ : kx 5 5)).sh rfl) rfl rfl (Nat.le_of_ble_eq_true rfl) (by decide) rfl dX11_tells_96
                have J138_767 : ∀ (x138_2_767 : Int) (h_x138_2_767 : (-1) ≤ x138_2_767 ∧ x138_2_767 ≤ 999) (x138_3_767 : Int) (h_x138_3_767 : (-2147483648) ≤ x138_3_767 ∧ x138_3_767 ≤ 2147483647) (H138_767 : PH) (hB138_767 : BdX H138_767) (hE138_767 : FrX ([], [26]) Pc760 H138_767), Go WSX G 5 iX11_tells 138 [(0, vR 0), (1, vI a1), (2, vI x138_2_767), (3, vI x138_3_767), (4, vI x59_4_8)] [] H138_767 Q := by
                  intro x138_2_767 h_x138_2_767 x138_3_767 h_x138_3_767 H138_767 hB138_767 hE138_767
                  refine g_iinc (l1 := [(4, vI (x59_4_8 + 1)), (0, vR 0), (1, vI a1), (2, vI x138_2_767), (3, vI x138_3_767)]) dX11_tells_138 rfl (by decide) rfl ?_
                  refine g_goto (tgt := 59) dX11_tells_141 (by decide) ?_
                  refine g_forget (l1 := [(0, vR 0), (1, vI a1), (2, vI x138_2_767), (3, vI x138_3_767), (4, vI (x59_4_8 + 1))]) (by intro q hq; simp only [List.mem_cons, List.not_mem_nil, or_false] at hq ⊢; rcases hq with rfl | rfl | rfl | rfl | rfl <;> simp) ?_
                  exact ih59_8 (x59_4_8 + 1) ⟨by omega, by omega⟩ x138_3_767 ⟨by omega, by omega⟩ x138_2_767 ⟨by omega, by omega⟩ _ hB138_767 (FrX.c (FrX.c (FrX.c FrX.rf hE59_8 rfl) hFc760 rfl) hE138_767 rfl) (by omega)
                refine g_if_eq (tgt := 138) dX11_tells_99 (by decide) ⟨by omega, by omega⟩ (fun k769 => ?_) (fun k769 => ?_)
                · refine g_forget (l1 := [(0, vR 0), (1, vI a1), (2, vI x59_2_8), (3, vI x59_3_8), (4, vI x59_4_8)]) (by intro q hq; simp only [List.mem_cons, List.not_mem_nil, or_false] at hq ⊢; rcases hq with rfl | rfl | rfl | rfl | rfl <;> simp) ?_
                  exact J138_767 x59_2_8 ⟨by omega, by omega⟩ x59_3_8 ⟨by omega, by omega⟩ _ hBc760 FrX.rf
                · refine g_aload_n dX11_tells_102 rfl ?_
                  refine x_g0_8 (n := 64) (⟨by decide, rfl⟩ : kx 0 0) ffX11_60 dX11_tells_103 rfl ?_
                  refine g_aload_n dX11_tells_106 rfl ?_
                  refine x_g0_10 (n := (P 0 10).toNat) (⟨by decide, rfl⟩ : kx 0 0) ffX11_71 dX11_tells_107 ((FrX.g hFc760 (⟨by decide, rfl⟩ : kx 0 0) rfl).trans ((FrX.g hE59_8 (⟨by decide, rfl⟩ : kx 0 0) rfl).trans ((FrX.g hFc8 (⟨by decide, rfl⟩ : kx 0 0) rfl).trans ((FrX.g hFc5 (⟨by decide, rfl⟩ : kx 0 0) rfl).trans (br_0_10 hB))))) ?_
                  refine g_aload_n dX11_tells_110 rfl ?_
                  refine x_g0_5 (n := 14) (⟨by decide, rfl⟩ : kx 0 0) ffX11_43 dX11_tells_111 rfl ?_
                  refine g_iload dX11_tells_114 rfl ?_
                  refine g_vI (av := [vR (P 0 10).toNat, vR 14, vI rc759]) (o := 64) (st := []) (m_X8_mostLeft G Pc760 (P 0 10).toNat 14 rc759 (bk_0_10 hB) (⟨by decide, rfl⟩ : kx 14 14) ⟨by omega, by omega⟩ hBc760  _ (fun rc770 hc770 Pc770 hBc770 hFc770 => ⟨rc770, rfl, ?_⟩)) cf_X8_mostLeft t_1245 rfl (show kx 64 22 from (⟨by decide, rfl⟩ : kx 64 22)).1 ((show kx 64 22 from (⟨by decide, rfl⟩ : kx 64 22)).sh rfl) rfl rfl (Nat.le_of_ble_eq_true rfl) (by decide) rfl dX11_tells_116
                  refine g_istore (l1 := [(6, vI rc770), (5, vI rc759), (0, vR 0), (1, vI a1), (2, vI x59_2_8), (3, vI x59_3_8), (4, vI x59_4_8)]) dX11_tells_119 (by decide) rfl ?_
                  refine g_iload_n dX11_tells_121 rfl ?_
                  refine g_iconst dX11_tells_122 ?_
                  have J132_772 : ∀ (_ : True), Go WSX G 5 iX11_tells 132 [(0, vR 0), (1, vI a1), (4, vI x59_4_8), (6, vI rc770)] [] Pc770 Q := by
                    intro _
                    refine g_iload dX11_tells_132 rfl ?_
                    refine g_istore_n (l1 := [(2, vI x59_4_8), (0, vR 0), (1, vI a1), (4, vI x59_4_8), (6, vI rc770)]) dX11_tells_134 (by decide) rfl ?_
                    refine g_iload dX11_tells_135 rfl ?_
                    refine g_istore_n (l1 := [(3, vI rc770), (2, vI x59_4_8), (0, vR 0), (1, vI a1), (4, vI x59_4_8), (6, vI rc770)]) dX11_tells_137 (by decide) rfl ?_
                    refine g_forget (l1 := [(0, vR 0), (1, vI a1), (2, vI x59_4_8), (3, vI rc770), (4, vI x59_4_8)]) (by intro q hq; simp only [List.mem_cons, List.not_mem_nil, or_false] at hq ⊢; rcases hq with rfl | rfl | rfl | rfl | rfl <;> simp) ?_
                    exact J138_767 x59_4_8 ⟨by omega, by omega⟩ rc770 ⟨by omega, by omega⟩ _ hBc770 (FrX.c FrX.rf hFc770 rfl)
                  refine g_icmp_eq (tgt := 132) dX11_tells_123 (by decide) ⟨by omega, by omega⟩ (by decide) (fun k774 => ?_) (fun k774 => ?_)
                  · refine g_forget (l1 := [(0, vR 0), (1, vI a1), (4, vI x59_4_8), (6, vI rc770)]) (by intro q hq; simp only [List.mem_cons, List.not_mem_nil, or_false] at hq ⊢; rcases hq with rfl | rfl | rfl | rfl <;> simp) ?_
                    exact J132_772 trivial
                  · refine g_iload dX11_tells_126 rfl ?_
                    refine g_iload_n dX11_tells_128 rfl ?_
                    refine g_icmp_ge (tgt := 138) dX11_tells_129 (by decide) ⟨by omega, by omega⟩ ⟨by omega, by omega⟩ (fun k775 => ?_) (fun k775 => ?_)
                    · refine g_forget (l1 := [(0, vR 0), (1, vI a1), (2, vI x59_2_8), (3, vI x59_3_8), (4, vI x59_4_8)]) (by intro q hq; simp only [List.mem_cons, List.not_mem_nil, or_false] at hq ⊢; rcases hq with rfl | rfl | rfl | rfl | rfl <;> simp) ?_
                      exact J138_767 x59_2_8 ⟨by omega, by omega⟩ x59_3_8 ⟨by omega, by omega⟩ _ hBc770 (FrX.c FrX.rf hFc770 rfl)
                    · refine g_forget (l1 := [(0, vR 0), (1, vI a1), (4, vI x59_4_8), (6, vI rc770)]) (by intro q hq; simp only [List.mem_cons, List.not_mem_nil, or_false] at hq ⊢; rcases hq with rfl | rfl | rfl | rfl <;> simp) ?_
                      exact J132_772 trivial
          refine g_forget (l1 := [(0, vR 0), (1, vI a1), (2, vI (-1)), (3, vI 0), (4, vI 0)]) (by intro q hq; simp only [List.mem_cons, List.not_mem_nil, or_false] at hq ⊢; rcases hq with rfl | rfl | rfl | rfl | rfl <;> simp) ?_
          exact L59_8 _ 0 (by decide) 0 (by decide) (-1) (by decide) _ hBc8 FrX.rf (Nat.lt_succ_self _)
        · refine g_iconst dX11_tells_43 ?_
          exact g_retI dX11_tells_44 rfl (hQ (-1) (by decide) _ hBc5 (FrX.c FrX.rf hFc5 rfl) )
      · refine g_iconst dX11_tells_16 ?_
        exact g_retI dX11_tells_17 rfl (hQ (-1) (by decide) _ hB FrX.rf )
end
section
/-! What the constructors stand in, with all their cells kept. -/
abbrev ty5 (K : Nat → ClassId) : List (ClassId × FieldType) := [(K 0, .int), (K 1, .long), (K 2, .object RX2), (K 3, .object RX5), (K 4, .array .int)]
abbrev nPre (dC : Nat → ClassId) (dI : Nat → Nat → Nat) (K : Nat → ClassId) (sz : Nat) (W : va_W) : State → Prop := fun U => U.heap.size = sz ∧ va_P (dC, dI) vwCl W U.heap ∧ va_K (dC, dI) vwCl (ty5 K) U ∧ va_D (fun _ => True) W ∧ gN U ∧ nX U
theorem nBlind {dC : Nat → ClassId} {dI : Nat → Nat → Nat} {K : Nat → ClassId} {sz : Nat} {W : va_W} {av : List Value} : FrameBlind (va_Pc av (nPre dC dI K sz W)) := fun a U g mk q => by
  obtain ⟨q0, q1, qP, qK, qD, qN, qX⟩ := q
  exact ⟨q0, q1, qP, va_K.moved (u := U) (U := U.calling g mk a) (Vm.Alike.refl U.vm) qK, qD, qN.same rfl, qX.same (u := U) (U := U.calling g mk a) rfl⟩
theorem nGo {dC : Nat → ClassId} {dI : Nat → Nat → Nat} {K : Nat → ClassId} {W : va_W} {av : List Value} {s : State} {H : Heap} {A : Nat → Prop} (hP : va_P (dC, dI) vwCl W H) (hK : va_K (dC, dI) vwCl (ty5 K) s) (hD : va_D A W) (hN : gN s) (hX : nX s) : ∀ U : State, U.heap = H → s.WarmedH U.vm → va_Pc av (nPre dC dI K H.size W) av.toArray U := fun U hU hW => ⟨rfl, by rw [hU], by rw [hU]; exact hP, va_K.moved hW.alike hK, hD.weaken (fun _ _ _ _ => trivial), hN.warm hW, hX.warm hW⟩
section NR
variable {p : Program} {l : Launch} {e : Env} {R : Room} {s : State} {m : MethodId} {args : Array Value} {below : List Frame} {meth : Method} {c : Code} {H : Heap} {locs : List Loc} {cells slots : Nat} {Q : State → Prop}
variable {cc : ByteArray} {pc : Nat} {ls : Array Slot} {rest : List Value} {D : va_G} {cl : List vw_C} {A : Nat → Prop} {ws : va_W} {H0 : Heap} {K : Nat → ClassId}
/-- new int[n], kept -/
theorem n_newI (hexec : p.tables.exec = Jvm.exec) (hb : c.code = cc) (harr : (Cond.arrayClass .int).before args s = true) (hK : va_K D cl (ty5 K) s) (hP : va_P D cl ws H) (hD : va_D A ws) (hS : va_S A H0 H locs) (hA : ∀ q, H0.size ≤ q → A q) {n : Int32} {N' k2 n2 : Nat} (hn : ¬ n < 0) (hN : n.toNatClampNeg = N') (hbytes : N' * 4 ≤ 536870912) (hcells : cells + 1 ≤ R.cells) (hslots : slots + N' ≤ R.slots) (hk2 : cells + 1 = k2) (hn2 : slots + N' = n2) (hdg : decode cc pc = .ok (.newarray .int, 2))
    (kk : ∀ (q : Nat) (H1 : Heap), va_P D cl (ws ++ [(q, .inl (K 0, N', .inl (fun _ => 0)))]) H1 → va_D A (ws ++ [(q, .inl (K 0, N', .inl (fun _ => 0)))]) → va_S A H0 H1 locs → W p l e R s m args below meth c H1 locs k2 n2 Q (F0 m (pc + 2) ls (.ref q :: rest))) : W p l e R s m args below meth c H locs cells slots Q (F0 m pc ls (.int n :: rest)) := by
  subst hk2; subst hn2
  refine va_newa (atype := .int) (ty := .int) (a0 := (N', .inl (fun _ => 0))) hexec hb harr rfl hK hP hD hS hA (fun _ => rfl) hn hN hbytes hcells hslots hdg (fun q cA H1 hK1 hP1 hD1 hS1 => ?_)
  have e1 : cA = K 0 := ty_one hK1 (i := 5) (j := 0) rfl rfl
  subst e1
  exact kk q H1 hP1 hD1 hS1
theorem n_newJ (hexec : p.tables.exec = Jvm.exec) (hb : c.code = cc) (harr : (Cond.arrayClass .long).before args s = true) (hK : va_K D cl (ty5 K) s) (hP : va_P D cl ws H) (hD : va_D A ws) (hS : va_S A H0 H locs) (hA : ∀ q, H0.size ≤ q → A q) {n : Int32} {N' k2 n2 : Nat} (hn : ¬ n < 0) (hN : n.toNatClampNeg = N') (hbytes : N' * 8 ≤ 536870912) (hcells : cells + 1 ≤ R.cells) (hslots : slots + N' ≤ R.slots) (hk2 : cells + 1 = k2) (hn2 : slots + N' = n2) (hdg : decode cc pc = .ok (.newarray .long, 2))
    (kk : ∀ (q : Nat) (H1 : Heap), va_P D cl (ws ++ [(q, .inl (K 1, N', .inr (.inl (fun _ => 0))))]) H1 → va_D A (ws ++ [(q, .inl (K 1, N', .inr (.inl (fun _ => 0))))]) → va_S A H0 H1 locs → W p l e R s m args below meth c H1 locs k2 n2 Q (F0 m (pc + 2) ls (.ref q :: rest))) : W p l e R s m args below meth c H locs cells slots Q (F0 m pc ls (.int n :: rest)) := by
  subst hk2; subst hn2
  refine va_newa (atype := .long) (ty := .long) (a0 := (N', .inr (.inl (fun _ => 0)))) hexec hb harr rfl hK hP hD hS hA (fun _ => rfl) hn hN hbytes hcells hslots hdg (fun q cA H1 hK1 hP1 hD1 hS1 => ?_)
  have e1 : cA = K 1 := ty_oneJ hK1 (i := 5) (j := 1) rfl rfl
  subst e1
  exact kk q H1 hP1 hD1 hS1
theorem ty_oneQ {U : State} {tys : List (ClassId × FieldType)} {i j : Nat} {c1 c2 : ClassId} {C : String} (hK : va_K D cl tys U) (h1 : tys[i]? = some (c1, .object C)) (h2 : tys[j]? = some (c2, .object C)) : c1 = c2 := by
  obtain ⟨_, _, _, _, _, a⟩ := (hK.2 i _ h1).2
  obtain ⟨_, _, _, _, _, b⟩ := (hK.2 j _ h2).2
  exact Option.some.inj (a.symm.trans b)
/-- new C[n], kept -/
theorem n_newQ (hexec : p.tables.exec = Jvm.exec) (hb : c.code = cc) {own C : String} {index t : Nat} (hown : s.vm.findClass own = some m.cls) (hclink : (Cond.classLink own index C).before args s = true) (hover : va_AO C s) (hK : va_K D cl (ty5 K) s) (ht : (ty5 K)[t]? = some (K t, .object C)) (hP : va_P D cl ws H) (hD : va_D A ws) (hS : va_S A H0 H locs) (hA : ∀ q, H0.size ≤ q → A q) {n : Int32} {N' k2 n2 : Nat} (hn : ¬ n < 0) (hN : n.toNatClampNeg = N') (hbytes : N' * 4 ≤ 536870912) (hcells : cells + 1 ≤ R.cells) (hslots : slots + N' ≤ R.slots) (hk2 : cells + 1 = k2) (hn2 : slots + N' = n2) (hdg : decode cc pc = .ok (.anewarray index, 3))
    (kk : ∀ (q : Nat) (H1 : Heap), va_P D cl (ws ++ [(q, .inl (K t, N', .inr (.inr (.inr (.inr (fun _ => none))))))]) H1 → va_D A (ws ++ [(q, .inl (K t, N', .inr (.inr (.inr (.inr (fun _ => none))))))]) → va_S A H0 H1 locs → W p l e R s m args below meth c H1 locs k2 n2 Q (F0 m (pc + 3) ls (.ref q :: rest))) : W p l e R s m args below meth c H locs cells slots Q (F0 m pc ls (.int n :: rest)) := by
  subst hk2; subst hn2
  refine va_newq hexec hb hown hclink hover hK hP hD hS hA hn hN hbytes hcells hslots hdg (fun q cA H1 hK1 hP1 hD1 hS1 => ?_)
  have h5 : (ty5 K ++ [(cA, FieldType.object C)])[5]? = some (cA, .object C) := rfl
  have h6 : (ty5 K ++ [(cA, FieldType.object C)])[t]? = some (K t, .object C) := by
    rw [List.getElem?_append_left (List.getElem?_eq_some_iff.mp ht).1]; exact ht
  have e1 : cA = K t := ty_oneQ hK1 h5 h6
  subst e1
  exact kk q H1 hP1 hD1 hS1
/-- a world whose addresses are the same -/
theorem va_D.addr {w1 w2 : va_W} (h : va_D A w1) (he : w1.map Prod.fst = w2.map Prod.fst) : va_D A w2 := by
  have key : ∀ (k : Nat) (x : Nat × va_E), w2[k]? = some x → ∃ y : Nat × va_E, w1[k]? = some y ∧ y.1 = x.1 := by
    intro k x hx
    have h1 : (w2.map Prod.fst)[k]? = some x.1 := by rw [List.getElem?_map, hx]; rfl
    rw [← he, List.getElem?_map] at h1
    cases h2 : w1[k]? with
    | none => rw [h2] at h1; cases h1
    | some y => rw [h2] at h1; exact ⟨y, rfl, Option.some.inj h1⟩
  refine ⟨fun i j x y hx hy hxy => ?_, fun k x hx => ?_⟩
  · obtain ⟨x1, a1, b1⟩ := key i x hx
    obtain ⟨y1, a2, b2⟩ := key j y hy
    exact h.1 i j x1 y1 a1 a2 (by rw [b1, b2, hxy])
  · obtain ⟨x1, a1, b1⟩ := key k x hx
    rw [← b1]
    exact h.2 k x1 a1
theorem cellQ {cA : ClassId} {n : Nat} {f g : Nat → Option Nat} (h : ∀ i, i < n → f i = g i) : vp_cell cA (n, .inr (.inr (.inr (.inr f)))) = vp_cell cA (n, .inr (.inr (.inr (.inr g)))) := by
  show arrV cA n (fun j => va_rf (f j)) = arrV cA n (fun j => va_rf (g j))
  unfold arrV
  have : (Array.ofFn fun j : Fin n => va_rf (f ↑j)) = Array.ofFn fun j : Fin n => va_rf (g ↑j) := by
    congr 1
    funext j
    rw [h j.1 j.2]
  rw [this]
theorem va_P.q {k q n : Nat} {cA : ClassId} {f g : Nat → Option Nat} (hP : va_P D cl ws H) (hk : ws[k]? = some (q, .inl (cA, n, .inr (.inr (.inr (.inr f)))))) (h : ∀ i, i < n → f i = g i) : va_P D cl (ws.set k (q, .inl (cA, n, .inr (.inr (.inr (.inr g)))))) H := by
  intro j x hx
  by_cases e : k = j
  · subst e
    rw [List.getElem?_set_self (List.getElem?_eq_some_iff.mp hk).1] at hx
    have := hP k _ hk
    rw [← Option.some.inj hx]
    show H[q]? = some (vp_cell cA (n, .inr (.inr (.inr (.inr g)))))
    rw [← cellQ h]
    exact this
  · rw [List.getElem?_set_ne e] at hx
    exact hP j x hx
/-- new int[n][k], kept -/
theorem n_mna (hexec : p.tables.exec = Jvm.exec) (hb : c.code = cc) {own : String} {index : Nat} (hown : s.vm.findClass own = some m.cls) (hclink : (Cond.classLink own index "[[I").before args s = true) (hover : gA s) (harr : (Cond.arrayClass .int).before args s = true) (hK : va_K D cl (ty5 K) s) (hP : va_P D cl ws H) (hD : va_D A ws) (hS : va_S A H0 H locs) (hA : ∀ q, H0.size ≤ q → A q) {n k : Int32} {N' K' k2 n2 : Nat} (hn : ¬ n < 0) (hk : ¬ k < 0) (hN : n.toNatClampNeg = N') (hM : k.toNatClampNeg = K')
    (hb1 : N' * 4 ≤ 536870912) (hb2 : K' * 4 ≤ 536870912) (hb3 : K' ≤ 536870912) (hcells : cells + (1 + N') ≤ R.cells) (hslots : slots + (N' + N' * K') ≤ R.slots) (hk2 : cells + 1 + N' = k2) (hn2 : slots + N' + N' * K' = n2) (hdg : decode cc pc = .ok (.multianewarray index 2, 4))
    (kk : ∀ (q : Nat) (qi : Nat → Nat) (H1 : Heap), va_P D cl (ws ++ ((q, .inl (K 4, N', .inr (.inr (.inr (.inr (fun j => some (qi j))))))) :: (List.range N').map fun j => (qi j, .inl (K 0, K', .inl (fun _ => 0))))) H1 → va_D A (ws ++ ((q, .inl (K 4, N', .inr (.inr (.inr (.inr (fun j => some (qi j))))))) :: (List.range N').map fun j => (qi j, .inl (K 0, K', .inl (fun _ => 0))))) → va_S A H0 H1 locs → W p l e R s m args below meth c H1 locs k2 n2 Q (F0 m (pc + 4) ls (.ref q :: rest))) : W p l e R s m args below meth c H locs cells slots Q (F0 m pc ls (.int k :: .int n :: rest)) := by
  subst hk2; subst hn2; subst hN; subst hM
  intro T hT Xs
  obtain ⟨vm₁, cA, comp, -, fA, fC, -, -, X', step⟩ := Jvm.Stand.multianewarray2F (ty := .int) Xs hexec hown hclink hover harr (g := F0 m pc ls (.int k :: .int n :: rest)) rfl (by rw [hb]; exact hdg) rfl hn hk hb1 hb2 hb3 rfl rfl hcells hslots
  have ec : cA = K 4 := Option.some.inj (fA.symm.trans (hK.2 4 _ rfl).2)
  have ei : comp = K 0 := Option.some.inj (fC.symm.trans (hK.2 0 _ rfl).2)
  subst ec ei
  generalize hF : Jvm.Free.Multi.fill (T.setVm vm₁) (K 4) (K 0) n.toNatClampNeg k.toNatClampNeg (defaultValue .int) n.toNatClampNeg = F at X' step
  have hTh : (T.setVm vm₁).heap = H := hT
  obtain ⟨f1, f2, -, -⟩ := Jvm.Free.Multi.fill_facts (T.setVm vm₁) (K 4) (K 0) n.toNatClampNeg k.toNatClampNeg (defaultValue .int) n.toNatClampNeg
  rw [hF, hTh] at f1 f2
  have hold : ∀ x : Nat, x < H.size → F.heap[x]? = H[x]? := fun x hx => by
    have h9 := Jvm.Free.Multi.fill_old (T.setVm vm₁) (K 4) (K 0) n.toNatClampNeg k.toNatClampNeg (defaultValue .int) (a := x) (by rw [hTh]; exact hx) n.toNatClampNeg
    rw [hF, hTh] at h9
    exact h9
  have hinn : ∀ j : Nat, j < n.toNatClampNeg → F.heap[H.size + 1 + j]? = some (vp_cell (K 0) (k.toNatClampNeg, .inl (fun _ => 0))) := fun j hj => by
    have h9 := Jvm.Free.Multi.fill_inner (T.setVm vm₁) (K 4) (K 0) n.toNatClampNeg k.toNatClampNeg (defaultValue .int) n.toNatClampNeg j hj
    rw [hF, hTh] at h9
    rw [h9]
    congr 1
    unfold Jvm.Free.Multi.innerC vp_cell arrV
    dsimp only
    have e1 : Array.replicate k.toNatClampNeg (defaultValue FieldType.int) = Array.ofFn fun _ : Fin k.toNatClampNeg => Value.int 0 := by
      apply Array.ext
      · simp
      · intro i h1 h2
        simp only [Array.getElem_replicate, Array.getElem_ofFn]
        rfl
    rw [e1]
  have hout : F.heap[H.size]? = some (vp_cell (K 4) (n.toNatClampNeg, .inr (.inr (.inr (.inr (fun j => some (H.size + 1 + j))))))) := by
    rw [f2]
    congr 1
    obtain ⟨a1, a2, a3⟩ := Jvm.Free.Multi.outerC_facts (K 4) n.toNatClampNeg H.size n.toNatClampNeg
    obtain ⟨b1, b2⟩ := Jvm.Free.Multi.outerC_plain (K 4) n.toNatClampNeg H.size n.toNatClampNeg
    have hsl : (Jvm.Free.Multi.outerC (K 4) n.toNatClampNeg H.size n.toNatClampNeg).slots = Array.ofFn fun j : Fin n.toNatClampNeg => Value.ref (H.size + 1 + j.1) := by
      apply Array.ext
      · rw [a3]; simp
      · intro i h1 h2
        have hi : i < n.toNatClampNeg := by rw [a3] at h1; exact h1
        have h3 := Jvm.Free.Multi.outerC_slot (K 4) n.toNatClampNeg H.size n.toNatClampNeg i hi
        rw [if_pos hi, Array.getElem?_eq_getElem h1] at h3
        rw [Option.some.inj h3, Array.getElem_ofFn]
    unfold vp_cell arrV
    dsimp only
    generalize Jvm.Free.Multi.outerC (K 4) n.toNatClampNeg H.size n.toNatClampNeg = o at a1 a2 b1 b2 hsl
    obtain ⟨o1, o2, o3, o4, o5⟩ := o
    simp only at a1 a2 b1 b2 hsl
    subst a1 a2 b1 b2 hsl
    rfl
  have hget : ∀ (k9 : Nat) (x : Nat × va_E), (((H.size, .inl (K 4, n.toNatClampNeg, .inr (.inr (.inr (.inr (fun j => some (H.size + 1 + j))))))) :: (List.range n.toNatClampNeg).map fun j => (H.size + 1 + j, .inl (K 0, k.toNatClampNeg, .inl (fun _ => 0)))) : va_W)[k9]? = some x → va_at D cl x F.heap ∧ x.1 = H.size + k9 := by
    intro k9 x hx
    cases k9 with
    | zero => rw [← Option.some.inj hx]; exact ⟨hout, rfl⟩
    | succ j =>
      rw [List.getElem?_cons_succ, List.getElem?_map] at hx
      by_cases hj : j < n.toNatClampNeg
      · rw [List.getElem?_range hj] at hx
        rw [← Option.some.inj hx]
        exact ⟨hinn j hj, by show H.size + 1 + j = _; omega⟩
      · rw [List.getElem?_eq_none (by simpa using hj)] at hx
        cases hx
  have hP0 : va_P D cl ws F.heap := hP.kept (fun k9 x hx => hold x.1 ((hP k9 x hx).lt))
  have hlen : ∀ (k9 : Nat) (x : Nat × va_E), ws[k9]? = some x → x.1 < H.size := fun k9 x hx => (hP k9 x hx).lt
  obtain ⟨t, a1, b1⟩ := kk H.size (fun j => H.size + 1 + j) F.heap (fun k9 x hx => by
      by_cases h : k9 < ws.length
      · rw [List.getElem?_append_left h] at hx; exact hP0 k9 x hx
      · rw [List.getElem?_append_right (by omega)] at hx; exact (hget _ x hx).1) ⟨fun i j x y hx hy he => by
      by_cases hi : i < ws.length
      · rw [List.getElem?_append_left hi] at hx
        by_cases hj : j < ws.length
        · rw [List.getElem?_append_left hj] at hy; exact hD.1 i j x y hx hy he
        · rw [List.getElem?_append_right (by omega)] at hy
          have h1 := hlen i x hx
          have h2 := (hget _ y hy).2
          omega
      · rw [List.getElem?_append_right (by omega)] at hx
        have h1 := (hget _ x hx).2
        by_cases hj : j < ws.length
        · rw [List.getElem?_append_left hj] at hy
          have h2 := hlen j y hy
          omega
        · rw [List.getElem?_append_right (by omega)] at hy
          have h2 := (hget _ y hy).2
          omega, fun k9 x hx => by
      by_cases h : k9 < ws.length
      · rw [List.getElem?_append_left h] at hx; exact hD.2 k9 x hx
      · rw [List.getElem?_append_right (by omega)] at hx
        have h2 := (hget _ x hx).2
        exact hA _ (Nat.le_trans hS.1 (by omega))⟩ ⟨Nat.le_trans hS.1 (by rw [f1]; omega), fun x h1 h2 => (hold x (Nat.lt_of_lt_of_le h1 hS.1)).trans (hS.2.1 x h1 h2), hS.2.2⟩ F rfl X'
  refine ⟨t, step t ?_, b1⟩
  rw [hT]
  exact a1
end NR
end
