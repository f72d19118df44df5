/-! Contracts of the reference: mc. -/
set_option maxRecDepth 100000 in
set_option maxHeartbeats 4000000 in
theorem m_X12_goesOn (G : GT) (P : PH) (f : Int) (a1 : Int) (h_a1 : 0 ≤ a1 ∧ a1 ≤ 0) (hB : BdM P) (p_lx : (P 0 3 = 0 ∨ P 0 4 + 1 ≤ P 0 5) ∧ P 0 4 ≤ P 0 5) (p_sx : 0 < P 0 8 ∨ (SX f 1 P ∧ pot P + 3 ≤ 8 * P 0 4)) (v_CF : CF P) (Q : Option PV → PH → Prop) (hQ : ∀ (r : Int) (_ : 0 ≤ r ∧ r ≤ 1) (P1 : PH) (_ : BdM P1) (_ : FrM ([3, 4, 5, 6, 7, 8, 9, 12, 36, 43], [19, 20, 21, 24, 25, 26, 27]) P P1) (_ : (P1 0 3 = 0 ∨ P1 0 4 + 1 ≤ P1 0 5) ∧ P1 0 4 ≤ P1 0 5) (_ : P 0 4 ≤ P1 0 4) (_ : P 0 8 ≤ 0 ∨ 0 < P1 0 8) (_ : LO P P1) (_ : 0 < P1 0 8 ∨ (r = 1 ∧ SX f 0 P1 ∧ pot P1 ≤ 8 * P1 0 4) ∨ (r = 0 ∧ WF P1 (P 0 37) f (2800 * P 0 37 + P1 0 36) ∧ 5 * P1 0 36 ≤ 8 * P1 0 4)), Q (some (vI r)) P1) : Ct WSM G 4 iX12_goesOn [vR 0, vI a1] P Q := by
  refine Ct.of (by decide) (l0 := [(0, vR 0), (1, vI a1)]) rfl (Nat.le_of_ble_eq_true rfl) ?_
  have ivI_LO : LO P P := LO.rf
  have L0_0 : ∀ (n0_0 : Nat) (H0_0 : PH) (hB0_0 : BdM H0_0) (hE0_0 : FrM ([3, 4, 5, 6, 7, 8, 9, 12, 36, 43], [19, 20, 21, 25]) P H0_0) (i0_0_0 : 0 < H0_0 0 8 ∨ (SX f 1 H0_0 ∧ pot H0_0 + 3 ≤ 8 * H0_0 0 4)) (i0_1_0 : P 0 8 ≤ 0 ∨ 0 < H0_0 0 8) (i0_2_0 : P 0 4 ≤ H0_0 0 4) (i0_3_0 : (H0_0 0 3 = 0 ∨ H0_0 0 4 + 1 ≤ H0_0 0 5) ∧ H0_0 0 4 ≤ H0_0 0 5) (w0_LO_0 : LO P H0_0) (hm0_0 : (H0_0 0 43 : Int).toNat < n0_0), Go WSM G 4 iX12_goesOn 0 [(0, vR 0), (1, vI a1)] [] H0_0 Q := by
    intro n0_0
    induction n0_0 with
    | zero => intro H0_0 hB0_0 hE0_0 i0_0_0 i0_1_0 i0_2_0 i0_3_0 w0_LO_0 hm0_0; exact absurd hm0_0 (Nat.not_lt_zero _)
    | succ n0_0 ih0_0 =>
    intro H0_0 hB0_0 hE0_0 i0_0_0 i0_1_0 i0_2_0 i0_3_0 w0_LO_0 hm0_0
    refine g_aload_n dX12_goesOn_0 rfl ?_
    refine m_g8 (z := (H0_0 0 8)) rfl dX12_goesOn_1 rfl ?_
    have f354 := b0_8 hB0_0
    refine g_if_ne (tgt := 192) dX12_goesOn_4 (by decide) ⟨by have q0 := b0_8 hB0_0; omega, by have q0 := b0_8 hB0_0; omega⟩ (fun k355 => ?_) (fun k355 => ?_)
    · refine g_iconst dX12_goesOn_192 ?_
      exact g_retZ dX12_goesOn_193 rfl (by decide) (hQ 0 (by decide) _ hB0_0 (FrM.c FrM.rf hE0_0 rfl) (by have q0 := b0_3 hB0_0; have q1 := b0_4 hB0_0; have q2 := b0_5 hB0_0; omega) (by have q0 := b0_4 hB0_0; omega) (by have q0 := b0_8 hB0_0; omega) (w0_LO_0) (by first | (left; have q8 := (rfl : H0_0 0 8 = (H0_0 0 8)); omega) | (right; left; exact ⟨rfl, hNONE, by have q4 := (rfl : H0_0 0 4 = (H0_0 0 4)); have qp := trivial; omega⟩)))
    · have hb36 := b0_36 hB0_0
      have hb04 := b0_4 hB0_0
      obtain ⟨p0, hp0⟩ : ∃ p, p = pot H0_0 := ⟨_, rfl⟩
      have hi9 := i0_0_0.resolve_left (by omega)
      have hs43 := hi9.1.1
      have hsx1 := hi9.1
      have hpo9 := hi9.2
      have hle9 := hi9.1.2.2.2.2.2.2
      have iv356 : SX f 1 H0_0 := hsx1
      refine g_aload_n dX12_goesOn_7 rfl ?_
      refine m_g40 rfl dX12_goesOn_8 ?_
      refine g_aload_n dX12_goesOn_11 rfl ?_
      refine m_g43 (z := (H0_0 0 43)) rfl dX12_goesOn_12 rfl ?_
      refine m_l25 (z := (H0_0 25 (H0_0 0 43))) dX12_goesOn_15 ⟨by have q0 := b0_43 hB0_0; omega, by have q0 := b0_43 hB0_0; omega⟩ rfl ?_
      have f357 := bl_25 (k := (H0_0 0 43)) hB0_0
      refine g_if_le (tgt := 27) dX12_goesOn_16 (by decide) ⟨by have q0 := bl_25 (k := (H0_0 0 43)) hB0_0; omega, by have q0 := bl_25 (k := (H0_0 0 43)) hB0_0; omega⟩ (fun k358 => ?_) (fun k358 => ?_)
      · have hq43 := (rfl : H0_0 0 43 = (H0_0 0 43))
        have hb27 := hB0_0
        have hA : ((SX f 0 H0_0 ∧ 0 < H0_0 25 (H0_0 0 43)) ∨ (SX f 1 H0_0 ∧ H0_0 25 (H0_0 0 43) ≤ 0)) ∧ 0 ≤ H0_0 25 (H0_0 0 43) ∧ H0_0 25 (H0_0 0 43) + 1 ≤ H0_0 0 36 := by
          have q25 : ∀ j, H0_0 25 j = _ := fun j => rfl
          have q36 := (rfl : H0_0 0 36 = (H0_0 0 36))
          rw [hq43, q25]
          refine ⟨?_, by omega, by omega⟩
          first | exact Or.inl ⟨hNONE, by omega⟩ | exact Or.inr ⟨iv356, by omega⟩
        have hx27 : (0 < H0_0 25 (H0_0 0 43) ∧ pot H0_0 = p0 + 5) ∨ (H0_0 25 (H0_0 0 43) ≤ 0 ∧ pot H0_0 = p0) := by
          have q25 : ∀ j, H0_0 25 j = _ := fun j => rfl
          rw [hq43, q25]
          omega
        refine g_aload_n dX12_goesOn_27 rfl ?_
        refine m_g40 rfl dX12_goesOn_28 ?_
        refine g_aload_n dX12_goesOn_31 rfl ?_
        refine m_g43 (z := (H0_0 0 43)) rfl dX12_goesOn_32 rfl ?_
        refine g_dup2 dX12_goesOn_35 rfl rfl ?_
        refine m_l25 (z := (H0_0 25 (H0_0 0 43))) dX12_goesOn_36 ⟨by have q0 := b0_43 hB0_0; omega, by have q0 := b0_43 hB0_0; omega⟩ rfl ?_
        refine g_iconst dX12_goesOn_37 ?_
        refine g_iadd dX12_goesOn_38 ?_
        refine m_s25 dX12_goesOn_39 ⟨by have q0 := b0_43 hB0_0; omega, by have q0 := b0_43 hB0_0; omega⟩ ?_
        have hB359 := ba_25 (z := ((H0_0 25 (H0_0 0 43)) + 1)) (k := (H0_0 0 43)) hB0_0 ⟨by have q0 := bl_25 (k := (H0_0 0 43)) hB0_0; omega, by have q0 := bl_25 (k := (H0_0 0 43)) hB0_0; omega⟩
        have hcn := SX.count (P1 := (up H0_0 25 (H0_0 0 43) ((H0_0 25 (H0_0 0 43)) + 1))) hA.1 ((up_o (by decide)).trans rfl) ((up_o (by decide)).trans rfl) ((up_o (by decide)).trans rfl) (fun j hj9 => by have hj : j ≠ (H0_0 0 43) := (by omega); exact ((up_k hj).trans rfl)) (by rw [hq43]; rw [show (up H0_0 25 (H0_0 0 43) ((H0_0 25 (H0_0 0 43)) + 1)) 25 (H0_0 0 43) = _ from up_same]; omega) (by rw [hq43]; rw [show (up H0_0 25 (H0_0 0 43) ((H0_0 25 (H0_0 0 43)) + 1)) 25 (H0_0 0 43) = _ from up_same]; omega) (fun j => ((up_o (by decide)).trans rfl)) (fun j => ((up_o (by decide)).trans rfl)) (fun j => ((up_o (by decide)).trans rfl)) (fun j => ((up_o (by decide)).trans rfl)) (fun j => ((up_o (by decide)).trans rfl)) (fun j => ((up_o (by decide)).trans rfl)) (fun j => ((up_o (by decide)).trans rfl)) (fun j => ((up_o (by decide)).trans rfl)) (fun j => ((up_o (by decide)).trans rfl))
        have hp40 : pot (up H0_0 25 (H0_0 0 43) ((H0_0 25 (H0_0 0 43)) + 1)) = p0 + 5 := by have q := hcn.2; omega
        have iv360 : SX f 0 (up H0_0 25 (H0_0 0 43) ((H0_0 25 (H0_0 0 43)) + 1)) := hcn.1
        have iv361 : TP (up H0_0 25 (H0_0 0 43) ((H0_0 25 (H0_0 0 43)) + 1)) := by unfold TP; rw [show (up H0_0 25 (H0_0 0 43) ((H0_0 25 (H0_0 0 43)) + 1)) 0 43 = _ from ((up_o (by decide)).trans rfl), show (up H0_0 25 (H0_0 0 43) ((H0_0 25 (H0_0 0 43)) + 1)) 25 (H0_0 0 43) = _ from up_same]; omega
        refine g_aload_n dX12_goesOn_40 rfl ?_
        refine g_vV (av := []) (o := 0) (st := []) (m_X12_lex G (up H0_0 25 (H0_0 0 43) ((H0_0 25 (H0_0 0 43)) + 1))  hB359  _ (fun Pc362 hBc362 hFc362 gc362_pe => ⟨rfl, ?_⟩)) cf_X12_lex t_1697 rfl (by decide) rfl rfl rfl (Nat.le_of_ble_eq_true rfl) (by decide) rfl dX12_goesOn_41
        have z363 : (up H0_0 25 (H0_0 0 43) ((H0_0 25 (H0_0 0 43)) + 1)) 0 8 = (H0_0 0 8) := ((up_o (by decide)).trans rfl)
        refine g_aload_n dX12_goesOn_44 rfl ?_
        refine m_g8 (z := (Pc362 0 8)) rfl dX12_goesOn_45 rfl ?_
        have f364 := b0_8 hBc362
        refine g_if_le (tgt := 53) dX12_goesOn_48 (by decide) ⟨by have q0 := b0_8 hBc362; omega, by have q0 := b0_8 hBc362; omega⟩ (fun k365 => ?_) (fun k365 => ?_)
        · refine g_aload_n dX12_goesOn_53 rfl ?_
          refine g_ldc2 (z := 28530) dX12_goesOn_54 t_1734 (by decide) ?_
          refine g_vI (av := [vL 28530]) (o := 0) (st := []) (m_X12_isWord G Pc362 28530 (by decide) hBc362  _ (fun rc366 hc366 gc366_w => ⟨rc366, rfl, ?_⟩)) cf_X12_isWord t_1706 rfl (by decide) rfl rfl rfl (Nat.le_of_ble_eq_true rfl) (by decide) rfl dX12_goesOn_57
          have z367 : Pc362 0 3 = (H0_0 0 3) := ((hFc362.1 3 rfl).trans ((up_o (by decide)).trans rfl))
          have z368 : Pc362 0 7 = (H0_0 0 7) := ((hFc362.1 7 rfl).trans ((up_o (by decide)).trans rfl))
          refine g_if_eq (tgt := 69) dX12_goesOn_60 (by decide) ⟨by omega, by omega⟩ (fun k369 => ?_) (fun k369 => ?_)
          · refine g_aload_n dX12_goesOn_69 rfl ?_
            refine g_dup dX12_goesOn_70 rfl ?_
            refine m_g43 (z := (H0_0 0 43)) rfl dX12_goesOn_71 ((hFc362.1 43 rfl).trans ((up_o (by decide)).trans rfl)) ?_
            refine g_iconst dX12_goesOn_74 ?_
            refine g_isub dX12_goesOn_75 ?_
            have hsx0 := (SX.fr (F := ([8, 9], [])) iv360 (FrM.c FrM.rf hFc362 rfl) rfl)
            have hb0 := hBc362
            have htp := (TP.fr (F := ([8, 9], [])) iv361 (FrM.c FrM.rf hFc362 rfl) rfl)
            have hz43 := (((hFc362.1 43 rfl).trans ((up_o (by decide)).trans rfl)) : Pc362 0 43 = (H0_0 0 43))
            have hz37 := (((hFc362.1 37 rfl).trans ((up_o (by decide)).trans ((hE0_0.1 37 rfl).trans rfl))) : Pc362 0 37 = (P 0 37))
            have r26 : ∀ j, Pc362 26 j = P 26 j := fun j => ((congrFun (hFc362.2 26 rfl rfl) _).trans ((up_o (by decide)).trans ((congrFun (hE0_0.2 26 rfl rfl) _).trans rfl)))
            have r27 : ∀ j, Pc362 27 j = P 27 j := fun j => ((congrFun (hFc362.2 27 rfl rfl) _).trans ((up_o (by decide)).trans ((congrFun (hE0_0.2 27 rfl rfl) _).trans rfl)))
            have r5 : ∀ j, Pc362 5 j = P 5 j := fun j => ((congrFun (hFc362.2 5 rfl rfl) _).trans ((up_o (by decide)).trans ((congrFun (hE0_0.2 5 rfl rfl) _).trans rfl)))
            have r6 : ∀ j, Pc362 6 j = P 6 j := fun j => ((congrFun (hFc362.2 6 rfl rfl) _).trans ((up_o (by decide)).trans ((congrFun (hE0_0.2 6 rfl rfl) _).trans rfl)))
            have r7 : ∀ j, Pc362 7 j = P 7 j := fun j => ((congrFun (hFc362.2 7 rfl rfl) _).trans ((up_o (by decide)).trans ((congrFun (hE0_0.2 7 rfl rfl) _).trans rfl)))
            have k36 : (36 : Int) ≠ 43 := by decide
            have hq4 := b0_4 hB
            have hq1 := pot_c Pc362
            have hq2 := (pot_fr (F := ([8, 9], [])) (FrM.c FrM.rf hFc362 rfl) rfl : pot Pc362 = pot (up H0_0 25 (H0_0 0 43) ((H0_0 25 (H0_0 0 43)) + 1)))
            have hq3 := b0_4 hBc362
            have hq6 := (((hFc362.1 36 rfl).trans ((up_o (by decide)).trans rfl)) : Pc362 0 36 = (H0_0 0 36))
            refine m_p43 rfl dX12_goesOn_76 ?_
            have hB370 := bs_43 (z := ((H0_0 0 43) - 1)) hBc362 ⟨by have q0 := b0_43 hB0_0; omega, by have q0 := b0_43 hB0_0; omega⟩
            refine g_aload_n dX12_goesOn_79 rfl ?_
            refine m_g43 (z := ((H0_0 0 43) - 1)) rfl dX12_goesOn_80 up_same ?_
            refine g_iload_n dX12_goesOn_83 rfl ?_
            have f371 := b0_43 hB0_0
            refine g_icmp_ne (tgt := 89) dX12_goesOn_84 (by decide) ⟨by have q0 := b0_43 hB0_0; omega, by have q0 := b0_43 hB0_0; omega⟩ ⟨by omega, by omega⟩ (fun k372 => ?_) (fun k372 => ?_)
            · refine g_aload_n dX12_goesOn_89 rfl ?_
              refine g_iconst dX12_goesOn_90 ?_
              refine g_iconst dX12_goesOn_91 ?_
              refine g_iconst dX12_goesOn_92 ?_
              have hb1 := hB370
              have he0 := (up_same : (up Pc362 0 43 ((H0_0 0 43) - 1)) 0 43 = ((H0_0 0 43) - 1))
              have hlo : LO P (up Pc362 0 43 ((H0_0 0 43) - 1)) := (LO.fr (F := ([8, 9, 43], [25])) w0_LO_0 (FrM.s (FrM.c (FrM.a FrM.rf rfl rfl) hFc362 rfl) rfl) rfl)
              refine g_vV (av := [vI 4, vI 0, vI 0]) (o := 0) (st := []) (m_X12_emits G (up Pc362 0 43 ((H0_0 0 43) - 1)) 4 0 0 (by decide) (by decide) (by decide) hB370 (by have q0 := (((up_k (by decide)).trans ((hFc362.1 36 rfl).trans ((up_o (by decide)).trans rfl))) : (up Pc362 0 43 ((H0_0 0 43) - 1)) 0 36 = (H0_0 0 36)); have q1 := b0_36 hB0_0; omega) _ (fun Pc373 hBc373 hFc373 gc373_o gc373_e => ⟨rfl, ?_⟩)) cf_X12_emits t_1788 rfl (by decide) rfl rfl rfl (Nat.le_of_ble_eq_true rfl) (by decide) rfl dX12_goesOn_93
              have z374 : (up Pc362 0 43 ((H0_0 0 43) - 1)) 0 36 = (H0_0 0 36) := ((up_k (by decide)).trans ((hFc362.1 36 rfl).trans ((up_o (by decide)).trans rfl)))
              have iv375 : LO P Pc373 := hlo.trans (gc373_e.lo hFc373 rfl (by have q := (((up_k (by decide)).trans ((hFc362.1 36 rfl).trans ((up_o (by decide)).trans rfl))) : (up Pc362 0 43 ((H0_0 0 43) - 1)) 0 36 = (H0_0 0 36)); omega))
              refine g_aload_n dX12_goesOn_96 rfl ?_
              refine g_iconst dX12_goesOn_97 ?_
              refine g_iconst dX12_goesOn_98 ?_
              refine g_iconst dX12_goesOn_99 ?_
              have hb2 := hBc373
              have hlo : LO P Pc373 := iv375
              refine g_vV (av := [vI 5, vI 0, vI 0]) (o := 0) (st := []) (m_X12_emits G Pc373 5 0 0 (by decide) (by decide) (by decide) hBc373 (by have q0 := b0_36 hBc373; omega) _ (fun Pc376 hBc376 hFc376 gc376_o gc376_e => ⟨rfl, ?_⟩)) cf_X12_emits t_1788 rfl (by decide) rfl rfl rfl (Nat.le_of_ble_eq_true rfl) (by decide) rfl dX12_goesOn_100
              have hpop := hsx0.pop hb0 hb1 hb2 htp hz43 (by omega) (FrM.s FrM.rf rfl) he0 gc373_e hFc373 gc376_e hFc376 hz37
              have iv377 : SX f 1 Pc376 := hpop.1
              have iv378 : LO P Pc376 := hlo.trans (gc376_e.lo hFc376 rfl (by have q := (rfl : Pc373 0 36 = (Pc373 0 36)); omega))
              refine g_aload_n dX12_goesOn_103 rfl ?_
              refine m_g41 rfl dX12_goesOn_104 ?_
              refine g_aload_n dX12_goesOn_107 rfl ?_
              refine m_g43 (z := ((H0_0 0 43) - 1)) rfl dX12_goesOn_108 ((hFc376.1 43 rfl).trans ((hFc373.1 43 rfl).trans up_same)) ?_
              refine m_l26 (z := (P 26 ((H0_0 0 43) - 1))) dX12_goesOn_111 ⟨by have q0 := b0_43 hB0_0; omega, by have q0 := b0_43 hB0_0; omega⟩ ((congrFun (hFc376.2 26 rfl rfl) _).trans ((congrFun (hFc373.2 26 rfl rfl) _).trans ((up_o (by decide)).trans ((congrFun (hFc362.2 26 rfl rfl) _).trans ((up_o (by decide)).trans ((congrFun (hE0_0.2 26 rfl rfl) _).trans rfl)))))) ?_
              refine g_istore_n (l1 := [(2, vI (P 26 ((H0_0 0 43) - 1))), (0, vR 0), (1, vI a1)]) dX12_goesOn_112 (by decide) rfl ?_
              have hlv := hpop.2.1
              unfold lev at hlv
              simp only [hz37, r26, r27, r5, r6, r7] at hlv
              have hpt := hpop.2.2
              simp only [r27] at hpt
              refine g_aload_n dX12_goesOn_113 rfl ?_
              refine m_g42 rfl dX12_goesOn_114 ?_
              refine g_aload_n dX12_goesOn_117 rfl ?_
              refine m_g43 (z := ((H0_0 0 43) - 1)) rfl dX12_goesOn_118 ((hFc376.1 43 rfl).trans ((hFc373.1 43 rfl).trans up_same)) ?_
              refine m_l27 (z := (P 27 ((H0_0 0 43) - 1))) dX12_goesOn_121 ⟨by have q0 := b0_43 hB0_0; omega, by have q0 := b0_43 hB0_0; omega⟩ ((congrFun (hFc376.2 27 rfl rfl) _).trans ((congrFun (hFc373.2 27 rfl rfl) _).trans ((up_o (by decide)).trans ((congrFun (hFc362.2 27 rfl rfl) _).trans ((up_o (by decide)).trans ((congrFun (hE0_0.2 27 rfl rfl) _).trans rfl)))))) ?_
              refine g_iconst dX12_goesOn_122 ?_
              refine g_iadd dX12_goesOn_123 ?_
              refine g_aload_n dX12_goesOn_124 rfl ?_
              refine m_g19 rfl dX12_goesOn_125 ?_
              refine g_bipush dX12_goesOn_128 (by decide) ?_
              refine g_aload_n dX12_goesOn_130 rfl ?_
              refine m_g37 (z := (P 0 37)) rfl dX12_goesOn_131 ((hFc376.1 37 rfl).trans ((hFc373.1 37 rfl).trans ((up_k (by decide)).trans ((hFc362.1 37 rfl).trans ((up_o (by decide)).trans ((hE0_0.1 37 rfl).trans rfl)))))) ?_
              refine g_imul dX12_goesOn_134 ?_
              refine g_iload_n dX12_goesOn_135 rfl ?_
              refine g_iadd dX12_goesOn_136 ?_
              refine m_l7 (z := (P 7 ((24 * (P 0 37)) + (P 26 ((H0_0 0 43) - 1))))) dX12_goesOn_137 ⟨by have q0 := b0_37 hB; have q1 := bl_26 (k := ((H0_0 0 43) - 1)) hB; omega, by have q0 := b0_37 hB; have q1 := bl_26 (k := ((H0_0 0 43) - 1)) hB; omega⟩ ((congrFun (hFc376.2 7 rfl rfl) _).trans ((congrFun (hFc373.2 7 rfl rfl) _).trans ((up_o (by decide)).trans ((congrFun (hFc362.2 7 rfl rfl) _).trans ((up_o (by decide)).trans ((congrFun (hE0_0.2 7 rfl rfl) _).trans rfl)))))) ?_
              have f379 := bl_27 (k := ((H0_0 0 43) - 1)) hB
              have f380 := bl_7 (k := ((24 * (P 0 37)) + (P 26 ((H0_0 0 43) - 1)))) hB
              refine g_icmp_ge (tgt := 183) dX12_goesOn_138 (by decide) ⟨by have q0 := bl_27 (k := ((H0_0 0 43) - 1)) hB; omega, by have q0 := bl_27 (k := ((H0_0 0 43) - 1)) hB; omega⟩ ⟨by have q0 := bl_7 (k := ((24 * (P 0 37)) + (P 26 ((H0_0 0 43) - 1)))) hB; omega, by have q0 := bl_7 (k := ((24 * (P 0 37)) + (P 26 ((H0_0 0 43) - 1)))) hB; omega⟩ (fun k381 => ?_) (fun k381 => ?_)
              · refine g_aload_n dX12_goesOn_183 rfl ?_
                refine g_bipush dX12_goesOn_184 (by decide) ?_
                refine g_vV (av := [vI 41]) (o := 0) (st := []) (m_X12_must G Pc376 41 (by decide) hBc376 (by have q0 := (((hFc376.1 3 rfl).trans ((hFc373.1 3 rfl).trans ((up_k (by decide)).trans ((hFc362.1 3 rfl).trans ((up_o (by decide)).trans rfl))))) : Pc376 0 3 = (H0_0 0 3)); have q1 := b0_3 hB0_0; have q2 := (((hFc376.1 4 rfl).trans ((hFc373.1 4 rfl).trans ((up_k (by decide)).trans ((hFc362.1 4 rfl).trans ((up_o (by decide)).trans rfl))))) : Pc376 0 4 = (H0_0 0 4)); have q3 := b0_4 hB0_0; have q4 := (((hFc376.1 5 rfl).trans ((hFc373.1 5 rfl).trans ((up_k (by decide)).trans ((hFc362.1 5 rfl).trans ((up_o (by decide)).trans rfl))))) : Pc376 0 5 = (H0_0 0 5)); have q5 := b0_5 hB0_0; omega) _ (fun Pc382 hBc382 hFc382 gc382_lx gc382_mo gc382_pe gc382_ad => ⟨rfl, ?_⟩)) cf_X12_must t_1768 rfl (by decide) rfl rfl rfl (Nat.le_of_ble_eq_true rfl) (by decide) rfl dX12_goesOn_186
                have z383 : Pc376 0 4 = (H0_0 0 4) := ((hFc376.1 4 rfl).trans ((hFc373.1 4 rfl).trans ((up_k (by decide)).trans ((hFc362.1 4 rfl).trans ((up_o (by decide)).trans rfl)))))
                have z384 : Pc376 0 8 = (Pc362 0 8) := ((hFc376.1 8 rfl).trans ((hFc373.1 8 rfl).trans ((up_k (by decide)).trans rfl)))
                refine g_goto (tgt := 0) dX12_goesOn_189 (by decide) ?_
                refine g_forget (l1 := [(0, vR 0), (1, vI a1)]) (by intro q hq; simp only [List.mem_cons, List.not_mem_nil, or_false] at hq ⊢; rcases hq with rfl | rfl <;> simp) ?_
                exact ih0_0 _ hBc382 (FrM.c (FrM.c (FrM.c (FrM.s (FrM.c (FrM.a (FrM.c FrM.rf hE0_0 rfl) rfl rfl) hFc362 rfl) rfl) hFc373 rfl) hFc376 rfl) hFc382 rfl) (by first | exact p_sx | exact (show 0 < Pc382 0 8 ∨ Pc382 0 8 ≤ 0 by omega).elim Or.inl (fun hf => Or.inr ⟨(SX.fr (F := ([3, 4, 5, 6, 7, 8, 9, 12], [])) iv377 (FrM.c FrM.rf hFc382 rfl) rfl), by have q8 := (rfl : Pc382 0 8 = (Pc382 0 8)); have q4 := (rfl : Pc382 0 4 = (Pc382 0 4)); have qp := (pot_fr (F := ([3, 4, 5, 6, 7, 8, 9, 12], [])) (FrM.c FrM.rf hFc382 rfl) rfl : pot Pc382 = pot Pc376); omega⟩)) (by have q0 := b0_8 hBc382; omega) (by have q0 := b0_4 hBc382; omega) (by have q0 := b0_3 hBc382; have q1 := b0_4 hBc382; have q2 := b0_5 hBc382; omega) (LO.fr (F := ([3, 4, 5, 6, 7, 8, 9, 12], [])) iv378 (FrM.c FrM.rf hFc382 rfl) rfl) (by have q0 := (((hFc382.1 43 rfl).trans ((hFc376.1 43 rfl).trans ((hFc373.1 43 rfl).trans up_same))) : Pc382 0 43 = ((H0_0 0 43) - 1)); have q1 := b0_43 hB0_0; omega)
              · refine g_aload_n dX12_goesOn_141 rfl ?_
                refine g_bipush dX12_goesOn_142 (by decide) ?_
                refine g_vV (av := [vI 44]) (o := 0) (st := []) (m_X12_must G Pc376 44 (by decide) hBc376 (by have q0 := (((hFc376.1 3 rfl).trans ((hFc373.1 3 rfl).trans ((up_k (by decide)).trans ((hFc362.1 3 rfl).trans ((up_o (by decide)).trans rfl))))) : Pc376 0 3 = (H0_0 0 3)); have q1 := b0_3 hB0_0; have q2 := (((hFc376.1 4 rfl).trans ((hFc373.1 4 rfl).trans ((up_k (by decide)).trans ((hFc362.1 4 rfl).trans ((up_o (by decide)).trans rfl))))) : Pc376 0 4 = (H0_0 0 4)); have q3 := b0_4 hB0_0; have q4 := (((hFc376.1 5 rfl).trans ((hFc373.1 5 rfl).trans ((up_k (by decide)).trans ((hFc362.1 5 rfl).trans ((up_o (by decide)).trans rfl))))) : Pc376 0 5 = (H0_0 0 5)); have q5 := b0_5 hB0_0; omega) _ (fun Pc385 hBc385 hFc385 gc385_lx gc385_mo gc385_pe gc385_ad => ⟨rfl, ?_⟩)) cf_X12_must t_1768 rfl (by decide) rfl rfl rfl (Nat.le_of_ble_eq_true rfl) (by decide) rfl dX12_goesOn_144
                have z386 : Pc376 0 4 = (H0_0 0 4) := ((hFc376.1 4 rfl).trans ((hFc373.1 4 rfl).trans ((up_k (by decide)).trans ((hFc362.1 4 rfl).trans ((up_o (by decide)).trans rfl)))))
                have z387 : Pc376 0 8 = (Pc362 0 8) := ((hFc376.1 8 rfl).trans ((hFc373.1 8 rfl).trans ((up_k (by decide)).trans rfl)))
                refine g_aload_n dX12_goesOn_147 rfl ?_
                refine m_g8 (z := (Pc385 0 8)) rfl dX12_goesOn_148 rfl ?_
                have f388 := b0_8 hBc385
                refine g_if_ne (tgt := 170) dX12_goesOn_151 (by decide) ⟨by have q0 := b0_8 hBc385; omega, by have q0 := b0_8 hBc385; omega⟩ (fun k389 => ?_) (fun k389 => ?_)
                · refine g_aload_n dX12_goesOn_170 rfl ?_
                  refine m_g8 (z := (Pc385 0 8)) rfl dX12_goesOn_171 rfl ?_
                  refine g_if_ne (tgt := 181) dX12_goesOn_174 (by decide) ⟨by have q0 := b0_8 hBc385; omega, by have q0 := b0_8 hBc385; omega⟩ (fun k390 => ?_) (fun k390 => by exfalso; have q0 := b0_8 hBc385; omega)
                  refine g_iconst dX12_goesOn_181 ?_
                  exact g_retZ dX12_goesOn_182 rfl (by decide) (hQ 0 (by decide) _ hBc385 (FrM.c (FrM.c (FrM.c (FrM.s (FrM.c (FrM.a (FrM.c FrM.rf hE0_0 rfl) rfl rfl) hFc362 rfl) rfl) hFc373 rfl) hFc376 rfl) hFc385 rfl) (by have q0 := b0_3 hBc385; have q1 := b0_4 hBc385; have q2 := b0_5 hBc385; omega) (by have q0 := b0_4 hBc385; omega) (by have q0 := b0_8 hBc385; omega) ((LO.fr (F := ([3, 4, 5, 6, 7, 8, 9, 12], [])) iv378 (FrM.c FrM.rf hFc385 rfl) rfl)) (by first | (left; have q8 := (rfl : Pc385 0 8 = (Pc385 0 8)); omega) | (right; left; exact ⟨rfl, hNONE, by have q4 := (rfl : Pc385 0 4 = (Pc385 0 4)); have qp := (pot_fr (F := ([3, 4, 5, 6, 7, 8, 9, 12], [])) (FrM.c FrM.rf hFc385 rfl) rfl : pot Pc385 = pot Pc376); omega⟩)))
                · refine g_aload_n dX12_goesOn_154 rfl ?_
                  refine g_iload_n dX12_goesOn_155 rfl ?_
                  refine g_aload_n dX12_goesOn_156 rfl ?_
                  refine m_g42 rfl dX12_goesOn_157 ?_
                  refine g_aload_n dX12_goesOn_160 rfl ?_
                  refine m_g43 (z := ((H0_0 0 43) - 1)) rfl dX12_goesOn_161 ((hFc385.1 43 rfl).trans ((hFc376.1 43 rfl).trans ((hFc373.1 43 rfl).trans up_same))) ?_
                  refine m_l27 (z := (P 27 ((H0_0 0 43) - 1))) dX12_goesOn_164 ⟨by have q0 := b0_43 hB0_0; omega, by have q0 := b0_43 hB0_0; omega⟩ ((congrFun (hFc385.2 27 rfl rfl) _).trans ((congrFun (hFc376.2 27 rfl rfl) _).trans ((congrFun (hFc373.2 27 rfl rfl) _).trans ((up_o (by decide)).trans ((congrFun (hFc362.2 27 rfl rfl) _).trans ((up_o (by decide)).trans ((congrFun (hE0_0.2 27 rfl rfl) _).trans rfl))))))) ?_
                  refine g_iconst dX12_goesOn_165 ?_
                  refine g_iadd dX12_goesOn_166 ?_
                  have hlo : LO P Pc385 := (LO.fr (F := ([3, 4, 5, 6, 7, 8, 9, 12], [])) iv378 (FrM.c FrM.rf hFc385 rfl) rfl)
                  have hq4 := b0_4 hB
                  have hq1 := pot_c Pc385
                  have hq2 := (pot_fr (F := ([3, 4, 5, 6, 7, 8, 9, 12], [])) (FrM.c FrM.rf hFc385 rfl) rfl : pot Pc385 = pot Pc376)
                  have hq3 := b0_4 hBc385
                  have hq6 := (((hFc385.1 36 rfl).trans rfl) : Pc385 0 36 = (Pc376 0 36))
                  have f391 := bl_26 (k := ((H0_0 0 43) - 1)) hB
                  refine g_vV (av := [vI (P 26 ((H0_0 0 43) - 1)), vI ((P 27 ((H0_0 0 43) - 1)) + 1)]) (o := 0) (st := []) (m_X12_fieldBegins G Pc385 (f) (P 26 ((H0_0 0 43) - 1)) ((P 27 ((H0_0 0 43) - 1)) + 1) ⟨by have q0 := bl_26 (k := ((H0_0 0 43) - 1)) hB; omega, by have q0 := bl_26 (k := ((H0_0 0 43) - 1)) hB; omega⟩ ⟨by have q0 := bl_27 (k := ((H0_0 0 43) - 1)) hB; omega, by have q0 := bl_27 (k := ((H0_0 0 43) - 1)) hB; omega⟩ hBc385 ((SX.fr (F := ([3, 4, 5, 6, 7, 8, 9, 12], [])) iv377 (FrM.c FrM.rf hFc385 rfl) rfl)) (by rw [show Pc385 0 37 = _ from ((hFc385.1 37 rfl).trans ((hFc376.1 37 rfl).trans ((hFc373.1 37 rfl).trans ((up_k (by decide)).trans ((hFc362.1 37 rfl).trans ((up_o (by decide)).trans ((hE0_0.1 37 rfl).trans rfl))))))), show Pc385 5 (P 0 37) = _ from ((congrFun (hFc385.2 5 rfl rfl) _).trans ((congrFun (hFc376.2 5 rfl rfl) _).trans ((congrFun (hFc373.2 5 rfl rfl) _).trans ((up_o (by decide)).trans ((congrFun (hFc362.2 5 rfl rfl) _).trans ((up_o (by decide)).trans ((congrFun (hE0_0.2 5 rfl rfl) _).trans rfl)))))))]; omega) (by rw [show Pc385 0 37 = _ from ((hFc385.1 37 rfl).trans ((hFc376.1 37 rfl).trans ((hFc373.1 37 rfl).trans ((up_k (by decide)).trans ((hFc362.1 37 rfl).trans ((up_o (by decide)).trans ((hE0_0.1 37 rfl).trans rfl))))))), show Pc385 7 ((24 * (P 0 37)) + (P 26 ((H0_0 0 43) - 1))) = _ from ((congrFun (hFc385.2 7 rfl rfl) _).trans ((congrFun (hFc376.2 7 rfl rfl) _).trans ((congrFun (hFc373.2 7 rfl rfl) _).trans ((up_o (by decide)).trans ((congrFun (hFc362.2 7 rfl rfl) _).trans ((up_o (by decide)).trans ((congrFun (hE0_0.2 7 rfl rfl) _).trans rfl)))))))]; omega) (by rw [show Pc385 0 37 = _ from ((hFc385.1 37 rfl).trans ((hFc376.1 37 rfl).trans ((hFc373.1 37 rfl).trans ((up_k (by decide)).trans ((hFc362.1 37 rfl).trans ((up_o (by decide)).trans ((hE0_0.1 37 rfl).trans rfl))))))), show Pc385 6 ((24 * (P 0 37)) + (P 26 ((H0_0 0 43) - 1))) = _ from ((congrFun (hFc385.2 6 rfl rfl) _).trans ((congrFun (hFc376.2 6 rfl rfl) _).trans ((congrFun (hFc373.2 6 rfl rfl) _).trans ((up_o (by decide)).trans ((congrFun (hFc362.2 6 rfl rfl) _).trans ((up_o (by decide)).trans ((congrFun (hE0_0.2 6 rfl rfl) _).trans rfl))))))), show Pc385 0 43 = _ from ((hFc385.1 43 rfl).trans ((hFc376.1 43 rfl).trans ((hFc373.1 43 rfl).trans up_same)))]; omega) (by have q0 := bl_26 (k := ((H0_0 0 43) - 1)) hB; have q1 := bl_27 (k := ((H0_0 0 43) - 1)) hB; have q2 := (((hFc385.1 36 rfl).trans rfl) : Pc385 0 36 = (Pc376 0 36)); have q3 := b0_36 hBc376; omega) (CF.fr (F := ([3, 4, 5, 6, 7, 8, 9, 12, 36, 43], [19, 20, 21, 25])) v_CF (FrM.c (FrM.c (FrM.c (FrM.s (FrM.c (FrM.a (FrM.c FrM.rf hE0_0 rfl) rfl rfl) hFc362 rfl) rfl) hFc373 rfl) hFc376 rfl) hFc385 rfl) rfl) _ (fun Pc392 hBc392 hFc392 gc392_lo gc392_sx gc392_pt => ⟨rfl, ?_⟩)) cf_X12_fieldBegins t_1803 rfl (by decide) rfl rfl rfl (Nat.le_of_ble_eq_true rfl) (by decide) rfl dX12_goesOn_167
                  have z393 := (pot_fr (F := ([3, 4, 5, 6, 7, 8, 9, 12], [])) (FrM.c FrM.rf hFc385 rfl) rfl : pot Pc385 = pot Pc376)
                  have iv394 : SX f 0 Pc392 := gc392_sx
                  have iv395 : LO P Pc392 := hlo.trans gc392_lo
                  refine g_aload_n dX12_goesOn_170 rfl ?_
                  refine m_g8 (z := (Pc385 0 8)) rfl dX12_goesOn_171 ((hFc392.1 8 rfl).trans rfl) ?_
                  refine g_if_ne (tgt := 181) dX12_goesOn_174 (by decide) ⟨by have q0 := b0_8 hBc385; omega, by have q0 := b0_8 hBc385; omega⟩ (fun k396 => by exfalso; have q0 := b0_8 hBc385; omega) (fun k396 => ?_)
                  refine g_iconst dX12_goesOn_177 ?_
                  refine g_goto (tgt := 182) dX12_goesOn_178 (by decide) ?_
                  exact g_retZ dX12_goesOn_182 rfl (by decide) (hQ 1 (by decide) _ hBc392 (FrM.c (FrM.c (FrM.c (FrM.c (FrM.s (FrM.c (FrM.a (FrM.c FrM.rf hE0_0 rfl) rfl rfl) hFc362 rfl) rfl) hFc373 rfl) hFc376 rfl) hFc385 rfl) hFc392 rfl) (by have q0 := (((hFc392.1 3 rfl).trans rfl) : Pc392 0 3 = (Pc385 0 3)); have q1 := b0_3 hBc385; have q2 := (((hFc392.1 4 rfl).trans rfl) : Pc392 0 4 = (Pc385 0 4)); have q3 := b0_4 hBc385; have q4 := (((hFc392.1 5 rfl).trans rfl) : Pc392 0 5 = (Pc385 0 5)); have q5 := b0_5 hBc385; omega) (by have q0 := (((hFc392.1 4 rfl).trans rfl) : Pc392 0 4 = (Pc385 0 4)); have q1 := b0_4 hBc385; omega) (by have q0 := (((hFc392.1 8 rfl).trans rfl) : Pc392 0 8 = (Pc385 0 8)); have q1 := b0_8 hBc385; omega) (iv395) (by first | (left; have q8 := (((hFc392.1 8 rfl).trans rfl) : Pc392 0 8 = (Pc385 0 8)); omega) | (right; left; exact ⟨rfl, iv394, by have q4 := (((hFc392.1 4 rfl).trans rfl) : Pc392 0 4 = (Pc385 0 4)); have qp := trivial; omega⟩)))
            · have h143 := hz43.trans (show _ = (1 : Int) by omega)
              have htp1 := htp
              unfold TP at htp1
              rw [h143] at htp1
              have hdn := SX.done hsx0 h143 htp1
              have hdn2 := hdn.2
              refine g_iconst dX12_goesOn_87 ?_
              exact g_retZ dX12_goesOn_88 rfl (by decide) (hQ 0 (by decide) _ hB370 (FrM.s (FrM.c (FrM.a (FrM.c FrM.rf hE0_0 rfl) rfl rfl) hFc362 rfl) rfl) (by have q0 := (((up_k (by decide)).trans ((hFc362.1 3 rfl).trans ((up_o (by decide)).trans rfl))) : (up Pc362 0 43 ((H0_0 0 43) - 1)) 0 3 = (H0_0 0 3)); have q1 := b0_3 hB0_0; have q2 := (((up_k (by decide)).trans ((hFc362.1 4 rfl).trans ((up_o (by decide)).trans rfl))) : (up Pc362 0 43 ((H0_0 0 43) - 1)) 0 4 = (H0_0 0 4)); have q3 := b0_4 hB0_0; have q4 := (((up_k (by decide)).trans ((hFc362.1 5 rfl).trans ((up_o (by decide)).trans rfl))) : (up Pc362 0 43 ((H0_0 0 43) - 1)) 0 5 = (H0_0 0 5)); have q5 := b0_5 hB0_0; omega) (by have q0 := (((up_k (by decide)).trans ((hFc362.1 4 rfl).trans ((up_o (by decide)).trans rfl))) : (up Pc362 0 43 ((H0_0 0 43) - 1)) 0 4 = (H0_0 0 4)); have q1 := b0_4 hB0_0; omega) (by have q0 := (((up_k (by decide)).trans rfl) : (up Pc362 0 43 ((H0_0 0 43) - 1)) 0 8 = (Pc362 0 8)); have q1 := b0_8 hBc362; omega) ((LO.fr (F := ([8, 9, 43], [25])) w0_LO_0 (FrM.s (FrM.c (FrM.a FrM.rf rfl rfl) hFc362 rfl) rfl) rfl)) (Or.inr (Or.inr ⟨rfl, by rw [show (up Pc362 0 43 ((H0_0 0 43) - 1)) 0 36 = _ from ((up_k k36).trans rfl)]; have q := hdn.1; rw [hz37] at q; exact q.row (fun j => ((up_o (by decide)).trans rfl)) (fun j => ((up_o (by decide)).trans rfl)) (fun j => ((up_o (by decide)).trans rfl)) (fun j => ((up_o (by decide)).trans rfl)) (fun j => ((up_o (by decide)).trans rfl)), by have q4 := (((up_k (by decide)).trans ((hFc362.1 4 rfl).trans ((up_o (by decide)).trans rfl))) : (up Pc362 0 43 ((H0_0 0 43) - 1)) 0 4 = (H0_0 0 4)); have q36 := (((up_k (by decide)).trans ((hFc362.1 36 rfl).trans ((up_o (by decide)).trans rfl))) : (up Pc362 0 43 ((H0_0 0 43) - 1)) 0 36 = (H0_0 0 36)); omega⟩)))
          · refine g_aload_n dX12_goesOn_63 rfl ?_
            refine g_vV (av := []) (o := 0) (st := []) (m_X12_ahead G Pc362  hBc362  _ (fun Pc397 hBc397 hFc397 gc397_lx gc397_nx => ⟨rfl, ?_⟩)) cf_X12_ahead t_1683 rfl (by decide) rfl rfl rfl (Nat.le_of_ble_eq_true rfl) (by decide) rfl dX12_goesOn_64
            have z398 : Pc362 0 5 = (H0_0 0 5) := ((hFc362.1 5 rfl).trans ((up_o (by decide)).trans rfl))
            refine g_iconst dX12_goesOn_67 ?_
            exact g_retZ dX12_goesOn_68 rfl (by decide) (hQ 1 (by decide) _ hBc397 (FrM.c (FrM.c (FrM.a (FrM.c FrM.rf hE0_0 rfl) rfl rfl) hFc362 rfl) hFc397 rfl) (by have q0 := b0_3 hBc397; have q1 := b0_4 hBc397; have q2 := b0_5 hBc397; omega) (by have q0 := b0_4 hBc397; omega) (by have q0 := (((hFc397.1 8 rfl).trans rfl) : Pc397 0 8 = (Pc362 0 8)); have q1 := b0_8 hBc362; omega) ((LO.fr (F := ([3, 4, 5, 6, 7, 8, 9, 12], [25])) w0_LO_0 (FrM.c (FrM.c (FrM.a FrM.rf rfl rfl) hFc362 rfl) hFc397 rfl) rfl)) (by first | (left; have q8 := (((hFc397.1 8 rfl).trans rfl) : Pc397 0 8 = (Pc362 0 8)); omega) | (right; left; exact ⟨rfl, (SX.fr (F := ([3, 4, 5, 6, 7, 8, 9, 12], [])) iv360 (FrM.c (FrM.c FrM.rf hFc362 rfl) hFc397 rfl) rfl), by have q4 := (rfl : Pc397 0 4 = (Pc397 0 4)); have qp := (pot_fr (F := ([3, 4, 5, 6, 7, 8, 9, 12], [])) (FrM.c (FrM.c FrM.rf hFc362 rfl) hFc397 rfl) rfl : pot Pc397 = pot (up H0_0 25 (H0_0 0 43) ((H0_0 25 (H0_0 0 43)) + 1))); omega⟩)))
        · refine g_iconst dX12_goesOn_51 ?_
          exact g_retZ dX12_goesOn_52 rfl (by decide) (hQ 0 (by decide) _ hBc362 (FrM.c (FrM.a (FrM.c FrM.rf hE0_0 rfl) rfl rfl) hFc362 rfl) (by have q0 := (((hFc362.1 3 rfl).trans ((up_o (by decide)).trans rfl)) : Pc362 0 3 = (H0_0 0 3)); have q1 := b0_3 hB0_0; have q2 := (((hFc362.1 4 rfl).trans ((up_o (by decide)).trans rfl)) : Pc362 0 4 = (H0_0 0 4)); have q3 := b0_4 hB0_0; have q4 := (((hFc362.1 5 rfl).trans ((up_o (by decide)).trans rfl)) : Pc362 0 5 = (H0_0 0 5)); have q5 := b0_5 hB0_0; omega) (by have q0 := (((hFc362.1 4 rfl).trans ((up_o (by decide)).trans rfl)) : Pc362 0 4 = (H0_0 0 4)); have q1 := b0_4 hB0_0; omega) (by have q0 := b0_8 hBc362; omega) ((LO.fr (F := ([8, 9], [25])) w0_LO_0 (FrM.c (FrM.a FrM.rf rfl rfl) hFc362 rfl) rfl)) (by first | (left; have q8 := (rfl : Pc362 0 8 = (Pc362 0 8)); omega) | (right; left; exact ⟨rfl, (SX.fr (F := ([8, 9], [])) iv360 (FrM.c FrM.rf hFc362 rfl) rfl), by have q4 := (((hFc362.1 4 rfl).trans ((up_o (by decide)).trans rfl)) : Pc362 0 4 = (H0_0 0 4)); have qp := (pot_fr (F := ([8, 9], [])) (FrM.c FrM.rf hFc362 rfl) rfl : pot Pc362 = pot (up H0_0 25 (H0_0 0 43) ((H0_0 25 (H0_0 0 43)) + 1))); omega⟩)))
      · refine g_aload_n dX12_goesOn_19 rfl ?_
        refine g_bipush dX12_goesOn_20 (by decide) ?_
        refine g_iconst dX12_goesOn_22 ?_
        refine g_iconst dX12_goesOn_23 ?_
        have hlo : LO P H0_0 := w0_LO_0
        have hb9 := hB0_0
        have hq4 := b0_4 hB
        have hq1 := pot_c H0_0
        have hq2 := trivial
        have hq3 := b0_4 hB0_0
        have hq6 := (rfl : H0_0 0 36 = (H0_0 0 36))
        refine g_vV (av := [vI 6, vI 0, vI 0]) (o := 0) (st := []) (m_X12_emits G H0_0 6 0 0 (by decide) (by decide) (by decide) hB0_0 (by have q0 := b0_36 hB0_0; omega) _ (fun Pc399 hBc399 hFc399 gc399_o gc399_e => ⟨rfl, ?_⟩)) cf_X12_emits t_1788 rfl (by decide) rfl rfl rfl (Nat.le_of_ble_eq_true rfl) (by decide) rfl dX12_goesOn_24
        have hpe := pot_em gc399_e hFc399
        have iv400 : SX f 0 Pc399 := hsx1.either hb9 gc399_e hFc399 (by omega)
        have iv401 : LO P Pc399 := hlo.trans (gc399_e.lo hFc399 rfl (by omega))
        have hq43 := (((hFc399.1 43 rfl).trans rfl) : Pc399 0 43 = (H0_0 0 43))
        have hb27 := hBc399
        have hA : ((SX f 0 Pc399 ∧ 0 < Pc399 25 (Pc399 0 43)) ∨ (SX f 1 Pc399 ∧ Pc399 25 (Pc399 0 43) ≤ 0)) ∧ 0 ≤ Pc399 25 (Pc399 0 43) ∧ Pc399 25 (Pc399 0 43) + 1 ≤ Pc399 0 36 := by
          have q25 : ∀ j, Pc399 25 j = _ := fun j => ((congrFun (hFc399.2 25 rfl rfl) _).trans rfl)
          have q36 := (rfl : Pc399 0 36 = (Pc399 0 36))
          rw [hq43, q25]
          refine ⟨?_, by omega, by omega⟩
          first | exact Or.inl ⟨iv400, by omega⟩ | exact Or.inr ⟨hNONE, by omega⟩
        have hx27 : (0 < Pc399 25 (Pc399 0 43) ∧ pot Pc399 = p0 + 5) ∨ (Pc399 25 (Pc399 0 43) ≤ 0 ∧ pot Pc399 = p0) := by
          have q25 : ∀ j, Pc399 25 j = _ := fun j => ((congrFun (hFc399.2 25 rfl rfl) _).trans rfl)
          rw [hq43, q25]
          omega
        refine g_aload_n dX12_goesOn_27 rfl ?_
        refine m_g40 rfl dX12_goesOn_28 ?_
        refine g_aload_n dX12_goesOn_31 rfl ?_
        refine m_g43 (z := (H0_0 0 43)) rfl dX12_goesOn_32 ((hFc399.1 43 rfl).trans rfl) ?_
        refine g_dup2 dX12_goesOn_35 rfl rfl ?_
        refine m_l25 (z := (H0_0 25 (H0_0 0 43))) dX12_goesOn_36 ⟨by have q0 := b0_43 hB0_0; omega, by have q0 := b0_43 hB0_0; omega⟩ ((congrFun (hFc399.2 25 rfl rfl) _).trans rfl) ?_
        refine g_iconst dX12_goesOn_37 ?_
        refine g_iadd dX12_goesOn_38 ?_
        refine m_s25 dX12_goesOn_39 ⟨by have q0 := b0_43 hB0_0; omega, by have q0 := b0_43 hB0_0; omega⟩ ?_
        have hB402 := ba_25 (z := ((H0_0 25 (H0_0 0 43)) + 1)) (k := (H0_0 0 43)) hBc399 ⟨by have q0 := bl_25 (k := (H0_0 0 43)) hB0_0; omega, by have q0 := bl_25 (k := (H0_0 0 43)) hB0_0; omega⟩
        have hcn := SX.count (P1 := (up Pc399 25 (H0_0 0 43) ((H0_0 25 (H0_0 0 43)) + 1))) hA.1 ((up_o (by decide)).trans rfl) ((up_o (by decide)).trans rfl) ((up_o (by decide)).trans rfl) (fun j hj9 => by have hj : j ≠ (H0_0 0 43) := (by omega); exact ((up_k hj).trans rfl)) (by rw [hq43]; rw [show (up Pc399 25 (H0_0 0 43) ((H0_0 25 (H0_0 0 43)) + 1)) 25 (H0_0 0 43) = _ from up_same]; omega) (by rw [hq43]; rw [show (up Pc399 25 (H0_0 0 43) ((H0_0 25 (H0_0 0 43)) + 1)) 25 (H0_0 0 43) = _ from up_same]; omega) (fun j => ((up_o (by decide)).trans rfl)) (fun j => ((up_o (by decide)).trans rfl)) (fun j => ((up_o (by decide)).trans rfl)) (fun j => ((up_o (by decide)).trans rfl)) (fun j => ((up_o (by decide)).trans rfl)) (fun j => ((up_o (by decide)).trans rfl)) (fun j => ((up_o (by decide)).trans rfl)) (fun j => ((up_o (by decide)).trans rfl)) (fun j => ((up_o (by decide)).trans rfl))
        have hp40 : pot (up Pc399 25 (H0_0 0 43) ((H0_0 25 (H0_0 0 43)) + 1)) = p0 + 5 := by have q := hcn.2; omega
        have iv403 : SX f 0 (up Pc399 25 (H0_0 0 43) ((H0_0 25 (H0_0 0 43)) + 1)) := hcn.1
        have iv404 : TP (up Pc399 25 (H0_0 0 43) ((H0_0 25 (H0_0 0 43)) + 1)) := by unfold TP; rw [show (up Pc399 25 (H0_0 0 43) ((H0_0 25 (H0_0 0 43)) + 1)) 0 43 = _ from ((up_o (by decide)).trans ((hFc399.1 43 rfl).trans rfl)), show (up Pc399 25 (H0_0 0 43) ((H0_0 25 (H0_0 0 43)) + 1)) 25 (H0_0 0 43) = _ from up_same]; omega
        refine g_aload_n dX12_goesOn_40 rfl ?_
        refine g_vV (av := []) (o := 0) (st := []) (m_X12_lex G (up Pc399 25 (H0_0 0 43) ((H0_0 25 (H0_0 0 43)) + 1))  hB402  _ (fun Pc405 hBc405 hFc405 gc405_pe => ⟨rfl, ?_⟩)) cf_X12_lex t_1697 rfl (by decide) rfl rfl rfl (Nat.le_of_ble_eq_true rfl) (by decide) rfl dX12_goesOn_41
        have z406 : (up Pc399 25 (H0_0 0 43) ((H0_0 25 (H0_0 0 43)) + 1)) 0 8 = (H0_0 0 8) := ((up_o (by decide)).trans ((hFc399.1 8 rfl).trans rfl))
        refine g_aload_n dX12_goesOn_44 rfl ?_
        refine m_g8 (z := (Pc405 0 8)) rfl dX12_goesOn_45 rfl ?_
        have f407 := b0_8 hBc405
        refine g_if_le (tgt := 53) dX12_goesOn_48 (by decide) ⟨by have q0 := b0_8 hBc405; omega, by have q0 := b0_8 hBc405; omega⟩ (fun k408 => ?_) (fun k408 => ?_)
        · refine g_aload_n dX12_goesOn_53 rfl ?_
          refine g_ldc2 (z := 28530) dX12_goesOn_54 t_1734 (by decide) ?_
          refine g_vI (av := [vL 28530]) (o := 0) (st := []) (m_X12_isWord G Pc405 28530 (by decide) hBc405  _ (fun rc409 hc409 gc409_w => ⟨rc409, rfl, ?_⟩)) cf_X12_isWord t_1706 rfl (by decide) rfl rfl rfl (Nat.le_of_ble_eq_true rfl) (by decide) rfl dX12_goesOn_57
          have z410 : Pc405 0 3 = (H0_0 0 3) := ((hFc405.1 3 rfl).trans ((up_o (by decide)).trans ((hFc399.1 3 rfl).trans rfl)))
          have z411 : Pc405 0 7 = (H0_0 0 7) := ((hFc405.1 7 rfl).trans ((up_o (by decide)).trans ((hFc399.1 7 rfl).trans rfl)))
          refine g_if_eq (tgt := 69) dX12_goesOn_60 (by decide) ⟨by omega, by omega⟩ (fun k412 => ?_) (fun k412 => ?_)
          · refine g_aload_n dX12_goesOn_69 rfl ?_
            refine g_dup dX12_goesOn_70 rfl ?_
            refine m_g43 (z := (H0_0 0 43)) rfl dX12_goesOn_71 ((hFc405.1 43 rfl).trans ((up_o (by decide)).trans ((hFc399.1 43 rfl).trans rfl))) ?_
            refine g_iconst dX12_goesOn_74 ?_
            refine g_isub dX12_goesOn_75 ?_
            have hsx0 := (SX.fr (F := ([8, 9], [])) iv403 (FrM.c FrM.rf hFc405 rfl) rfl)
            have hb0 := hBc405
            have htp := (TP.fr (F := ([8, 9], [])) iv404 (FrM.c FrM.rf hFc405 rfl) rfl)
            have hz43 := (((hFc405.1 43 rfl).trans ((up_o (by decide)).trans ((hFc399.1 43 rfl).trans rfl))) : Pc405 0 43 = (H0_0 0 43))
            have hz37 := (((hFc405.1 37 rfl).trans ((up_o (by decide)).trans ((hFc399.1 37 rfl).trans ((hE0_0.1 37 rfl).trans rfl)))) : Pc405 0 37 = (P 0 37))
            have r26 : ∀ j, Pc405 26 j = P 26 j := fun j => ((congrFun (hFc405.2 26 rfl rfl) _).trans ((up_o (by decide)).trans ((congrFun (hFc399.2 26 rfl rfl) _).trans ((congrFun (hE0_0.2 26 rfl rfl) _).trans rfl))))
            have r27 : ∀ j, Pc405 27 j = P 27 j := fun j => ((congrFun (hFc405.2 27 rfl rfl) _).trans ((up_o (by decide)).trans ((congrFun (hFc399.2 27 rfl rfl) _).trans ((congrFun (hE0_0.2 27 rfl rfl) _).trans rfl))))
            have r5 : ∀ j, Pc405 5 j = P 5 j := fun j => ((congrFun (hFc405.2 5 rfl rfl) _).trans ((up_o (by decide)).trans ((congrFun (hFc399.2 5 rfl rfl) _).trans ((congrFun (hE0_0.2 5 rfl rfl) _).trans rfl))))
            have r6 : ∀ j, Pc405 6 j = P 6 j := fun j => ((congrFun (hFc405.2 6 rfl rfl) _).trans ((up_o (by decide)).trans ((congrFun (hFc399.2 6 rfl rfl) _).trans ((congrFun (hE0_0.2 6 rfl rfl) _).trans rfl))))
            have r7 : ∀ j, Pc405 7 j = P 7 j := fun j => ((congrFun (hFc405.2 7 rfl rfl) _).trans ((up_o (by decide)).trans ((congrFun (hFc399.2 7 rfl rfl) _).trans ((congrFun (hE0_0.2 7 rfl rfl) _).trans rfl))))
            have k36 : (36 : Int) ≠ 43 := by decide
            have hq4 := b0_4 hB
            have hq1 := pot_c Pc405
            have hq2 := (pot_fr (F := ([8, 9], [])) (FrM.c FrM.rf hFc405 rfl) rfl : pot Pc405 = pot (up Pc399 25 (H0_0 0 43) ((H0_0 25 (H0_0 0 43)) + 1)))
            have hq3 := b0_4 hBc405
            have hq6 := (((hFc405.1 36 rfl).trans ((up_o (by decide)).trans rfl)) : Pc405 0 36 = (Pc399 0 36))
            refine m_p43 rfl dX12_goesOn_76 ?_
            have hB413 := bs_43 (z := ((H0_0 0 43) - 1)) hBc405 ⟨by have q0 := b0_43 hB0_0; omega, by have q0 := b0_43 hB0_0; omega⟩
            refine g_aload_n dX12_goesOn_79 rfl ?_
            refine m_g43 (z := ((H0_0 0 43) - 1)) rfl dX12_goesOn_80 up_same ?_
            refine g_iload_n dX12_goesOn_83 rfl ?_
            have f414 := b0_43 hB0_0
            refine g_icmp_ne (tgt := 89) dX12_goesOn_84 (by decide) ⟨by have q0 := b0_43 hB0_0; omega, by have q0 := b0_43 hB0_0; omega⟩ ⟨by omega, by omega⟩ (fun k415 => ?_) (fun k415 => ?_)
            · refine g_aload_n dX12_goesOn_89 rfl ?_
              refine g_iconst dX12_goesOn_90 ?_
              refine g_iconst dX12_goesOn_91 ?_
              refine g_iconst dX12_goesOn_92 ?_
              have hb1 := hB413
              have he0 := (up_same : (up Pc405 0 43 ((H0_0 0 43) - 1)) 0 43 = ((H0_0 0 43) - 1))
              have hlo : LO P (up Pc405 0 43 ((H0_0 0 43) - 1)) := (LO.fr (F := ([8, 9, 43], [25])) iv401 (FrM.s (FrM.c (FrM.a FrM.rf rfl rfl) hFc405 rfl) rfl) rfl)
              refine g_vV (av := [vI 4, vI 0, vI 0]) (o := 0) (st := []) (m_X12_emits G (up Pc405 0 43 ((H0_0 0 43) - 1)) 4 0 0 (by decide) (by decide) (by decide) hB413 (by have q0 := (((up_k (by decide)).trans ((hFc405.1 36 rfl).trans ((up_o (by decide)).trans rfl))) : (up Pc405 0 43 ((H0_0 0 43) - 1)) 0 36 = (Pc399 0 36)); have q1 := b0_36 hBc399; omega) _ (fun Pc416 hBc416 hFc416 gc416_o gc416_e => ⟨rfl, ?_⟩)) cf_X12_emits t_1788 rfl (by decide) rfl rfl rfl (Nat.le_of_ble_eq_true rfl) (by decide) rfl dX12_goesOn_93
              have z417 : (up Pc405 0 43 ((H0_0 0 43) - 1)) 0 36 = (Pc399 0 36) := ((up_k (by decide)).trans ((hFc405.1 36 rfl).trans ((up_o (by decide)).trans rfl)))
              have iv418 : LO P Pc416 := hlo.trans (gc416_e.lo hFc416 rfl (by have q := (((up_k (by decide)).trans ((hFc405.1 36 rfl).trans ((up_o (by decide)).trans rfl))) : (up Pc405 0 43 ((H0_0 0 43) - 1)) 0 36 = (Pc399 0 36)); omega))
              refine g_aload_n dX12_goesOn_96 rfl ?_
              refine g_iconst dX12_goesOn_97 ?_
              refine g_iconst dX12_goesOn_98 ?_
              refine g_iconst dX12_goesOn_99 ?_
              have hb2 := hBc416
              have hlo : LO P Pc416 := iv418
              refine g_vV (av := [vI 5, vI 0, vI 0]) (o := 0) (st := []) (m_X12_emits G Pc416 5 0 0 (by decide) (by decide) (by decide) hBc416 (by have q0 := b0_36 hBc416; omega) _ (fun Pc419 hBc419 hFc419 gc419_o gc419_e => ⟨rfl, ?_⟩)) cf_X12_emits t_1788 rfl (by decide) rfl rfl rfl (Nat.le_of_ble_eq_true rfl) (by decide) rfl dX12_goesOn_100
              have hpop := hsx0.pop hb0 hb1 hb2 htp hz43 (by omega) (FrM.s FrM.rf rfl) he0 gc416_e hFc416 gc419_e hFc419 hz37
              have iv420 : SX f 1 Pc419 := hpop.1
              have iv421 : LO P Pc419 := hlo.trans (gc419_e.lo hFc419 rfl (by have q := (rfl : Pc416 0 36 = (Pc416 0 36)); omega))
              refine g_aload_n dX12_goesOn_103 rfl ?_
              refine m_g41 rfl dX12_goesOn_104 ?_
              refine g_aload_n dX12_goesOn_107 rfl ?_
              refine m_g43 (z := ((H0_0 0 43) - 1)) rfl dX12_goesOn_108 ((hFc419.1 43 rfl).trans ((hFc416.1 43 rfl).trans up_same)) ?_
              refine m_l26 (z := (P 26 ((H0_0 0 43) - 1))) dX12_goesOn_111 ⟨by have q0 := b0_43 hB0_0; omega, by have q0 := b0_43 hB0_0; omega⟩ ((congrFun (hFc419.2 26 rfl rfl) _).trans ((congrFun (hFc416.2 26 rfl rfl) _).trans ((up_o (by decide)).trans ((congrFun (hFc405.2 26 rfl rfl) _).trans ((up_o (by decide)).trans ((congrFun (hFc399.2 26 rfl rfl) _).trans ((congrFun (hE0_0.2 26 rfl rfl) _).trans rfl))))))) ?_
              refine g_istore_n (l1 := [(2, vI (P 26 ((H0_0 0 43) - 1))), (0, vR 0), (1, vI a1)]) dX12_goesOn_112 (by decide) rfl ?_
              have hlv := hpop.2.1
              unfold lev at hlv
              simp only [hz37, r26, r27, r5, r6, r7] at hlv
              have hpt := hpop.2.2
              simp only [r27] at hpt
              refine g_aload_n dX12_goesOn_113 rfl ?_
              refine m_g42 rfl dX12_goesOn_114 ?_
              refine g_aload_n dX12_goesOn_117 rfl ?_
              refine m_g43 (z := ((H0_0 0 43) - 1)) rfl dX12_goesOn_118 ((hFc419.1 43 rfl).trans ((hFc416.1 43 rfl).trans up_same)) ?_
              refine m_l27 (z := (P 27 ((H0_0 0 43) - 1))) dX12_goesOn_121 ⟨by have q0 := b0_43 hB0_0; omega, by have q0 := b0_43 hB0_0; omega⟩ ((congrFun (hFc419.2 27 rfl rfl) _).trans ((congrFun (hFc416.2 27 rfl rfl) _).trans ((up_o (by decide)).trans ((congrFun (hFc405.2 27 rfl rfl) _).trans ((up_o (by decide)).trans ((congrFun (hFc399.2 27 rfl rfl) _).trans ((congrFun (hE0_0.2 27 rfl rfl) _).trans rfl))))))) ?_
              refine g_iconst dX12_goesOn_122 ?_
              refine g_iadd dX12_goesOn_123 ?_
              refine g_aload_n dX12_goesOn_124 rfl ?_
              refine m_g19 rfl dX12_goesOn_125 ?_
              refine g_bipush dX12_goesOn_128 (by decide) ?_
              refine g_aload_n dX12_goesOn_130 rfl ?_
              refine m_g37 (z := (P 0 37)) rfl dX12_goesOn_131 ((hFc419.1 37 rfl).trans ((hFc416.1 37 rfl).trans ((up_k (by decide)).trans ((hFc405.1 37 rfl).trans ((up_o (by decide)).trans ((hFc399.1 37 rfl).trans ((hE0_0.1 37 rfl).trans rfl))))))) ?_
              refine g_imul dX12_goesOn_134 ?_
              refine g_iload_n dX12_goesOn_135 rfl ?_
              refine g_iadd dX12_goesOn_136 ?_
              refine m_l7 (z := (P 7 ((24 * (P 0 37)) + (P 26 ((H0_0 0 43) - 1))))) dX12_goesOn_137 ⟨by have q0 := b0_37 hB; have q1 := bl_26 (k := ((H0_0 0 43) - 1)) hB; omega, by have q0 := b0_37 hB; have q1 := bl_26 (k := ((H0_0 0 43) - 1)) hB; omega⟩ ((congrFun (hFc419.2 7 rfl rfl) _).trans ((congrFun (hFc416.2 7 rfl rfl) _).trans ((up_o (by decide)).trans ((congrFun (hFc405.2 7 rfl rfl) _).trans ((up_o (by decide)).trans ((congrFun (hFc399.2 7 rfl rfl) _).trans ((congrFun (hE0_0.2 7 rfl rfl) _).trans rfl))))))) ?_
              have f422 := bl_27 (k := ((H0_0 0 43) - 1)) hB
              have f423 := bl_7 (k := ((24 * (P 0 37)) + (P 26 ((H0_0 0 43) - 1)))) hB
              refine g_icmp_ge (tgt := 183) dX12_goesOn_138 (by decide) ⟨by have q0 := bl_27 (k := ((H0_0 0 43) - 1)) hB; omega, by have q0 := bl_27 (k := ((H0_0 0 43) - 1)) hB; omega⟩ ⟨by have q0 := bl_7 (k := ((24 * (P 0 37)) + (P 26 ((H0_0 0 43) - 1)))) hB; omega, by have q0 := bl_7 (k := ((24 * (P 0 37)) + (P 26 ((H0_0 0 43) - 1)))) hB; omega⟩ (fun k424 => ?_) (fun k424 => ?_)
              · refine g_aload_n dX12_goesOn_183 rfl ?_
                refine g_bipush dX12_goesOn_184 (by decide) ?_
                refine g_vV (av := [vI 41]) (o := 0) (st := []) (m_X12_must G Pc419 41 (by decide) hBc419 (by have q0 := (((hFc419.1 3 rfl).trans ((hFc416.1 3 rfl).trans ((up_k (by decide)).trans ((hFc405.1 3 rfl).trans ((up_o (by decide)).trans ((hFc399.1 3 rfl).trans rfl)))))) : Pc419 0 3 = (H0_0 0 3)); have q1 := b0_3 hB0_0; have q2 := (((hFc419.1 4 rfl).trans ((hFc416.1 4 rfl).trans ((up_k (by decide)).trans ((hFc405.1 4 rfl).trans ((up_o (by decide)).trans ((hFc399.1 4 rfl).trans rfl)))))) : Pc419 0 4 = (H0_0 0 4)); have q3 := b0_4 hB0_0; have q4 := (((hFc419.1 5 rfl).trans ((hFc416.1 5 rfl).trans ((up_k (by decide)).trans ((hFc405.1 5 rfl).trans ((up_o (by decide)).trans ((hFc399.1 5 rfl).trans rfl)))))) : Pc419 0 5 = (H0_0 0 5)); have q5 := b0_5 hB0_0; omega) _ (fun Pc425 hBc425 hFc425 gc425_lx gc425_mo gc425_pe gc425_ad => ⟨rfl, ?_⟩)) cf_X12_must t_1768 rfl (by decide) rfl rfl rfl (Nat.le_of_ble_eq_true rfl) (by decide) rfl dX12_goesOn_186
                have z426 : Pc419 0 4 = (H0_0 0 4) := ((hFc419.1 4 rfl).trans ((hFc416.1 4 rfl).trans ((up_k (by decide)).trans ((hFc405.1 4 rfl).trans ((up_o (by decide)).trans ((hFc399.1 4 rfl).trans rfl))))))
                have z427 : Pc419 0 8 = (Pc405 0 8) := ((hFc419.1 8 rfl).trans ((hFc416.1 8 rfl).trans ((up_k (by decide)).trans rfl)))
                refine g_goto (tgt := 0) dX12_goesOn_189 (by decide) ?_
                refine g_forget (l1 := [(0, vR 0), (1, vI a1)]) (by intro q hq; simp only [List.mem_cons, List.not_mem_nil, or_false] at hq ⊢; rcases hq with rfl | rfl <;> simp) ?_
                exact ih0_0 _ hBc425 (FrM.c (FrM.c (FrM.c (FrM.s (FrM.c (FrM.a (FrM.c (FrM.c FrM.rf hE0_0 rfl) hFc399 rfl) rfl rfl) hFc405 rfl) rfl) hFc416 rfl) hFc419 rfl) hFc425 rfl) (by first | exact p_sx | exact (show 0 < Pc425 0 8 ∨ Pc425 0 8 ≤ 0 by omega).elim Or.inl (fun hf => Or.inr ⟨(SX.fr (F := ([3, 4, 5, 6, 7, 8, 9, 12], [])) iv420 (FrM.c FrM.rf hFc425 rfl) rfl), by have q8 := (rfl : Pc425 0 8 = (Pc425 0 8)); have q4 := (rfl : Pc425 0 4 = (Pc425 0 4)); have qp := (pot_fr (F := ([3, 4, 5, 6, 7, 8, 9, 12], [])) (FrM.c FrM.rf hFc425 rfl) rfl : pot Pc425 = pot Pc419); omega⟩)) (by have q0 := b0_8 hBc425; omega) (by have q0 := b0_4 hBc425; omega) (by have q0 := b0_3 hBc425; have q1 := b0_4 hBc425; have q2 := b0_5 hBc425; omega) (LO.fr (F := ([3, 4, 5, 6, 7, 8, 9, 12], [])) iv421 (FrM.c FrM.rf hFc425 rfl) rfl) (by have q0 := (((hFc425.1 43 rfl).trans ((hFc419.1 43 rfl).trans ((hFc416.1 43 rfl).trans up_same))) : Pc425 0 43 = ((H0_0 0 43) - 1)); have q1 := b0_43 hB0_0; omega)
              · refine g_aload_n dX12_goesOn_141 rfl ?_
                refine g_bipush dX12_goesOn_142 (by decide) ?_
                refine g_vV (av := [vI 44]) (o := 0) (st := []) (m_X12_must G Pc419 44 (by decide) hBc419 (by have q0 := (((hFc419.1 3 rfl).trans ((hFc416.1 3 rfl).trans ((up_k (by decide)).trans ((hFc405.1 3 rfl).trans ((up_o (by decide)).trans ((hFc399.1 3 rfl).trans rfl)))))) : Pc419 0 3 = (H0_0 0 3)); have q1 := b0_3 hB0_0; have q2 := (((hFc419.1 4 rfl).trans ((hFc416.1 4 rfl).trans ((up_k (by decide)).trans ((hFc405.1 4 rfl).trans ((up_o (by decide)).trans ((hFc399.1 4 rfl).trans rfl)))))) : Pc419 0 4 = (H0_0 0 4)); have q3 := b0_4 hB0_0; have q4 := (((hFc419.1 5 rfl).trans ((hFc416.1 5 rfl).trans ((up_k (by decide)).trans ((hFc405.1 5 rfl).trans ((up_o (by decide)).trans ((hFc399.1 5 rfl).trans rfl)))))) : Pc419 0 5 = (H0_0 0 5)); have q5 := b0_5 hB0_0; omega) _ (fun Pc428 hBc428 hFc428 gc428_lx gc428_mo gc428_pe gc428_ad => ⟨rfl, ?_⟩)) cf_X12_must t_1768 rfl (by decide) rfl rfl rfl (Nat.le_of_ble_eq_true rfl) (by decide) rfl dX12_goesOn_144
                have z429 : Pc419 0 4 = (H0_0 0 4) := ((hFc419.1 4 rfl).trans ((hFc416.1 4 rfl).trans ((up_k (by decide)).trans ((hFc405.1 4 rfl).trans ((up_o (by decide)).trans ((hFc399.1 4 rfl).trans rfl))))))
                have z430 : Pc419 0 8 = (Pc405 0 8) := ((hFc419.1 8 rfl).trans ((hFc416.1 8 rfl).trans ((up_k (by decide)).trans rfl)))
                refine g_aload_n dX12_goesOn_147 rfl ?_
                refine m_g8 (z := (Pc428 0 8)) rfl dX12_goesOn_148 rfl ?_
                have f431 := b0_8 hBc428
                refine g_if_ne (tgt := 170) dX12_goesOn_151 (by decide) ⟨by have q0 := b0_8 hBc428; omega, by have q0 := b0_8 hBc428; omega⟩ (fun k432 => ?_) (fun k432 => ?_)
                · refine g_aload_n dX12_goesOn_170 rfl ?_
                  refine m_g8 (z := (Pc428 0 8)) rfl dX12_goesOn_171 rfl ?_
                  refine g_if_ne (tgt := 181) dX12_goesOn_174 (by decide) ⟨by have q0 := b0_8 hBc428; omega, by have q0 := b0_8 hBc428; omega⟩ (fun k433 => ?_) (fun k433 => by exfalso; have q0 := b0_8 hBc428; omega)
                  refine g_iconst dX12_goesOn_181 ?_
                  exact g_retZ dX12_goesOn_182 rfl (by decide) (hQ 0 (by decide) _ hBc428 (FrM.c (FrM.c (FrM.c (FrM.s (FrM.c (FrM.a (FrM.c (FrM.c FrM.rf hE0_0 rfl) hFc399 rfl) rfl rfl) hFc405 rfl) rfl) hFc416 rfl) hFc419 rfl) hFc428 rfl) (by have q0 := b0_3 hBc428; have q1 := b0_4 hBc428; have q2 := b0_5 hBc428; omega) (by have q0 := b0_4 hBc428; omega) (by have q0 := b0_8 hBc428; omega) ((LO.fr (F := ([3, 4, 5, 6, 7, 8, 9, 12], [])) iv421 (FrM.c FrM.rf hFc428 rfl) rfl)) (by first | (left; have q8 := (rfl : Pc428 0 8 = (Pc428 0 8)); omega) | (right; left; exact ⟨rfl, hNONE, by have q4 := (rfl : Pc428 0 4 = (Pc428 0 4)); have qp := (pot_fr (F := ([3, 4, 5, 6, 7, 8, 9, 12], [])) (FrM.c FrM.rf hFc428 rfl) rfl : pot Pc428 = pot Pc419); omega⟩)))
                · refine g_aload_n dX12_goesOn_154 rfl ?_
                  refine g_iload_n dX12_goesOn_155 rfl ?_
                  refine g_aload_n dX12_goesOn_156 rfl ?_
                  refine m_g42 rfl dX12_goesOn_157 ?_
                  refine g_aload_n dX12_goesOn_160 rfl ?_
                  refine m_g43 (z := ((H0_0 0 43) - 1)) rfl dX12_goesOn_161 ((hFc428.1 43 rfl).trans ((hFc419.1 43 rfl).trans ((hFc416.1 43 rfl).trans up_same))) ?_
                  refine m_l27 (z := (P 27 ((H0_0 0 43) - 1))) dX12_goesOn_164 ⟨by have q0 := b0_43 hB0_0; omega, by have q0 := b0_43 hB0_0; omega⟩ ((congrFun (hFc428.2 27 rfl rfl) _).trans ((congrFun (hFc419.2 27 rfl rfl) _).trans ((congrFun (hFc416.2 27 rfl rfl) _).trans ((up_o (by decide)).trans ((congrFun (hFc405.2 27 rfl rfl) _).trans ((up_o (by decide)).trans ((congrFun (hFc399.2 27 rfl rfl) _).trans ((congrFun (hE0_0.2 27 rfl rfl) _).trans rfl)))))))) ?_
                  refine g_iconst dX12_goesOn_165 ?_
                  refine g_iadd dX12_goesOn_166 ?_
                  have hlo : LO P Pc428 := (LO.fr (F := ([3, 4, 5, 6, 7, 8, 9, 12], [])) iv421 (FrM.c FrM.rf hFc428 rfl) rfl)
                  have hq4 := b0_4 hB
                  have hq1 := pot_c Pc428
                  have hq2 := (pot_fr (F := ([3, 4, 5, 6, 7, 8, 9, 12], [])) (FrM.c FrM.rf hFc428 rfl) rfl : pot Pc428 = pot Pc419)
                  have hq3 := b0_4 hBc428
                  have hq6 := (((hFc428.1 36 rfl).trans rfl) : Pc428 0 36 = (Pc419 0 36))
                  have f434 := bl_26 (k := ((H0_0 0 43) - 1)) hB
                  refine g_vV (av := [vI (P 26 ((H0_0 0 43) - 1)), vI ((P 27 ((H0_0 0 43) - 1)) + 1)]) (o := 0) (st := []) (m_X12_fieldBegins G Pc428 (f) (P 26 ((H0_0 0 43) - 1)) ((P 27 ((H0_0 0 43) - 1)) + 1) ⟨by have q0 := bl_26 (k := ((H0_0 0 43) - 1)) hB; omega, by have q0 := bl_26 (k := ((H0_0 0 43) - 1)) hB; omega⟩ ⟨by have q0 := bl_27 (k := ((H0_0 0 43) - 1)) hB; omega, by have q0 := bl_27 (k := ((H0_0 0 43) - 1)) hB; omega⟩ hBc428 ((SX.fr (F := ([3, 4, 5, 6, 7, 8, 9, 12], [])) iv420 (FrM.c FrM.rf hFc428 rfl) rfl)) (by rw [show Pc428 0 37 = _ from ((hFc428.1 37 rfl).trans ((hFc419.1 37 rfl).trans ((hFc416.1 37 rfl).trans ((up_k (by decide)).trans ((hFc405.1 37 rfl).trans ((up_o (by decide)).trans ((hFc399.1 37 rfl).trans ((hE0_0.1 37 rfl).trans rfl)))))))), show Pc428 5 (P 0 37) = _ from ((congrFun (hFc428.2 5 rfl rfl) _).trans ((congrFun (hFc419.2 5 rfl rfl) _).trans ((congrFun (hFc416.2 5 rfl rfl) _).trans ((up_o (by decide)).trans ((congrFun (hFc405.2 5 rfl rfl) _).trans ((up_o (by decide)).trans ((congrFun (hFc399.2 5 rfl rfl) _).trans ((congrFun (hE0_0.2 5 rfl rfl) _).trans rfl))))))))]; omega) (by rw [show Pc428 0 37 = _ from ((hFc428.1 37 rfl).trans ((hFc419.1 37 rfl).trans ((hFc416.1 37 rfl).trans ((up_k (by decide)).trans ((hFc405.1 37 rfl).trans ((up_o (by decide)).trans ((hFc399.1 37 rfl).trans ((hE0_0.1 37 rfl).trans rfl)))))))), show Pc428 7 ((24 * (P 0 37)) + (P 26 ((H0_0 0 43) - 1))) = _ from ((congrFun (hFc428.2 7 rfl rfl) _).trans ((congrFun (hFc419.2 7 rfl rfl) _).trans ((congrFun (hFc416.2 7 rfl rfl) _).trans ((up_o (by decide)).trans ((congrFun (hFc405.2 7 rfl rfl) _).trans ((up_o (by decide)).trans ((congrFun (hFc399.2 7 rfl rfl) _).trans ((congrFun (hE0_0.2 7 rfl rfl) _).trans rfl))))))))]; omega) (by rw [show Pc428 0 37 = _ from ((hFc428.1 37 rfl).trans ((hFc419.1 37 rfl).trans ((hFc416.1 37 rfl).trans ((up_k (by decide)).trans ((hFc405.1 37 rfl).trans ((up_o (by decide)).trans ((hFc399.1 37 rfl).trans ((hE0_0.1 37 rfl).trans rfl)))))))), show Pc428 6 ((24 * (P 0 37)) + (P 26 ((H0_0 0 43) - 1))) = _ from ((congrFun (hFc428.2 6 rfl rfl) _).trans ((congrFun (hFc419.2 6 rfl rfl) _).trans ((congrFun (hFc416.2 6 rfl rfl) _).trans ((up_o (by decide)).trans ((congrFun (hFc405.2 6 rfl rfl) _).trans ((up_o (by decide)).trans ((congrFun (hFc399.2 6 rfl rfl) _).trans ((congrFun (hE0_0.2 6 rfl rfl) _).trans rfl)))))))), show Pc428 0 43 = _ from ((hFc428.1 43 rfl).trans ((hFc419.1 43 rfl).trans ((hFc416.1 43 rfl).trans up_same)))]; omega) (by have q0 := bl_26 (k := ((H0_0 0 43) - 1)) hB; have q1 := bl_27 (k := ((H0_0 0 43) - 1)) hB; have q2 := (((hFc428.1 36 rfl).trans rfl) : Pc428 0 36 = (Pc419 0 36)); have q3 := b0_36 hBc419; omega) (CF.fr (F := ([3, 4, 5, 6, 7, 8, 9, 12, 36, 43], [19, 20, 21, 25])) v_CF (FrM.c (FrM.c (FrM.c (FrM.s (FrM.c (FrM.a (FrM.c (FrM.c FrM.rf hE0_0 rfl) hFc399 rfl) rfl rfl) hFc405 rfl) rfl) hFc416 rfl) hFc419 rfl) hFc428 rfl) rfl) _ (fun Pc435 hBc435 hFc435 gc435_lo gc435_sx gc435_pt => ⟨rfl, ?_⟩)) cf_X12_fieldBegins t_1803 rfl (by decide) rfl rfl rfl (Nat.le_of_ble_eq_true rfl) (by decide) rfl dX12_goesOn_167
                  have z436 := (pot_fr (F := ([3, 4, 5, 6, 7, 8, 9, 12], [])) (FrM.c FrM.rf hFc428 rfl) rfl : pot Pc428 = pot Pc419)
                  have iv437 : SX f 0 Pc435 := gc435_sx
                  have iv438 : LO P Pc435 := hlo.trans gc435_lo
                  refine g_aload_n dX12_goesOn_170 rfl ?_
                  refine m_g8 (z := (Pc428 0 8)) rfl dX12_goesOn_171 ((hFc435.1 8 rfl).trans rfl) ?_
                  refine g_if_ne (tgt := 181) dX12_goesOn_174 (by decide) ⟨by have q0 := b0_8 hBc428; omega, by have q0 := b0_8 hBc428; omega⟩ (fun k439 => by exfalso; have q0 := b0_8 hBc428; omega) (fun k439 => ?_)
                  refine g_iconst dX12_goesOn_177 ?_
                  refine g_goto (tgt := 182) dX12_goesOn_178 (by decide) ?_
                  exact g_retZ dX12_goesOn_182 rfl (by decide) (hQ 1 (by decide) _ hBc435 (FrM.c (FrM.c (FrM.c (FrM.c (FrM.s (FrM.c (FrM.a (FrM.c (FrM.c FrM.rf hE0_0 rfl) hFc399 rfl) rfl rfl) hFc405 rfl) rfl) hFc416 rfl) hFc419 rfl) hFc428 rfl) hFc435 rfl) (by have q0 := (((hFc435.1 3 rfl).trans rfl) : Pc435 0 3 = (Pc428 0 3)); have q1 := b0_3 hBc428; have q2 := (((hFc435.1 4 rfl).trans rfl) : Pc435 0 4 = (Pc428 0 4)); have q3 := b0_4 hBc428; have q4 := (((hFc435.1 5 rfl).trans rfl) : Pc435 0 5 = (Pc428 0 5)); have q5 := b0_5 hBc428; omega) (by have q0 := (((hFc435.1 4 rfl).trans rfl) : Pc435 0 4 = (Pc428 0 4)); have q1 := b0_4 hBc428; omega) (by have q0 := (((hFc435.1 8 rfl).trans rfl) : Pc435 0 8 = (Pc428 0 8)); have q1 := b0_8 hBc428; omega) (iv438) (by first | (left; have q8 := (((hFc435.1 8 rfl).trans rfl) : Pc435 0 8 = (Pc428 0 8)); omega) | (right; left; exact ⟨rfl, iv437, by have q4 := (((hFc435.1 4 rfl).trans rfl) : Pc435 0 4 = (Pc428 0 4)); have qp := trivial; omega⟩)))
            · have h143 := hz43.trans (show _ = (1 : Int) by omega)
              have htp1 := htp
              unfold TP at htp1
              rw [h143] at htp1
              have hdn := SX.done hsx0 h143 htp1
              have hdn2 := hdn.2
              refine g_iconst dX12_goesOn_87 ?_
              exact g_retZ dX12_goesOn_88 rfl (by decide) (hQ 0 (by decide) _ hB413 (FrM.s (FrM.c (FrM.a (FrM.c (FrM.c FrM.rf hE0_0 rfl) hFc399 rfl) rfl rfl) hFc405 rfl) rfl) (by have q0 := (((up_k (by decide)).trans ((hFc405.1 3 rfl).trans ((up_o (by decide)).trans ((hFc399.1 3 rfl).trans rfl)))) : (up Pc405 0 43 ((H0_0 0 43) - 1)) 0 3 = (H0_0 0 3)); have q1 := b0_3 hB0_0; have q2 := (((up_k (by decide)).trans ((hFc405.1 4 rfl).trans ((up_o (by decide)).trans ((hFc399.1 4 rfl).trans rfl)))) : (up Pc405 0 43 ((H0_0 0 43) - 1)) 0 4 = (H0_0 0 4)); have q3 := b0_4 hB0_0; have q4 := (((up_k (by decide)).trans ((hFc405.1 5 rfl).trans ((up_o (by decide)).trans ((hFc399.1 5 rfl).trans rfl)))) : (up Pc405 0 43 ((H0_0 0 43) - 1)) 0 5 = (H0_0 0 5)); have q5 := b0_5 hB0_0; omega) (by have q0 := (((up_k (by decide)).trans ((hFc405.1 4 rfl).trans ((up_o (by decide)).trans ((hFc399.1 4 rfl).trans rfl)))) : (up Pc405 0 43 ((H0_0 0 43) - 1)) 0 4 = (H0_0 0 4)); have q1 := b0_4 hB0_0; omega) (by have q0 := (((up_k (by decide)).trans rfl) : (up Pc405 0 43 ((H0_0 0 43) - 1)) 0 8 = (Pc405 0 8)); have q1 := b0_8 hBc405; omega) ((LO.fr (F := ([8, 9, 43], [25])) iv401 (FrM.s (FrM.c (FrM.a FrM.rf rfl rfl) hFc405 rfl) rfl) rfl)) (Or.inr (Or.inr ⟨rfl, by rw [show (up Pc405 0 43 ((H0_0 0 43) - 1)) 0 36 = _ from ((up_k k36).trans rfl)]; have q := hdn.1; rw [hz37] at q; exact q.row (fun j => ((up_o (by decide)).trans rfl)) (fun j => ((up_o (by decide)).trans rfl)) (fun j => ((up_o (by decide)).trans rfl)) (fun j => ((up_o (by decide)).trans rfl)) (fun j => ((up_o (by decide)).trans rfl)), by have q4 := (((up_k (by decide)).trans ((hFc405.1 4 rfl).trans ((up_o (by decide)).trans ((hFc399.1 4 rfl).trans rfl)))) : (up Pc405 0 43 ((H0_0 0 43) - 1)) 0 4 = (H0_0 0 4)); have q36 := (((up_k (by decide)).trans ((hFc405.1 36 rfl).trans ((up_o (by decide)).trans rfl))) : (up Pc405 0 43 ((H0_0 0 43) - 1)) 0 36 = (Pc399 0 36)); omega⟩)))
          · refine g_aload_n dX12_goesOn_63 rfl ?_
            refine g_vV (av := []) (o := 0) (st := []) (m_X12_ahead G Pc405  hBc405  _ (fun Pc440 hBc440 hFc440 gc440_lx gc440_nx => ⟨rfl, ?_⟩)) cf_X12_ahead t_1683 rfl (by decide) rfl rfl rfl (Nat.le_of_ble_eq_true rfl) (by decide) rfl dX12_goesOn_64
            have z441 : Pc405 0 5 = (H0_0 0 5) := ((hFc405.1 5 rfl).trans ((up_o (by decide)).trans ((hFc399.1 5 rfl).trans rfl)))
            refine g_iconst dX12_goesOn_67 ?_
            exact g_retZ dX12_goesOn_68 rfl (by decide) (hQ 1 (by decide) _ hBc440 (FrM.c (FrM.c (FrM.a (FrM.c (FrM.c FrM.rf hE0_0 rfl) hFc399 rfl) rfl rfl) hFc405 rfl) hFc440 rfl) (by have q0 := b0_3 hBc440; have q1 := b0_4 hBc440; have q2 := b0_5 hBc440; omega) (by have q0 := b0_4 hBc440; omega) (by have q0 := (((hFc440.1 8 rfl).trans rfl) : Pc440 0 8 = (Pc405 0 8)); have q1 := b0_8 hBc405; omega) ((LO.fr (F := ([3, 4, 5, 6, 7, 8, 9, 12], [25])) iv401 (FrM.c (FrM.c (FrM.a FrM.rf rfl rfl) hFc405 rfl) hFc440 rfl) rfl)) (by first | (left; have q8 := (((hFc440.1 8 rfl).trans rfl) : Pc440 0 8 = (Pc405 0 8)); omega) | (right; left; exact ⟨rfl, (SX.fr (F := ([3, 4, 5, 6, 7, 8, 9, 12], [])) iv403 (FrM.c (FrM.c FrM.rf hFc405 rfl) hFc440 rfl) rfl), by have q4 := (rfl : Pc440 0 4 = (Pc440 0 4)); have qp := (pot_fr (F := ([3, 4, 5, 6, 7, 8, 9, 12], [])) (FrM.c (FrM.c FrM.rf hFc405 rfl) hFc440 rfl) rfl : pot Pc440 = pot (up Pc399 25 (H0_0 0 43) ((H0_0 25 (H0_0 0 43)) + 1))); omega⟩)))
        · refine g_iconst dX12_goesOn_51 ?_
          exact g_retZ dX12_goesOn_52 rfl (by decide) (hQ 0 (by decide) _ hBc405 (FrM.c (FrM.a (FrM.c (FrM.c FrM.rf hE0_0 rfl) hFc399 rfl) rfl rfl) hFc405 rfl) (by have q0 := (((hFc405.1 3 rfl).trans ((up_o (by decide)).trans ((hFc399.1 3 rfl).trans rfl))) : Pc405 0 3 = (H0_0 0 3)); have q1 := b0_3 hB0_0; have q2 := (((hFc405.1 4 rfl).trans ((up_o (by decide)).trans ((hFc399.1 4 rfl).trans rfl))) : Pc405 0 4 = (H0_0 0 4)); have q3 := b0_4 hB0_0; have q4 := (((hFc405.1 5 rfl).trans ((up_o (by decide)).trans ((hFc399.1 5 rfl).trans rfl))) : Pc405 0 5 = (H0_0 0 5)); have q5 := b0_5 hB0_0; omega) (by have q0 := (((hFc405.1 4 rfl).trans ((up_o (by decide)).trans ((hFc399.1 4 rfl).trans rfl))) : Pc405 0 4 = (H0_0 0 4)); have q1 := b0_4 hB0_0; omega) (by have q0 := b0_8 hBc405; omega) ((LO.fr (F := ([8, 9], [25])) iv401 (FrM.c (FrM.a FrM.rf rfl rfl) hFc405 rfl) rfl)) (by first | (left; have q8 := (rfl : Pc405 0 8 = (Pc405 0 8)); omega) | (right; left; exact ⟨rfl, (SX.fr (F := ([8, 9], [])) iv403 (FrM.c FrM.rf hFc405 rfl) rfl), by have q4 := (((hFc405.1 4 rfl).trans ((up_o (by decide)).trans ((hFc399.1 4 rfl).trans rfl))) : Pc405 0 4 = (H0_0 0 4)); have qp := (pot_fr (F := ([8, 9], [])) (FrM.c FrM.rf hFc405 rfl) rfl : pot Pc405 = pot (up Pc399 25 (H0_0 0 43) ((H0_0 25 (H0_0 0 43)) + 1))); omega⟩)))
  refine g_forget (l1 := [(0, vR 0), (1, vI a1)]) (by intro q hq; simp only [List.mem_cons, List.not_mem_nil, or_false] at hq ⊢; rcases hq with rfl | rfl <;> simp) ?_
  exact L0_0 _ _ hB FrM.rf (by first | exact p_sx | exact (show 0 < P 0 8 ∨ P 0 8 ≤ 0 by omega).elim Or.inl (fun hf => Or.inr ⟨hNONE, by have q8 := (rfl : P 0 8 = (P 0 8)); have q4 := (rfl : P 0 4 = (P 0 4)); have qp := trivial; omega⟩)) (by have q0 := b0_8 hB; omega) (by have q0 := b0_4 hB; omega) (by have q0 := b0_3 hB; have q1 := b0_4 hB; have q2 := b0_5 hB; omega) ivI_LO (Nat.lt_succ_self _)
