/-! Contracts of the reference: mb. -/
set_option maxRecDepth 100000 in
set_option maxHeartbeats 4000000 in
theorem m_X12_alternative (G : GT) (P : PH) (f : Int) (hB : BdM P) (p_lx : (P 0 3 = 0 ∨ P 0 4 + 1 ≤ P 0 5) ∧ P 0 4 ≤ P 0 5) (p_po : pot P ≤ 8 * P 0 4) (p_sx : SX f 0 P) (v_CF : CF P) (Q : Option PV → PH → Prop) (hQ : ∀ (r : Int) (_ : 0 ≤ r ∧ r ≤ 1) (P1 : PH) (_ : BdM P1) (_ : FrM ([3, 4, 5, 6, 7, 8, 9, 12, 36, 43], [19, 20, 21, 24, 25, 26, 27]) P P1) (_ : (P1 0 3 = 0 ∨ P1 0 4 + 1 ≤ P1 0 5) ∧ P1 0 4 ≤ P1 0 5) (_ : P 0 4 ≤ P1 0 4) (_ : P 0 8 ≤ 0 ∨ 0 < P1 0 8) (_ : LO P P1) (_ : 0 < P1 0 8 ∨ P 0 4 + 1 ≤ P1 0 4) (_ : 0 < P1 0 8 ∨ (r = 1 ∧ SX f 1 P1 ∧ pot P1 + 3 ≤ 8 * P1 0 4) ∨ (r = 0 ∧ SX f 0 P1 ∧ pot P1 ≤ 8 * P1 0 4)), Q (some (vI r)) P1) : Ct WSM G 5 iX12_alternative [vR 0] P Q := by
  refine Ct.of (by decide) (l0 := [(0, vR 0)]) rfl (Nat.le_of_ble_eq_true rfl) ?_
  have ivI_SX0 : SX f 0 P := p_sx
  have ivI_LO : LO P P := LO.rf
  refine g_aload_n dX12_alternative_0 rfl ?_
  refine g_vV (av := []) (o := 0) (st := []) (m_X12_lex G P  hB  _ (fun Pc1 hBc1 hFc1 gc1_pe => ⟨rfl, ?_⟩)) cf_X12_lex t_1697 rfl (by decide) rfl rfl rfl (Nat.le_of_ble_eq_true rfl) (by decide) rfl dX12_alternative_1
  refine g_aload_n dX12_alternative_4 rfl ?_
  refine m_g8 (z := (Pc1 0 8)) rfl dX12_alternative_5 rfl ?_
  have f2 := b0_8 hBc1
  refine g_if_le (tgt := 13) dX12_alternative_8 (by decide) ⟨by have q0 := b0_8 hBc1; omega, by have q0 := b0_8 hBc1; omega⟩ (fun k3 => ?_) (fun k3 => ?_)
  · refine g_aload_n dX12_alternative_13 rfl ?_
    refine g_ldc2 (z := 6385273) dX12_alternative_14 t_1733 (by decide) ?_
    refine g_vI (av := [vL 6385273]) (o := 0) (st := []) (m_X12_isWord G Pc1 6385273 (by decide) hBc1  _ (fun rc4 hc4 gc4_w => ⟨rc4, rfl, ?_⟩)) cf_X12_isWord t_1706 rfl (by decide) rfl rfl rfl (Nat.le_of_ble_eq_true rfl) (by decide) rfl dX12_alternative_17
    have z5 : Pc1 0 3 = (P 0 3) := ((hFc1.1 3 rfl).trans rfl)
    have z6 : Pc1 0 7 = (P 0 7) := ((hFc1.1 7 rfl).trans rfl)
    refine g_if_eq (tgt := 36) dX12_alternative_20 (by decide) ⟨by omega, by omega⟩ (fun k7 => ?_) (fun k7 => ?_)
    · refine g_aload_n dX12_alternative_36 rfl ?_
      refine m_g39 rfl dX12_alternative_37 ?_
      refine g_aload_n dX12_alternative_40 rfl ?_
      refine m_g43 (z := (P 0 43)) rfl dX12_alternative_41 ((hFc1.1 43 rfl).trans rfl) ?_
      refine m_l24 (z := (P 24 (P 0 43))) dX12_alternative_44 ⟨by have q0 := b0_43 hB; omega, by have q0 := b0_43 hB; omega⟩ ((congrFun (hFc1.2 24 rfl rfl) _).trans rfl) ?_
      refine g_istore_n (l1 := [(1, vI (P 24 (P 0 43))), (0, vR 0)]) dX12_alternative_45 (by decide) rfl ?_
      refine g_iload_n dX12_alternative_46 rfl ?_
      refine g_iconst dX12_alternative_47 ?_
      have f8 := bl_24 (k := (P 0 43)) hB
      refine g_icmp_ne (tgt := 57) dX12_alternative_48 (by decide) ⟨by have q0 := bl_24 (k := (P 0 43)) hB; omega, by have q0 := bl_24 (k := (P 0 43)) hB; omega⟩ (by decide) (fun k9 => ?_) (fun k9 => ?_)
      · have hst := p_sx.2.1 (P 0 43) p_sx.1.1 (Int.le_refl _)
        refine g_aload_n dX12_alternative_57 rfl ?_
        refine m_g3 (z := (P 0 3)) rfl dX12_alternative_58 ((hFc1.1 3 rfl).trans rfl) ?_
        refine g_iconst dX12_alternative_61 ?_
        have f10 := b0_3 hB
        refine g_icmp_ne (tgt := 76) dX12_alternative_62 (by decide) ⟨by have q0 := b0_3 hB; omega, by have q0 := b0_3 hB; omega⟩ (by decide) (fun k11 => ?_) (fun k11 => ?_)
        · refine g_aload_n dX12_alternative_76 rfl ?_
          refine g_iconst dX12_alternative_77 ?_
          refine g_aload_n dX12_alternative_78 rfl ?_
          refine m_g4 (z := (P 0 4)) rfl dX12_alternative_79 ((hFc1.1 4 rfl).trans rfl) ?_
          have f12 := b0_4 hB
          refine g_vV (av := [vI 1, vI (P 0 4)]) (o := 0) (st := []) (m_X12_blame G Pc1 1 (P 0 4) (by decide) ⟨by have q0 := b0_4 hB; omega, by have q0 := b0_4 hB; omega⟩ hBc1  _ (fun Pc13 hBc13 hFc13 gc13_f gc13_pe => ⟨rfl, ?_⟩)) cf_X12_blame t_1701 rfl (by decide) rfl rfl rfl (Nat.le_of_ble_eq_true rfl) (by decide) rfl dX12_alternative_82
          refine g_aload_n dX12_alternative_85 rfl ?_
          refine m_g8 (z := (Pc13 0 8)) rfl dX12_alternative_86 rfl ?_
          have f14 := b0_8 hBc13
          refine g_if_le (tgt := 96) dX12_alternative_89 (by decide) ⟨by have q0 := b0_8 hBc13; omega, by have q0 := b0_8 hBc13; omega⟩ (fun k15 => ?_) (fun k15 => ?_)
          · refine g_aload_n dX12_alternative_96 rfl ?_
            refine g_aload_n dX12_alternative_97 rfl ?_
            refine m_g37 (z := (P 0 37)) rfl dX12_alternative_98 ((hFc13.1 37 rfl).trans ((hFc1.1 37 rfl).trans rfl)) ?_
            refine g_aload_n dX12_alternative_101 rfl ?_
            refine m_g7 (z := (P 0 7)) rfl dX12_alternative_102 ((hFc13.1 7 rfl).trans ((hFc1.1 7 rfl).trans rfl)) ?_
            have f16 := b0_37 hB
            have f17 := b0_7 hB
            refine g_vI (av := [vI (P 0 37), vL (P 0 7)]) (o := 0) (st := []) (m_X12_conNamed G Pc13 (P 0 37) (P 0 7) ⟨by have q0 := b0_37 hB; omega, by have q0 := b0_37 hB; omega⟩ ⟨by have q0 := b0_7 hB; omega, by have q0 := b0_7 hB; omega⟩ hBc13  _ (fun rc18 hc18 gc18_k => ⟨rc18, rfl, ?_⟩)) cf_X12_conNamed t_1740 rfl (by decide) rfl rfl rfl (Nat.le_of_ble_eq_true rfl) (by decide) rfl dX12_alternative_105
            have z19 : Pc13 5 (P 0 37) = (P 5 (P 0 37)) := ((congrFun (hFc13.2 5 rfl rfl) _).trans ((congrFun (hFc1.2 5 rfl rfl) _).trans rfl))
            refine g_istore_n (l1 := [(2, vI rc18), (1, vI (P 24 (P 0 43))), (0, vR 0)]) dX12_alternative_108 (by decide) rfl ?_
            refine g_aload_n dX12_alternative_109 rfl ?_
            refine m_g8 (z := (Pc13 0 8)) rfl dX12_alternative_110 rfl ?_
            refine g_if_ne (tgt := 148) dX12_alternative_113 (by decide) ⟨by have q0 := b0_8 hBc13; omega, by have q0 := b0_8 hBc13; omega⟩ (fun k20 => by exfalso; have q0 := b0_8 hBc13; omega) (fun k20 => ?_)
            refine g_iload_n dX12_alternative_116 rfl ?_
            refine g_iconst dX12_alternative_117 ?_
            refine g_icmp_eq (tgt := 139) dX12_alternative_118 (by decide) ⟨by omega, by omega⟩ (by decide) (fun k21 => ?_) (fun k21 => ?_)
            · refine g_aload_n dX12_alternative_139 rfl ?_
              refine g_iconst dX12_alternative_140 ?_
              refine g_aload_n dX12_alternative_141 rfl ?_
              refine m_g4 (z := (P 0 4)) rfl dX12_alternative_142 ((hFc13.1 4 rfl).trans ((hFc1.1 4 rfl).trans rfl)) ?_
              refine g_vV (av := [vI 3, vI (P 0 4)]) (o := 0) (st := []) (m_X12_blame G Pc13 3 (P 0 4) (by decide) ⟨by have q0 := b0_4 hB; omega, by have q0 := b0_4 hB; omega⟩ hBc13  _ (fun Pc22 hBc22 hFc22 gc22_f gc22_pe => ⟨rfl, ?_⟩)) cf_X12_blame t_1701 rfl (by decide) rfl rfl rfl (Nat.le_of_ble_eq_true rfl) (by decide) rfl dX12_alternative_145
              refine g_aload_n dX12_alternative_148 rfl ?_
              refine m_g8 (z := (Pc22 0 8)) rfl dX12_alternative_149 rfl ?_
              have f23 := b0_8 hBc22
              refine g_if_le (tgt := 157) dX12_alternative_152 (by decide) ⟨by have q0 := b0_8 hBc22; omega, by have q0 := b0_8 hBc22; omega⟩ (fun k24 => ?_) (fun k24 => ?_)
              · refine g_aload_n dX12_alternative_157 rfl ?_
                refine g_vV (av := []) (o := 0) (st := []) (m_X12_ahead G Pc22  hBc22  _ (fun Pc25 hBc25 hFc25 gc25_lx gc25_nx => ⟨rfl, ?_⟩)) cf_X12_ahead t_1683 rfl (by decide) rfl rfl rfl (Nat.le_of_ble_eq_true rfl) (by decide) rfl dX12_alternative_158
                have z26 : Pc22 0 5 = (P 0 5) := ((hFc22.1 5 rfl).trans ((hFc13.1 5 rfl).trans ((hFc1.1 5 rfl).trans rfl)))
                refine g_aload_n dX12_alternative_161 rfl ?_
                refine g_iconst dX12_alternative_162 ?_
                refine g_iload_n dX12_alternative_163 rfl ?_
                refine g_iconst dX12_alternative_164 ?_
                have hq4 := b0_4 hB
                have hsx := (SX.fr (F := ([3, 4, 5, 6, 7, 8, 9, 12], [])) ivI_SX0 (FrM.c (FrM.c (FrM.c (FrM.c FrM.rf hFc1 rfl) hFc13 rfl) hFc22 rfl) hFc25 rfl) rfl)
                have hlo := (LO.fr (F := ([3, 4, 5, 6, 7, 8, 9, 12], [])) ivI_LO (FrM.c (FrM.c (FrM.c (FrM.c FrM.rf hFc1 rfl) hFc13 rfl) hFc22 rfl) hFc25 rfl) rfl)
                have hb9 := hBc25
                have hq1 := pot_c Pc25
                have hq2 := (pot_fr (F := ([3, 4, 5, 6, 7, 8, 9, 12], [])) (FrM.c (FrM.c (FrM.c (FrM.c FrM.rf hFc1 rfl) hFc13 rfl) hFc22 rfl) hFc25 rfl) rfl : pot Pc25 = pot P)
                have hq3 := b0_4 hBc25
                refine g_vV (av := [vI 2, vI rc18, vI 0]) (o := 0) (st := []) (m_X12_emits G Pc25 2 rc18 0 (by decide) ⟨by omega, by omega⟩ (by decide) hBc25 (by have q0 := (((hFc25.1 36 rfl).trans ((hFc22.1 36 rfl).trans ((hFc13.1 36 rfl).trans ((hFc1.1 36 rfl).trans rfl)))) : Pc25 0 36 = (P 0 36)); have q1 := b0_36 hB; omega) _ (fun Pc27 hBc27 hFc27 gc27_o gc27_e => ⟨rfl, ?_⟩)) cf_X12_emits t_1788 rfl (by decide) rfl rfl rfl (Nat.le_of_ble_eq_true rfl) (by decide) rfl dX12_alternative_165
                have z28 : Pc25 0 36 = (P 0 36) := ((hFc25.1 36 rfl).trans ((hFc22.1 36 rfl).trans ((hFc13.1 36 rfl).trans ((hFc1.1 36 rfl).trans rfl))))
                have hpe := pot_em gc27_e hFc27
                have iv29 : SX f 1 Pc27 := hsx.leaf hb9 gc27_e hFc27 ⟨by omega, by omega⟩
                have iv30 : LO P Pc27 := hlo.trans (gc27_e.lo hFc27 rfl (by omega))
                refine g_aload_n dX12_alternative_168 rfl ?_
                refine m_g19 rfl dX12_alternative_169 ?_
                refine g_bipush dX12_alternative_172 (by decide) ?_
                refine g_aload_n dX12_alternative_174 rfl ?_
                refine m_g37 (z := (P 0 37)) rfl dX12_alternative_175 ((hFc27.1 37 rfl).trans ((hFc25.1 37 rfl).trans ((hFc22.1 37 rfl).trans ((hFc13.1 37 rfl).trans ((hFc1.1 37 rfl).trans rfl))))) ?_
                refine g_imul dX12_alternative_178 ?_
                refine g_iload_n dX12_alternative_179 rfl ?_
                refine g_iadd dX12_alternative_180 ?_
                refine m_l7 (z := (P 7 ((24 * (P 0 37)) + rc18))) dX12_alternative_181 ⟨by have q0 := b0_37 hB; omega, by have q0 := b0_37 hB; omega⟩ ((congrFun (hFc27.2 7 rfl rfl) _).trans ((congrFun (hFc25.2 7 rfl rfl) _).trans ((congrFun (hFc22.2 7 rfl rfl) _).trans ((congrFun (hFc13.2 7 rfl rfl) _).trans ((congrFun (hFc1.2 7 rfl rfl) _).trans rfl))))) ?_
                have f31 := bl_7 (k := ((24 * (P 0 37)) + rc18)) hB
                refine g_if_ne (tgt := 187) dX12_alternative_182 (by decide) ⟨by have q0 := bl_7 (k := ((24 * (P 0 37)) + rc18)) hB; omega, by have q0 := bl_7 (k := ((24 * (P 0 37)) + rc18)) hB; omega⟩ (fun k32 => ?_) (fun k32 => ?_)
                · refine g_aload_n dX12_alternative_187 rfl ?_
                  refine g_bipush dX12_alternative_188 (by decide) ?_
                  refine g_vV (av := [vI 40]) (o := 0) (st := []) (m_X12_must G Pc27 40 (by decide) hBc27 (by have q0 := (((hFc27.1 3 rfl).trans rfl) : Pc27 0 3 = (Pc25 0 3)); have q1 := b0_3 hBc25; have q2 := (((hFc27.1 4 rfl).trans rfl) : Pc27 0 4 = (Pc25 0 4)); have q3 := b0_4 hBc25; have q4 := (((hFc27.1 5 rfl).trans rfl) : Pc27 0 5 = (Pc25 0 5)); have q5 := b0_5 hBc25; omega) _ (fun Pc33 hBc33 hFc33 gc33_lx gc33_mo gc33_pe gc33_ad => ⟨rfl, ?_⟩)) cf_X12_must t_1768 rfl (by decide) rfl rfl rfl (Nat.le_of_ble_eq_true rfl) (by decide) rfl dX12_alternative_190
                  have z34 : Pc27 0 4 = (Pc25 0 4) := ((hFc27.1 4 rfl).trans rfl)
                  have z35 : Pc27 0 8 = (Pc22 0 8) := ((hFc27.1 8 rfl).trans ((hFc25.1 8 rfl).trans rfl))
                  refine g_aload_n dX12_alternative_193 rfl ?_
                  refine m_g8 (z := (Pc33 0 8)) rfl dX12_alternative_194 rfl ?_
                  have f36 := b0_8 hBc33
                  refine g_if_ne (tgt := 206) dX12_alternative_197 (by decide) ⟨by have q0 := b0_8 hBc33; omega, by have q0 := b0_8 hBc33; omega⟩ (fun k37 => ?_) (fun k37 => ?_)
                  · refine g_aload_n dX12_alternative_206 rfl ?_
                    refine m_g8 (z := (Pc33 0 8)) rfl dX12_alternative_207 rfl ?_
                    refine g_if_le (tgt := 217) dX12_alternative_210 (by decide) ⟨by have q0 := b0_8 hBc33; omega, by have q0 := b0_8 hBc33; omega⟩ (fun k38 => by exfalso; have q0 := b0_8 hBc33; omega) (fun k38 => ?_)
                    refine g_iconst dX12_alternative_213 ?_
                    refine g_goto (tgt := 218) dX12_alternative_214 (by decide) ?_
                    exact g_retZ dX12_alternative_218 rfl (by decide) (hQ 1 (by decide) _ hBc33 (FrM.c (FrM.c (FrM.c (FrM.c (FrM.c (FrM.c FrM.rf hFc1 rfl) hFc13 rfl) hFc22 rfl) hFc25 rfl) hFc27 rfl) hFc33 rfl) (by have q0 := b0_3 hBc33; have q1 := b0_4 hBc33; have q2 := b0_5 hBc33; omega) (by have q0 := b0_4 hBc33; omega) (by have q0 := b0_8 hBc33; omega) ((LO.fr (F := ([3, 4, 5, 6, 7, 8, 9, 12], [])) iv30 (FrM.c FrM.rf hFc33 rfl) rfl)) (by have q0 := b0_8 hBc33; have q1 := b0_4 hBc33; omega) (by first | (left; have q8 := (rfl : Pc33 0 8 = (Pc33 0 8)); omega) | (right; left; exact ⟨rfl, (SX.fr (F := ([3, 4, 5, 6, 7, 8, 9, 12], [])) iv29 (FrM.c FrM.rf hFc33 rfl) rfl), by have q4 := (rfl : Pc33 0 4 = (Pc33 0 4)); have qp := (pot_fr (F := ([3, 4, 5, 6, 7, 8, 9, 12], [])) (FrM.c FrM.rf hFc33 rfl) rfl : pot Pc33 = pot Pc27); omega⟩) | (right; right; exact ⟨rfl, hNONE, by have q4 := (rfl : Pc33 0 4 = (Pc33 0 4)); have qp := (pot_fr (F := ([3, 4, 5, 6, 7, 8, 9, 12], [])) (FrM.c FrM.rf hFc33 rfl) rfl : pot Pc33 = pot Pc27); omega⟩) | exact hrs9.elim Or.inl (fun h => Or.inr (Or.inl ⟨rfl, h⟩))))
                  · refine g_aload_n dX12_alternative_200 rfl ?_
                    refine g_iload_n dX12_alternative_201 rfl ?_
                    refine g_iconst dX12_alternative_202 ?_
                    have hlo := (LO.fr (F := ([3, 4, 5, 6, 7, 8, 9, 12], [])) iv30 (FrM.c FrM.rf hFc33 rfl) rfl)
                    have hq4 := b0_4 hB
                    have hq1 := pot_c Pc33
                    have hq2 := (pot_fr (F := ([3, 4, 5, 6, 7, 8, 9, 12], [])) (FrM.c FrM.rf hFc33 rfl) rfl : pot Pc33 = pot Pc27)
                    have hq3 := b0_4 hBc33
                    have hq6 := (((hFc33.1 36 rfl).trans rfl) : Pc33 0 36 = (Pc27 0 36))
                    refine g_vV (av := [vI rc18, vI 0]) (o := 0) (st := []) (m_X12_fieldBegins G Pc33 (f) rc18 0 ⟨by omega, by omega⟩ (by decide) hBc33 ((SX.fr (F := ([3, 4, 5, 6, 7, 8, 9, 12], [])) iv29 (FrM.c FrM.rf hFc33 rfl) rfl)) (by rw [show Pc33 0 37 = _ from ((hFc33.1 37 rfl).trans ((hFc27.1 37 rfl).trans ((hFc25.1 37 rfl).trans ((hFc22.1 37 rfl).trans ((hFc13.1 37 rfl).trans ((hFc1.1 37 rfl).trans rfl)))))), show Pc33 5 (P 0 37) = _ from ((congrFun (hFc33.2 5 rfl rfl) _).trans ((congrFun (hFc27.2 5 rfl rfl) _).trans ((congrFun (hFc25.2 5 rfl rfl) _).trans ((congrFun (hFc22.2 5 rfl rfl) _).trans ((congrFun (hFc13.2 5 rfl rfl) _).trans ((congrFun (hFc1.2 5 rfl rfl) _).trans rfl))))))]; omega) (by rw [show Pc33 0 37 = _ from ((hFc33.1 37 rfl).trans ((hFc27.1 37 rfl).trans ((hFc25.1 37 rfl).trans ((hFc22.1 37 rfl).trans ((hFc13.1 37 rfl).trans ((hFc1.1 37 rfl).trans rfl)))))), show Pc33 7 ((24 * (P 0 37)) + rc18) = _ from ((congrFun (hFc33.2 7 rfl rfl) _).trans ((congrFun (hFc27.2 7 rfl rfl) _).trans ((congrFun (hFc25.2 7 rfl rfl) _).trans ((congrFun (hFc22.2 7 rfl rfl) _).trans ((congrFun (hFc13.2 7 rfl rfl) _).trans ((congrFun (hFc1.2 7 rfl rfl) _).trans rfl))))))]; omega) (by rw [show Pc33 0 37 = _ from ((hFc33.1 37 rfl).trans ((hFc27.1 37 rfl).trans ((hFc25.1 37 rfl).trans ((hFc22.1 37 rfl).trans ((hFc13.1 37 rfl).trans ((hFc1.1 37 rfl).trans rfl)))))), show Pc33 6 ((24 * (P 0 37)) + rc18) = _ from ((congrFun (hFc33.2 6 rfl rfl) _).trans ((congrFun (hFc27.2 6 rfl rfl) _).trans ((congrFun (hFc25.2 6 rfl rfl) _).trans ((congrFun (hFc22.2 6 rfl rfl) _).trans ((congrFun (hFc13.2 6 rfl rfl) _).trans ((congrFun (hFc1.2 6 rfl rfl) _).trans rfl)))))), show Pc33 0 43 = _ from ((hFc33.1 43 rfl).trans ((hFc27.1 43 rfl).trans ((hFc25.1 43 rfl).trans ((hFc22.1 43 rfl).trans ((hFc13.1 43 rfl).trans ((hFc1.1 43 rfl).trans rfl))))))]; omega) (by have q0 := (((hFc33.1 36 rfl).trans rfl) : Pc33 0 36 = (Pc27 0 36)); have q1 := b0_36 hBc27; omega) (CF.fr (F := ([3, 4, 5, 6, 7, 8, 9, 12, 36], [19, 20, 21])) v_CF (FrM.c (FrM.c (FrM.c (FrM.c (FrM.c (FrM.c FrM.rf hFc1 rfl) hFc13 rfl) hFc22 rfl) hFc25 rfl) hFc27 rfl) hFc33 rfl) rfl) _ (fun Pc39 hBc39 hFc39 gc39_lo gc39_sx gc39_pt => ⟨rfl, ?_⟩)) cf_X12_fieldBegins t_1803 rfl (by decide) rfl rfl rfl (Nat.le_of_ble_eq_true rfl) (by decide) rfl dX12_alternative_203
                    have z40 := (pot_fr (F := ([3, 4, 5, 6, 7, 8, 9, 12], [])) (FrM.c FrM.rf hFc33 rfl) rfl : pot Pc33 = pot Pc27)
                    have iv41 : SX f 0 Pc39 := gc39_sx
                    have iv42 : LO P Pc39 := hlo.trans gc39_lo
                    refine g_aload_n dX12_alternative_206 rfl ?_
                    refine m_g8 (z := (Pc33 0 8)) rfl dX12_alternative_207 ((hFc39.1 8 rfl).trans rfl) ?_
                    refine g_if_le (tgt := 217) dX12_alternative_210 (by decide) ⟨by have q0 := b0_8 hBc33; omega, by have q0 := b0_8 hBc33; omega⟩ (fun k43 => ?_) (fun k43 => by exfalso; have q0 := b0_8 hBc33; omega)
                    refine g_iconst dX12_alternative_217 ?_
                    exact g_retZ dX12_alternative_218 rfl (by decide) (hQ 0 (by decide) _ hBc39 (FrM.c (FrM.c (FrM.c (FrM.c (FrM.c (FrM.c (FrM.c FrM.rf hFc1 rfl) hFc13 rfl) hFc22 rfl) hFc25 rfl) hFc27 rfl) hFc33 rfl) hFc39 rfl) (by have q0 := (((hFc39.1 3 rfl).trans rfl) : Pc39 0 3 = (Pc33 0 3)); have q1 := b0_3 hBc33; have q2 := (((hFc39.1 4 rfl).trans rfl) : Pc39 0 4 = (Pc33 0 4)); have q3 := b0_4 hBc33; have q4 := (((hFc39.1 5 rfl).trans rfl) : Pc39 0 5 = (Pc33 0 5)); have q5 := b0_5 hBc33; omega) (by have q0 := (((hFc39.1 4 rfl).trans rfl) : Pc39 0 4 = (Pc33 0 4)); have q1 := b0_4 hBc33; omega) (by have q0 := (((hFc39.1 8 rfl).trans rfl) : Pc39 0 8 = (Pc33 0 8)); have q1 := b0_8 hBc33; omega) (iv42) (by have q0 := (((hFc39.1 8 rfl).trans rfl) : Pc39 0 8 = (Pc33 0 8)); have q1 := b0_8 hBc33; have q2 := (((hFc39.1 4 rfl).trans rfl) : Pc39 0 4 = (Pc33 0 4)); have q3 := b0_4 hBc33; omega) (by first | (left; have q8 := (((hFc39.1 8 rfl).trans rfl) : Pc39 0 8 = (Pc33 0 8)); omega) | (right; left; exact ⟨rfl, hNONE, by have q4 := (((hFc39.1 4 rfl).trans rfl) : Pc39 0 4 = (Pc33 0 4)); have qp := trivial; omega⟩) | (right; right; exact ⟨rfl, iv41, by have q4 := (((hFc39.1 4 rfl).trans rfl) : Pc39 0 4 = (Pc33 0 4)); have qp := trivial; omega⟩) | exact hrs9.elim Or.inl (fun h => Or.inr (Or.inl ⟨rfl, h⟩))))
                · refine g_iconst dX12_alternative_185 ?_
                  exact g_retZ dX12_alternative_186 rfl (by decide) (hQ 1 (by decide) _ hBc27 (FrM.c (FrM.c (FrM.c (FrM.c (FrM.c FrM.rf hFc1 rfl) hFc13 rfl) hFc22 rfl) hFc25 rfl) hFc27 rfl) (by have q0 := (((hFc27.1 3 rfl).trans rfl) : Pc27 0 3 = (Pc25 0 3)); have q1 := b0_3 hBc25; have q2 := (((hFc27.1 4 rfl).trans rfl) : Pc27 0 4 = (Pc25 0 4)); have q3 := b0_4 hBc25; have q4 := (((hFc27.1 5 rfl).trans rfl) : Pc27 0 5 = (Pc25 0 5)); have q5 := b0_5 hBc25; omega) (by have q0 := (((hFc27.1 4 rfl).trans rfl) : Pc27 0 4 = (Pc25 0 4)); have q1 := b0_4 hBc25; omega) (by have q0 := (((hFc27.1 8 rfl).trans ((hFc25.1 8 rfl).trans rfl)) : Pc27 0 8 = (Pc22 0 8)); have q1 := b0_8 hBc22; omega) (iv30) (by have q0 := (((hFc27.1 8 rfl).trans ((hFc25.1 8 rfl).trans rfl)) : Pc27 0 8 = (Pc22 0 8)); have q1 := b0_8 hBc22; have q2 := (((hFc27.1 4 rfl).trans rfl) : Pc27 0 4 = (Pc25 0 4)); have q3 := b0_4 hBc25; omega) (by first | (left; have q8 := (((hFc27.1 8 rfl).trans ((hFc25.1 8 rfl).trans rfl)) : Pc27 0 8 = (Pc22 0 8)); omega) | (right; left; exact ⟨rfl, iv29, by have q4 := (((hFc27.1 4 rfl).trans rfl) : Pc27 0 4 = (Pc25 0 4)); have qp := trivial; omega⟩) | (right; right; exact ⟨rfl, hNONE, by have q4 := (((hFc27.1 4 rfl).trans rfl) : Pc27 0 4 = (Pc25 0 4)); have qp := trivial; omega⟩) | exact hrs9.elim Or.inl (fun h => Or.inr (Or.inl ⟨rfl, h⟩))))
              · refine g_iconst dX12_alternative_155 ?_
                exact g_retZ dX12_alternative_156 rfl (by decide) (hQ 1 (by decide) _ hBc22 (FrM.c (FrM.c (FrM.c FrM.rf hFc1 rfl) hFc13 rfl) hFc22 rfl) (by have q0 := (((hFc22.1 3 rfl).trans ((hFc13.1 3 rfl).trans ((hFc1.1 3 rfl).trans rfl))) : Pc22 0 3 = (P 0 3)); have q1 := b0_3 hB; have q2 := (((hFc22.1 4 rfl).trans ((hFc13.1 4 rfl).trans ((hFc1.1 4 rfl).trans rfl))) : Pc22 0 4 = (P 0 4)); have q3 := b0_4 hB; have q4 := (((hFc22.1 5 rfl).trans ((hFc13.1 5 rfl).trans ((hFc1.1 5 rfl).trans rfl))) : Pc22 0 5 = (P 0 5)); have q5 := b0_5 hB; omega) (by have q0 := (((hFc22.1 4 rfl).trans ((hFc13.1 4 rfl).trans ((hFc1.1 4 rfl).trans rfl))) : Pc22 0 4 = (P 0 4)); have q1 := b0_4 hB; omega) (by have q0 := b0_8 hBc22; omega) ((LO.fr (F := ([8, 9], [])) ivI_LO (FrM.c (FrM.c (FrM.c FrM.rf hFc1 rfl) hFc13 rfl) hFc22 rfl) rfl)) (by have q0 := b0_8 hBc22; have q1 := (((hFc22.1 4 rfl).trans ((hFc13.1 4 rfl).trans ((hFc1.1 4 rfl).trans rfl))) : Pc22 0 4 = (P 0 4)); have q2 := b0_4 hB; omega) (by first | (left; have q8 := (rfl : Pc22 0 8 = (Pc22 0 8)); omega) | (right; left; exact ⟨rfl, hNONE, by have q4 := (((hFc22.1 4 rfl).trans ((hFc13.1 4 rfl).trans ((hFc1.1 4 rfl).trans rfl))) : Pc22 0 4 = (P 0 4)); have qp := (pot_fr (F := ([8, 9], [])) (FrM.c (FrM.c (FrM.c FrM.rf hFc1 rfl) hFc13 rfl) hFc22 rfl) rfl : pot Pc22 = pot P); omega⟩) | (right; right; exact ⟨rfl, (SX.fr (F := ([8, 9], [])) ivI_SX0 (FrM.c (FrM.c (FrM.c FrM.rf hFc1 rfl) hFc13 rfl) hFc22 rfl) rfl), by have q4 := (((hFc22.1 4 rfl).trans ((hFc13.1 4 rfl).trans ((hFc1.1 4 rfl).trans rfl))) : Pc22 0 4 = (P 0 4)); have qp := (pot_fr (F := ([8, 9], [])) (FrM.c (FrM.c (FrM.c FrM.rf hFc1 rfl) hFc13 rfl) hFc22 rfl) rfl : pot Pc22 = pot P); omega⟩) | exact hrs9.elim Or.inl (fun h => Or.inr (Or.inl ⟨rfl, h⟩))))
            · refine g_aload_n dX12_alternative_121 rfl ?_
              refine m_g18 rfl dX12_alternative_122 ?_
              refine g_bipush dX12_alternative_125 (by decide) ?_
              refine g_aload_n dX12_alternative_127 rfl ?_
              refine m_g37 (z := (P 0 37)) rfl dX12_alternative_128 ((hFc13.1 37 rfl).trans ((hFc1.1 37 rfl).trans rfl)) ?_
              refine g_imul dX12_alternative_131 ?_
              refine g_iload_n dX12_alternative_132 rfl ?_
              refine g_iadd dX12_alternative_133 ?_
              refine m_l6 (z := (P 6 ((24 * (P 0 37)) + rc18))) dX12_alternative_134 ⟨by have q0 := b0_37 hB; omega, by have q0 := b0_37 hB; omega⟩ ((congrFun (hFc13.2 6 rfl rfl) _).trans ((congrFun (hFc1.2 6 rfl rfl) _).trans rfl)) ?_
              refine g_iload_n dX12_alternative_135 rfl ?_
              have f44 := bl_6 (k := ((24 * (P 0 37)) + rc18)) hB
              refine g_icmp_eq (tgt := 148) dX12_alternative_136 (by decide) ⟨by have q0 := bl_6 (k := ((24 * (P 0 37)) + rc18)) hB; omega, by have q0 := bl_6 (k := ((24 * (P 0 37)) + rc18)) hB; omega⟩ ⟨by have q0 := bl_24 (k := (P 0 43)) hB; omega, by have q0 := bl_24 (k := (P 0 43)) hB; omega⟩ (fun k45 => ?_) (fun k45 => ?_)
              · refine g_aload_n dX12_alternative_148 rfl ?_
                refine m_g8 (z := (Pc13 0 8)) rfl dX12_alternative_149 rfl ?_
                refine g_if_le (tgt := 157) dX12_alternative_152 (by decide) ⟨by have q0 := b0_8 hBc13; omega, by have q0 := b0_8 hBc13; omega⟩ (fun k46 => ?_) (fun k46 => by exfalso; have q0 := b0_8 hBc13; omega)
                refine g_aload_n dX12_alternative_157 rfl ?_
                refine g_vV (av := []) (o := 0) (st := []) (m_X12_ahead G Pc13  hBc13  _ (fun Pc47 hBc47 hFc47 gc47_lx gc47_nx => ⟨rfl, ?_⟩)) cf_X12_ahead t_1683 rfl (by decide) rfl rfl rfl (Nat.le_of_ble_eq_true rfl) (by decide) rfl dX12_alternative_158
                have z48 : Pc13 0 5 = (P 0 5) := ((hFc13.1 5 rfl).trans ((hFc1.1 5 rfl).trans rfl))
                refine g_aload_n dX12_alternative_161 rfl ?_
                refine g_iconst dX12_alternative_162 ?_
                refine g_iload_n dX12_alternative_163 rfl ?_
                refine g_iconst dX12_alternative_164 ?_
                have hq4 := b0_4 hB
                have hsx := (SX.fr (F := ([3, 4, 5, 6, 7, 8, 9, 12], [])) ivI_SX0 (FrM.c (FrM.c (FrM.c FrM.rf hFc1 rfl) hFc13 rfl) hFc47 rfl) rfl)
                have hlo := (LO.fr (F := ([3, 4, 5, 6, 7, 8, 9, 12], [])) ivI_LO (FrM.c (FrM.c (FrM.c FrM.rf hFc1 rfl) hFc13 rfl) hFc47 rfl) rfl)
                have hb9 := hBc47
                have hq1 := pot_c Pc47
                have hq2 := (pot_fr (F := ([3, 4, 5, 6, 7, 8, 9, 12], [])) (FrM.c (FrM.c (FrM.c FrM.rf hFc1 rfl) hFc13 rfl) hFc47 rfl) rfl : pot Pc47 = pot P)
                have hq3 := b0_4 hBc47
                refine g_vV (av := [vI 2, vI rc18, vI 0]) (o := 0) (st := []) (m_X12_emits G Pc47 2 rc18 0 (by decide) ⟨by omega, by omega⟩ (by decide) hBc47 (by have q0 := (((hFc47.1 36 rfl).trans ((hFc13.1 36 rfl).trans ((hFc1.1 36 rfl).trans rfl))) : Pc47 0 36 = (P 0 36)); have q1 := b0_36 hB; omega) _ (fun Pc49 hBc49 hFc49 gc49_o gc49_e => ⟨rfl, ?_⟩)) cf_X12_emits t_1788 rfl (by decide) rfl rfl rfl (Nat.le_of_ble_eq_true rfl) (by decide) rfl dX12_alternative_165
                have z50 : Pc47 0 36 = (P 0 36) := ((hFc47.1 36 rfl).trans ((hFc13.1 36 rfl).trans ((hFc1.1 36 rfl).trans rfl)))
                have hpe := pot_em gc49_e hFc49
                have iv51 : SX f 1 Pc49 := hsx.leaf hb9 gc49_e hFc49 ⟨by omega, by omega⟩
                have iv52 : LO P Pc49 := hlo.trans (gc49_e.lo hFc49 rfl (by omega))
                refine g_aload_n dX12_alternative_168 rfl ?_
                refine m_g19 rfl dX12_alternative_169 ?_
                refine g_bipush dX12_alternative_172 (by decide) ?_
                refine g_aload_n dX12_alternative_174 rfl ?_
                refine m_g37 (z := (P 0 37)) rfl dX12_alternative_175 ((hFc49.1 37 rfl).trans ((hFc47.1 37 rfl).trans ((hFc13.1 37 rfl).trans ((hFc1.1 37 rfl).trans rfl)))) ?_
                refine g_imul dX12_alternative_178 ?_
                refine g_iload_n dX12_alternative_179 rfl ?_
                refine g_iadd dX12_alternative_180 ?_
                refine m_l7 (z := (P 7 ((24 * (P 0 37)) + rc18))) dX12_alternative_181 ⟨by have q0 := b0_37 hB; omega, by have q0 := b0_37 hB; omega⟩ ((congrFun (hFc49.2 7 rfl rfl) _).trans ((congrFun (hFc47.2 7 rfl rfl) _).trans ((congrFun (hFc13.2 7 rfl rfl) _).trans ((congrFun (hFc1.2 7 rfl rfl) _).trans rfl)))) ?_
                have f53 := bl_7 (k := ((24 * (P 0 37)) + rc18)) hB
                refine g_if_ne (tgt := 187) dX12_alternative_182 (by decide) ⟨by have q0 := bl_7 (k := ((24 * (P 0 37)) + rc18)) hB; omega, by have q0 := bl_7 (k := ((24 * (P 0 37)) + rc18)) hB; omega⟩ (fun k54 => ?_) (fun k54 => ?_)
                · refine g_aload_n dX12_alternative_187 rfl ?_
                  refine g_bipush dX12_alternative_188 (by decide) ?_
                  refine g_vV (av := [vI 40]) (o := 0) (st := []) (m_X12_must G Pc49 40 (by decide) hBc49 (by have q0 := (((hFc49.1 3 rfl).trans rfl) : Pc49 0 3 = (Pc47 0 3)); have q1 := b0_3 hBc47; have q2 := (((hFc49.1 4 rfl).trans rfl) : Pc49 0 4 = (Pc47 0 4)); have q3 := b0_4 hBc47; have q4 := (((hFc49.1 5 rfl).trans rfl) : Pc49 0 5 = (Pc47 0 5)); have q5 := b0_5 hBc47; omega) _ (fun Pc55 hBc55 hFc55 gc55_lx gc55_mo gc55_pe gc55_ad => ⟨rfl, ?_⟩)) cf_X12_must t_1768 rfl (by decide) rfl rfl rfl (Nat.le_of_ble_eq_true rfl) (by decide) rfl dX12_alternative_190
                  have z56 : Pc49 0 4 = (Pc47 0 4) := ((hFc49.1 4 rfl).trans rfl)
                  have z57 : Pc49 0 8 = (Pc13 0 8) := ((hFc49.1 8 rfl).trans ((hFc47.1 8 rfl).trans rfl))
                  refine g_aload_n dX12_alternative_193 rfl ?_
                  refine m_g8 (z := (Pc55 0 8)) rfl dX12_alternative_194 rfl ?_
                  have f58 := b0_8 hBc55
                  refine g_if_ne (tgt := 206) dX12_alternative_197 (by decide) ⟨by have q0 := b0_8 hBc55; omega, by have q0 := b0_8 hBc55; omega⟩ (fun k59 => ?_) (fun k59 => ?_)
                  · refine g_aload_n dX12_alternative_206 rfl ?_
                    refine m_g8 (z := (Pc55 0 8)) rfl dX12_alternative_207 rfl ?_
                    refine g_if_le (tgt := 217) dX12_alternative_210 (by decide) ⟨by have q0 := b0_8 hBc55; omega, by have q0 := b0_8 hBc55; omega⟩ (fun k60 => by exfalso; have q0 := b0_8 hBc55; omega) (fun k60 => ?_)
                    refine g_iconst dX12_alternative_213 ?_
                    refine g_goto (tgt := 218) dX12_alternative_214 (by decide) ?_
                    exact g_retZ dX12_alternative_218 rfl (by decide) (hQ 1 (by decide) _ hBc55 (FrM.c (FrM.c (FrM.c (FrM.c (FrM.c FrM.rf hFc1 rfl) hFc13 rfl) hFc47 rfl) hFc49 rfl) hFc55 rfl) (by have q0 := b0_3 hBc55; have q1 := b0_4 hBc55; have q2 := b0_5 hBc55; omega) (by have q0 := b0_4 hBc55; omega) (by have q0 := b0_8 hBc55; omega) ((LO.fr (F := ([3, 4, 5, 6, 7, 8, 9, 12], [])) iv52 (FrM.c FrM.rf hFc55 rfl) rfl)) (by have q0 := b0_8 hBc55; have q1 := b0_4 hBc55; omega) (by first | (left; have q8 := (rfl : Pc55 0 8 = (Pc55 0 8)); omega) | (right; left; exact ⟨rfl, (SX.fr (F := ([3, 4, 5, 6, 7, 8, 9, 12], [])) iv51 (FrM.c FrM.rf hFc55 rfl) rfl), by have q4 := (rfl : Pc55 0 4 = (Pc55 0 4)); have qp := (pot_fr (F := ([3, 4, 5, 6, 7, 8, 9, 12], [])) (FrM.c FrM.rf hFc55 rfl) rfl : pot Pc55 = pot Pc49); omega⟩) | (right; right; exact ⟨rfl, hNONE, by have q4 := (rfl : Pc55 0 4 = (Pc55 0 4)); have qp := (pot_fr (F := ([3, 4, 5, 6, 7, 8, 9, 12], [])) (FrM.c FrM.rf hFc55 rfl) rfl : pot Pc55 = pot Pc49); omega⟩) | exact hrs9.elim Or.inl (fun h => Or.inr (Or.inl ⟨rfl, h⟩))))
                  · refine g_aload_n dX12_alternative_200 rfl ?_
                    refine g_iload_n dX12_alternative_201 rfl ?_
                    refine g_iconst dX12_alternative_202 ?_
                    have hlo := (LO.fr (F := ([3, 4, 5, 6, 7, 8, 9, 12], [])) iv52 (FrM.c FrM.rf hFc55 rfl) rfl)
                    have hq4 := b0_4 hB
                    have hq1 := pot_c Pc55
                    have hq2 := (pot_fr (F := ([3, 4, 5, 6, 7, 8, 9, 12], [])) (FrM.c FrM.rf hFc55 rfl) rfl : pot Pc55 = pot Pc49)
                    have hq3 := b0_4 hBc55
                    have hq6 := (((hFc55.1 36 rfl).trans rfl) : Pc55 0 36 = (Pc49 0 36))
                    refine g_vV (av := [vI rc18, vI 0]) (o := 0) (st := []) (m_X12_fieldBegins G Pc55 (f) rc18 0 ⟨by omega, by omega⟩ (by decide) hBc55 ((SX.fr (F := ([3, 4, 5, 6, 7, 8, 9, 12], [])) iv51 (FrM.c FrM.rf hFc55 rfl) rfl)) (by rw [show Pc55 0 37 = _ from ((hFc55.1 37 rfl).trans ((hFc49.1 37 rfl).trans ((hFc47.1 37 rfl).trans ((hFc13.1 37 rfl).trans ((hFc1.1 37 rfl).trans rfl))))), show Pc55 5 (P 0 37) = _ from ((congrFun (hFc55.2 5 rfl rfl) _).trans ((congrFun (hFc49.2 5 rfl rfl) _).trans ((congrFun (hFc47.2 5 rfl rfl) _).trans ((congrFun (hFc13.2 5 rfl rfl) _).trans ((congrFun (hFc1.2 5 rfl rfl) _).trans rfl)))))]; omega) (by rw [show Pc55 0 37 = _ from ((hFc55.1 37 rfl).trans ((hFc49.1 37 rfl).trans ((hFc47.1 37 rfl).trans ((hFc13.1 37 rfl).trans ((hFc1.1 37 rfl).trans rfl))))), show Pc55 7 ((24 * (P 0 37)) + rc18) = _ from ((congrFun (hFc55.2 7 rfl rfl) _).trans ((congrFun (hFc49.2 7 rfl rfl) _).trans ((congrFun (hFc47.2 7 rfl rfl) _).trans ((congrFun (hFc13.2 7 rfl rfl) _).trans ((congrFun (hFc1.2 7 rfl rfl) _).trans rfl)))))]; omega) (by rw [show Pc55 0 37 = _ from ((hFc55.1 37 rfl).trans ((hFc49.1 37 rfl).trans ((hFc47.1 37 rfl).trans ((hFc13.1 37 rfl).trans ((hFc1.1 37 rfl).trans rfl))))), show Pc55 6 ((24 * (P 0 37)) + rc18) = _ from ((congrFun (hFc55.2 6 rfl rfl) _).trans ((congrFun (hFc49.2 6 rfl rfl) _).trans ((congrFun (hFc47.2 6 rfl rfl) _).trans ((congrFun (hFc13.2 6 rfl rfl) _).trans ((congrFun (hFc1.2 6 rfl rfl) _).trans rfl))))), show Pc55 0 43 = _ from ((hFc55.1 43 rfl).trans ((hFc49.1 43 rfl).trans ((hFc47.1 43 rfl).trans ((hFc13.1 43 rfl).trans ((hFc1.1 43 rfl).trans rfl)))))]; omega) (by have q0 := (((hFc55.1 36 rfl).trans rfl) : Pc55 0 36 = (Pc49 0 36)); have q1 := b0_36 hBc49; omega) (CF.fr (F := ([3, 4, 5, 6, 7, 8, 9, 12, 36], [19, 20, 21])) v_CF (FrM.c (FrM.c (FrM.c (FrM.c (FrM.c FrM.rf hFc1 rfl) hFc13 rfl) hFc47 rfl) hFc49 rfl) hFc55 rfl) rfl) _ (fun Pc61 hBc61 hFc61 gc61_lo gc61_sx gc61_pt => ⟨rfl, ?_⟩)) cf_X12_fieldBegins t_1803 rfl (by decide) rfl rfl rfl (Nat.le_of_ble_eq_true rfl) (by decide) rfl dX12_alternative_203
                    have z62 := (pot_fr (F := ([3, 4, 5, 6, 7, 8, 9, 12], [])) (FrM.c FrM.rf hFc55 rfl) rfl : pot Pc55 = pot Pc49)
                    have iv63 : SX f 0 Pc61 := gc61_sx
                    have iv64 : LO P Pc61 := hlo.trans gc61_lo
                    refine g_aload_n dX12_alternative_206 rfl ?_
                    refine m_g8 (z := (Pc55 0 8)) rfl dX12_alternative_207 ((hFc61.1 8 rfl).trans rfl) ?_
                    refine g_if_le (tgt := 217) dX12_alternative_210 (by decide) ⟨by have q0 := b0_8 hBc55; omega, by have q0 := b0_8 hBc55; omega⟩ (fun k65 => ?_) (fun k65 => by exfalso; have q0 := b0_8 hBc55; omega)
                    refine g_iconst dX12_alternative_217 ?_
                    exact g_retZ dX12_alternative_218 rfl (by decide) (hQ 0 (by decide) _ hBc61 (FrM.c (FrM.c (FrM.c (FrM.c (FrM.c (FrM.c FrM.rf hFc1 rfl) hFc13 rfl) hFc47 rfl) hFc49 rfl) hFc55 rfl) hFc61 rfl) (by have q0 := (((hFc61.1 3 rfl).trans rfl) : Pc61 0 3 = (Pc55 0 3)); have q1 := b0_3 hBc55; have q2 := (((hFc61.1 4 rfl).trans rfl) : Pc61 0 4 = (Pc55 0 4)); have q3 := b0_4 hBc55; have q4 := (((hFc61.1 5 rfl).trans rfl) : Pc61 0 5 = (Pc55 0 5)); have q5 := b0_5 hBc55; omega) (by have q0 := (((hFc61.1 4 rfl).trans rfl) : Pc61 0 4 = (Pc55 0 4)); have q1 := b0_4 hBc55; omega) (by have q0 := (((hFc61.1 8 rfl).trans rfl) : Pc61 0 8 = (Pc55 0 8)); have q1 := b0_8 hBc55; omega) (iv64) (by have q0 := (((hFc61.1 8 rfl).trans rfl) : Pc61 0 8 = (Pc55 0 8)); have q1 := b0_8 hBc55; have q2 := (((hFc61.1 4 rfl).trans rfl) : Pc61 0 4 = (Pc55 0 4)); have q3 := b0_4 hBc55; omega) (by first | (left; have q8 := (((hFc61.1 8 rfl).trans rfl) : Pc61 0 8 = (Pc55 0 8)); omega) | (right; left; exact ⟨rfl, hNONE, by have q4 := (((hFc61.1 4 rfl).trans rfl) : Pc61 0 4 = (Pc55 0 4)); have qp := trivial; omega⟩) | (right; right; exact ⟨rfl, iv63, by have q4 := (((hFc61.1 4 rfl).trans rfl) : Pc61 0 4 = (Pc55 0 4)); have qp := trivial; omega⟩) | exact hrs9.elim Or.inl (fun h => Or.inr (Or.inl ⟨rfl, h⟩))))
                · refine g_iconst dX12_alternative_185 ?_
                  exact g_retZ dX12_alternative_186 rfl (by decide) (hQ 1 (by decide) _ hBc49 (FrM.c (FrM.c (FrM.c (FrM.c FrM.rf hFc1 rfl) hFc13 rfl) hFc47 rfl) hFc49 rfl) (by have q0 := (((hFc49.1 3 rfl).trans rfl) : Pc49 0 3 = (Pc47 0 3)); have q1 := b0_3 hBc47; have q2 := (((hFc49.1 4 rfl).trans rfl) : Pc49 0 4 = (Pc47 0 4)); have q3 := b0_4 hBc47; have q4 := (((hFc49.1 5 rfl).trans rfl) : Pc49 0 5 = (Pc47 0 5)); have q5 := b0_5 hBc47; omega) (by have q0 := (((hFc49.1 4 rfl).trans rfl) : Pc49 0 4 = (Pc47 0 4)); have q1 := b0_4 hBc47; omega) (by have q0 := (((hFc49.1 8 rfl).trans ((hFc47.1 8 rfl).trans rfl)) : Pc49 0 8 = (Pc13 0 8)); have q1 := b0_8 hBc13; omega) (iv52) (by have q0 := (((hFc49.1 8 rfl).trans ((hFc47.1 8 rfl).trans rfl)) : Pc49 0 8 = (Pc13 0 8)); have q1 := b0_8 hBc13; have q2 := (((hFc49.1 4 rfl).trans rfl) : Pc49 0 4 = (Pc47 0 4)); have q3 := b0_4 hBc47; omega) (by first | (left; have q8 := (((hFc49.1 8 rfl).trans ((hFc47.1 8 rfl).trans rfl)) : Pc49 0 8 = (Pc13 0 8)); omega) | (right; left; exact ⟨rfl, iv51, by have q4 := (((hFc49.1 4 rfl).trans rfl) : Pc49 0 4 = (Pc47 0 4)); have qp := trivial; omega⟩) | (right; right; exact ⟨rfl, hNONE, by have q4 := (((hFc49.1 4 rfl).trans rfl) : Pc49 0 4 = (Pc47 0 4)); have qp := trivial; omega⟩) | exact hrs9.elim Or.inl (fun h => Or.inr (Or.inl ⟨rfl, h⟩))))
              · refine g_aload_n dX12_alternative_139 rfl ?_
                refine g_iconst dX12_alternative_140 ?_
                refine g_aload_n dX12_alternative_141 rfl ?_
                refine m_g4 (z := (P 0 4)) rfl dX12_alternative_142 ((hFc13.1 4 rfl).trans ((hFc1.1 4 rfl).trans rfl)) ?_
                refine g_vV (av := [vI 3, vI (P 0 4)]) (o := 0) (st := []) (m_X12_blame G Pc13 3 (P 0 4) (by decide) ⟨by have q0 := b0_4 hB; omega, by have q0 := b0_4 hB; omega⟩ hBc13  _ (fun Pc66 hBc66 hFc66 gc66_f gc66_pe => ⟨rfl, ?_⟩)) cf_X12_blame t_1701 rfl (by decide) rfl rfl rfl (Nat.le_of_ble_eq_true rfl) (by decide) rfl dX12_alternative_145
                refine g_aload_n dX12_alternative_148 rfl ?_
                refine m_g8 (z := (Pc66 0 8)) rfl dX12_alternative_149 rfl ?_
                have f67 := b0_8 hBc66
                refine g_if_le (tgt := 157) dX12_alternative_152 (by decide) ⟨by have q0 := b0_8 hBc66; omega, by have q0 := b0_8 hBc66; omega⟩ (fun k68 => ?_) (fun k68 => ?_)
                · refine g_aload_n dX12_alternative_157 rfl ?_
                  refine g_vV (av := []) (o := 0) (st := []) (m_X12_ahead G Pc66  hBc66  _ (fun Pc69 hBc69 hFc69 gc69_lx gc69_nx => ⟨rfl, ?_⟩)) cf_X12_ahead t_1683 rfl (by decide) rfl rfl rfl (Nat.le_of_ble_eq_true rfl) (by decide) rfl dX12_alternative_158
                  have z70 : Pc66 0 5 = (P 0 5) := ((hFc66.1 5 rfl).trans ((hFc13.1 5 rfl).trans ((hFc1.1 5 rfl).trans rfl)))
                  refine g_aload_n dX12_alternative_161 rfl ?_
                  refine g_iconst dX12_alternative_162 ?_
                  refine g_iload_n dX12_alternative_163 rfl ?_
                  refine g_iconst dX12_alternative_164 ?_
                  have hq4 := b0_4 hB
                  have hsx := (SX.fr (F := ([3, 4, 5, 6, 7, 8, 9, 12], [])) ivI_SX0 (FrM.c (FrM.c (FrM.c (FrM.c FrM.rf hFc1 rfl) hFc13 rfl) hFc66 rfl) hFc69 rfl) rfl)
                  have hlo := (LO.fr (F := ([3, 4, 5, 6, 7, 8, 9, 12], [])) ivI_LO (FrM.c (FrM.c (FrM.c (FrM.c FrM.rf hFc1 rfl) hFc13 rfl) hFc66 rfl) hFc69 rfl) rfl)
                  have hb9 := hBc69
                  have hq1 := pot_c Pc69
                  have hq2 := (pot_fr (F := ([3, 4, 5, 6, 7, 8, 9, 12], [])) (FrM.c (FrM.c (FrM.c (FrM.c FrM.rf hFc1 rfl) hFc13 rfl) hFc66 rfl) hFc69 rfl) rfl : pot Pc69 = pot P)
                  have hq3 := b0_4 hBc69
                  refine g_vV (av := [vI 2, vI rc18, vI 0]) (o := 0) (st := []) (m_X12_emits G Pc69 2 rc18 0 (by decide) ⟨by omega, by omega⟩ (by decide) hBc69 (by have q0 := (((hFc69.1 36 rfl).trans ((hFc66.1 36 rfl).trans ((hFc13.1 36 rfl).trans ((hFc1.1 36 rfl).trans rfl)))) : Pc69 0 36 = (P 0 36)); have q1 := b0_36 hB; omega) _ (fun Pc71 hBc71 hFc71 gc71_o gc71_e => ⟨rfl, ?_⟩)) cf_X12_emits t_1788 rfl (by decide) rfl rfl rfl (Nat.le_of_ble_eq_true rfl) (by decide) rfl dX12_alternative_165
                  have z72 : Pc69 0 36 = (P 0 36) := ((hFc69.1 36 rfl).trans ((hFc66.1 36 rfl).trans ((hFc13.1 36 rfl).trans ((hFc1.1 36 rfl).trans rfl))))
                  have hpe := pot_em gc71_e hFc71
                  have iv73 : SX f 1 Pc71 := hsx.leaf hb9 gc71_e hFc71 ⟨by omega, by omega⟩
                  have iv74 : LO P Pc71 := hlo.trans (gc71_e.lo hFc71 rfl (by omega))
                  refine g_aload_n dX12_alternative_168 rfl ?_
                  refine m_g19 rfl dX12_alternative_169 ?_
                  refine g_bipush dX12_alternative_172 (by decide) ?_
                  refine g_aload_n dX12_alternative_174 rfl ?_
                  refine m_g37 (z := (P 0 37)) rfl dX12_alternative_175 ((hFc71.1 37 rfl).trans ((hFc69.1 37 rfl).trans ((hFc66.1 37 rfl).trans ((hFc13.1 37 rfl).trans ((hFc1.1 37 rfl).trans rfl))))) ?_
                  refine g_imul dX12_alternative_178 ?_
                  refine g_iload_n dX12_alternative_179 rfl ?_
                  refine g_iadd dX12_alternative_180 ?_
                  refine m_l7 (z := (P 7 ((24 * (P 0 37)) + rc18))) dX12_alternative_181 ⟨by have q0 := b0_37 hB; omega, by have q0 := b0_37 hB; omega⟩ ((congrFun (hFc71.2 7 rfl rfl) _).trans ((congrFun (hFc69.2 7 rfl rfl) _).trans ((congrFun (hFc66.2 7 rfl rfl) _).trans ((congrFun (hFc13.2 7 rfl rfl) _).trans ((congrFun (hFc1.2 7 rfl rfl) _).trans rfl))))) ?_
                  have f75 := bl_7 (k := ((24 * (P 0 37)) + rc18)) hB
                  refine g_if_ne (tgt := 187) dX12_alternative_182 (by decide) ⟨by have q0 := bl_7 (k := ((24 * (P 0 37)) + rc18)) hB; omega, by have q0 := bl_7 (k := ((24 * (P 0 37)) + rc18)) hB; omega⟩ (fun k76 => ?_) (fun k76 => ?_)
                  · refine g_aload_n dX12_alternative_187 rfl ?_
                    refine g_bipush dX12_alternative_188 (by decide) ?_
                    refine g_vV (av := [vI 40]) (o := 0) (st := []) (m_X12_must G Pc71 40 (by decide) hBc71 (by have q0 := (((hFc71.1 3 rfl).trans rfl) : Pc71 0 3 = (Pc69 0 3)); have q1 := b0_3 hBc69; have q2 := (((hFc71.1 4 rfl).trans rfl) : Pc71 0 4 = (Pc69 0 4)); have q3 := b0_4 hBc69; have q4 := (((hFc71.1 5 rfl).trans rfl) : Pc71 0 5 = (Pc69 0 5)); have q5 := b0_5 hBc69; omega) _ (fun Pc77 hBc77 hFc77 gc77_lx gc77_mo gc77_pe gc77_ad => ⟨rfl, ?_⟩)) cf_X12_must t_1768 rfl (by decide) rfl rfl rfl (Nat.le_of_ble_eq_true rfl) (by decide) rfl dX12_alternative_190
                    have z78 : Pc71 0 4 = (Pc69 0 4) := ((hFc71.1 4 rfl).trans rfl)
                    have z79 : Pc71 0 8 = (Pc66 0 8) := ((hFc71.1 8 rfl).trans ((hFc69.1 8 rfl).trans rfl))
                    refine g_aload_n dX12_alternative_193 rfl ?_
                    refine m_g8 (z := (Pc77 0 8)) rfl dX12_alternative_194 rfl ?_
                    have f80 := b0_8 hBc77
                    refine g_if_ne (tgt := 206) dX12_alternative_197 (by decide) ⟨by have q0 := b0_8 hBc77; omega, by have q0 := b0_8 hBc77; omega⟩ (fun k81 => ?_) (fun k81 => ?_)
                    · refine g_aload_n dX12_alternative_206 rfl ?_
                      refine m_g8 (z := (Pc77 0 8)) rfl dX12_alternative_207 rfl ?_
                      refine g_if_le (tgt := 217) dX12_alternative_210 (by decide) ⟨by have q0 := b0_8 hBc77; omega, by have q0 := b0_8 hBc77; omega⟩ (fun k82 => by exfalso; have q0 := b0_8 hBc77; omega) (fun k82 => ?_)
                      refine g_iconst dX12_alternative_213 ?_
                      refine g_goto (tgt := 218) dX12_alternative_214 (by decide) ?_
                      exact g_retZ dX12_alternative_218 rfl (by decide) (hQ 1 (by decide) _ hBc77 (FrM.c (FrM.c (FrM.c (FrM.c (FrM.c (FrM.c FrM.rf hFc1 rfl) hFc13 rfl) hFc66 rfl) hFc69 rfl) hFc71 rfl) hFc77 rfl) (by have q0 := b0_3 hBc77; have q1 := b0_4 hBc77; have q2 := b0_5 hBc77; omega) (by have q0 := b0_4 hBc77; omega) (by have q0 := b0_8 hBc77; omega) ((LO.fr (F := ([3, 4, 5, 6, 7, 8, 9, 12], [])) iv74 (FrM.c FrM.rf hFc77 rfl) rfl)) (by have q0 := b0_8 hBc77; have q1 := b0_4 hBc77; omega) (by first | (left; have q8 := (rfl : Pc77 0 8 = (Pc77 0 8)); omega) | (right; left; exact ⟨rfl, (SX.fr (F := ([3, 4, 5, 6, 7, 8, 9, 12], [])) iv73 (FrM.c FrM.rf hFc77 rfl) rfl), by have q4 := (rfl : Pc77 0 4 = (Pc77 0 4)); have qp := (pot_fr (F := ([3, 4, 5, 6, 7, 8, 9, 12], [])) (FrM.c FrM.rf hFc77 rfl) rfl : pot Pc77 = pot Pc71); omega⟩) | (right; right; exact ⟨rfl, hNONE, by have q4 := (rfl : Pc77 0 4 = (Pc77 0 4)); have qp := (pot_fr (F := ([3, 4, 5, 6, 7, 8, 9, 12], [])) (FrM.c FrM.rf hFc77 rfl) rfl : pot Pc77 = pot Pc71); omega⟩) | exact hrs9.elim Or.inl (fun h => Or.inr (Or.inl ⟨rfl, h⟩))))
                    · refine g_aload_n dX12_alternative_200 rfl ?_
                      refine g_iload_n dX12_alternative_201 rfl ?_
                      refine g_iconst dX12_alternative_202 ?_
                      have hlo := (LO.fr (F := ([3, 4, 5, 6, 7, 8, 9, 12], [])) iv74 (FrM.c FrM.rf hFc77 rfl) rfl)
                      have hq4 := b0_4 hB
                      have hq1 := pot_c Pc77
                      have hq2 := (pot_fr (F := ([3, 4, 5, 6, 7, 8, 9, 12], [])) (FrM.c FrM.rf hFc77 rfl) rfl : pot Pc77 = pot Pc71)
                      have hq3 := b0_4 hBc77
                      have hq6 := (((hFc77.1 36 rfl).trans rfl) : Pc77 0 36 = (Pc71 0 36))
                      refine g_vV (av := [vI rc18, vI 0]) (o := 0) (st := []) (m_X12_fieldBegins G Pc77 (f) rc18 0 ⟨by omega, by omega⟩ (by decide) hBc77 ((SX.fr (F := ([3, 4, 5, 6, 7, 8, 9, 12], [])) iv73 (FrM.c FrM.rf hFc77 rfl) rfl)) (by rw [show Pc77 0 37 = _ from ((hFc77.1 37 rfl).trans ((hFc71.1 37 rfl).trans ((hFc69.1 37 rfl).trans ((hFc66.1 37 rfl).trans ((hFc13.1 37 rfl).trans ((hFc1.1 37 rfl).trans rfl)))))), show Pc77 5 (P 0 37) = _ from ((congrFun (hFc77.2 5 rfl rfl) _).trans ((congrFun (hFc71.2 5 rfl rfl) _).trans ((congrFun (hFc69.2 5 rfl rfl) _).trans ((congrFun (hFc66.2 5 rfl rfl) _).trans ((congrFun (hFc13.2 5 rfl rfl) _).trans ((congrFun (hFc1.2 5 rfl rfl) _).trans rfl))))))]; omega) (by rw [show Pc77 0 37 = _ from ((hFc77.1 37 rfl).trans ((hFc71.1 37 rfl).trans ((hFc69.1 37 rfl).trans ((hFc66.1 37 rfl).trans ((hFc13.1 37 rfl).trans ((hFc1.1 37 rfl).trans rfl)))))), show Pc77 7 ((24 * (P 0 37)) + rc18) = _ from ((congrFun (hFc77.2 7 rfl rfl) _).trans ((congrFun (hFc71.2 7 rfl rfl) _).trans ((congrFun (hFc69.2 7 rfl rfl) _).trans ((congrFun (hFc66.2 7 rfl rfl) _).trans ((congrFun (hFc13.2 7 rfl rfl) _).trans ((congrFun (hFc1.2 7 rfl rfl) _).trans rfl))))))]; omega) (by rw [show Pc77 0 37 = _ from ((hFc77.1 37 rfl).trans ((hFc71.1 37 rfl).trans ((hFc69.1 37 rfl).trans ((hFc66.1 37 rfl).trans ((hFc13.1 37 rfl).trans ((hFc1.1 37 rfl).trans rfl)))))), show Pc77 6 ((24 * (P 0 37)) + rc18) = _ from ((congrFun (hFc77.2 6 rfl rfl) _).trans ((congrFun (hFc71.2 6 rfl rfl) _).trans ((congrFun (hFc69.2 6 rfl rfl) _).trans ((congrFun (hFc66.2 6 rfl rfl) _).trans ((congrFun (hFc13.2 6 rfl rfl) _).trans ((congrFun (hFc1.2 6 rfl rfl) _).trans rfl)))))), show Pc77 0 43 = _ from ((hFc77.1 43 rfl).trans ((hFc71.1 43 rfl).trans ((hFc69.1 43 rfl).trans ((hFc66.1 43 rfl).trans ((hFc13.1 43 rfl).trans ((hFc1.1 43 rfl).trans rfl))))))]; omega) (by have q0 := (((hFc77.1 36 rfl).trans rfl) : Pc77 0 36 = (Pc71 0 36)); have q1 := b0_36 hBc71; omega) (CF.fr (F := ([3, 4, 5, 6, 7, 8, 9, 12, 36], [19, 20, 21])) v_CF (FrM.c (FrM.c (FrM.c (FrM.c (FrM.c (FrM.c FrM.rf hFc1 rfl) hFc13 rfl) hFc66 rfl) hFc69 rfl) hFc71 rfl) hFc77 rfl) rfl) _ (fun Pc83 hBc83 hFc83 gc83_lo gc83_sx gc83_pt => ⟨rfl, ?_⟩)) cf_X12_fieldBegins t_1803 rfl (by decide) rfl rfl rfl (Nat.le_of_ble_eq_true rfl) (by decide) rfl dX12_alternative_203
                      have z84 := (pot_fr (F := ([3, 4, 5, 6, 7, 8, 9, 12], [])) (FrM.c FrM.rf hFc77 rfl) rfl : pot Pc77 = pot Pc71)
                      have iv85 : SX f 0 Pc83 := gc83_sx
                      have iv86 : LO P Pc83 := hlo.trans gc83_lo
                      refine g_aload_n dX12_alternative_206 rfl ?_
                      refine m_g8 (z := (Pc77 0 8)) rfl dX12_alternative_207 ((hFc83.1 8 rfl).trans rfl) ?_
                      refine g_if_le (tgt := 217) dX12_alternative_210 (by decide) ⟨by have q0 := b0_8 hBc77; omega, by have q0 := b0_8 hBc77; omega⟩ (fun k87 => ?_) (fun k87 => by exfalso; have q0 := b0_8 hBc77; omega)
                      refine g_iconst dX12_alternative_217 ?_
                      exact g_retZ dX12_alternative_218 rfl (by decide) (hQ 0 (by decide) _ hBc83 (FrM.c (FrM.c (FrM.c (FrM.c (FrM.c (FrM.c (FrM.c FrM.rf hFc1 rfl) hFc13 rfl) hFc66 rfl) hFc69 rfl) hFc71 rfl) hFc77 rfl) hFc83 rfl) (by have q0 := (((hFc83.1 3 rfl).trans rfl) : Pc83 0 3 = (Pc77 0 3)); have q1 := b0_3 hBc77; have q2 := (((hFc83.1 4 rfl).trans rfl) : Pc83 0 4 = (Pc77 0 4)); have q3 := b0_4 hBc77; have q4 := (((hFc83.1 5 rfl).trans rfl) : Pc83 0 5 = (Pc77 0 5)); have q5 := b0_5 hBc77; omega) (by have q0 := (((hFc83.1 4 rfl).trans rfl) : Pc83 0 4 = (Pc77 0 4)); have q1 := b0_4 hBc77; omega) (by have q0 := (((hFc83.1 8 rfl).trans rfl) : Pc83 0 8 = (Pc77 0 8)); have q1 := b0_8 hBc77; omega) (iv86) (by have q0 := (((hFc83.1 8 rfl).trans rfl) : Pc83 0 8 = (Pc77 0 8)); have q1 := b0_8 hBc77; have q2 := (((hFc83.1 4 rfl).trans rfl) : Pc83 0 4 = (Pc77 0 4)); have q3 := b0_4 hBc77; omega) (by first | (left; have q8 := (((hFc83.1 8 rfl).trans rfl) : Pc83 0 8 = (Pc77 0 8)); omega) | (right; left; exact ⟨rfl, hNONE, by have q4 := (((hFc83.1 4 rfl).trans rfl) : Pc83 0 4 = (Pc77 0 4)); have qp := trivial; omega⟩) | (right; right; exact ⟨rfl, iv85, by have q4 := (((hFc83.1 4 rfl).trans rfl) : Pc83 0 4 = (Pc77 0 4)); have qp := trivial; omega⟩) | exact hrs9.elim Or.inl (fun h => Or.inr (Or.inl ⟨rfl, h⟩))))
                  · refine g_iconst dX12_alternative_185 ?_
                    exact g_retZ dX12_alternative_186 rfl (by decide) (hQ 1 (by decide) _ hBc71 (FrM.c (FrM.c (FrM.c (FrM.c (FrM.c FrM.rf hFc1 rfl) hFc13 rfl) hFc66 rfl) hFc69 rfl) hFc71 rfl) (by have q0 := (((hFc71.1 3 rfl).trans rfl) : Pc71 0 3 = (Pc69 0 3)); have q1 := b0_3 hBc69; have q2 := (((hFc71.1 4 rfl).trans rfl) : Pc71 0 4 = (Pc69 0 4)); have q3 := b0_4 hBc69; have q4 := (((hFc71.1 5 rfl).trans rfl) : Pc71 0 5 = (Pc69 0 5)); have q5 := b0_5 hBc69; omega) (by have q0 := (((hFc71.1 4 rfl).trans rfl) : Pc71 0 4 = (Pc69 0 4)); have q1 := b0_4 hBc69; omega) (by have q0 := (((hFc71.1 8 rfl).trans ((hFc69.1 8 rfl).trans rfl)) : Pc71 0 8 = (Pc66 0 8)); have q1 := b0_8 hBc66; omega) (iv74) (by have q0 := (((hFc71.1 8 rfl).trans ((hFc69.1 8 rfl).trans rfl)) : Pc71 0 8 = (Pc66 0 8)); have q1 := b0_8 hBc66; have q2 := (((hFc71.1 4 rfl).trans rfl) : Pc71 0 4 = (Pc69 0 4)); have q3 := b0_4 hBc69; omega) (by first | (left; have q8 := (((hFc71.1 8 rfl).trans ((hFc69.1 8 rfl).trans rfl)) : Pc71 0 8 = (Pc66 0 8)); omega) | (right; left; exact ⟨rfl, iv73, by have q4 := (((hFc71.1 4 rfl).trans rfl) : Pc71 0 4 = (Pc69 0 4)); have qp := trivial; omega⟩) | (right; right; exact ⟨rfl, hNONE, by have q4 := (((hFc71.1 4 rfl).trans rfl) : Pc71 0 4 = (Pc69 0 4)); have qp := trivial; omega⟩) | exact hrs9.elim Or.inl (fun h => Or.inr (Or.inl ⟨rfl, h⟩))))
                · refine g_iconst dX12_alternative_155 ?_
                  exact g_retZ dX12_alternative_156 rfl (by decide) (hQ 1 (by decide) _ hBc66 (FrM.c (FrM.c (FrM.c FrM.rf hFc1 rfl) hFc13 rfl) hFc66 rfl) (by have q0 := (((hFc66.1 3 rfl).trans ((hFc13.1 3 rfl).trans ((hFc1.1 3 rfl).trans rfl))) : Pc66 0 3 = (P 0 3)); have q1 := b0_3 hB; have q2 := (((hFc66.1 4 rfl).trans ((hFc13.1 4 rfl).trans ((hFc1.1 4 rfl).trans rfl))) : Pc66 0 4 = (P 0 4)); have q3 := b0_4 hB; have q4 := (((hFc66.1 5 rfl).trans ((hFc13.1 5 rfl).trans ((hFc1.1 5 rfl).trans rfl))) : Pc66 0 5 = (P 0 5)); have q5 := b0_5 hB; omega) (by have q0 := (((hFc66.1 4 rfl).trans ((hFc13.1 4 rfl).trans ((hFc1.1 4 rfl).trans rfl))) : Pc66 0 4 = (P 0 4)); have q1 := b0_4 hB; omega) (by have q0 := b0_8 hBc66; omega) ((LO.fr (F := ([8, 9], [])) ivI_LO (FrM.c (FrM.c (FrM.c FrM.rf hFc1 rfl) hFc13 rfl) hFc66 rfl) rfl)) (by have q0 := b0_8 hBc66; have q1 := (((hFc66.1 4 rfl).trans ((hFc13.1 4 rfl).trans ((hFc1.1 4 rfl).trans rfl))) : Pc66 0 4 = (P 0 4)); have q2 := b0_4 hB; omega) (by first | (left; have q8 := (rfl : Pc66 0 8 = (Pc66 0 8)); omega) | (right; left; exact ⟨rfl, hNONE, by have q4 := (((hFc66.1 4 rfl).trans ((hFc13.1 4 rfl).trans ((hFc1.1 4 rfl).trans rfl))) : Pc66 0 4 = (P 0 4)); have qp := (pot_fr (F := ([8, 9], [])) (FrM.c (FrM.c (FrM.c FrM.rf hFc1 rfl) hFc13 rfl) hFc66 rfl) rfl : pot Pc66 = pot P); omega⟩) | (right; right; exact ⟨rfl, (SX.fr (F := ([8, 9], [])) ivI_SX0 (FrM.c (FrM.c (FrM.c FrM.rf hFc1 rfl) hFc13 rfl) hFc66 rfl) rfl), by have q4 := (((hFc66.1 4 rfl).trans ((hFc13.1 4 rfl).trans ((hFc1.1 4 rfl).trans rfl))) : Pc66 0 4 = (P 0 4)); have qp := (pot_fr (F := ([8, 9], [])) (FrM.c (FrM.c (FrM.c FrM.rf hFc1 rfl) hFc13 rfl) hFc66 rfl) rfl : pot Pc66 = pot P); omega⟩) | exact hrs9.elim Or.inl (fun h => Or.inr (Or.inl ⟨rfl, h⟩))))
          · refine g_iconst dX12_alternative_92 ?_
            refine g_goto (tgt := 108) dX12_alternative_93 (by decide) ?_
            refine g_istore_n (l1 := [(2, vI (-1)), (1, vI (P 24 (P 0 43))), (0, vR 0)]) dX12_alternative_108 (by decide) rfl ?_
            refine g_aload_n dX12_alternative_109 rfl ?_
            refine m_g8 (z := (Pc13 0 8)) rfl dX12_alternative_110 rfl ?_
            refine g_if_ne (tgt := 148) dX12_alternative_113 (by decide) ⟨by have q0 := b0_8 hBc13; omega, by have q0 := b0_8 hBc13; omega⟩ (fun k88 => ?_) (fun k88 => by exfalso; have q0 := b0_8 hBc13; omega)
            refine g_aload_n dX12_alternative_148 rfl ?_
            refine m_g8 (z := (Pc13 0 8)) rfl dX12_alternative_149 rfl ?_
            refine g_if_le (tgt := 157) dX12_alternative_152 (by decide) ⟨by have q0 := b0_8 hBc13; omega, by have q0 := b0_8 hBc13; omega⟩ (fun k89 => by exfalso; have q0 := b0_8 hBc13; omega) (fun k89 => ?_)
            refine g_iconst dX12_alternative_155 ?_
            exact g_retZ dX12_alternative_156 rfl (by decide) (hQ 1 (by decide) _ hBc13 (FrM.c (FrM.c FrM.rf hFc1 rfl) hFc13 rfl) (by have q0 := (((hFc13.1 3 rfl).trans ((hFc1.1 3 rfl).trans rfl)) : Pc13 0 3 = (P 0 3)); have q1 := b0_3 hB; have q2 := (((hFc13.1 4 rfl).trans ((hFc1.1 4 rfl).trans rfl)) : Pc13 0 4 = (P 0 4)); have q3 := b0_4 hB; have q4 := (((hFc13.1 5 rfl).trans ((hFc1.1 5 rfl).trans rfl)) : Pc13 0 5 = (P 0 5)); have q5 := b0_5 hB; omega) (by have q0 := (((hFc13.1 4 rfl).trans ((hFc1.1 4 rfl).trans rfl)) : Pc13 0 4 = (P 0 4)); have q1 := b0_4 hB; omega) (by have q0 := b0_8 hBc13; omega) ((LO.fr (F := ([8, 9], [])) ivI_LO (FrM.c (FrM.c FrM.rf hFc1 rfl) hFc13 rfl) rfl)) (by have q0 := b0_8 hBc13; have q1 := (((hFc13.1 4 rfl).trans ((hFc1.1 4 rfl).trans rfl)) : Pc13 0 4 = (P 0 4)); have q2 := b0_4 hB; omega) (by first | (left; have q8 := (rfl : Pc13 0 8 = (Pc13 0 8)); omega) | (right; left; exact ⟨rfl, hNONE, by have q4 := (((hFc13.1 4 rfl).trans ((hFc1.1 4 rfl).trans rfl)) : Pc13 0 4 = (P 0 4)); have qp := (pot_fr (F := ([8, 9], [])) (FrM.c (FrM.c FrM.rf hFc1 rfl) hFc13 rfl) rfl : pot Pc13 = pot P); omega⟩) | (right; right; exact ⟨rfl, (SX.fr (F := ([8, 9], [])) ivI_SX0 (FrM.c (FrM.c FrM.rf hFc1 rfl) hFc13 rfl) rfl), by have q4 := (((hFc13.1 4 rfl).trans ((hFc1.1 4 rfl).trans rfl)) : Pc13 0 4 = (P 0 4)); have qp := (pot_fr (F := ([8, 9], [])) (FrM.c (FrM.c FrM.rf hFc1 rfl) hFc13 rfl) rfl : pot Pc13 = pot P); omega⟩) | exact hrs9.elim Or.inl (fun h => Or.inr (Or.inl ⟨rfl, h⟩))))
        · refine g_aload_n dX12_alternative_65 rfl ?_
          refine g_aload_n dX12_alternative_66 rfl ?_
          refine m_g7 (z := (P 0 7)) rfl dX12_alternative_67 ((hFc1.1 7 rfl).trans rfl) ?_
          have f90 := b0_7 hB
          refine g_vI (av := [vL (P 0 7)]) (o := 0) (st := []) (m_X12_isOwn G Pc1 (P 0 7) ⟨by have q0 := b0_7 hB; omega, by have q0 := b0_7 hB; omega⟩ hBc1  _ (fun rc91 hc91 => ⟨rc91, rfl, ?_⟩)) cf_X12_isOwn t_1722 rfl (by decide) rfl rfl rfl (Nat.le_of_ble_eq_true rfl) (by decide) rfl dX12_alternative_70
          refine g_if_eq (tgt := 85) dX12_alternative_73 (by decide) ⟨by omega, by omega⟩ (fun k92 => ?_) (fun k92 => ?_)
          · refine g_aload_n dX12_alternative_85 rfl ?_
            refine m_g8 (z := (Pc1 0 8)) rfl dX12_alternative_86 rfl ?_
            refine g_if_le (tgt := 96) dX12_alternative_89 (by decide) ⟨by have q0 := b0_8 hBc1; omega, by have q0 := b0_8 hBc1; omega⟩ (fun k93 => ?_) (fun k93 => by exfalso; have q0 := b0_8 hBc1; omega)
            refine g_aload_n dX12_alternative_96 rfl ?_
            refine g_aload_n dX12_alternative_97 rfl ?_
            refine m_g37 (z := (P 0 37)) rfl dX12_alternative_98 ((hFc1.1 37 rfl).trans rfl) ?_
            refine g_aload_n dX12_alternative_101 rfl ?_
            refine m_g7 (z := (P 0 7)) rfl dX12_alternative_102 ((hFc1.1 7 rfl).trans rfl) ?_
            have f94 := b0_37 hB
            refine g_vI (av := [vI (P 0 37), vL (P 0 7)]) (o := 0) (st := []) (m_X12_conNamed G Pc1 (P 0 37) (P 0 7) ⟨by have q0 := b0_37 hB; omega, by have q0 := b0_37 hB; omega⟩ ⟨by have q0 := b0_7 hB; omega, by have q0 := b0_7 hB; omega⟩ hBc1  _ (fun rc95 hc95 gc95_k => ⟨rc95, rfl, ?_⟩)) cf_X12_conNamed t_1740 rfl (by decide) rfl rfl rfl (Nat.le_of_ble_eq_true rfl) (by decide) rfl dX12_alternative_105
            have z96 : Pc1 5 (P 0 37) = (P 5 (P 0 37)) := ((congrFun (hFc1.2 5 rfl rfl) _).trans rfl)
            refine g_istore_n (l1 := [(2, vI rc95), (1, vI (P 24 (P 0 43))), (0, vR 0)]) dX12_alternative_108 (by decide) rfl ?_
            refine g_aload_n dX12_alternative_109 rfl ?_
            refine m_g8 (z := (Pc1 0 8)) rfl dX12_alternative_110 rfl ?_
            refine g_if_ne (tgt := 148) dX12_alternative_113 (by decide) ⟨by have q0 := b0_8 hBc1; omega, by have q0 := b0_8 hBc1; omega⟩ (fun k97 => by exfalso; have q0 := b0_8 hBc1; omega) (fun k97 => ?_)
            refine g_iload_n dX12_alternative_116 rfl ?_
            refine g_iconst dX12_alternative_117 ?_
            refine g_icmp_eq (tgt := 139) dX12_alternative_118 (by decide) ⟨by omega, by omega⟩ (by decide) (fun k98 => ?_) (fun k98 => ?_)
            · refine g_aload_n dX12_alternative_139 rfl ?_
              refine g_iconst dX12_alternative_140 ?_
              refine g_aload_n dX12_alternative_141 rfl ?_
              refine m_g4 (z := (P 0 4)) rfl dX12_alternative_142 ((hFc1.1 4 rfl).trans rfl) ?_
              have f99 := b0_4 hB
              refine g_vV (av := [vI 3, vI (P 0 4)]) (o := 0) (st := []) (m_X12_blame G Pc1 3 (P 0 4) (by decide) ⟨by have q0 := b0_4 hB; omega, by have q0 := b0_4 hB; omega⟩ hBc1  _ (fun Pc100 hBc100 hFc100 gc100_f gc100_pe => ⟨rfl, ?_⟩)) cf_X12_blame t_1701 rfl (by decide) rfl rfl rfl (Nat.le_of_ble_eq_true rfl) (by decide) rfl dX12_alternative_145
              refine g_aload_n dX12_alternative_148 rfl ?_
              refine m_g8 (z := (Pc100 0 8)) rfl dX12_alternative_149 rfl ?_
              have f101 := b0_8 hBc100
              refine g_if_le (tgt := 157) dX12_alternative_152 (by decide) ⟨by have q0 := b0_8 hBc100; omega, by have q0 := b0_8 hBc100; omega⟩ (fun k102 => ?_) (fun k102 => ?_)
              · refine g_aload_n dX12_alternative_157 rfl ?_
                refine g_vV (av := []) (o := 0) (st := []) (m_X12_ahead G Pc100  hBc100  _ (fun Pc103 hBc103 hFc103 gc103_lx gc103_nx => ⟨rfl, ?_⟩)) cf_X12_ahead t_1683 rfl (by decide) rfl rfl rfl (Nat.le_of_ble_eq_true rfl) (by decide) rfl dX12_alternative_158
                have z104 : Pc100 0 5 = (P 0 5) := ((hFc100.1 5 rfl).trans ((hFc1.1 5 rfl).trans rfl))
                refine g_aload_n dX12_alternative_161 rfl ?_
                refine g_iconst dX12_alternative_162 ?_
                refine g_iload_n dX12_alternative_163 rfl ?_
                refine g_iconst dX12_alternative_164 ?_
                have hq4 := b0_4 hB
                have hsx := (SX.fr (F := ([3, 4, 5, 6, 7, 8, 9, 12], [])) ivI_SX0 (FrM.c (FrM.c (FrM.c FrM.rf hFc1 rfl) hFc100 rfl) hFc103 rfl) rfl)
                have hlo := (LO.fr (F := ([3, 4, 5, 6, 7, 8, 9, 12], [])) ivI_LO (FrM.c (FrM.c (FrM.c FrM.rf hFc1 rfl) hFc100 rfl) hFc103 rfl) rfl)
                have hb9 := hBc103
                have hq1 := pot_c Pc103
                have hq2 := (pot_fr (F := ([3, 4, 5, 6, 7, 8, 9, 12], [])) (FrM.c (FrM.c (FrM.c FrM.rf hFc1 rfl) hFc100 rfl) hFc103 rfl) rfl : pot Pc103 = pot P)
                have hq3 := b0_4 hBc103
                refine g_vV (av := [vI 2, vI rc95, vI 0]) (o := 0) (st := []) (m_X12_emits G Pc103 2 rc95 0 (by decide) ⟨by omega, by omega⟩ (by decide) hBc103 (by have q0 := (((hFc103.1 36 rfl).trans ((hFc100.1 36 rfl).trans ((hFc1.1 36 rfl).trans rfl))) : Pc103 0 36 = (P 0 36)); have q1 := b0_36 hB; omega) _ (fun Pc105 hBc105 hFc105 gc105_o gc105_e => ⟨rfl, ?_⟩)) cf_X12_emits t_1788 rfl (by decide) rfl rfl rfl (Nat.le_of_ble_eq_true rfl) (by decide) rfl dX12_alternative_165
                have z106 : Pc103 0 36 = (P 0 36) := ((hFc103.1 36 rfl).trans ((hFc100.1 36 rfl).trans ((hFc1.1 36 rfl).trans rfl)))
                have hpe := pot_em gc105_e hFc105
                have iv107 : SX f 1 Pc105 := hsx.leaf hb9 gc105_e hFc105 ⟨by omega, by omega⟩
                have iv108 : LO P Pc105 := hlo.trans (gc105_e.lo hFc105 rfl (by omega))
                refine g_aload_n dX12_alternative_168 rfl ?_
                refine m_g19 rfl dX12_alternative_169 ?_
                refine g_bipush dX12_alternative_172 (by decide) ?_
                refine g_aload_n dX12_alternative_174 rfl ?_
                refine m_g37 (z := (P 0 37)) rfl dX12_alternative_175 ((hFc105.1 37 rfl).trans ((hFc103.1 37 rfl).trans ((hFc100.1 37 rfl).trans ((hFc1.1 37 rfl).trans rfl)))) ?_
                refine g_imul dX12_alternative_178 ?_
                refine g_iload_n dX12_alternative_179 rfl ?_
                refine g_iadd dX12_alternative_180 ?_
                refine m_l7 (z := (P 7 ((24 * (P 0 37)) + rc95))) dX12_alternative_181 ⟨by have q0 := b0_37 hB; omega, by have q0 := b0_37 hB; omega⟩ ((congrFun (hFc105.2 7 rfl rfl) _).trans ((congrFun (hFc103.2 7 rfl rfl) _).trans ((congrFun (hFc100.2 7 rfl rfl) _).trans ((congrFun (hFc1.2 7 rfl rfl) _).trans rfl)))) ?_
                have f109 := bl_7 (k := ((24 * (P 0 37)) + rc95)) hB
                refine g_if_ne (tgt := 187) dX12_alternative_182 (by decide) ⟨by have q0 := bl_7 (k := ((24 * (P 0 37)) + rc95)) hB; omega, by have q0 := bl_7 (k := ((24 * (P 0 37)) + rc95)) hB; omega⟩ (fun k110 => ?_) (fun k110 => ?_)
                · refine g_aload_n dX12_alternative_187 rfl ?_
                  refine g_bipush dX12_alternative_188 (by decide) ?_
                  refine g_vV (av := [vI 40]) (o := 0) (st := []) (m_X12_must G Pc105 40 (by decide) hBc105 (by have q0 := (((hFc105.1 3 rfl).trans rfl) : Pc105 0 3 = (Pc103 0 3)); have q1 := b0_3 hBc103; have q2 := (((hFc105.1 4 rfl).trans rfl) : Pc105 0 4 = (Pc103 0 4)); have q3 := b0_4 hBc103; have q4 := (((hFc105.1 5 rfl).trans rfl) : Pc105 0 5 = (Pc103 0 5)); have q5 := b0_5 hBc103; omega) _ (fun Pc111 hBc111 hFc111 gc111_lx gc111_mo gc111_pe gc111_ad => ⟨rfl, ?_⟩)) cf_X12_must t_1768 rfl (by decide) rfl rfl rfl (Nat.le_of_ble_eq_true rfl) (by decide) rfl dX12_alternative_190
                  have z112 : Pc105 0 4 = (Pc103 0 4) := ((hFc105.1 4 rfl).trans rfl)
                  have z113 : Pc105 0 8 = (Pc100 0 8) := ((hFc105.1 8 rfl).trans ((hFc103.1 8 rfl).trans rfl))
                  refine g_aload_n dX12_alternative_193 rfl ?_
                  refine m_g8 (z := (Pc111 0 8)) rfl dX12_alternative_194 rfl ?_
                  have f114 := b0_8 hBc111
                  refine g_if_ne (tgt := 206) dX12_alternative_197 (by decide) ⟨by have q0 := b0_8 hBc111; omega, by have q0 := b0_8 hBc111; omega⟩ (fun k115 => ?_) (fun k115 => ?_)
                  · refine g_aload_n dX12_alternative_206 rfl ?_
                    refine m_g8 (z := (Pc111 0 8)) rfl dX12_alternative_207 rfl ?_
                    refine g_if_le (tgt := 217) dX12_alternative_210 (by decide) ⟨by have q0 := b0_8 hBc111; omega, by have q0 := b0_8 hBc111; omega⟩ (fun k116 => by exfalso; have q0 := b0_8 hBc111; omega) (fun k116 => ?_)
                    refine g_iconst dX12_alternative_213 ?_
                    refine g_goto (tgt := 218) dX12_alternative_214 (by decide) ?_
                    exact g_retZ dX12_alternative_218 rfl (by decide) (hQ 1 (by decide) _ hBc111 (FrM.c (FrM.c (FrM.c (FrM.c (FrM.c FrM.rf hFc1 rfl) hFc100 rfl) hFc103 rfl) hFc105 rfl) hFc111 rfl) (by have q0 := b0_3 hBc111; have q1 := b0_4 hBc111; have q2 := b0_5 hBc111; omega) (by have q0 := b0_4 hBc111; omega) (by have q0 := b0_8 hBc111; omega) ((LO.fr (F := ([3, 4, 5, 6, 7, 8, 9, 12], [])) iv108 (FrM.c FrM.rf hFc111 rfl) rfl)) (by have q0 := b0_8 hBc111; have q1 := b0_4 hBc111; omega) (by first | (left; have q8 := (rfl : Pc111 0 8 = (Pc111 0 8)); omega) | (right; left; exact ⟨rfl, (SX.fr (F := ([3, 4, 5, 6, 7, 8, 9, 12], [])) iv107 (FrM.c FrM.rf hFc111 rfl) rfl), by have q4 := (rfl : Pc111 0 4 = (Pc111 0 4)); have qp := (pot_fr (F := ([3, 4, 5, 6, 7, 8, 9, 12], [])) (FrM.c FrM.rf hFc111 rfl) rfl : pot Pc111 = pot Pc105); omega⟩) | (right; right; exact ⟨rfl, hNONE, by have q4 := (rfl : Pc111 0 4 = (Pc111 0 4)); have qp := (pot_fr (F := ([3, 4, 5, 6, 7, 8, 9, 12], [])) (FrM.c FrM.rf hFc111 rfl) rfl : pot Pc111 = pot Pc105); omega⟩) | exact hrs9.elim Or.inl (fun h => Or.inr (Or.inl ⟨rfl, h⟩))))
                  · refine g_aload_n dX12_alternative_200 rfl ?_
                    refine g_iload_n dX12_alternative_201 rfl ?_
                    refine g_iconst dX12_alternative_202 ?_
                    have hlo := (LO.fr (F := ([3, 4, 5, 6, 7, 8, 9, 12], [])) iv108 (FrM.c FrM.rf hFc111 rfl) rfl)
                    have hq4 := b0_4 hB
                    have hq1 := pot_c Pc111
                    have hq2 := (pot_fr (F := ([3, 4, 5, 6, 7, 8, 9, 12], [])) (FrM.c FrM.rf hFc111 rfl) rfl : pot Pc111 = pot Pc105)
                    have hq3 := b0_4 hBc111
                    have hq6 := (((hFc111.1 36 rfl).trans rfl) : Pc111 0 36 = (Pc105 0 36))
                    refine g_vV (av := [vI rc95, vI 0]) (o := 0) (st := []) (m_X12_fieldBegins G Pc111 (f) rc95 0 ⟨by omega, by omega⟩ (by decide) hBc111 ((SX.fr (F := ([3, 4, 5, 6, 7, 8, 9, 12], [])) iv107 (FrM.c FrM.rf hFc111 rfl) rfl)) (by rw [show Pc111 0 37 = _ from ((hFc111.1 37 rfl).trans ((hFc105.1 37 rfl).trans ((hFc103.1 37 rfl).trans ((hFc100.1 37 rfl).trans ((hFc1.1 37 rfl).trans rfl))))), show Pc111 5 (P 0 37) = _ from ((congrFun (hFc111.2 5 rfl rfl) _).trans ((congrFun (hFc105.2 5 rfl rfl) _).trans ((congrFun (hFc103.2 5 rfl rfl) _).trans ((congrFun (hFc100.2 5 rfl rfl) _).trans ((congrFun (hFc1.2 5 rfl rfl) _).trans rfl)))))]; omega) (by rw [show Pc111 0 37 = _ from ((hFc111.1 37 rfl).trans ((hFc105.1 37 rfl).trans ((hFc103.1 37 rfl).trans ((hFc100.1 37 rfl).trans ((hFc1.1 37 rfl).trans rfl))))), show Pc111 7 ((24 * (P 0 37)) + rc95) = _ from ((congrFun (hFc111.2 7 rfl rfl) _).trans ((congrFun (hFc105.2 7 rfl rfl) _).trans ((congrFun (hFc103.2 7 rfl rfl) _).trans ((congrFun (hFc100.2 7 rfl rfl) _).trans ((congrFun (hFc1.2 7 rfl rfl) _).trans rfl)))))]; omega) (by rw [show Pc111 0 37 = _ from ((hFc111.1 37 rfl).trans ((hFc105.1 37 rfl).trans ((hFc103.1 37 rfl).trans ((hFc100.1 37 rfl).trans ((hFc1.1 37 rfl).trans rfl))))), show Pc111 6 ((24 * (P 0 37)) + rc95) = _ from ((congrFun (hFc111.2 6 rfl rfl) _).trans ((congrFun (hFc105.2 6 rfl rfl) _).trans ((congrFun (hFc103.2 6 rfl rfl) _).trans ((congrFun (hFc100.2 6 rfl rfl) _).trans ((congrFun (hFc1.2 6 rfl rfl) _).trans rfl))))), show Pc111 0 43 = _ from ((hFc111.1 43 rfl).trans ((hFc105.1 43 rfl).trans ((hFc103.1 43 rfl).trans ((hFc100.1 43 rfl).trans ((hFc1.1 43 rfl).trans rfl)))))]; omega) (by have q0 := (((hFc111.1 36 rfl).trans rfl) : Pc111 0 36 = (Pc105 0 36)); have q1 := b0_36 hBc105; omega) (CF.fr (F := ([3, 4, 5, 6, 7, 8, 9, 12, 36], [19, 20, 21])) v_CF (FrM.c (FrM.c (FrM.c (FrM.c (FrM.c FrM.rf hFc1 rfl) hFc100 rfl) hFc103 rfl) hFc105 rfl) hFc111 rfl) rfl) _ (fun Pc117 hBc117 hFc117 gc117_lo gc117_sx gc117_pt => ⟨rfl, ?_⟩)) cf_X12_fieldBegins t_1803 rfl (by decide) rfl rfl rfl (Nat.le_of_ble_eq_true rfl) (by decide) rfl dX12_alternative_203
                    have z118 := (pot_fr (F := ([3, 4, 5, 6, 7, 8, 9, 12], [])) (FrM.c FrM.rf hFc111 rfl) rfl : pot Pc111 = pot Pc105)
                    have iv119 : SX f 0 Pc117 := gc117_sx
                    have iv120 : LO P Pc117 := hlo.trans gc117_lo
                    refine g_aload_n dX12_alternative_206 rfl ?_
                    refine m_g8 (z := (Pc111 0 8)) rfl dX12_alternative_207 ((hFc117.1 8 rfl).trans rfl) ?_
                    refine g_if_le (tgt := 217) dX12_alternative_210 (by decide) ⟨by have q0 := b0_8 hBc111; omega, by have q0 := b0_8 hBc111; omega⟩ (fun k121 => ?_) (fun k121 => by exfalso; have q0 := b0_8 hBc111; omega)
                    refine g_iconst dX12_alternative_217 ?_
                    exact g_retZ dX12_alternative_218 rfl (by decide) (hQ 0 (by decide) _ hBc117 (FrM.c (FrM.c (FrM.c (FrM.c (FrM.c (FrM.c FrM.rf hFc1 rfl) hFc100 rfl) hFc103 rfl) hFc105 rfl) hFc111 rfl) hFc117 rfl) (by have q0 := (((hFc117.1 3 rfl).trans rfl) : Pc117 0 3 = (Pc111 0 3)); have q1 := b0_3 hBc111; have q2 := (((hFc117.1 4 rfl).trans rfl) : Pc117 0 4 = (Pc111 0 4)); have q3 := b0_4 hBc111; have q4 := (((hFc117.1 5 rfl).trans rfl) : Pc117 0 5 = (Pc111 0 5)); have q5 := b0_5 hBc111; omega) (by have q0 := (((hFc117.1 4 rfl).trans rfl) : Pc117 0 4 = (Pc111 0 4)); have q1 := b0_4 hBc111; omega) (by have q0 := (((hFc117.1 8 rfl).trans rfl) : Pc117 0 8 = (Pc111 0 8)); have q1 := b0_8 hBc111; omega) (iv120) (by have q0 := (((hFc117.1 8 rfl).trans rfl) : Pc117 0 8 = (Pc111 0 8)); have q1 := b0_8 hBc111; have q2 := (((hFc117.1 4 rfl).trans rfl) : Pc117 0 4 = (Pc111 0 4)); have q3 := b0_4 hBc111; omega) (by first | (left; have q8 := (((hFc117.1 8 rfl).trans rfl) : Pc117 0 8 = (Pc111 0 8)); omega) | (right; left; exact ⟨rfl, hNONE, by have q4 := (((hFc117.1 4 rfl).trans rfl) : Pc117 0 4 = (Pc111 0 4)); have qp := trivial; omega⟩) | (right; right; exact ⟨rfl, iv119, by have q4 := (((hFc117.1 4 rfl).trans rfl) : Pc117 0 4 = (Pc111 0 4)); have qp := trivial; omega⟩) | exact hrs9.elim Or.inl (fun h => Or.inr (Or.inl ⟨rfl, h⟩))))
                · refine g_iconst dX12_alternative_185 ?_
                  exact g_retZ dX12_alternative_186 rfl (by decide) (hQ 1 (by decide) _ hBc105 (FrM.c (FrM.c (FrM.c (FrM.c FrM.rf hFc1 rfl) hFc100 rfl) hFc103 rfl) hFc105 rfl) (by have q0 := (((hFc105.1 3 rfl).trans rfl) : Pc105 0 3 = (Pc103 0 3)); have q1 := b0_3 hBc103; have q2 := (((hFc105.1 4 rfl).trans rfl) : Pc105 0 4 = (Pc103 0 4)); have q3 := b0_4 hBc103; have q4 := (((hFc105.1 5 rfl).trans rfl) : Pc105 0 5 = (Pc103 0 5)); have q5 := b0_5 hBc103; omega) (by have q0 := (((hFc105.1 4 rfl).trans rfl) : Pc105 0 4 = (Pc103 0 4)); have q1 := b0_4 hBc103; omega) (by have q0 := (((hFc105.1 8 rfl).trans ((hFc103.1 8 rfl).trans rfl)) : Pc105 0 8 = (Pc100 0 8)); have q1 := b0_8 hBc100; omega) (iv108) (by have q0 := (((hFc105.1 8 rfl).trans ((hFc103.1 8 rfl).trans rfl)) : Pc105 0 8 = (Pc100 0 8)); have q1 := b0_8 hBc100; have q2 := (((hFc105.1 4 rfl).trans rfl) : Pc105 0 4 = (Pc103 0 4)); have q3 := b0_4 hBc103; omega) (by first | (left; have q8 := (((hFc105.1 8 rfl).trans ((hFc103.1 8 rfl).trans rfl)) : Pc105 0 8 = (Pc100 0 8)); omega) | (right; left; exact ⟨rfl, iv107, by have q4 := (((hFc105.1 4 rfl).trans rfl) : Pc105 0 4 = (Pc103 0 4)); have qp := trivial; omega⟩) | (right; right; exact ⟨rfl, hNONE, by have q4 := (((hFc105.1 4 rfl).trans rfl) : Pc105 0 4 = (Pc103 0 4)); have qp := trivial; omega⟩) | exact hrs9.elim Or.inl (fun h => Or.inr (Or.inl ⟨rfl, h⟩))))
              · refine g_iconst dX12_alternative_155 ?_
                exact g_retZ dX12_alternative_156 rfl (by decide) (hQ 1 (by decide) _ hBc100 (FrM.c (FrM.c FrM.rf hFc1 rfl) hFc100 rfl) (by have q0 := (((hFc100.1 3 rfl).trans ((hFc1.1 3 rfl).trans rfl)) : Pc100 0 3 = (P 0 3)); have q1 := b0_3 hB; have q2 := (((hFc100.1 4 rfl).trans ((hFc1.1 4 rfl).trans rfl)) : Pc100 0 4 = (P 0 4)); have q3 := b0_4 hB; have q4 := (((hFc100.1 5 rfl).trans ((hFc1.1 5 rfl).trans rfl)) : Pc100 0 5 = (P 0 5)); have q5 := b0_5 hB; omega) (by have q0 := (((hFc100.1 4 rfl).trans ((hFc1.1 4 rfl).trans rfl)) : Pc100 0 4 = (P 0 4)); have q1 := b0_4 hB; omega) (by have q0 := b0_8 hBc100; omega) ((LO.fr (F := ([8, 9], [])) ivI_LO (FrM.c (FrM.c FrM.rf hFc1 rfl) hFc100 rfl) rfl)) (by have q0 := b0_8 hBc100; have q1 := (((hFc100.1 4 rfl).trans ((hFc1.1 4 rfl).trans rfl)) : Pc100 0 4 = (P 0 4)); have q2 := b0_4 hB; omega) (by first | (left; have q8 := (rfl : Pc100 0 8 = (Pc100 0 8)); omega) | (right; left; exact ⟨rfl, hNONE, by have q4 := (((hFc100.1 4 rfl).trans ((hFc1.1 4 rfl).trans rfl)) : Pc100 0 4 = (P 0 4)); have qp := (pot_fr (F := ([8, 9], [])) (FrM.c (FrM.c FrM.rf hFc1 rfl) hFc100 rfl) rfl : pot Pc100 = pot P); omega⟩) | (right; right; exact ⟨rfl, (SX.fr (F := ([8, 9], [])) ivI_SX0 (FrM.c (FrM.c FrM.rf hFc1 rfl) hFc100 rfl) rfl), by have q4 := (((hFc100.1 4 rfl).trans ((hFc1.1 4 rfl).trans rfl)) : Pc100 0 4 = (P 0 4)); have qp := (pot_fr (F := ([8, 9], [])) (FrM.c (FrM.c FrM.rf hFc1 rfl) hFc100 rfl) rfl : pot Pc100 = pot P); omega⟩) | exact hrs9.elim Or.inl (fun h => Or.inr (Or.inl ⟨rfl, h⟩))))
            · refine g_aload_n dX12_alternative_121 rfl ?_
              refine m_g18 rfl dX12_alternative_122 ?_
              refine g_bipush dX12_alternative_125 (by decide) ?_
              refine g_aload_n dX12_alternative_127 rfl ?_
              refine m_g37 (z := (P 0 37)) rfl dX12_alternative_128 ((hFc1.1 37 rfl).trans rfl) ?_
              refine g_imul dX12_alternative_131 ?_
              refine g_iload_n dX12_alternative_132 rfl ?_
              refine g_iadd dX12_alternative_133 ?_
              refine m_l6 (z := (P 6 ((24 * (P 0 37)) + rc95))) dX12_alternative_134 ⟨by have q0 := b0_37 hB; omega, by have q0 := b0_37 hB; omega⟩ ((congrFun (hFc1.2 6 rfl rfl) _).trans rfl) ?_
              refine g_iload_n dX12_alternative_135 rfl ?_
              have f122 := bl_6 (k := ((24 * (P 0 37)) + rc95)) hB
              refine g_icmp_eq (tgt := 148) dX12_alternative_136 (by decide) ⟨by have q0 := bl_6 (k := ((24 * (P 0 37)) + rc95)) hB; omega, by have q0 := bl_6 (k := ((24 * (P 0 37)) + rc95)) hB; omega⟩ ⟨by have q0 := bl_24 (k := (P 0 43)) hB; omega, by have q0 := bl_24 (k := (P 0 43)) hB; omega⟩ (fun k123 => ?_) (fun k123 => ?_)
              · refine g_aload_n dX12_alternative_148 rfl ?_
                refine m_g8 (z := (Pc1 0 8)) rfl dX12_alternative_149 rfl ?_
                refine g_if_le (tgt := 157) dX12_alternative_152 (by decide) ⟨by have q0 := b0_8 hBc1; omega, by have q0 := b0_8 hBc1; omega⟩ (fun k124 => ?_) (fun k124 => by exfalso; have q0 := b0_8 hBc1; omega)
                refine g_aload_n dX12_alternative_157 rfl ?_
                refine g_vV (av := []) (o := 0) (st := []) (m_X12_ahead G Pc1  hBc1  _ (fun Pc125 hBc125 hFc125 gc125_lx gc125_nx => ⟨rfl, ?_⟩)) cf_X12_ahead t_1683 rfl (by decide) rfl rfl rfl (Nat.le_of_ble_eq_true rfl) (by decide) rfl dX12_alternative_158
                have z126 : Pc1 0 5 = (P 0 5) := ((hFc1.1 5 rfl).trans rfl)
                refine g_aload_n dX12_alternative_161 rfl ?_
                refine g_iconst dX12_alternative_162 ?_
                refine g_iload_n dX12_alternative_163 rfl ?_
                refine g_iconst dX12_alternative_164 ?_
                have hq4 := b0_4 hB
                have hsx := (SX.fr (F := ([3, 4, 5, 6, 7, 8, 9, 12], [])) ivI_SX0 (FrM.c (FrM.c FrM.rf hFc1 rfl) hFc125 rfl) rfl)
                have hlo := (LO.fr (F := ([3, 4, 5, 6, 7, 8, 9, 12], [])) ivI_LO (FrM.c (FrM.c FrM.rf hFc1 rfl) hFc125 rfl) rfl)
                have hb9 := hBc125
                have hq1 := pot_c Pc125
                have hq2 := (pot_fr (F := ([3, 4, 5, 6, 7, 8, 9, 12], [])) (FrM.c (FrM.c FrM.rf hFc1 rfl) hFc125 rfl) rfl : pot Pc125 = pot P)
                have hq3 := b0_4 hBc125
                refine g_vV (av := [vI 2, vI rc95, vI 0]) (o := 0) (st := []) (m_X12_emits G Pc125 2 rc95 0 (by decide) ⟨by omega, by omega⟩ (by decide) hBc125 (by have q0 := (((hFc125.1 36 rfl).trans ((hFc1.1 36 rfl).trans rfl)) : Pc125 0 36 = (P 0 36)); have q1 := b0_36 hB; omega) _ (fun Pc127 hBc127 hFc127 gc127_o gc127_e => ⟨rfl, ?_⟩)) cf_X12_emits t_1788 rfl (by decide) rfl rfl rfl (Nat.le_of_ble_eq_true rfl) (by decide) rfl dX12_alternative_165
                have z128 : Pc125 0 36 = (P 0 36) := ((hFc125.1 36 rfl).trans ((hFc1.1 36 rfl).trans rfl))
                have hpe := pot_em gc127_e hFc127
                have iv129 : SX f 1 Pc127 := hsx.leaf hb9 gc127_e hFc127 ⟨by omega, by omega⟩
                have iv130 : LO P Pc127 := hlo.trans (gc127_e.lo hFc127 rfl (by omega))
                refine g_aload_n dX12_alternative_168 rfl ?_
                refine m_g19 rfl dX12_alternative_169 ?_
                refine g_bipush dX12_alternative_172 (by decide) ?_
                refine g_aload_n dX12_alternative_174 rfl ?_
                refine m_g37 (z := (P 0 37)) rfl dX12_alternative_175 ((hFc127.1 37 rfl).trans ((hFc125.1 37 rfl).trans ((hFc1.1 37 rfl).trans rfl))) ?_
                refine g_imul dX12_alternative_178 ?_
                refine g_iload_n dX12_alternative_179 rfl ?_
                refine g_iadd dX12_alternative_180 ?_
                refine m_l7 (z := (P 7 ((24 * (P 0 37)) + rc95))) dX12_alternative_181 ⟨by have q0 := b0_37 hB; omega, by have q0 := b0_37 hB; omega⟩ ((congrFun (hFc127.2 7 rfl rfl) _).trans ((congrFun (hFc125.2 7 rfl rfl) _).trans ((congrFun (hFc1.2 7 rfl rfl) _).trans rfl))) ?_
                have f131 := bl_7 (k := ((24 * (P 0 37)) + rc95)) hB
                refine g_if_ne (tgt := 187) dX12_alternative_182 (by decide) ⟨by have q0 := bl_7 (k := ((24 * (P 0 37)) + rc95)) hB; omega, by have q0 := bl_7 (k := ((24 * (P 0 37)) + rc95)) hB; omega⟩ (fun k132 => ?_) (fun k132 => ?_)
                · refine g_aload_n dX12_alternative_187 rfl ?_
                  refine g_bipush dX12_alternative_188 (by decide) ?_
                  refine g_vV (av := [vI 40]) (o := 0) (st := []) (m_X12_must G Pc127 40 (by decide) hBc127 (by have q0 := (((hFc127.1 3 rfl).trans rfl) : Pc127 0 3 = (Pc125 0 3)); have q1 := b0_3 hBc125; have q2 := (((hFc127.1 4 rfl).trans rfl) : Pc127 0 4 = (Pc125 0 4)); have q3 := b0_4 hBc125; have q4 := (((hFc127.1 5 rfl).trans rfl) : Pc127 0 5 = (Pc125 0 5)); have q5 := b0_5 hBc125; omega) _ (fun Pc133 hBc133 hFc133 gc133_lx gc133_mo gc133_pe gc133_ad => ⟨rfl, ?_⟩)) cf_X12_must t_1768 rfl (by decide) rfl rfl rfl (Nat.le_of_ble_eq_true rfl) (by decide) rfl dX12_alternative_190
                  have z134 : Pc127 0 4 = (Pc125 0 4) := ((hFc127.1 4 rfl).trans rfl)
                  have z135 : Pc127 0 8 = (Pc1 0 8) := ((hFc127.1 8 rfl).trans ((hFc125.1 8 rfl).trans rfl))
                  refine g_aload_n dX12_alternative_193 rfl ?_
                  refine m_g8 (z := (Pc133 0 8)) rfl dX12_alternative_194 rfl ?_
                  have f136 := b0_8 hBc133
                  refine g_if_ne (tgt := 206) dX12_alternative_197 (by decide) ⟨by have q0 := b0_8 hBc133; omega, by have q0 := b0_8 hBc133; omega⟩ (fun k137 => ?_) (fun k137 => ?_)
                  · refine g_aload_n dX12_alternative_206 rfl ?_
                    refine m_g8 (z := (Pc133 0 8)) rfl dX12_alternative_207 rfl ?_
                    refine g_if_le (tgt := 217) dX12_alternative_210 (by decide) ⟨by have q0 := b0_8 hBc133; omega, by have q0 := b0_8 hBc133; omega⟩ (fun k138 => by exfalso; have q0 := b0_8 hBc133; omega) (fun k138 => ?_)
                    refine g_iconst dX12_alternative_213 ?_
                    refine g_goto (tgt := 218) dX12_alternative_214 (by decide) ?_
                    exact g_retZ dX12_alternative_218 rfl (by decide) (hQ 1 (by decide) _ hBc133 (FrM.c (FrM.c (FrM.c (FrM.c FrM.rf hFc1 rfl) hFc125 rfl) hFc127 rfl) hFc133 rfl) (by have q0 := b0_3 hBc133; have q1 := b0_4 hBc133; have q2 := b0_5 hBc133; omega) (by have q0 := b0_4 hBc133; omega) (by have q0 := b0_8 hBc133; omega) ((LO.fr (F := ([3, 4, 5, 6, 7, 8, 9, 12], [])) iv130 (FrM.c FrM.rf hFc133 rfl) rfl)) (by have q0 := b0_8 hBc133; have q1 := b0_4 hBc133; omega) (by first | (left; have q8 := (rfl : Pc133 0 8 = (Pc133 0 8)); omega) | (right; left; exact ⟨rfl, (SX.fr (F := ([3, 4, 5, 6, 7, 8, 9, 12], [])) iv129 (FrM.c FrM.rf hFc133 rfl) rfl), by have q4 := (rfl : Pc133 0 4 = (Pc133 0 4)); have qp := (pot_fr (F := ([3, 4, 5, 6, 7, 8, 9, 12], [])) (FrM.c FrM.rf hFc133 rfl) rfl : pot Pc133 = pot Pc127); omega⟩) | (right; right; exact ⟨rfl, hNONE, by have q4 := (rfl : Pc133 0 4 = (Pc133 0 4)); have qp := (pot_fr (F := ([3, 4, 5, 6, 7, 8, 9, 12], [])) (FrM.c FrM.rf hFc133 rfl) rfl : pot Pc133 = pot Pc127); omega⟩) | exact hrs9.elim Or.inl (fun h => Or.inr (Or.inl ⟨rfl, h⟩))))
                  · refine g_aload_n dX12_alternative_200 rfl ?_
                    refine g_iload_n dX12_alternative_201 rfl ?_
                    refine g_iconst dX12_alternative_202 ?_
                    have hlo := (LO.fr (F := ([3, 4, 5, 6, 7, 8, 9, 12], [])) iv130 (FrM.c FrM.rf hFc133 rfl) rfl)
                    have hq4 := b0_4 hB
                    have hq1 := pot_c Pc133
                    have hq2 := (pot_fr (F := ([3, 4, 5, 6, 7, 8, 9, 12], [])) (FrM.c FrM.rf hFc133 rfl) rfl : pot Pc133 = pot Pc127)
                    have hq3 := b0_4 hBc133
                    have hq6 := (((hFc133.1 36 rfl).trans rfl) : Pc133 0 36 = (Pc127 0 36))
                    refine g_vV (av := [vI rc95, vI 0]) (o := 0) (st := []) (m_X12_fieldBegins G Pc133 (f) rc95 0 ⟨by omega, by omega⟩ (by decide) hBc133 ((SX.fr (F := ([3, 4, 5, 6, 7, 8, 9, 12], [])) iv129 (FrM.c FrM.rf hFc133 rfl) rfl)) (by rw [show Pc133 0 37 = _ from ((hFc133.1 37 rfl).trans ((hFc127.1 37 rfl).trans ((hFc125.1 37 rfl).trans ((hFc1.1 37 rfl).trans rfl)))), show Pc133 5 (P 0 37) = _ from ((congrFun (hFc133.2 5 rfl rfl) _).trans ((congrFun (hFc127.2 5 rfl rfl) _).trans ((congrFun (hFc125.2 5 rfl rfl) _).trans ((congrFun (hFc1.2 5 rfl rfl) _).trans rfl))))]; omega) (by rw [show Pc133 0 37 = _ from ((hFc133.1 37 rfl).trans ((hFc127.1 37 rfl).trans ((hFc125.1 37 rfl).trans ((hFc1.1 37 rfl).trans rfl)))), show Pc133 7 ((24 * (P 0 37)) + rc95) = _ from ((congrFun (hFc133.2 7 rfl rfl) _).trans ((congrFun (hFc127.2 7 rfl rfl) _).trans ((congrFun (hFc125.2 7 rfl rfl) _).trans ((congrFun (hFc1.2 7 rfl rfl) _).trans rfl))))]; omega) (by rw [show Pc133 0 37 = _ from ((hFc133.1 37 rfl).trans ((hFc127.1 37 rfl).trans ((hFc125.1 37 rfl).trans ((hFc1.1 37 rfl).trans rfl)))), show Pc133 6 ((24 * (P 0 37)) + rc95) = _ from ((congrFun (hFc133.2 6 rfl rfl) _).trans ((congrFun (hFc127.2 6 rfl rfl) _).trans ((congrFun (hFc125.2 6 rfl rfl) _).trans ((congrFun (hFc1.2 6 rfl rfl) _).trans rfl)))), show Pc133 0 43 = _ from ((hFc133.1 43 rfl).trans ((hFc127.1 43 rfl).trans ((hFc125.1 43 rfl).trans ((hFc1.1 43 rfl).trans rfl))))]; omega) (by have q0 := (((hFc133.1 36 rfl).trans rfl) : Pc133 0 36 = (Pc127 0 36)); have q1 := b0_36 hBc127; omega) (CF.fr (F := ([3, 4, 5, 6, 7, 8, 9, 12, 36], [19, 20, 21])) v_CF (FrM.c (FrM.c (FrM.c (FrM.c FrM.rf hFc1 rfl) hFc125 rfl) hFc127 rfl) hFc133 rfl) rfl) _ (fun Pc139 hBc139 hFc139 gc139_lo gc139_sx gc139_pt => ⟨rfl, ?_⟩)) cf_X12_fieldBegins t_1803 rfl (by decide) rfl rfl rfl (Nat.le_of_ble_eq_true rfl) (by decide) rfl dX12_alternative_203
                    have z140 := (pot_fr (F := ([3, 4, 5, 6, 7, 8, 9, 12], [])) (FrM.c FrM.rf hFc133 rfl) rfl : pot Pc133 = pot Pc127)
                    have iv141 : SX f 0 Pc139 := gc139_sx
                    have iv142 : LO P Pc139 := hlo.trans gc139_lo
                    refine g_aload_n dX12_alternative_206 rfl ?_
                    refine m_g8 (z := (Pc133 0 8)) rfl dX12_alternative_207 ((hFc139.1 8 rfl).trans rfl) ?_
                    refine g_if_le (tgt := 217) dX12_alternative_210 (by decide) ⟨by have q0 := b0_8 hBc133; omega, by have q0 := b0_8 hBc133; omega⟩ (fun k143 => ?_) (fun k143 => by exfalso; have q0 := b0_8 hBc133; omega)
                    refine g_iconst dX12_alternative_217 ?_
                    exact g_retZ dX12_alternative_218 rfl (by decide) (hQ 0 (by decide) _ hBc139 (FrM.c (FrM.c (FrM.c (FrM.c (FrM.c FrM.rf hFc1 rfl) hFc125 rfl) hFc127 rfl) hFc133 rfl) hFc139 rfl) (by have q0 := (((hFc139.1 3 rfl).trans rfl) : Pc139 0 3 = (Pc133 0 3)); have q1 := b0_3 hBc133; have q2 := (((hFc139.1 4 rfl).trans rfl) : Pc139 0 4 = (Pc133 0 4)); have q3 := b0_4 hBc133; have q4 := (((hFc139.1 5 rfl).trans rfl) : Pc139 0 5 = (Pc133 0 5)); have q5 := b0_5 hBc133; omega) (by have q0 := (((hFc139.1 4 rfl).trans rfl) : Pc139 0 4 = (Pc133 0 4)); have q1 := b0_4 hBc133; omega) (by have q0 := (((hFc139.1 8 rfl).trans rfl) : Pc139 0 8 = (Pc133 0 8)); have q1 := b0_8 hBc133; omega) (iv142) (by have q0 := (((hFc139.1 8 rfl).trans rfl) : Pc139 0 8 = (Pc133 0 8)); have q1 := b0_8 hBc133; have q2 := (((hFc139.1 4 rfl).trans rfl) : Pc139 0 4 = (Pc133 0 4)); have q3 := b0_4 hBc133; omega) (by first | (left; have q8 := (((hFc139.1 8 rfl).trans rfl) : Pc139 0 8 = (Pc133 0 8)); omega) | (right; left; exact ⟨rfl, hNONE, by have q4 := (((hFc139.1 4 rfl).trans rfl) : Pc139 0 4 = (Pc133 0 4)); have qp := trivial; omega⟩) | (right; right; exact ⟨rfl, iv141, by have q4 := (((hFc139.1 4 rfl).trans rfl) : Pc139 0 4 = (Pc133 0 4)); have qp := trivial; omega⟩) | exact hrs9.elim Or.inl (fun h => Or.inr (Or.inl ⟨rfl, h⟩))))
                · refine g_iconst dX12_alternative_185 ?_
                  exact g_retZ dX12_alternative_186 rfl (by decide) (hQ 1 (by decide) _ hBc127 (FrM.c (FrM.c (FrM.c FrM.rf hFc1 rfl) hFc125 rfl) hFc127 rfl) (by have q0 := (((hFc127.1 3 rfl).trans rfl) : Pc127 0 3 = (Pc125 0 3)); have q1 := b0_3 hBc125; have q2 := (((hFc127.1 4 rfl).trans rfl) : Pc127 0 4 = (Pc125 0 4)); have q3 := b0_4 hBc125; have q4 := (((hFc127.1 5 rfl).trans rfl) : Pc127 0 5 = (Pc125 0 5)); have q5 := b0_5 hBc125; omega) (by have q0 := (((hFc127.1 4 rfl).trans rfl) : Pc127 0 4 = (Pc125 0 4)); have q1 := b0_4 hBc125; omega) (by have q0 := (((hFc127.1 8 rfl).trans ((hFc125.1 8 rfl).trans rfl)) : Pc127 0 8 = (Pc1 0 8)); have q1 := b0_8 hBc1; omega) (iv130) (by have q0 := (((hFc127.1 8 rfl).trans ((hFc125.1 8 rfl).trans rfl)) : Pc127 0 8 = (Pc1 0 8)); have q1 := b0_8 hBc1; have q2 := (((hFc127.1 4 rfl).trans rfl) : Pc127 0 4 = (Pc125 0 4)); have q3 := b0_4 hBc125; omega) (by first | (left; have q8 := (((hFc127.1 8 rfl).trans ((hFc125.1 8 rfl).trans rfl)) : Pc127 0 8 = (Pc1 0 8)); omega) | (right; left; exact ⟨rfl, iv129, by have q4 := (((hFc127.1 4 rfl).trans rfl) : Pc127 0 4 = (Pc125 0 4)); have qp := trivial; omega⟩) | (right; right; exact ⟨rfl, hNONE, by have q4 := (((hFc127.1 4 rfl).trans rfl) : Pc127 0 4 = (Pc125 0 4)); have qp := trivial; omega⟩) | exact hrs9.elim Or.inl (fun h => Or.inr (Or.inl ⟨rfl, h⟩))))
              · refine g_aload_n dX12_alternative_139 rfl ?_
                refine g_iconst dX12_alternative_140 ?_
                refine g_aload_n dX12_alternative_141 rfl ?_
                refine m_g4 (z := (P 0 4)) rfl dX12_alternative_142 ((hFc1.1 4 rfl).trans rfl) ?_
                have f144 := b0_4 hB
                refine g_vV (av := [vI 3, vI (P 0 4)]) (o := 0) (st := []) (m_X12_blame G Pc1 3 (P 0 4) (by decide) ⟨by have q0 := b0_4 hB; omega, by have q0 := b0_4 hB; omega⟩ hBc1  _ (fun Pc145 hBc145 hFc145 gc145_f gc145_pe => ⟨rfl, ?_⟩)) cf_X12_blame t_1701 rfl (by decide) rfl rfl rfl (Nat.le_of_ble_eq_true rfl) (by decide) rfl dX12_alternative_145
                refine g_aload_n dX12_alternative_148 rfl ?_
                refine m_g8 (z := (Pc145 0 8)) rfl dX12_alternative_149 rfl ?_
                have f146 := b0_8 hBc145
                refine g_if_le (tgt := 157) dX12_alternative_152 (by decide) ⟨by have q0 := b0_8 hBc145; omega, by have q0 := b0_8 hBc145; omega⟩ (fun k147 => ?_) (fun k147 => ?_)
                · refine g_aload_n dX12_alternative_157 rfl ?_
                  refine g_vV (av := []) (o := 0) (st := []) (m_X12_ahead G Pc145  hBc145  _ (fun Pc148 hBc148 hFc148 gc148_lx gc148_nx => ⟨rfl, ?_⟩)) cf_X12_ahead t_1683 rfl (by decide) rfl rfl rfl (Nat.le_of_ble_eq_true rfl) (by decide) rfl dX12_alternative_158
                  have z149 : Pc145 0 5 = (P 0 5) := ((hFc145.1 5 rfl).trans ((hFc1.1 5 rfl).trans rfl))
                  refine g_aload_n dX12_alternative_161 rfl ?_
                  refine g_iconst dX12_alternative_162 ?_
                  refine g_iload_n dX12_alternative_163 rfl ?_
                  refine g_iconst dX12_alternative_164 ?_
                  have hq4 := b0_4 hB
                  have hsx := (SX.fr (F := ([3, 4, 5, 6, 7, 8, 9, 12], [])) ivI_SX0 (FrM.c (FrM.c (FrM.c FrM.rf hFc1 rfl) hFc145 rfl) hFc148 rfl) rfl)
                  have hlo := (LO.fr (F := ([3, 4, 5, 6, 7, 8, 9, 12], [])) ivI_LO (FrM.c (FrM.c (FrM.c FrM.rf hFc1 rfl) hFc145 rfl) hFc148 rfl) rfl)
                  have hb9 := hBc148
                  have hq1 := pot_c Pc148
                  have hq2 := (pot_fr (F := ([3, 4, 5, 6, 7, 8, 9, 12], [])) (FrM.c (FrM.c (FrM.c FrM.rf hFc1 rfl) hFc145 rfl) hFc148 rfl) rfl : pot Pc148 = pot P)
                  have hq3 := b0_4 hBc148
                  refine g_vV (av := [vI 2, vI rc95, vI 0]) (o := 0) (st := []) (m_X12_emits G Pc148 2 rc95 0 (by decide) ⟨by omega, by omega⟩ (by decide) hBc148 (by have q0 := (((hFc148.1 36 rfl).trans ((hFc145.1 36 rfl).trans ((hFc1.1 36 rfl).trans rfl))) : Pc148 0 36 = (P 0 36)); have q1 := b0_36 hB; omega) _ (fun Pc150 hBc150 hFc150 gc150_o gc150_e => ⟨rfl, ?_⟩)) cf_X12_emits t_1788 rfl (by decide) rfl rfl rfl (Nat.le_of_ble_eq_true rfl) (by decide) rfl dX12_alternative_165
                  have z151 : Pc148 0 36 = (P 0 36) := ((hFc148.1 36 rfl).trans ((hFc145.1 36 rfl).trans ((hFc1.1 36 rfl).trans rfl)))
                  have hpe := pot_em gc150_e hFc150
                  have iv152 : SX f 1 Pc150 := hsx.leaf hb9 gc150_e hFc150 ⟨by omega, by omega⟩
                  have iv153 : LO P Pc150 := hlo.trans (gc150_e.lo hFc150 rfl (by omega))
                  refine g_aload_n dX12_alternative_168 rfl ?_
                  refine m_g19 rfl dX12_alternative_169 ?_
                  refine g_bipush dX12_alternative_172 (by decide) ?_
                  refine g_aload_n dX12_alternative_174 rfl ?_
                  refine m_g37 (z := (P 0 37)) rfl dX12_alternative_175 ((hFc150.1 37 rfl).trans ((hFc148.1 37 rfl).trans ((hFc145.1 37 rfl).trans ((hFc1.1 37 rfl).trans rfl)))) ?_
                  refine g_imul dX12_alternative_178 ?_
                  refine g_iload_n dX12_alternative_179 rfl ?_
                  refine g_iadd dX12_alternative_180 ?_
                  refine m_l7 (z := (P 7 ((24 * (P 0 37)) + rc95))) dX12_alternative_181 ⟨by have q0 := b0_37 hB; omega, by have q0 := b0_37 hB; omega⟩ ((congrFun (hFc150.2 7 rfl rfl) _).trans ((congrFun (hFc148.2 7 rfl rfl) _).trans ((congrFun (hFc145.2 7 rfl rfl) _).trans ((congrFun (hFc1.2 7 rfl rfl) _).trans rfl)))) ?_
                  have f154 := bl_7 (k := ((24 * (P 0 37)) + rc95)) hB
                  refine g_if_ne (tgt := 187) dX12_alternative_182 (by decide) ⟨by have q0 := bl_7 (k := ((24 * (P 0 37)) + rc95)) hB; omega, by have q0 := bl_7 (k := ((24 * (P 0 37)) + rc95)) hB; omega⟩ (fun k155 => ?_) (fun k155 => ?_)
                  · refine g_aload_n dX12_alternative_187 rfl ?_
                    refine g_bipush dX12_alternative_188 (by decide) ?_
                    refine g_vV (av := [vI 40]) (o := 0) (st := []) (m_X12_must G Pc150 40 (by decide) hBc150 (by have q0 := (((hFc150.1 3 rfl).trans rfl) : Pc150 0 3 = (Pc148 0 3)); have q1 := b0_3 hBc148; have q2 := (((hFc150.1 4 rfl).trans rfl) : Pc150 0 4 = (Pc148 0 4)); have q3 := b0_4 hBc148; have q4 := (((hFc150.1 5 rfl).trans rfl) : Pc150 0 5 = (Pc148 0 5)); have q5 := b0_5 hBc148; omega) _ (fun Pc156 hBc156 hFc156 gc156_lx gc156_mo gc156_pe gc156_ad => ⟨rfl, ?_⟩)) cf_X12_must t_1768 rfl (by decide) rfl rfl rfl (Nat.le_of_ble_eq_true rfl) (by decide) rfl dX12_alternative_190
                    have z157 : Pc150 0 4 = (Pc148 0 4) := ((hFc150.1 4 rfl).trans rfl)
                    have z158 : Pc150 0 8 = (Pc145 0 8) := ((hFc150.1 8 rfl).trans ((hFc148.1 8 rfl).trans rfl))
                    refine g_aload_n dX12_alternative_193 rfl ?_
                    refine m_g8 (z := (Pc156 0 8)) rfl dX12_alternative_194 rfl ?_
                    have f159 := b0_8 hBc156
                    refine g_if_ne (tgt := 206) dX12_alternative_197 (by decide) ⟨by have q0 := b0_8 hBc156; omega, by have q0 := b0_8 hBc156; omega⟩ (fun k160 => ?_) (fun k160 => ?_)
                    · refine g_aload_n dX12_alternative_206 rfl ?_
                      refine m_g8 (z := (Pc156 0 8)) rfl dX12_alternative_207 rfl ?_
                      refine g_if_le (tgt := 217) dX12_alternative_210 (by decide) ⟨by have q0 := b0_8 hBc156; omega, by have q0 := b0_8 hBc156; omega⟩ (fun k161 => by exfalso; have q0 := b0_8 hBc156; omega) (fun k161 => ?_)
                      refine g_iconst dX12_alternative_213 ?_
                      refine g_goto (tgt := 218) dX12_alternative_214 (by decide) ?_
                      exact g_retZ dX12_alternative_218 rfl (by decide) (hQ 1 (by decide) _ hBc156 (FrM.c (FrM.c (FrM.c (FrM.c (FrM.c FrM.rf hFc1 rfl) hFc145 rfl) hFc148 rfl) hFc150 rfl) hFc156 rfl) (by have q0 := b0_3 hBc156; have q1 := b0_4 hBc156; have q2 := b0_5 hBc156; omega) (by have q0 := b0_4 hBc156; omega) (by have q0 := b0_8 hBc156; omega) ((LO.fr (F := ([3, 4, 5, 6, 7, 8, 9, 12], [])) iv153 (FrM.c FrM.rf hFc156 rfl) rfl)) (by have q0 := b0_8 hBc156; have q1 := b0_4 hBc156; omega) (by first | (left; have q8 := (rfl : Pc156 0 8 = (Pc156 0 8)); omega) | (right; left; exact ⟨rfl, (SX.fr (F := ([3, 4, 5, 6, 7, 8, 9, 12], [])) iv152 (FrM.c FrM.rf hFc156 rfl) rfl), by have q4 := (rfl : Pc156 0 4 = (Pc156 0 4)); have qp := (pot_fr (F := ([3, 4, 5, 6, 7, 8, 9, 12], [])) (FrM.c FrM.rf hFc156 rfl) rfl : pot Pc156 = pot Pc150); omega⟩) | (right; right; exact ⟨rfl, hNONE, by have q4 := (rfl : Pc156 0 4 = (Pc156 0 4)); have qp := (pot_fr (F := ([3, 4, 5, 6, 7, 8, 9, 12], [])) (FrM.c FrM.rf hFc156 rfl) rfl : pot Pc156 = pot Pc150); omega⟩) | exact hrs9.elim Or.inl (fun h => Or.inr (Or.inl ⟨rfl, h⟩))))
                    · refine g_aload_n dX12_alternative_200 rfl ?_
                      refine g_iload_n dX12_alternative_201 rfl ?_
                      refine g_iconst dX12_alternative_202 ?_
                      have hlo := (LO.fr (F := ([3, 4, 5, 6, 7, 8, 9, 12], [])) iv153 (FrM.c FrM.rf hFc156 rfl) rfl)
                      have hq4 := b0_4 hB
                      have hq1 := pot_c Pc156
                      have hq2 := (pot_fr (F := ([3, 4, 5, 6, 7, 8, 9, 12], [])) (FrM.c FrM.rf hFc156 rfl) rfl : pot Pc156 = pot Pc150)
                      have hq3 := b0_4 hBc156
                      have hq6 := (((hFc156.1 36 rfl).trans rfl) : Pc156 0 36 = (Pc150 0 36))
                      refine g_vV (av := [vI rc95, vI 0]) (o := 0) (st := []) (m_X12_fieldBegins G Pc156 (f) rc95 0 ⟨by omega, by omega⟩ (by decide) hBc156 ((SX.fr (F := ([3, 4, 5, 6, 7, 8, 9, 12], [])) iv152 (FrM.c FrM.rf hFc156 rfl) rfl)) (by rw [show Pc156 0 37 = _ from ((hFc156.1 37 rfl).trans ((hFc150.1 37 rfl).trans ((hFc148.1 37 rfl).trans ((hFc145.1 37 rfl).trans ((hFc1.1 37 rfl).trans rfl))))), show Pc156 5 (P 0 37) = _ from ((congrFun (hFc156.2 5 rfl rfl) _).trans ((congrFun (hFc150.2 5 rfl rfl) _).trans ((congrFun (hFc148.2 5 rfl rfl) _).trans ((congrFun (hFc145.2 5 rfl rfl) _).trans ((congrFun (hFc1.2 5 rfl rfl) _).trans rfl)))))]; omega) (by rw [show Pc156 0 37 = _ from ((hFc156.1 37 rfl).trans ((hFc150.1 37 rfl).trans ((hFc148.1 37 rfl).trans ((hFc145.1 37 rfl).trans ((hFc1.1 37 rfl).trans rfl))))), show Pc156 7 ((24 * (P 0 37)) + rc95) = _ from ((congrFun (hFc156.2 7 rfl rfl) _).trans ((congrFun (hFc150.2 7 rfl rfl) _).trans ((congrFun (hFc148.2 7 rfl rfl) _).trans ((congrFun (hFc145.2 7 rfl rfl) _).trans ((congrFun (hFc1.2 7 rfl rfl) _).trans rfl)))))]; omega) (by rw [show Pc156 0 37 = _ from ((hFc156.1 37 rfl).trans ((hFc150.1 37 rfl).trans ((hFc148.1 37 rfl).trans ((hFc145.1 37 rfl).trans ((hFc1.1 37 rfl).trans rfl))))), show Pc156 6 ((24 * (P 0 37)) + rc95) = _ from ((congrFun (hFc156.2 6 rfl rfl) _).trans ((congrFun (hFc150.2 6 rfl rfl) _).trans ((congrFun (hFc148.2 6 rfl rfl) _).trans ((congrFun (hFc145.2 6 rfl rfl) _).trans ((congrFun (hFc1.2 6 rfl rfl) _).trans rfl))))), show Pc156 0 43 = _ from ((hFc156.1 43 rfl).trans ((hFc150.1 43 rfl).trans ((hFc148.1 43 rfl).trans ((hFc145.1 43 rfl).trans ((hFc1.1 43 rfl).trans rfl)))))]; omega) (by have q0 := (((hFc156.1 36 rfl).trans rfl) : Pc156 0 36 = (Pc150 0 36)); have q1 := b0_36 hBc150; omega) (CF.fr (F := ([3, 4, 5, 6, 7, 8, 9, 12, 36], [19, 20, 21])) v_CF (FrM.c (FrM.c (FrM.c (FrM.c (FrM.c FrM.rf hFc1 rfl) hFc145 rfl) hFc148 rfl) hFc150 rfl) hFc156 rfl) rfl) _ (fun Pc162 hBc162 hFc162 gc162_lo gc162_sx gc162_pt => ⟨rfl, ?_⟩)) cf_X12_fieldBegins t_1803 rfl (by decide) rfl rfl rfl (Nat.le_of_ble_eq_true rfl) (by decide) rfl dX12_alternative_203
                      have z163 := (pot_fr (F := ([3, 4, 5, 6, 7, 8, 9, 12], [])) (FrM.c FrM.rf hFc156 rfl) rfl : pot Pc156 = pot Pc150)
                      have iv164 : SX f 0 Pc162 := gc162_sx
                      have iv165 : LO P Pc162 := hlo.trans gc162_lo
                      refine g_aload_n dX12_alternative_206 rfl ?_
                      refine m_g8 (z := (Pc156 0 8)) rfl dX12_alternative_207 ((hFc162.1 8 rfl).trans rfl) ?_
                      refine g_if_le (tgt := 217) dX12_alternative_210 (by decide) ⟨by have q0 := b0_8 hBc156; omega, by have q0 := b0_8 hBc156; omega⟩ (fun k166 => ?_) (fun k166 => by exfalso; have q0 := b0_8 hBc156; omega)
                      refine g_iconst dX12_alternative_217 ?_
                      exact g_retZ dX12_alternative_218 rfl (by decide) (hQ 0 (by decide) _ hBc162 (FrM.c (FrM.c (FrM.c (FrM.c (FrM.c (FrM.c FrM.rf hFc1 rfl) hFc145 rfl) hFc148 rfl) hFc150 rfl) hFc156 rfl) hFc162 rfl) (by have q0 := (((hFc162.1 3 rfl).trans rfl) : Pc162 0 3 = (Pc156 0 3)); have q1 := b0_3 hBc156; have q2 := (((hFc162.1 4 rfl).trans rfl) : Pc162 0 4 = (Pc156 0 4)); have q3 := b0_4 hBc156; have q4 := (((hFc162.1 5 rfl).trans rfl) : Pc162 0 5 = (Pc156 0 5)); have q5 := b0_5 hBc156; omega) (by have q0 := (((hFc162.1 4 rfl).trans rfl) : Pc162 0 4 = (Pc156 0 4)); have q1 := b0_4 hBc156; omega) (by have q0 := (((hFc162.1 8 rfl).trans rfl) : Pc162 0 8 = (Pc156 0 8)); have q1 := b0_8 hBc156; omega) (iv165) (by have q0 := (((hFc162.1 8 rfl).trans rfl) : Pc162 0 8 = (Pc156 0 8)); have q1 := b0_8 hBc156; have q2 := (((hFc162.1 4 rfl).trans rfl) : Pc162 0 4 = (Pc156 0 4)); have q3 := b0_4 hBc156; omega) (by first | (left; have q8 := (((hFc162.1 8 rfl).trans rfl) : Pc162 0 8 = (Pc156 0 8)); omega) | (right; left; exact ⟨rfl, hNONE, by have q4 := (((hFc162.1 4 rfl).trans rfl) : Pc162 0 4 = (Pc156 0 4)); have qp := trivial; omega⟩) | (right; right; exact ⟨rfl, iv164, by have q4 := (((hFc162.1 4 rfl).trans rfl) : Pc162 0 4 = (Pc156 0 4)); have qp := trivial; omega⟩) | exact hrs9.elim Or.inl (fun h => Or.inr (Or.inl ⟨rfl, h⟩))))
                  · refine g_iconst dX12_alternative_185 ?_
                    exact g_retZ dX12_alternative_186 rfl (by decide) (hQ 1 (by decide) _ hBc150 (FrM.c (FrM.c (FrM.c (FrM.c FrM.rf hFc1 rfl) hFc145 rfl) hFc148 rfl) hFc150 rfl) (by have q0 := (((hFc150.1 3 rfl).trans rfl) : Pc150 0 3 = (Pc148 0 3)); have q1 := b0_3 hBc148; have q2 := (((hFc150.1 4 rfl).trans rfl) : Pc150 0 4 = (Pc148 0 4)); have q3 := b0_4 hBc148; have q4 := (((hFc150.1 5 rfl).trans rfl) : Pc150 0 5 = (Pc148 0 5)); have q5 := b0_5 hBc148; omega) (by have q0 := (((hFc150.1 4 rfl).trans rfl) : Pc150 0 4 = (Pc148 0 4)); have q1 := b0_4 hBc148; omega) (by have q0 := (((hFc150.1 8 rfl).trans ((hFc148.1 8 rfl).trans rfl)) : Pc150 0 8 = (Pc145 0 8)); have q1 := b0_8 hBc145; omega) (iv153) (by have q0 := (((hFc150.1 8 rfl).trans ((hFc148.1 8 rfl).trans rfl)) : Pc150 0 8 = (Pc145 0 8)); have q1 := b0_8 hBc145; have q2 := (((hFc150.1 4 rfl).trans rfl) : Pc150 0 4 = (Pc148 0 4)); have q3 := b0_4 hBc148; omega) (by first | (left; have q8 := (((hFc150.1 8 rfl).trans ((hFc148.1 8 rfl).trans rfl)) : Pc150 0 8 = (Pc145 0 8)); omega) | (right; left; exact ⟨rfl, iv152, by have q4 := (((hFc150.1 4 rfl).trans rfl) : Pc150 0 4 = (Pc148 0 4)); have qp := trivial; omega⟩) | (right; right; exact ⟨rfl, hNONE, by have q4 := (((hFc150.1 4 rfl).trans rfl) : Pc150 0 4 = (Pc148 0 4)); have qp := trivial; omega⟩) | exact hrs9.elim Or.inl (fun h => Or.inr (Or.inl ⟨rfl, h⟩))))
                · refine g_iconst dX12_alternative_155 ?_
                  exact g_retZ dX12_alternative_156 rfl (by decide) (hQ 1 (by decide) _ hBc145 (FrM.c (FrM.c FrM.rf hFc1 rfl) hFc145 rfl) (by have q0 := (((hFc145.1 3 rfl).trans ((hFc1.1 3 rfl).trans rfl)) : Pc145 0 3 = (P 0 3)); have q1 := b0_3 hB; have q2 := (((hFc145.1 4 rfl).trans ((hFc1.1 4 rfl).trans rfl)) : Pc145 0 4 = (P 0 4)); have q3 := b0_4 hB; have q4 := (((hFc145.1 5 rfl).trans ((hFc1.1 5 rfl).trans rfl)) : Pc145 0 5 = (P 0 5)); have q5 := b0_5 hB; omega) (by have q0 := (((hFc145.1 4 rfl).trans ((hFc1.1 4 rfl).trans rfl)) : Pc145 0 4 = (P 0 4)); have q1 := b0_4 hB; omega) (by have q0 := b0_8 hBc145; omega) ((LO.fr (F := ([8, 9], [])) ivI_LO (FrM.c (FrM.c FrM.rf hFc1 rfl) hFc145 rfl) rfl)) (by have q0 := b0_8 hBc145; have q1 := (((hFc145.1 4 rfl).trans ((hFc1.1 4 rfl).trans rfl)) : Pc145 0 4 = (P 0 4)); have q2 := b0_4 hB; omega) (by first | (left; have q8 := (rfl : Pc145 0 8 = (Pc145 0 8)); omega) | (right; left; exact ⟨rfl, hNONE, by have q4 := (((hFc145.1 4 rfl).trans ((hFc1.1 4 rfl).trans rfl)) : Pc145 0 4 = (P 0 4)); have qp := (pot_fr (F := ([8, 9], [])) (FrM.c (FrM.c FrM.rf hFc1 rfl) hFc145 rfl) rfl : pot Pc145 = pot P); omega⟩) | (right; right; exact ⟨rfl, (SX.fr (F := ([8, 9], [])) ivI_SX0 (FrM.c (FrM.c FrM.rf hFc1 rfl) hFc145 rfl) rfl), by have q4 := (((hFc145.1 4 rfl).trans ((hFc1.1 4 rfl).trans rfl)) : Pc145 0 4 = (P 0 4)); have qp := (pot_fr (F := ([8, 9], [])) (FrM.c (FrM.c FrM.rf hFc1 rfl) hFc145 rfl) rfl : pot Pc145 = pot P); omega⟩) | exact hrs9.elim Or.inl (fun h => Or.inr (Or.inl ⟨rfl, h⟩))))
          · refine g_aload_n dX12_alternative_76 rfl ?_
            refine g_iconst dX12_alternative_77 ?_
            refine g_aload_n dX12_alternative_78 rfl ?_
            refine m_g4 (z := (P 0 4)) rfl dX12_alternative_79 ((hFc1.1 4 rfl).trans rfl) ?_
            have f167 := b0_4 hB
            refine g_vV (av := [vI 1, vI (P 0 4)]) (o := 0) (st := []) (m_X12_blame G Pc1 1 (P 0 4) (by decide) ⟨by have q0 := b0_4 hB; omega, by have q0 := b0_4 hB; omega⟩ hBc1  _ (fun Pc168 hBc168 hFc168 gc168_f gc168_pe => ⟨rfl, ?_⟩)) cf_X12_blame t_1701 rfl (by decide) rfl rfl rfl (Nat.le_of_ble_eq_true rfl) (by decide) rfl dX12_alternative_82
            refine g_aload_n dX12_alternative_85 rfl ?_
            refine m_g8 (z := (Pc168 0 8)) rfl dX12_alternative_86 rfl ?_
            have f169 := b0_8 hBc168
            refine g_if_le (tgt := 96) dX12_alternative_89 (by decide) ⟨by have q0 := b0_8 hBc168; omega, by have q0 := b0_8 hBc168; omega⟩ (fun k170 => ?_) (fun k170 => ?_)
            · refine g_aload_n dX12_alternative_96 rfl ?_
              refine g_aload_n dX12_alternative_97 rfl ?_
              refine m_g37 (z := (P 0 37)) rfl dX12_alternative_98 ((hFc168.1 37 rfl).trans ((hFc1.1 37 rfl).trans rfl)) ?_
              refine g_aload_n dX12_alternative_101 rfl ?_
              refine m_g7 (z := (P 0 7)) rfl dX12_alternative_102 ((hFc168.1 7 rfl).trans ((hFc1.1 7 rfl).trans rfl)) ?_
              have f171 := b0_37 hB
              refine g_vI (av := [vI (P 0 37), vL (P 0 7)]) (o := 0) (st := []) (m_X12_conNamed G Pc168 (P 0 37) (P 0 7) ⟨by have q0 := b0_37 hB; omega, by have q0 := b0_37 hB; omega⟩ ⟨by have q0 := b0_7 hB; omega, by have q0 := b0_7 hB; omega⟩ hBc168  _ (fun rc172 hc172 gc172_k => ⟨rc172, rfl, ?_⟩)) cf_X12_conNamed t_1740 rfl (by decide) rfl rfl rfl (Nat.le_of_ble_eq_true rfl) (by decide) rfl dX12_alternative_105
              have z173 : Pc168 5 (P 0 37) = (P 5 (P 0 37)) := ((congrFun (hFc168.2 5 rfl rfl) _).trans ((congrFun (hFc1.2 5 rfl rfl) _).trans rfl))
              refine g_istore_n (l1 := [(2, vI rc172), (1, vI (P 24 (P 0 43))), (0, vR 0)]) dX12_alternative_108 (by decide) rfl ?_
              refine g_aload_n dX12_alternative_109 rfl ?_
              refine m_g8 (z := (Pc168 0 8)) rfl dX12_alternative_110 rfl ?_
              refine g_if_ne (tgt := 148) dX12_alternative_113 (by decide) ⟨by have q0 := b0_8 hBc168; omega, by have q0 := b0_8 hBc168; omega⟩ (fun k174 => by exfalso; have q0 := b0_8 hBc168; omega) (fun k174 => ?_)
              refine g_iload_n dX12_alternative_116 rfl ?_
              refine g_iconst dX12_alternative_117 ?_
              refine g_icmp_eq (tgt := 139) dX12_alternative_118 (by decide) ⟨by omega, by omega⟩ (by decide) (fun k175 => ?_) (fun k175 => ?_)
              · refine g_aload_n dX12_alternative_139 rfl ?_
                refine g_iconst dX12_alternative_140 ?_
                refine g_aload_n dX12_alternative_141 rfl ?_
                refine m_g4 (z := (P 0 4)) rfl dX12_alternative_142 ((hFc168.1 4 rfl).trans ((hFc1.1 4 rfl).trans rfl)) ?_
                refine g_vV (av := [vI 3, vI (P 0 4)]) (o := 0) (st := []) (m_X12_blame G Pc168 3 (P 0 4) (by decide) ⟨by have q0 := b0_4 hB; omega, by have q0 := b0_4 hB; omega⟩ hBc168  _ (fun Pc176 hBc176 hFc176 gc176_f gc176_pe => ⟨rfl, ?_⟩)) cf_X12_blame t_1701 rfl (by decide) rfl rfl rfl (Nat.le_of_ble_eq_true rfl) (by decide) rfl dX12_alternative_145
                refine g_aload_n dX12_alternative_148 rfl ?_
                refine m_g8 (z := (Pc176 0 8)) rfl dX12_alternative_149 rfl ?_
                have f177 := b0_8 hBc176
                refine g_if_le (tgt := 157) dX12_alternative_152 (by decide) ⟨by have q0 := b0_8 hBc176; omega, by have q0 := b0_8 hBc176; omega⟩ (fun k178 => ?_) (fun k178 => ?_)
                · refine g_aload_n dX12_alternative_157 rfl ?_
                  refine g_vV (av := []) (o := 0) (st := []) (m_X12_ahead G Pc176  hBc176  _ (fun Pc179 hBc179 hFc179 gc179_lx gc179_nx => ⟨rfl, ?_⟩)) cf_X12_ahead t_1683 rfl (by decide) rfl rfl rfl (Nat.le_of_ble_eq_true rfl) (by decide) rfl dX12_alternative_158
                  have z180 : Pc176 0 5 = (P 0 5) := ((hFc176.1 5 rfl).trans ((hFc168.1 5 rfl).trans ((hFc1.1 5 rfl).trans rfl)))
                  refine g_aload_n dX12_alternative_161 rfl ?_
                  refine g_iconst dX12_alternative_162 ?_
                  refine g_iload_n dX12_alternative_163 rfl ?_
                  refine g_iconst dX12_alternative_164 ?_
                  have hq4 := b0_4 hB
                  have hsx := (SX.fr (F := ([3, 4, 5, 6, 7, 8, 9, 12], [])) ivI_SX0 (FrM.c (FrM.c (FrM.c (FrM.c FrM.rf hFc1 rfl) hFc168 rfl) hFc176 rfl) hFc179 rfl) rfl)
                  have hlo := (LO.fr (F := ([3, 4, 5, 6, 7, 8, 9, 12], [])) ivI_LO (FrM.c (FrM.c (FrM.c (FrM.c FrM.rf hFc1 rfl) hFc168 rfl) hFc176 rfl) hFc179 rfl) rfl)
                  have hb9 := hBc179
                  have hq1 := pot_c Pc179
                  have hq2 := (pot_fr (F := ([3, 4, 5, 6, 7, 8, 9, 12], [])) (FrM.c (FrM.c (FrM.c (FrM.c FrM.rf hFc1 rfl) hFc168 rfl) hFc176 rfl) hFc179 rfl) rfl : pot Pc179 = pot P)
                  have hq3 := b0_4 hBc179
                  refine g_vV (av := [vI 2, vI rc172, vI 0]) (o := 0) (st := []) (m_X12_emits G Pc179 2 rc172 0 (by decide) ⟨by omega, by omega⟩ (by decide) hBc179 (by have q0 := (((hFc179.1 36 rfl).trans ((hFc176.1 36 rfl).trans ((hFc168.1 36 rfl).trans ((hFc1.1 36 rfl).trans rfl)))) : Pc179 0 36 = (P 0 36)); have q1 := b0_36 hB; omega) _ (fun Pc181 hBc181 hFc181 gc181_o gc181_e => ⟨rfl, ?_⟩)) cf_X12_emits t_1788 rfl (by decide) rfl rfl rfl (Nat.le_of_ble_eq_true rfl) (by decide) rfl dX12_alternative_165
                  have z182 : Pc179 0 36 = (P 0 36) := ((hFc179.1 36 rfl).trans ((hFc176.1 36 rfl).trans ((hFc168.1 36 rfl).trans ((hFc1.1 36 rfl).trans rfl))))
                  have hpe := pot_em gc181_e hFc181
                  have iv183 : SX f 1 Pc181 := hsx.leaf hb9 gc181_e hFc181 ⟨by omega, by omega⟩
                  have iv184 : LO P Pc181 := hlo.trans (gc181_e.lo hFc181 rfl (by omega))
                  refine g_aload_n dX12_alternative_168 rfl ?_
                  refine m_g19 rfl dX12_alternative_169 ?_
                  refine g_bipush dX12_alternative_172 (by decide) ?_
                  refine g_aload_n dX12_alternative_174 rfl ?_
                  refine m_g37 (z := (P 0 37)) rfl dX12_alternative_175 ((hFc181.1 37 rfl).trans ((hFc179.1 37 rfl).trans ((hFc176.1 37 rfl).trans ((hFc168.1 37 rfl).trans ((hFc1.1 37 rfl).trans rfl))))) ?_
                  refine g_imul dX12_alternative_178 ?_
                  refine g_iload_n dX12_alternative_179 rfl ?_
                  refine g_iadd dX12_alternative_180 ?_
                  refine m_l7 (z := (P 7 ((24 * (P 0 37)) + rc172))) dX12_alternative_181 ⟨by have q0 := b0_37 hB; omega, by have q0 := b0_37 hB; omega⟩ ((congrFun (hFc181.2 7 rfl rfl) _).trans ((congrFun (hFc179.2 7 rfl rfl) _).trans ((congrFun (hFc176.2 7 rfl rfl) _).trans ((congrFun (hFc168.2 7 rfl rfl) _).trans ((congrFun (hFc1.2 7 rfl rfl) _).trans rfl))))) ?_
                  have f185 := bl_7 (k := ((24 * (P 0 37)) + rc172)) hB
                  refine g_if_ne (tgt := 187) dX12_alternative_182 (by decide) ⟨by have q0 := bl_7 (k := ((24 * (P 0 37)) + rc172)) hB; omega, by have q0 := bl_7 (k := ((24 * (P 0 37)) + rc172)) hB; omega⟩ (fun k186 => ?_) (fun k186 => ?_)
                  · refine g_aload_n dX12_alternative_187 rfl ?_
                    refine g_bipush dX12_alternative_188 (by decide) ?_
                    refine g_vV (av := [vI 40]) (o := 0) (st := []) (m_X12_must G Pc181 40 (by decide) hBc181 (by have q0 := (((hFc181.1 3 rfl).trans rfl) : Pc181 0 3 = (Pc179 0 3)); have q1 := b0_3 hBc179; have q2 := (((hFc181.1 4 rfl).trans rfl) : Pc181 0 4 = (Pc179 0 4)); have q3 := b0_4 hBc179; have q4 := (((hFc181.1 5 rfl).trans rfl) : Pc181 0 5 = (Pc179 0 5)); have q5 := b0_5 hBc179; omega) _ (fun Pc187 hBc187 hFc187 gc187_lx gc187_mo gc187_pe gc187_ad => ⟨rfl, ?_⟩)) cf_X12_must t_1768 rfl (by decide) rfl rfl rfl (Nat.le_of_ble_eq_true rfl) (by decide) rfl dX12_alternative_190
                    have z188 : Pc181 0 4 = (Pc179 0 4) := ((hFc181.1 4 rfl).trans rfl)
                    have z189 : Pc181 0 8 = (Pc176 0 8) := ((hFc181.1 8 rfl).trans ((hFc179.1 8 rfl).trans rfl))
                    refine g_aload_n dX12_alternative_193 rfl ?_
                    refine m_g8 (z := (Pc187 0 8)) rfl dX12_alternative_194 rfl ?_
                    have f190 := b0_8 hBc187
                    refine g_if_ne (tgt := 206) dX12_alternative_197 (by decide) ⟨by have q0 := b0_8 hBc187; omega, by have q0 := b0_8 hBc187; omega⟩ (fun k191 => ?_) (fun k191 => ?_)
                    · refine g_aload_n dX12_alternative_206 rfl ?_
                      refine m_g8 (z := (Pc187 0 8)) rfl dX12_alternative_207 rfl ?_
                      refine g_if_le (tgt := 217) dX12_alternative_210 (by decide) ⟨by have q0 := b0_8 hBc187; omega, by have q0 := b0_8 hBc187; omega⟩ (fun k192 => by exfalso; have q0 := b0_8 hBc187; omega) (fun k192 => ?_)
                      refine g_iconst dX12_alternative_213 ?_
                      refine g_goto (tgt := 218) dX12_alternative_214 (by decide) ?_
                      exact g_retZ dX12_alternative_218 rfl (by decide) (hQ 1 (by decide) _ hBc187 (FrM.c (FrM.c (FrM.c (FrM.c (FrM.c (FrM.c FrM.rf hFc1 rfl) hFc168 rfl) hFc176 rfl) hFc179 rfl) hFc181 rfl) hFc187 rfl) (by have q0 := b0_3 hBc187; have q1 := b0_4 hBc187; have q2 := b0_5 hBc187; omega) (by have q0 := b0_4 hBc187; omega) (by have q0 := b0_8 hBc187; omega) ((LO.fr (F := ([3, 4, 5, 6, 7, 8, 9, 12], [])) iv184 (FrM.c FrM.rf hFc187 rfl) rfl)) (by have q0 := b0_8 hBc187; have q1 := b0_4 hBc187; omega) (by first | (left; have q8 := (rfl : Pc187 0 8 = (Pc187 0 8)); omega) | (right; left; exact ⟨rfl, (SX.fr (F := ([3, 4, 5, 6, 7, 8, 9, 12], [])) iv183 (FrM.c FrM.rf hFc187 rfl) rfl), by have q4 := (rfl : Pc187 0 4 = (Pc187 0 4)); have qp := (pot_fr (F := ([3, 4, 5, 6, 7, 8, 9, 12], [])) (FrM.c FrM.rf hFc187 rfl) rfl : pot Pc187 = pot Pc181); omega⟩) | (right; right; exact ⟨rfl, hNONE, by have q4 := (rfl : Pc187 0 4 = (Pc187 0 4)); have qp := (pot_fr (F := ([3, 4, 5, 6, 7, 8, 9, 12], [])) (FrM.c FrM.rf hFc187 rfl) rfl : pot Pc187 = pot Pc181); omega⟩) | exact hrs9.elim Or.inl (fun h => Or.inr (Or.inl ⟨rfl, h⟩))))
                    · refine g_aload_n dX12_alternative_200 rfl ?_
                      refine g_iload_n dX12_alternative_201 rfl ?_
                      refine g_iconst dX12_alternative_202 ?_
                      have hlo := (LO.fr (F := ([3, 4, 5, 6, 7, 8, 9, 12], [])) iv184 (FrM.c FrM.rf hFc187 rfl) rfl)
                      have hq4 := b0_4 hB
                      have hq1 := pot_c Pc187
                      have hq2 := (pot_fr (F := ([3, 4, 5, 6, 7, 8, 9, 12], [])) (FrM.c FrM.rf hFc187 rfl) rfl : pot Pc187 = pot Pc181)
                      have hq3 := b0_4 hBc187
                      have hq6 := (((hFc187.1 36 rfl).trans rfl) : Pc187 0 36 = (Pc181 0 36))
                      refine g_vV (av := [vI rc172, vI 0]) (o := 0) (st := []) (m_X12_fieldBegins G Pc187 (f) rc172 0 ⟨by omega, by omega⟩ (by decide) hBc187 ((SX.fr (F := ([3, 4, 5, 6, 7, 8, 9, 12], [])) iv183 (FrM.c FrM.rf hFc187 rfl) rfl)) (by rw [show Pc187 0 37 = _ from ((hFc187.1 37 rfl).trans ((hFc181.1 37 rfl).trans ((hFc179.1 37 rfl).trans ((hFc176.1 37 rfl).trans ((hFc168.1 37 rfl).trans ((hFc1.1 37 rfl).trans rfl)))))), show Pc187 5 (P 0 37) = _ from ((congrFun (hFc187.2 5 rfl rfl) _).trans ((congrFun (hFc181.2 5 rfl rfl) _).trans ((congrFun (hFc179.2 5 rfl rfl) _).trans ((congrFun (hFc176.2 5 rfl rfl) _).trans ((congrFun (hFc168.2 5 rfl rfl) _).trans ((congrFun (hFc1.2 5 rfl rfl) _).trans rfl))))))]; omega) (by rw [show Pc187 0 37 = _ from ((hFc187.1 37 rfl).trans ((hFc181.1 37 rfl).trans ((hFc179.1 37 rfl).trans ((hFc176.1 37 rfl).trans ((hFc168.1 37 rfl).trans ((hFc1.1 37 rfl).trans rfl)))))), show Pc187 7 ((24 * (P 0 37)) + rc172) = _ from ((congrFun (hFc187.2 7 rfl rfl) _).trans ((congrFun (hFc181.2 7 rfl rfl) _).trans ((congrFun (hFc179.2 7 rfl rfl) _).trans ((congrFun (hFc176.2 7 rfl rfl) _).trans ((congrFun (hFc168.2 7 rfl rfl) _).trans ((congrFun (hFc1.2 7 rfl rfl) _).trans rfl))))))]; omega) (by rw [show Pc187 0 37 = _ from ((hFc187.1 37 rfl).trans ((hFc181.1 37 rfl).trans ((hFc179.1 37 rfl).trans ((hFc176.1 37 rfl).trans ((hFc168.1 37 rfl).trans ((hFc1.1 37 rfl).trans rfl)))))), show Pc187 6 ((24 * (P 0 37)) + rc172) = _ from ((congrFun (hFc187.2 6 rfl rfl) _).trans ((congrFun (hFc181.2 6 rfl rfl) _).trans ((congrFun (hFc179.2 6 rfl rfl) _).trans ((congrFun (hFc176.2 6 rfl rfl) _).trans ((congrFun (hFc168.2 6 rfl rfl) _).trans ((congrFun (hFc1.2 6 rfl rfl) _).trans rfl)))))), show Pc187 0 43 = _ from ((hFc187.1 43 rfl).trans ((hFc181.1 43 rfl).trans ((hFc179.1 43 rfl).trans ((hFc176.1 43 rfl).trans ((hFc168.1 43 rfl).trans ((hFc1.1 43 rfl).trans rfl))))))]; omega) (by have q0 := (((hFc187.1 36 rfl).trans rfl) : Pc187 0 36 = (Pc181 0 36)); have q1 := b0_36 hBc181; omega) (CF.fr (F := ([3, 4, 5, 6, 7, 8, 9, 12, 36], [19, 20, 21])) v_CF (FrM.c (FrM.c (FrM.c (FrM.c (FrM.c (FrM.c FrM.rf hFc1 rfl) hFc168 rfl) hFc176 rfl) hFc179 rfl) hFc181 rfl) hFc187 rfl) rfl) _ (fun Pc193 hBc193 hFc193 gc193_lo gc193_sx gc193_pt => ⟨rfl, ?_⟩)) cf_X12_fieldBegins t_1803 rfl (by decide) rfl rfl rfl (Nat.le_of_ble_eq_true rfl) (by decide) rfl dX12_alternative_203
                      have z194 := (pot_fr (F := ([3, 4, 5, 6, 7, 8, 9, 12], [])) (FrM.c FrM.rf hFc187 rfl) rfl : pot Pc187 = pot Pc181)
                      have iv195 : SX f 0 Pc193 := gc193_sx
                      have iv196 : LO P Pc193 := hlo.trans gc193_lo
                      refine g_aload_n dX12_alternative_206 rfl ?_
                      refine m_g8 (z := (Pc187 0 8)) rfl dX12_alternative_207 ((hFc193.1 8 rfl).trans rfl) ?_
                      refine g_if_le (tgt := 217) dX12_alternative_210 (by decide) ⟨by have q0 := b0_8 hBc187; omega, by have q0 := b0_8 hBc187; omega⟩ (fun k197 => ?_) (fun k197 => by exfalso; have q0 := b0_8 hBc187; omega)
                      refine g_iconst dX12_alternative_217 ?_
                      exact g_retZ dX12_alternative_218 rfl (by decide) (hQ 0 (by decide) _ hBc193 (FrM.c (FrM.c (FrM.c (FrM.c (FrM.c (FrM.c (FrM.c FrM.rf hFc1 rfl) hFc168 rfl) hFc176 rfl) hFc179 rfl) hFc181 rfl) hFc187 rfl) hFc193 rfl) (by have q0 := (((hFc193.1 3 rfl).trans rfl) : Pc193 0 3 = (Pc187 0 3)); have q1 := b0_3 hBc187; have q2 := (((hFc193.1 4 rfl).trans rfl) : Pc193 0 4 = (Pc187 0 4)); have q3 := b0_4 hBc187; have q4 := (((hFc193.1 5 rfl).trans rfl) : Pc193 0 5 = (Pc187 0 5)); have q5 := b0_5 hBc187; omega) (by have q0 := (((hFc193.1 4 rfl).trans rfl) : Pc193 0 4 = (Pc187 0 4)); have q1 := b0_4 hBc187; omega) (by have q0 := (((hFc193.1 8 rfl).trans rfl) : Pc193 0 8 = (Pc187 0 8)); have q1 := b0_8 hBc187; omega) (iv196) (by have q0 := (((hFc193.1 8 rfl).trans rfl) : Pc193 0 8 = (Pc187 0 8)); have q1 := b0_8 hBc187; have q2 := (((hFc193.1 4 rfl).trans rfl) : Pc193 0 4 = (Pc187 0 4)); have q3 := b0_4 hBc187; omega) (by first | (left; have q8 := (((hFc193.1 8 rfl).trans rfl) : Pc193 0 8 = (Pc187 0 8)); omega) | (right; left; exact ⟨rfl, hNONE, by have q4 := (((hFc193.1 4 rfl).trans rfl) : Pc193 0 4 = (Pc187 0 4)); have qp := trivial; omega⟩) | (right; right; exact ⟨rfl, iv195, by have q4 := (((hFc193.1 4 rfl).trans rfl) : Pc193 0 4 = (Pc187 0 4)); have qp := trivial; omega⟩) | exact hrs9.elim Or.inl (fun h => Or.inr (Or.inl ⟨rfl, h⟩))))
                  · refine g_iconst dX12_alternative_185 ?_
                    exact g_retZ dX12_alternative_186 rfl (by decide) (hQ 1 (by decide) _ hBc181 (FrM.c (FrM.c (FrM.c (FrM.c (FrM.c FrM.rf hFc1 rfl) hFc168 rfl) hFc176 rfl) hFc179 rfl) hFc181 rfl) (by have q0 := (((hFc181.1 3 rfl).trans rfl) : Pc181 0 3 = (Pc179 0 3)); have q1 := b0_3 hBc179; have q2 := (((hFc181.1 4 rfl).trans rfl) : Pc181 0 4 = (Pc179 0 4)); have q3 := b0_4 hBc179; have q4 := (((hFc181.1 5 rfl).trans rfl) : Pc181 0 5 = (Pc179 0 5)); have q5 := b0_5 hBc179; omega) (by have q0 := (((hFc181.1 4 rfl).trans rfl) : Pc181 0 4 = (Pc179 0 4)); have q1 := b0_4 hBc179; omega) (by have q0 := (((hFc181.1 8 rfl).trans ((hFc179.1 8 rfl).trans rfl)) : Pc181 0 8 = (Pc176 0 8)); have q1 := b0_8 hBc176; omega) (iv184) (by have q0 := (((hFc181.1 8 rfl).trans ((hFc179.1 8 rfl).trans rfl)) : Pc181 0 8 = (Pc176 0 8)); have q1 := b0_8 hBc176; have q2 := (((hFc181.1 4 rfl).trans rfl) : Pc181 0 4 = (Pc179 0 4)); have q3 := b0_4 hBc179; omega) (by first | (left; have q8 := (((hFc181.1 8 rfl).trans ((hFc179.1 8 rfl).trans rfl)) : Pc181 0 8 = (Pc176 0 8)); omega) | (right; left; exact ⟨rfl, iv183, by have q4 := (((hFc181.1 4 rfl).trans rfl) : Pc181 0 4 = (Pc179 0 4)); have qp := trivial; omega⟩) | (right; right; exact ⟨rfl, hNONE, by have q4 := (((hFc181.1 4 rfl).trans rfl) : Pc181 0 4 = (Pc179 0 4)); have qp := trivial; omega⟩) | exact hrs9.elim Or.inl (fun h => Or.inr (Or.inl ⟨rfl, h⟩))))
                · refine g_iconst dX12_alternative_155 ?_
                  exact g_retZ dX12_alternative_156 rfl (by decide) (hQ 1 (by decide) _ hBc176 (FrM.c (FrM.c (FrM.c FrM.rf hFc1 rfl) hFc168 rfl) hFc176 rfl) (by have q0 := (((hFc176.1 3 rfl).trans ((hFc168.1 3 rfl).trans ((hFc1.1 3 rfl).trans rfl))) : Pc176 0 3 = (P 0 3)); have q1 := b0_3 hB; have q2 := (((hFc176.1 4 rfl).trans ((hFc168.1 4 rfl).trans ((hFc1.1 4 rfl).trans rfl))) : Pc176 0 4 = (P 0 4)); have q3 := b0_4 hB; have q4 := (((hFc176.1 5 rfl).trans ((hFc168.1 5 rfl).trans ((hFc1.1 5 rfl).trans rfl))) : Pc176 0 5 = (P 0 5)); have q5 := b0_5 hB; omega) (by have q0 := (((hFc176.1 4 rfl).trans ((hFc168.1 4 rfl).trans ((hFc1.1 4 rfl).trans rfl))) : Pc176 0 4 = (P 0 4)); have q1 := b0_4 hB; omega) (by have q0 := b0_8 hBc176; omega) ((LO.fr (F := ([8, 9], [])) ivI_LO (FrM.c (FrM.c (FrM.c FrM.rf hFc1 rfl) hFc168 rfl) hFc176 rfl) rfl)) (by have q0 := b0_8 hBc176; have q1 := (((hFc176.1 4 rfl).trans ((hFc168.1 4 rfl).trans ((hFc1.1 4 rfl).trans rfl))) : Pc176 0 4 = (P 0 4)); have q2 := b0_4 hB; omega) (by first | (left; have q8 := (rfl : Pc176 0 8 = (Pc176 0 8)); omega) | (right; left; exact ⟨rfl, hNONE, by have q4 := (((hFc176.1 4 rfl).trans ((hFc168.1 4 rfl).trans ((hFc1.1 4 rfl).trans rfl))) : Pc176 0 4 = (P 0 4)); have qp := (pot_fr (F := ([8, 9], [])) (FrM.c (FrM.c (FrM.c FrM.rf hFc1 rfl) hFc168 rfl) hFc176 rfl) rfl : pot Pc176 = pot P); omega⟩) | (right; right; exact ⟨rfl, (SX.fr (F := ([8, 9], [])) ivI_SX0 (FrM.c (FrM.c (FrM.c FrM.rf hFc1 rfl) hFc168 rfl) hFc176 rfl) rfl), by have q4 := (((hFc176.1 4 rfl).trans ((hFc168.1 4 rfl).trans ((hFc1.1 4 rfl).trans rfl))) : Pc176 0 4 = (P 0 4)); have qp := (pot_fr (F := ([8, 9], [])) (FrM.c (FrM.c (FrM.c FrM.rf hFc1 rfl) hFc168 rfl) hFc176 rfl) rfl : pot Pc176 = pot P); omega⟩) | exact hrs9.elim Or.inl (fun h => Or.inr (Or.inl ⟨rfl, h⟩))))
              · refine g_aload_n dX12_alternative_121 rfl ?_
                refine m_g18 rfl dX12_alternative_122 ?_
                refine g_bipush dX12_alternative_125 (by decide) ?_
                refine g_aload_n dX12_alternative_127 rfl ?_
                refine m_g37 (z := (P 0 37)) rfl dX12_alternative_128 ((hFc168.1 37 rfl).trans ((hFc1.1 37 rfl).trans rfl)) ?_
                refine g_imul dX12_alternative_131 ?_
                refine g_iload_n dX12_alternative_132 rfl ?_
                refine g_iadd dX12_alternative_133 ?_
                refine m_l6 (z := (P 6 ((24 * (P 0 37)) + rc172))) dX12_alternative_134 ⟨by have q0 := b0_37 hB; omega, by have q0 := b0_37 hB; omega⟩ ((congrFun (hFc168.2 6 rfl rfl) _).trans ((congrFun (hFc1.2 6 rfl rfl) _).trans rfl)) ?_
                refine g_iload_n dX12_alternative_135 rfl ?_
                have f198 := bl_6 (k := ((24 * (P 0 37)) + rc172)) hB
                refine g_icmp_eq (tgt := 148) dX12_alternative_136 (by decide) ⟨by have q0 := bl_6 (k := ((24 * (P 0 37)) + rc172)) hB; omega, by have q0 := bl_6 (k := ((24 * (P 0 37)) + rc172)) hB; omega⟩ ⟨by have q0 := bl_24 (k := (P 0 43)) hB; omega, by have q0 := bl_24 (k := (P 0 43)) hB; omega⟩ (fun k199 => ?_) (fun k199 => ?_)
                · refine g_aload_n dX12_alternative_148 rfl ?_
                  refine m_g8 (z := (Pc168 0 8)) rfl dX12_alternative_149 rfl ?_
                  refine g_if_le (tgt := 157) dX12_alternative_152 (by decide) ⟨by have q0 := b0_8 hBc168; omega, by have q0 := b0_8 hBc168; omega⟩ (fun k200 => ?_) (fun k200 => by exfalso; have q0 := b0_8 hBc168; omega)
                  refine g_aload_n dX12_alternative_157 rfl ?_
                  refine g_vV (av := []) (o := 0) (st := []) (m_X12_ahead G Pc168  hBc168  _ (fun Pc201 hBc201 hFc201 gc201_lx gc201_nx => ⟨rfl, ?_⟩)) cf_X12_ahead t_1683 rfl (by decide) rfl rfl rfl (Nat.le_of_ble_eq_true rfl) (by decide) rfl dX12_alternative_158
                  have z202 : Pc168 0 5 = (P 0 5) := ((hFc168.1 5 rfl).trans ((hFc1.1 5 rfl).trans rfl))
                  refine g_aload_n dX12_alternative_161 rfl ?_
                  refine g_iconst dX12_alternative_162 ?_
                  refine g_iload_n dX12_alternative_163 rfl ?_
                  refine g_iconst dX12_alternative_164 ?_
                  have hq4 := b0_4 hB
                  have hsx := (SX.fr (F := ([3, 4, 5, 6, 7, 8, 9, 12], [])) ivI_SX0 (FrM.c (FrM.c (FrM.c FrM.rf hFc1 rfl) hFc168 rfl) hFc201 rfl) rfl)
                  have hlo := (LO.fr (F := ([3, 4, 5, 6, 7, 8, 9, 12], [])) ivI_LO (FrM.c (FrM.c (FrM.c FrM.rf hFc1 rfl) hFc168 rfl) hFc201 rfl) rfl)
                  have hb9 := hBc201
                  have hq1 := pot_c Pc201
                  have hq2 := (pot_fr (F := ([3, 4, 5, 6, 7, 8, 9, 12], [])) (FrM.c (FrM.c (FrM.c FrM.rf hFc1 rfl) hFc168 rfl) hFc201 rfl) rfl : pot Pc201 = pot P)
                  have hq3 := b0_4 hBc201
                  refine g_vV (av := [vI 2, vI rc172, vI 0]) (o := 0) (st := []) (m_X12_emits G Pc201 2 rc172 0 (by decide) ⟨by omega, by omega⟩ (by decide) hBc201 (by have q0 := (((hFc201.1 36 rfl).trans ((hFc168.1 36 rfl).trans ((hFc1.1 36 rfl).trans rfl))) : Pc201 0 36 = (P 0 36)); have q1 := b0_36 hB; omega) _ (fun Pc203 hBc203 hFc203 gc203_o gc203_e => ⟨rfl, ?_⟩)) cf_X12_emits t_1788 rfl (by decide) rfl rfl rfl (Nat.le_of_ble_eq_true rfl) (by decide) rfl dX12_alternative_165
                  have z204 : Pc201 0 36 = (P 0 36) := ((hFc201.1 36 rfl).trans ((hFc168.1 36 rfl).trans ((hFc1.1 36 rfl).trans rfl)))
                  have hpe := pot_em gc203_e hFc203
                  have iv205 : SX f 1 Pc203 := hsx.leaf hb9 gc203_e hFc203 ⟨by omega, by omega⟩
                  have iv206 : LO P Pc203 := hlo.trans (gc203_e.lo hFc203 rfl (by omega))
                  refine g_aload_n dX12_alternative_168 rfl ?_
                  refine m_g19 rfl dX12_alternative_169 ?_
                  refine g_bipush dX12_alternative_172 (by decide) ?_
                  refine g_aload_n dX12_alternative_174 rfl ?_
                  refine m_g37 (z := (P 0 37)) rfl dX12_alternative_175 ((hFc203.1 37 rfl).trans ((hFc201.1 37 rfl).trans ((hFc168.1 37 rfl).trans ((hFc1.1 37 rfl).trans rfl)))) ?_
                  refine g_imul dX12_alternative_178 ?_
                  refine g_iload_n dX12_alternative_179 rfl ?_
                  refine g_iadd dX12_alternative_180 ?_
                  refine m_l7 (z := (P 7 ((24 * (P 0 37)) + rc172))) dX12_alternative_181 ⟨by have q0 := b0_37 hB; omega, by have q0 := b0_37 hB; omega⟩ ((congrFun (hFc203.2 7 rfl rfl) _).trans ((congrFun (hFc201.2 7 rfl rfl) _).trans ((congrFun (hFc168.2 7 rfl rfl) _).trans ((congrFun (hFc1.2 7 rfl rfl) _).trans rfl)))) ?_
                  have f207 := bl_7 (k := ((24 * (P 0 37)) + rc172)) hB
                  refine g_if_ne (tgt := 187) dX12_alternative_182 (by decide) ⟨by have q0 := bl_7 (k := ((24 * (P 0 37)) + rc172)) hB; omega, by have q0 := bl_7 (k := ((24 * (P 0 37)) + rc172)) hB; omega⟩ (fun k208 => ?_) (fun k208 => ?_)
                  · refine g_aload_n dX12_alternative_187 rfl ?_
                    refine g_bipush dX12_alternative_188 (by decide) ?_
                    refine g_vV (av := [vI 40]) (o := 0) (st := []) (m_X12_must G Pc203 40 (by decide) hBc203 (by have q0 := (((hFc203.1 3 rfl).trans rfl) : Pc203 0 3 = (Pc201 0 3)); have q1 := b0_3 hBc201; have q2 := (((hFc203.1 4 rfl).trans rfl) : Pc203 0 4 = (Pc201 0 4)); have q3 := b0_4 hBc201; have q4 := (((hFc203.1 5 rfl).trans rfl) : Pc203 0 5 = (Pc201 0 5)); have q5 := b0_5 hBc201; omega) _ (fun Pc209 hBc209 hFc209 gc209_lx gc209_mo gc209_pe gc209_ad => ⟨rfl, ?_⟩)) cf_X12_must t_1768 rfl (by decide) rfl rfl rfl (Nat.le_of_ble_eq_true rfl) (by decide) rfl dX12_alternative_190
                    have z210 : Pc203 0 4 = (Pc201 0 4) := ((hFc203.1 4 rfl).trans rfl)
                    have z211 : Pc203 0 8 = (Pc168 0 8) := ((hFc203.1 8 rfl).trans ((hFc201.1 8 rfl).trans rfl))
                    refine g_aload_n dX12_alternative_193 rfl ?_
                    refine m_g8 (z := (Pc209 0 8)) rfl dX12_alternative_194 rfl ?_
                    have f212 := b0_8 hBc209
                    refine g_if_ne (tgt := 206) dX12_alternative_197 (by decide) ⟨by have q0 := b0_8 hBc209; omega, by have q0 := b0_8 hBc209; omega⟩ (fun k213 => ?_) (fun k213 => ?_)
                    · refine g_aload_n dX12_alternative_206 rfl ?_
                      refine m_g8 (z := (Pc209 0 8)) rfl dX12_alternative_207 rfl ?_
                      refine g_if_le (tgt := 217) dX12_alternative_210 (by decide) ⟨by have q0 := b0_8 hBc209; omega, by have q0 := b0_8 hBc209; omega⟩ (fun k214 => by exfalso; have q0 := b0_8 hBc209; omega) (fun k214 => ?_)
                      refine g_iconst dX12_alternative_213 ?_
                      refine g_goto (tgt := 218) dX12_alternative_214 (by decide) ?_
                      exact g_retZ dX12_alternative_218 rfl (by decide) (hQ 1 (by decide) _ hBc209 (FrM.c (FrM.c (FrM.c (FrM.c (FrM.c FrM.rf hFc1 rfl) hFc168 rfl) hFc201 rfl) hFc203 rfl) hFc209 rfl) (by have q0 := b0_3 hBc209; have q1 := b0_4 hBc209; have q2 := b0_5 hBc209; omega) (by have q0 := b0_4 hBc209; omega) (by have q0 := b0_8 hBc209; omega) ((LO.fr (F := ([3, 4, 5, 6, 7, 8, 9, 12], [])) iv206 (FrM.c FrM.rf hFc209 rfl) rfl)) (by have q0 := b0_8 hBc209; have q1 := b0_4 hBc209; omega) (by first | (left; have q8 := (rfl : Pc209 0 8 = (Pc209 0 8)); omega) | (right; left; exact ⟨rfl, (SX.fr (F := ([3, 4, 5, 6, 7, 8, 9, 12], [])) iv205 (FrM.c FrM.rf hFc209 rfl) rfl), by have q4 := (rfl : Pc209 0 4 = (Pc209 0 4)); have qp := (pot_fr (F := ([3, 4, 5, 6, 7, 8, 9, 12], [])) (FrM.c FrM.rf hFc209 rfl) rfl : pot Pc209 = pot Pc203); omega⟩) | (right; right; exact ⟨rfl, hNONE, by have q4 := (rfl : Pc209 0 4 = (Pc209 0 4)); have qp := (pot_fr (F := ([3, 4, 5, 6, 7, 8, 9, 12], [])) (FrM.c FrM.rf hFc209 rfl) rfl : pot Pc209 = pot Pc203); omega⟩) | exact hrs9.elim Or.inl (fun h => Or.inr (Or.inl ⟨rfl, h⟩))))
                    · refine g_aload_n dX12_alternative_200 rfl ?_
                      refine g_iload_n dX12_alternative_201 rfl ?_
                      refine g_iconst dX12_alternative_202 ?_
                      have hlo := (LO.fr (F := ([3, 4, 5, 6, 7, 8, 9, 12], [])) iv206 (FrM.c FrM.rf hFc209 rfl) rfl)
                      have hq4 := b0_4 hB
                      have hq1 := pot_c Pc209
                      have hq2 := (pot_fr (F := ([3, 4, 5, 6, 7, 8, 9, 12], [])) (FrM.c FrM.rf hFc209 rfl) rfl : pot Pc209 = pot Pc203)
                      have hq3 := b0_4 hBc209
                      have hq6 := (((hFc209.1 36 rfl).trans rfl) : Pc209 0 36 = (Pc203 0 36))
                      refine g_vV (av := [vI rc172, vI 0]) (o := 0) (st := []) (m_X12_fieldBegins G Pc209 (f) rc172 0 ⟨by omega, by omega⟩ (by decide) hBc209 ((SX.fr (F := ([3, 4, 5, 6, 7, 8, 9, 12], [])) iv205 (FrM.c FrM.rf hFc209 rfl) rfl)) (by rw [show Pc209 0 37 = _ from ((hFc209.1 37 rfl).trans ((hFc203.1 37 rfl).trans ((hFc201.1 37 rfl).trans ((hFc168.1 37 rfl).trans ((hFc1.1 37 rfl).trans rfl))))), show Pc209 5 (P 0 37) = _ from ((congrFun (hFc209.2 5 rfl rfl) _).trans ((congrFun (hFc203.2 5 rfl rfl) _).trans ((congrFun (hFc201.2 5 rfl rfl) _).trans ((congrFun (hFc168.2 5 rfl rfl) _).trans ((congrFun (hFc1.2 5 rfl rfl) _).trans rfl)))))]; omega) (by rw [show Pc209 0 37 = _ from ((hFc209.1 37 rfl).trans ((hFc203.1 37 rfl).trans ((hFc201.1 37 rfl).trans ((hFc168.1 37 rfl).trans ((hFc1.1 37 rfl).trans rfl))))), show Pc209 7 ((24 * (P 0 37)) + rc172) = _ from ((congrFun (hFc209.2 7 rfl rfl) _).trans ((congrFun (hFc203.2 7 rfl rfl) _).trans ((congrFun (hFc201.2 7 rfl rfl) _).trans ((congrFun (hFc168.2 7 rfl rfl) _).trans ((congrFun (hFc1.2 7 rfl rfl) _).trans rfl)))))]; omega) (by rw [show Pc209 0 37 = _ from ((hFc209.1 37 rfl).trans ((hFc203.1 37 rfl).trans ((hFc201.1 37 rfl).trans ((hFc168.1 37 rfl).trans ((hFc1.1 37 rfl).trans rfl))))), show Pc209 6 ((24 * (P 0 37)) + rc172) = _ from ((congrFun (hFc209.2 6 rfl rfl) _).trans ((congrFun (hFc203.2 6 rfl rfl) _).trans ((congrFun (hFc201.2 6 rfl rfl) _).trans ((congrFun (hFc168.2 6 rfl rfl) _).trans ((congrFun (hFc1.2 6 rfl rfl) _).trans rfl))))), show Pc209 0 43 = _ from ((hFc209.1 43 rfl).trans ((hFc203.1 43 rfl).trans ((hFc201.1 43 rfl).trans ((hFc168.1 43 rfl).trans ((hFc1.1 43 rfl).trans rfl)))))]; omega) (by have q0 := (((hFc209.1 36 rfl).trans rfl) : Pc209 0 36 = (Pc203 0 36)); have q1 := b0_36 hBc203; omega) (CF.fr (F := ([3, 4, 5, 6, 7, 8, 9, 12, 36], [19, 20, 21])) v_CF (FrM.c (FrM.c (FrM.c (FrM.c (FrM.c FrM.rf hFc1 rfl) hFc168 rfl) hFc201 rfl) hFc203 rfl) hFc209 rfl) rfl) _ (fun Pc215 hBc215 hFc215 gc215_lo gc215_sx gc215_pt => ⟨rfl, ?_⟩)) cf_X12_fieldBegins t_1803 rfl (by decide) rfl rfl rfl (Nat.le_of_ble_eq_true rfl) (by decide) rfl dX12_alternative_203
                      have z216 := (pot_fr (F := ([3, 4, 5, 6, 7, 8, 9, 12], [])) (FrM.c FrM.rf hFc209 rfl) rfl : pot Pc209 = pot Pc203)
                      have iv217 : SX f 0 Pc215 := gc215_sx
                      have iv218 : LO P Pc215 := hlo.trans gc215_lo
                      refine g_aload_n dX12_alternative_206 rfl ?_
                      refine m_g8 (z := (Pc209 0 8)) rfl dX12_alternative_207 ((hFc215.1 8 rfl).trans rfl) ?_
                      refine g_if_le (tgt := 217) dX12_alternative_210 (by decide) ⟨by have q0 := b0_8 hBc209; omega, by have q0 := b0_8 hBc209; omega⟩ (fun k219 => ?_) (fun k219 => by exfalso; have q0 := b0_8 hBc209; omega)
                      refine g_iconst dX12_alternative_217 ?_
                      exact g_retZ dX12_alternative_218 rfl (by decide) (hQ 0 (by decide) _ hBc215 (FrM.c (FrM.c (FrM.c (FrM.c (FrM.c (FrM.c FrM.rf hFc1 rfl) hFc168 rfl) hFc201 rfl) hFc203 rfl) hFc209 rfl) hFc215 rfl) (by have q0 := (((hFc215.1 3 rfl).trans rfl) : Pc215 0 3 = (Pc209 0 3)); have q1 := b0_3 hBc209; have q2 := (((hFc215.1 4 rfl).trans rfl) : Pc215 0 4 = (Pc209 0 4)); have q3 := b0_4 hBc209; have q4 := (((hFc215.1 5 rfl).trans rfl) : Pc215 0 5 = (Pc209 0 5)); have q5 := b0_5 hBc209; omega) (by have q0 := (((hFc215.1 4 rfl).trans rfl) : Pc215 0 4 = (Pc209 0 4)); have q1 := b0_4 hBc209; omega) (by have q0 := (((hFc215.1 8 rfl).trans rfl) : Pc215 0 8 = (Pc209 0 8)); have q1 := b0_8 hBc209; omega) (iv218) (by have q0 := (((hFc215.1 8 rfl).trans rfl) : Pc215 0 8 = (Pc209 0 8)); have q1 := b0_8 hBc209; have q2 := (((hFc215.1 4 rfl).trans rfl) : Pc215 0 4 = (Pc209 0 4)); have q3 := b0_4 hBc209; omega) (by first | (left; have q8 := (((hFc215.1 8 rfl).trans rfl) : Pc215 0 8 = (Pc209 0 8)); omega) | (right; left; exact ⟨rfl, hNONE, by have q4 := (((hFc215.1 4 rfl).trans rfl) : Pc215 0 4 = (Pc209 0 4)); have qp := trivial; omega⟩) | (right; right; exact ⟨rfl, iv217, by have q4 := (((hFc215.1 4 rfl).trans rfl) : Pc215 0 4 = (Pc209 0 4)); have qp := trivial; omega⟩) | exact hrs9.elim Or.inl (fun h => Or.inr (Or.inl ⟨rfl, h⟩))))
                  · refine g_iconst dX12_alternative_185 ?_
                    exact g_retZ dX12_alternative_186 rfl (by decide) (hQ 1 (by decide) _ hBc203 (FrM.c (FrM.c (FrM.c (FrM.c FrM.rf hFc1 rfl) hFc168 rfl) hFc201 rfl) hFc203 rfl) (by have q0 := (((hFc203.1 3 rfl).trans rfl) : Pc203 0 3 = (Pc201 0 3)); have q1 := b0_3 hBc201; have q2 := (((hFc203.1 4 rfl).trans rfl) : Pc203 0 4 = (Pc201 0 4)); have q3 := b0_4 hBc201; have q4 := (((hFc203.1 5 rfl).trans rfl) : Pc203 0 5 = (Pc201 0 5)); have q5 := b0_5 hBc201; omega) (by have q0 := (((hFc203.1 4 rfl).trans rfl) : Pc203 0 4 = (Pc201 0 4)); have q1 := b0_4 hBc201; omega) (by have q0 := (((hFc203.1 8 rfl).trans ((hFc201.1 8 rfl).trans rfl)) : Pc203 0 8 = (Pc168 0 8)); have q1 := b0_8 hBc168; omega) (iv206) (by have q0 := (((hFc203.1 8 rfl).trans ((hFc201.1 8 rfl).trans rfl)) : Pc203 0 8 = (Pc168 0 8)); have q1 := b0_8 hBc168; have q2 := (((hFc203.1 4 rfl).trans rfl) : Pc203 0 4 = (Pc201 0 4)); have q3 := b0_4 hBc201; omega) (by first | (left; have q8 := (((hFc203.1 8 rfl).trans ((hFc201.1 8 rfl).trans rfl)) : Pc203 0 8 = (Pc168 0 8)); omega) | (right; left; exact ⟨rfl, iv205, by have q4 := (((hFc203.1 4 rfl).trans rfl) : Pc203 0 4 = (Pc201 0 4)); have qp := trivial; omega⟩) | (right; right; exact ⟨rfl, hNONE, by have q4 := (((hFc203.1 4 rfl).trans rfl) : Pc203 0 4 = (Pc201 0 4)); have qp := trivial; omega⟩) | exact hrs9.elim Or.inl (fun h => Or.inr (Or.inl ⟨rfl, h⟩))))
                · refine g_aload_n dX12_alternative_139 rfl ?_
                  refine g_iconst dX12_alternative_140 ?_
                  refine g_aload_n dX12_alternative_141 rfl ?_
                  refine m_g4 (z := (P 0 4)) rfl dX12_alternative_142 ((hFc168.1 4 rfl).trans ((hFc1.1 4 rfl).trans rfl)) ?_
                  refine g_vV (av := [vI 3, vI (P 0 4)]) (o := 0) (st := []) (m_X12_blame G Pc168 3 (P 0 4) (by decide) ⟨by have q0 := b0_4 hB; omega, by have q0 := b0_4 hB; omega⟩ hBc168  _ (fun Pc220 hBc220 hFc220 gc220_f gc220_pe => ⟨rfl, ?_⟩)) cf_X12_blame t_1701 rfl (by decide) rfl rfl rfl (Nat.le_of_ble_eq_true rfl) (by decide) rfl dX12_alternative_145
                  refine g_aload_n dX12_alternative_148 rfl ?_
                  refine m_g8 (z := (Pc220 0 8)) rfl dX12_alternative_149 rfl ?_
                  have f221 := b0_8 hBc220
                  refine g_if_le (tgt := 157) dX12_alternative_152 (by decide) ⟨by have q0 := b0_8 hBc220; omega, by have q0 := b0_8 hBc220; omega⟩ (fun k222 => ?_) (fun k222 => ?_)
                  · refine g_aload_n dX12_alternative_157 rfl ?_
                    refine g_vV (av := []) (o := 0) (st := []) (m_X12_ahead G Pc220  hBc220  _ (fun Pc223 hBc223 hFc223 gc223_lx gc223_nx => ⟨rfl, ?_⟩)) cf_X12_ahead t_1683 rfl (by decide) rfl rfl rfl (Nat.le_of_ble_eq_true rfl) (by decide) rfl dX12_alternative_158
                    have z224 : Pc220 0 5 = (P 0 5) := ((hFc220.1 5 rfl).trans ((hFc168.1 5 rfl).trans ((hFc1.1 5 rfl).trans rfl)))
                    refine g_aload_n dX12_alternative_161 rfl ?_
                    refine g_iconst dX12_alternative_162 ?_
                    refine g_iload_n dX12_alternative_163 rfl ?_
                    refine g_iconst dX12_alternative_164 ?_
                    have hq4 := b0_4 hB
                    have hsx := (SX.fr (F := ([3, 4, 5, 6, 7, 8, 9, 12], [])) ivI_SX0 (FrM.c (FrM.c (FrM.c (FrM.c FrM.rf hFc1 rfl) hFc168 rfl) hFc220 rfl) hFc223 rfl) rfl)
                    have hlo := (LO.fr (F := ([3, 4, 5, 6, 7, 8, 9, 12], [])) ivI_LO (FrM.c (FrM.c (FrM.c (FrM.c FrM.rf hFc1 rfl) hFc168 rfl) hFc220 rfl) hFc223 rfl) rfl)
                    have hb9 := hBc223
                    have hq1 := pot_c Pc223
                    have hq2 := (pot_fr (F := ([3, 4, 5, 6, 7, 8, 9, 12], [])) (FrM.c (FrM.c (FrM.c (FrM.c FrM.rf hFc1 rfl) hFc168 rfl) hFc220 rfl) hFc223 rfl) rfl : pot Pc223 = pot P)
                    have hq3 := b0_4 hBc223
                    refine g_vV (av := [vI 2, vI rc172, vI 0]) (o := 0) (st := []) (m_X12_emits G Pc223 2 rc172 0 (by decide) ⟨by omega, by omega⟩ (by decide) hBc223 (by have q0 := (((hFc223.1 36 rfl).trans ((hFc220.1 36 rfl).trans ((hFc168.1 36 rfl).trans ((hFc1.1 36 rfl).trans rfl)))) : Pc223 0 36 = (P 0 36)); have q1 := b0_36 hB; omega) _ (fun Pc225 hBc225 hFc225 gc225_o gc225_e => ⟨rfl, ?_⟩)) cf_X12_emits t_1788 rfl (by decide) rfl rfl rfl (Nat.le_of_ble_eq_true rfl) (by decide) rfl dX12_alternative_165
                    have z226 : Pc223 0 36 = (P 0 36) := ((hFc223.1 36 rfl).trans ((hFc220.1 36 rfl).trans ((hFc168.1 36 rfl).trans ((hFc1.1 36 rfl).trans rfl))))
                    have hpe := pot_em gc225_e hFc225
                    have iv227 : SX f 1 Pc225 := hsx.leaf hb9 gc225_e hFc225 ⟨by omega, by omega⟩
                    have iv228 : LO P Pc225 := hlo.trans (gc225_e.lo hFc225 rfl (by omega))
                    refine g_aload_n dX12_alternative_168 rfl ?_
                    refine m_g19 rfl dX12_alternative_169 ?_
                    refine g_bipush dX12_alternative_172 (by decide) ?_
                    refine g_aload_n dX12_alternative_174 rfl ?_
                    refine m_g37 (z := (P 0 37)) rfl dX12_alternative_175 ((hFc225.1 37 rfl).trans ((hFc223.1 37 rfl).trans ((hFc220.1 37 rfl).trans ((hFc168.1 37 rfl).trans ((hFc1.1 37 rfl).trans rfl))))) ?_
                    refine g_imul dX12_alternative_178 ?_
                    refine g_iload_n dX12_alternative_179 rfl ?_
                    refine g_iadd dX12_alternative_180 ?_
                    refine m_l7 (z := (P 7 ((24 * (P 0 37)) + rc172))) dX12_alternative_181 ⟨by have q0 := b0_37 hB; omega, by have q0 := b0_37 hB; omega⟩ ((congrFun (hFc225.2 7 rfl rfl) _).trans ((congrFun (hFc223.2 7 rfl rfl) _).trans ((congrFun (hFc220.2 7 rfl rfl) _).trans ((congrFun (hFc168.2 7 rfl rfl) _).trans ((congrFun (hFc1.2 7 rfl rfl) _).trans rfl))))) ?_
                    have f229 := bl_7 (k := ((24 * (P 0 37)) + rc172)) hB
                    refine g_if_ne (tgt := 187) dX12_alternative_182 (by decide) ⟨by have q0 := bl_7 (k := ((24 * (P 0 37)) + rc172)) hB; omega, by have q0 := bl_7 (k := ((24 * (P 0 37)) + rc172)) hB; omega⟩ (fun k230 => ?_) (fun k230 => ?_)
                    · refine g_aload_n dX12_alternative_187 rfl ?_
                      refine g_bipush dX12_alternative_188 (by decide) ?_
                      refine g_vV (av := [vI 40]) (o := 0) (st := []) (m_X12_must G Pc225 40 (by decide) hBc225 (by have q0 := (((hFc225.1 3 rfl).trans rfl) : Pc225 0 3 = (Pc223 0 3)); have q1 := b0_3 hBc223; have q2 := (((hFc225.1 4 rfl).trans rfl) : Pc225 0 4 = (Pc223 0 4)); have q3 := b0_4 hBc223; have q4 := (((hFc225.1 5 rfl).trans rfl) : Pc225 0 5 = (Pc223 0 5)); have q5 := b0_5 hBc223; omega) _ (fun Pc231 hBc231 hFc231 gc231_lx gc231_mo gc231_pe gc231_ad => ⟨rfl, ?_⟩)) cf_X12_must t_1768 rfl (by decide) rfl rfl rfl (Nat.le_of_ble_eq_true rfl) (by decide) rfl dX12_alternative_190
                      have z232 : Pc225 0 4 = (Pc223 0 4) := ((hFc225.1 4 rfl).trans rfl)
                      have z233 : Pc225 0 8 = (Pc220 0 8) := ((hFc225.1 8 rfl).trans ((hFc223.1 8 rfl).trans rfl))
                      refine g_aload_n dX12_alternative_193 rfl ?_
                      refine m_g8 (z := (Pc231 0 8)) rfl dX12_alternative_194 rfl ?_
                      have f234 := b0_8 hBc231
                      refine g_if_ne (tgt := 206) dX12_alternative_197 (by decide) ⟨by have q0 := b0_8 hBc231; omega, by have q0 := b0_8 hBc231; omega⟩ (fun k235 => ?_) (fun k235 => ?_)
                      · refine g_aload_n dX12_alternative_206 rfl ?_
                        refine m_g8 (z := (Pc231 0 8)) rfl dX12_alternative_207 rfl ?_
                        refine g_if_le (tgt := 217) dX12_alternative_210 (by decide) ⟨by have q0 := b0_8 hBc231; omega, by have q0 := b0_8 hBc231; omega⟩ (fun k236 => by exfalso; have q0 := b0_8 hBc231; omega) (fun k236 => ?_)
                        refine g_iconst dX12_alternative_213 ?_
                        refine g_goto (tgt := 218) dX12_alternative_214 (by decide) ?_
                        exact g_retZ dX12_alternative_218 rfl (by decide) (hQ 1 (by decide) _ hBc231 (FrM.c (FrM.c (FrM.c (FrM.c (FrM.c (FrM.c FrM.rf hFc1 rfl) hFc168 rfl) hFc220 rfl) hFc223 rfl) hFc225 rfl) hFc231 rfl) (by have q0 := b0_3 hBc231; have q1 := b0_4 hBc231; have q2 := b0_5 hBc231; omega) (by have q0 := b0_4 hBc231; omega) (by have q0 := b0_8 hBc231; omega) ((LO.fr (F := ([3, 4, 5, 6, 7, 8, 9, 12], [])) iv228 (FrM.c FrM.rf hFc231 rfl) rfl)) (by have q0 := b0_8 hBc231; have q1 := b0_4 hBc231; omega) (by first | (left; have q8 := (rfl : Pc231 0 8 = (Pc231 0 8)); omega) | (right; left; exact ⟨rfl, (SX.fr (F := ([3, 4, 5, 6, 7, 8, 9, 12], [])) iv227 (FrM.c FrM.rf hFc231 rfl) rfl), by have q4 := (rfl : Pc231 0 4 = (Pc231 0 4)); have qp := (pot_fr (F := ([3, 4, 5, 6, 7, 8, 9, 12], [])) (FrM.c FrM.rf hFc231 rfl) rfl : pot Pc231 = pot Pc225); omega⟩) | (right; right; exact ⟨rfl, hNONE, by have q4 := (rfl : Pc231 0 4 = (Pc231 0 4)); have qp := (pot_fr (F := ([3, 4, 5, 6, 7, 8, 9, 12], [])) (FrM.c FrM.rf hFc231 rfl) rfl : pot Pc231 = pot Pc225); omega⟩) | exact hrs9.elim Or.inl (fun h => Or.inr (Or.inl ⟨rfl, h⟩))))
                      · refine g_aload_n dX12_alternative_200 rfl ?_
                        refine g_iload_n dX12_alternative_201 rfl ?_
                        refine g_iconst dX12_alternative_202 ?_
                        have hlo := (LO.fr (F := ([3, 4, 5, 6, 7, 8, 9, 12], [])) iv228 (FrM.c FrM.rf hFc231 rfl) rfl)
                        have hq4 := b0_4 hB
                        have hq1 := pot_c Pc231
                        have hq2 := (pot_fr (F := ([3, 4, 5, 6, 7, 8, 9, 12], [])) (FrM.c FrM.rf hFc231 rfl) rfl : pot Pc231 = pot Pc225)
                        have hq3 := b0_4 hBc231
                        have hq6 := (((hFc231.1 36 rfl).trans rfl) : Pc231 0 36 = (Pc225 0 36))
                        refine g_vV (av := [vI rc172, vI 0]) (o := 0) (st := []) (m_X12_fieldBegins G Pc231 (f) rc172 0 ⟨by omega, by omega⟩ (by decide) hBc231 ((SX.fr (F := ([3, 4, 5, 6, 7, 8, 9, 12], [])) iv227 (FrM.c FrM.rf hFc231 rfl) rfl)) (by rw [show Pc231 0 37 = _ from ((hFc231.1 37 rfl).trans ((hFc225.1 37 rfl).trans ((hFc223.1 37 rfl).trans ((hFc220.1 37 rfl).trans ((hFc168.1 37 rfl).trans ((hFc1.1 37 rfl).trans rfl)))))), show Pc231 5 (P 0 37) = _ from ((congrFun (hFc231.2 5 rfl rfl) _).trans ((congrFun (hFc225.2 5 rfl rfl) _).trans ((congrFun (hFc223.2 5 rfl rfl) _).trans ((congrFun (hFc220.2 5 rfl rfl) _).trans ((congrFun (hFc168.2 5 rfl rfl) _).trans ((congrFun (hFc1.2 5 rfl rfl) _).trans rfl))))))]; omega) (by rw [show Pc231 0 37 = _ from ((hFc231.1 37 rfl).trans ((hFc225.1 37 rfl).trans ((hFc223.1 37 rfl).trans ((hFc220.1 37 rfl).trans ((hFc168.1 37 rfl).trans ((hFc1.1 37 rfl).trans rfl)))))), show Pc231 7 ((24 * (P 0 37)) + rc172) = _ from ((congrFun (hFc231.2 7 rfl rfl) _).trans ((congrFun (hFc225.2 7 rfl rfl) _).trans ((congrFun (hFc223.2 7 rfl rfl) _).trans ((congrFun (hFc220.2 7 rfl rfl) _).trans ((congrFun (hFc168.2 7 rfl rfl) _).trans ((congrFun (hFc1.2 7 rfl rfl) _).trans rfl))))))]; omega) (by rw [show Pc231 0 37 = _ from ((hFc231.1 37 rfl).trans ((hFc225.1 37 rfl).trans ((hFc223.1 37 rfl).trans ((hFc220.1 37 rfl).trans ((hFc168.1 37 rfl).trans ((hFc1.1 37 rfl).trans rfl)))))), show Pc231 6 ((24 * (P 0 37)) + rc172) = _ from ((congrFun (hFc231.2 6 rfl rfl) _).trans ((congrFun (hFc225.2 6 rfl rfl) _).trans ((congrFun (hFc223.2 6 rfl rfl) _).trans ((congrFun (hFc220.2 6 rfl rfl) _).trans ((congrFun (hFc168.2 6 rfl rfl) _).trans ((congrFun (hFc1.2 6 rfl rfl) _).trans rfl)))))), show Pc231 0 43 = _ from ((hFc231.1 43 rfl).trans ((hFc225.1 43 rfl).trans ((hFc223.1 43 rfl).trans ((hFc220.1 43 rfl).trans ((hFc168.1 43 rfl).trans ((hFc1.1 43 rfl).trans rfl))))))]; omega) (by have q0 := (((hFc231.1 36 rfl).trans rfl) : Pc231 0 36 = (Pc225 0 36)); have q1 := b0_36 hBc225; omega) (CF.fr (F := ([3, 4, 5, 6, 7, 8, 9, 12, 36], [19, 20, 21])) v_CF (FrM.c (FrM.c (FrM.c (FrM.c (FrM.c (FrM.c FrM.rf hFc1 rfl) hFc168 rfl) hFc220 rfl) hFc223 rfl) hFc225 rfl) hFc231 rfl) rfl) _ (fun Pc237 hBc237 hFc237 gc237_lo gc237_sx gc237_pt => ⟨rfl, ?_⟩)) cf_X12_fieldBegins t_1803 rfl (by decide) rfl rfl rfl (Nat.le_of_ble_eq_true rfl) (by decide) rfl dX12_alternative_203
                        have z238 := (pot_fr (F := ([3, 4, 5, 6, 7, 8, 9, 12], [])) (FrM.c FrM.rf hFc231 rfl) rfl : pot Pc231 = pot Pc225)
                        have iv239 : SX f 0 Pc237 := gc237_sx
                        have iv240 : LO P Pc237 := hlo.trans gc237_lo
                        refine g_aload_n dX12_alternative_206 rfl ?_
                        refine m_g8 (z := (Pc231 0 8)) rfl dX12_alternative_207 ((hFc237.1 8 rfl).trans rfl) ?_
                        refine g_if_le (tgt := 217) dX12_alternative_210 (by decide) ⟨by have q0 := b0_8 hBc231; omega, by have q0 := b0_8 hBc231; omega⟩ (fun k241 => ?_) (fun k241 => by exfalso; have q0 := b0_8 hBc231; omega)
                        refine g_iconst dX12_alternative_217 ?_
                        exact g_retZ dX12_alternative_218 rfl (by decide) (hQ 0 (by decide) _ hBc237 (FrM.c (FrM.c (FrM.c (FrM.c (FrM.c (FrM.c (FrM.c FrM.rf hFc1 rfl) hFc168 rfl) hFc220 rfl) hFc223 rfl) hFc225 rfl) hFc231 rfl) hFc237 rfl) (by have q0 := (((hFc237.1 3 rfl).trans rfl) : Pc237 0 3 = (Pc231 0 3)); have q1 := b0_3 hBc231; have q2 := (((hFc237.1 4 rfl).trans rfl) : Pc237 0 4 = (Pc231 0 4)); have q3 := b0_4 hBc231; have q4 := (((hFc237.1 5 rfl).trans rfl) : Pc237 0 5 = (Pc231 0 5)); have q5 := b0_5 hBc231; omega) (by have q0 := (((hFc237.1 4 rfl).trans rfl) : Pc237 0 4 = (Pc231 0 4)); have q1 := b0_4 hBc231; omega) (by have q0 := (((hFc237.1 8 rfl).trans rfl) : Pc237 0 8 = (Pc231 0 8)); have q1 := b0_8 hBc231; omega) (iv240) (by have q0 := (((hFc237.1 8 rfl).trans rfl) : Pc237 0 8 = (Pc231 0 8)); have q1 := b0_8 hBc231; have q2 := (((hFc237.1 4 rfl).trans rfl) : Pc237 0 4 = (Pc231 0 4)); have q3 := b0_4 hBc231; omega) (by first | (left; have q8 := (((hFc237.1 8 rfl).trans rfl) : Pc237 0 8 = (Pc231 0 8)); omega) | (right; left; exact ⟨rfl, hNONE, by have q4 := (((hFc237.1 4 rfl).trans rfl) : Pc237 0 4 = (Pc231 0 4)); have qp := trivial; omega⟩) | (right; right; exact ⟨rfl, iv239, by have q4 := (((hFc237.1 4 rfl).trans rfl) : Pc237 0 4 = (Pc231 0 4)); have qp := trivial; omega⟩) | exact hrs9.elim Or.inl (fun h => Or.inr (Or.inl ⟨rfl, h⟩))))
                    · refine g_iconst dX12_alternative_185 ?_
                      exact g_retZ dX12_alternative_186 rfl (by decide) (hQ 1 (by decide) _ hBc225 (FrM.c (FrM.c (FrM.c (FrM.c (FrM.c FrM.rf hFc1 rfl) hFc168 rfl) hFc220 rfl) hFc223 rfl) hFc225 rfl) (by have q0 := (((hFc225.1 3 rfl).trans rfl) : Pc225 0 3 = (Pc223 0 3)); have q1 := b0_3 hBc223; have q2 := (((hFc225.1 4 rfl).trans rfl) : Pc225 0 4 = (Pc223 0 4)); have q3 := b0_4 hBc223; have q4 := (((hFc225.1 5 rfl).trans rfl) : Pc225 0 5 = (Pc223 0 5)); have q5 := b0_5 hBc223; omega) (by have q0 := (((hFc225.1 4 rfl).trans rfl) : Pc225 0 4 = (Pc223 0 4)); have q1 := b0_4 hBc223; omega) (by have q0 := (((hFc225.1 8 rfl).trans ((hFc223.1 8 rfl).trans rfl)) : Pc225 0 8 = (Pc220 0 8)); have q1 := b0_8 hBc220; omega) (iv228) (by have q0 := (((hFc225.1 8 rfl).trans ((hFc223.1 8 rfl).trans rfl)) : Pc225 0 8 = (Pc220 0 8)); have q1 := b0_8 hBc220; have q2 := (((hFc225.1 4 rfl).trans rfl) : Pc225 0 4 = (Pc223 0 4)); have q3 := b0_4 hBc223; omega) (by first | (left; have q8 := (((hFc225.1 8 rfl).trans ((hFc223.1 8 rfl).trans rfl)) : Pc225 0 8 = (Pc220 0 8)); omega) | (right; left; exact ⟨rfl, iv227, by have q4 := (((hFc225.1 4 rfl).trans rfl) : Pc225 0 4 = (Pc223 0 4)); have qp := trivial; omega⟩) | (right; right; exact ⟨rfl, hNONE, by have q4 := (((hFc225.1 4 rfl).trans rfl) : Pc225 0 4 = (Pc223 0 4)); have qp := trivial; omega⟩) | exact hrs9.elim Or.inl (fun h => Or.inr (Or.inl ⟨rfl, h⟩))))
                  · refine g_iconst dX12_alternative_155 ?_
                    exact g_retZ dX12_alternative_156 rfl (by decide) (hQ 1 (by decide) _ hBc220 (FrM.c (FrM.c (FrM.c FrM.rf hFc1 rfl) hFc168 rfl) hFc220 rfl) (by have q0 := (((hFc220.1 3 rfl).trans ((hFc168.1 3 rfl).trans ((hFc1.1 3 rfl).trans rfl))) : Pc220 0 3 = (P 0 3)); have q1 := b0_3 hB; have q2 := (((hFc220.1 4 rfl).trans ((hFc168.1 4 rfl).trans ((hFc1.1 4 rfl).trans rfl))) : Pc220 0 4 = (P 0 4)); have q3 := b0_4 hB; have q4 := (((hFc220.1 5 rfl).trans ((hFc168.1 5 rfl).trans ((hFc1.1 5 rfl).trans rfl))) : Pc220 0 5 = (P 0 5)); have q5 := b0_5 hB; omega) (by have q0 := (((hFc220.1 4 rfl).trans ((hFc168.1 4 rfl).trans ((hFc1.1 4 rfl).trans rfl))) : Pc220 0 4 = (P 0 4)); have q1 := b0_4 hB; omega) (by have q0 := b0_8 hBc220; omega) ((LO.fr (F := ([8, 9], [])) ivI_LO (FrM.c (FrM.c (FrM.c FrM.rf hFc1 rfl) hFc168 rfl) hFc220 rfl) rfl)) (by have q0 := b0_8 hBc220; have q1 := (((hFc220.1 4 rfl).trans ((hFc168.1 4 rfl).trans ((hFc1.1 4 rfl).trans rfl))) : Pc220 0 4 = (P 0 4)); have q2 := b0_4 hB; omega) (by first | (left; have q8 := (rfl : Pc220 0 8 = (Pc220 0 8)); omega) | (right; left; exact ⟨rfl, hNONE, by have q4 := (((hFc220.1 4 rfl).trans ((hFc168.1 4 rfl).trans ((hFc1.1 4 rfl).trans rfl))) : Pc220 0 4 = (P 0 4)); have qp := (pot_fr (F := ([8, 9], [])) (FrM.c (FrM.c (FrM.c FrM.rf hFc1 rfl) hFc168 rfl) hFc220 rfl) rfl : pot Pc220 = pot P); omega⟩) | (right; right; exact ⟨rfl, (SX.fr (F := ([8, 9], [])) ivI_SX0 (FrM.c (FrM.c (FrM.c FrM.rf hFc1 rfl) hFc168 rfl) hFc220 rfl) rfl), by have q4 := (((hFc220.1 4 rfl).trans ((hFc168.1 4 rfl).trans ((hFc1.1 4 rfl).trans rfl))) : Pc220 0 4 = (P 0 4)); have qp := (pot_fr (F := ([8, 9], [])) (FrM.c (FrM.c (FrM.c FrM.rf hFc1 rfl) hFc168 rfl) hFc220 rfl) rfl : pot Pc220 = pot P); omega⟩) | exact hrs9.elim Or.inl (fun h => Or.inr (Or.inl ⟨rfl, h⟩))))
            · refine g_iconst dX12_alternative_92 ?_
              refine g_goto (tgt := 108) dX12_alternative_93 (by decide) ?_
              refine g_istore_n (l1 := [(2, vI (-1)), (1, vI (P 24 (P 0 43))), (0, vR 0)]) dX12_alternative_108 (by decide) rfl ?_
              refine g_aload_n dX12_alternative_109 rfl ?_
              refine m_g8 (z := (Pc168 0 8)) rfl dX12_alternative_110 rfl ?_
              refine g_if_ne (tgt := 148) dX12_alternative_113 (by decide) ⟨by have q0 := b0_8 hBc168; omega, by have q0 := b0_8 hBc168; omega⟩ (fun k242 => ?_) (fun k242 => by exfalso; have q0 := b0_8 hBc168; omega)
              refine g_aload_n dX12_alternative_148 rfl ?_
              refine m_g8 (z := (Pc168 0 8)) rfl dX12_alternative_149 rfl ?_
              refine g_if_le (tgt := 157) dX12_alternative_152 (by decide) ⟨by have q0 := b0_8 hBc168; omega, by have q0 := b0_8 hBc168; omega⟩ (fun k243 => by exfalso; have q0 := b0_8 hBc168; omega) (fun k243 => ?_)
              refine g_iconst dX12_alternative_155 ?_
              exact g_retZ dX12_alternative_156 rfl (by decide) (hQ 1 (by decide) _ hBc168 (FrM.c (FrM.c FrM.rf hFc1 rfl) hFc168 rfl) (by have q0 := (((hFc168.1 3 rfl).trans ((hFc1.1 3 rfl).trans rfl)) : Pc168 0 3 = (P 0 3)); have q1 := b0_3 hB; have q2 := (((hFc168.1 4 rfl).trans ((hFc1.1 4 rfl).trans rfl)) : Pc168 0 4 = (P 0 4)); have q3 := b0_4 hB; have q4 := (((hFc168.1 5 rfl).trans ((hFc1.1 5 rfl).trans rfl)) : Pc168 0 5 = (P 0 5)); have q5 := b0_5 hB; omega) (by have q0 := (((hFc168.1 4 rfl).trans ((hFc1.1 4 rfl).trans rfl)) : Pc168 0 4 = (P 0 4)); have q1 := b0_4 hB; omega) (by have q0 := b0_8 hBc168; omega) ((LO.fr (F := ([8, 9], [])) ivI_LO (FrM.c (FrM.c FrM.rf hFc1 rfl) hFc168 rfl) rfl)) (by have q0 := b0_8 hBc168; have q1 := (((hFc168.1 4 rfl).trans ((hFc1.1 4 rfl).trans rfl)) : Pc168 0 4 = (P 0 4)); have q2 := b0_4 hB; omega) (by first | (left; have q8 := (rfl : Pc168 0 8 = (Pc168 0 8)); omega) | (right; left; exact ⟨rfl, hNONE, by have q4 := (((hFc168.1 4 rfl).trans ((hFc1.1 4 rfl).trans rfl)) : Pc168 0 4 = (P 0 4)); have qp := (pot_fr (F := ([8, 9], [])) (FrM.c (FrM.c FrM.rf hFc1 rfl) hFc168 rfl) rfl : pot Pc168 = pot P); omega⟩) | (right; right; exact ⟨rfl, (SX.fr (F := ([8, 9], [])) ivI_SX0 (FrM.c (FrM.c FrM.rf hFc1 rfl) hFc168 rfl) rfl), by have q4 := (((hFc168.1 4 rfl).trans ((hFc1.1 4 rfl).trans rfl)) : Pc168 0 4 = (P 0 4)); have qp := (pot_fr (F := ([8, 9], [])) (FrM.c (FrM.c FrM.rf hFc1 rfl) hFc168 rfl) rfl : pot Pc168 = pot P); omega⟩) | exact hrs9.elim Or.inl (fun h => Or.inr (Or.inl ⟨rfl, h⟩))))
      · refine g_aload_n dX12_alternative_51 rfl ?_
        have hlo := (LO.fr (F := ([8, 9], [])) ivI_LO (FrM.c FrM.rf hFc1 rfl) rfl)
        refine g_vV (av := []) (o := 0) (st := []) (m_X12_range G Pc1 (f)  hBc1 (by have q0 := (((hFc1.1 3 rfl).trans rfl) : Pc1 0 3 = (P 0 3)); have q1 := b0_3 hB; have q2 := (((hFc1.1 4 rfl).trans rfl) : Pc1 0 4 = (P 0 4)); have q3 := b0_4 hB; have q4 := (((hFc1.1 5 rfl).trans rfl) : Pc1 0 5 = (P 0 5)); have q5 := b0_5 hB; omega) (by have q0 := (((hFc1.1 4 rfl).trans rfl) : Pc1 0 4 = (P 0 4)); have q1 := b0_4 hB; have q2 := (pot_fr (F := ([8, 9], [])) (FrM.c FrM.rf hFc1 rfl) rfl : pot Pc1 = pot P); omega) ((SX.fr (F := ([8, 9], [])) ivI_SX0 (FrM.c FrM.rf hFc1 rfl) rfl)) _ (fun Pc244 hBc244 hFc244 gc244_lx gc244_mo gc244_pe gc244_lo gc244_sx gc244_ad => ⟨rfl, ?_⟩)) cf_X12_range t_1792 rfl (by decide) rfl rfl rfl (Nat.le_of_ble_eq_true rfl) (by decide) rfl dX12_alternative_52
        have z245 : Pc1 0 4 = (P 0 4) := ((hFc1.1 4 rfl).trans rfl)
        have hrs9 := gc244_sx
        have iv246 : LO P Pc244 := hlo.trans gc244_lo
        refine g_iconst dX12_alternative_55 ?_
        exact g_retZ dX12_alternative_56 rfl (by decide) (hQ 1 (by decide) _ hBc244 (FrM.c (FrM.c FrM.rf hFc1 rfl) hFc244 rfl) (by have q0 := b0_3 hBc244; have q1 := b0_4 hBc244; have q2 := b0_5 hBc244; omega) (by have q0 := b0_4 hBc244; omega) (by have q0 := b0_8 hBc244; omega) (iv246) (by have q0 := b0_8 hBc244; have q1 := b0_4 hBc244; omega) (by first | (left; have q8 := (rfl : Pc244 0 8 = (Pc244 0 8)); omega) | (right; left; exact ⟨rfl, hNONE, by have q4 := (rfl : Pc244 0 4 = (Pc244 0 4)); have qp := trivial; omega⟩) | (right; right; exact ⟨rfl, hNONE, by have q4 := (rfl : Pc244 0 4 = (Pc244 0 4)); have qp := trivial; omega⟩) | exact hrs9.elim Or.inl (fun h => Or.inr (Or.inl ⟨rfl, h⟩))))
    · refine g_aload_n dX12_alternative_23 rfl ?_
      refine g_vV (av := []) (o := 0) (st := []) (m_X12_ahead G Pc1  hBc1  _ (fun Pc247 hBc247 hFc247 gc247_lx gc247_nx => ⟨rfl, ?_⟩)) cf_X12_ahead t_1683 rfl (by decide) rfl rfl rfl (Nat.le_of_ble_eq_true rfl) (by decide) rfl dX12_alternative_24
      have z248 : Pc1 0 5 = (P 0 5) := ((hFc1.1 5 rfl).trans rfl)
      refine g_aload_n dX12_alternative_27 rfl ?_
      refine g_iconst dX12_alternative_28 ?_
      refine g_iconst dX12_alternative_29 ?_
      refine g_iconst dX12_alternative_30 ?_
      have hq4 := b0_4 hB
      have hsx := (SX.fr (F := ([3, 4, 5, 6, 7, 8, 9, 12], [])) ivI_SX0 (FrM.c (FrM.c FrM.rf hFc1 rfl) hFc247 rfl) rfl)
      have hlo := (LO.fr (F := ([3, 4, 5, 6, 7, 8, 9, 12], [])) ivI_LO (FrM.c (FrM.c FrM.rf hFc1 rfl) hFc247 rfl) rfl)
      have hb9 := hBc247
      have hq1 := pot_c Pc247
      have hq2 := (pot_fr (F := ([3, 4, 5, 6, 7, 8, 9, 12], [])) (FrM.c (FrM.c FrM.rf hFc1 rfl) hFc247 rfl) rfl : pot Pc247 = pot P)
      have hq3 := b0_4 hBc247
      refine g_vV (av := [vI 0, vI 0, vI 0]) (o := 0) (st := []) (m_X12_emits G Pc247 0 0 0 (by decide) (by decide) (by decide) hBc247 (by have q0 := (((hFc247.1 36 rfl).trans ((hFc1.1 36 rfl).trans rfl)) : Pc247 0 36 = (P 0 36)); have q1 := b0_36 hB; omega) _ (fun Pc249 hBc249 hFc249 gc249_o gc249_e => ⟨rfl, ?_⟩)) cf_X12_emits t_1788 rfl (by decide) rfl rfl rfl (Nat.le_of_ble_eq_true rfl) (by decide) rfl dX12_alternative_31
      have z250 : Pc247 0 36 = (P 0 36) := ((hFc247.1 36 rfl).trans ((hFc1.1 36 rfl).trans rfl))
      have hpe := pot_em gc249_e hFc249
      have iv251 : SX f 1 Pc249 := hsx.leaf hb9 gc249_e hFc249 ⟨by omega, by omega⟩
      have iv252 : LO P Pc249 := hlo.trans (gc249_e.lo hFc249 rfl (by omega))
      refine g_iconst dX12_alternative_34 ?_
      exact g_retZ dX12_alternative_35 rfl (by decide) (hQ 1 (by decide) _ hBc249 (FrM.c (FrM.c (FrM.c FrM.rf hFc1 rfl) hFc247 rfl) hFc249 rfl) (by have q0 := (((hFc249.1 3 rfl).trans rfl) : Pc249 0 3 = (Pc247 0 3)); have q1 := b0_3 hBc247; have q2 := (((hFc249.1 4 rfl).trans rfl) : Pc249 0 4 = (Pc247 0 4)); have q3 := b0_4 hBc247; have q4 := (((hFc249.1 5 rfl).trans rfl) : Pc249 0 5 = (Pc247 0 5)); have q5 := b0_5 hBc247; omega) (by have q0 := (((hFc249.1 4 rfl).trans rfl) : Pc249 0 4 = (Pc247 0 4)); have q1 := b0_4 hBc247; omega) (by have q0 := (((hFc249.1 8 rfl).trans ((hFc247.1 8 rfl).trans rfl)) : Pc249 0 8 = (Pc1 0 8)); have q1 := b0_8 hBc1; omega) (iv252) (by have q0 := (((hFc249.1 8 rfl).trans ((hFc247.1 8 rfl).trans rfl)) : Pc249 0 8 = (Pc1 0 8)); have q1 := b0_8 hBc1; have q2 := (((hFc249.1 4 rfl).trans rfl) : Pc249 0 4 = (Pc247 0 4)); have q3 := b0_4 hBc247; omega) (by first | (left; have q8 := (((hFc249.1 8 rfl).trans ((hFc247.1 8 rfl).trans rfl)) : Pc249 0 8 = (Pc1 0 8)); omega) | (right; left; exact ⟨rfl, iv251, by have q4 := (((hFc249.1 4 rfl).trans rfl) : Pc249 0 4 = (Pc247 0 4)); have qp := trivial; omega⟩) | (right; right; exact ⟨rfl, hNONE, by have q4 := (((hFc249.1 4 rfl).trans rfl) : Pc249 0 4 = (Pc247 0 4)); have qp := trivial; omega⟩) | exact hrs9.elim Or.inl (fun h => Or.inr (Or.inl ⟨rfl, h⟩))))
  · refine g_iconst dX12_alternative_11 ?_
    exact g_retZ dX12_alternative_12 rfl (by decide) (hQ 1 (by decide) _ hBc1 (FrM.c FrM.rf hFc1 rfl) (by have q0 := (((hFc1.1 3 rfl).trans rfl) : Pc1 0 3 = (P 0 3)); have q1 := b0_3 hB; have q2 := (((hFc1.1 4 rfl).trans rfl) : Pc1 0 4 = (P 0 4)); have q3 := b0_4 hB; have q4 := (((hFc1.1 5 rfl).trans rfl) : Pc1 0 5 = (P 0 5)); have q5 := b0_5 hB; omega) (by have q0 := (((hFc1.1 4 rfl).trans rfl) : Pc1 0 4 = (P 0 4)); have q1 := b0_4 hB; omega) (by have q0 := b0_8 hBc1; omega) ((LO.fr (F := ([8, 9], [])) ivI_LO (FrM.c FrM.rf hFc1 rfl) rfl)) (by have q0 := b0_8 hBc1; have q1 := (((hFc1.1 4 rfl).trans rfl) : Pc1 0 4 = (P 0 4)); have q2 := b0_4 hB; omega) (by first | (left; have q8 := (rfl : Pc1 0 8 = (Pc1 0 8)); omega) | (right; left; exact ⟨rfl, hNONE, by have q4 := (((hFc1.1 4 rfl).trans rfl) : Pc1 0 4 = (P 0 4)); have qp := (pot_fr (F := ([8, 9], [])) (FrM.c FrM.rf hFc1 rfl) rfl : pot Pc1 = pot P); omega⟩) | (right; right; exact ⟨rfl, (SX.fr (F := ([8, 9], [])) ivI_SX0 (FrM.c FrM.rf hFc1 rfl) rfl), by have q4 := (((hFc1.1 4 rfl).trans rfl) : Pc1 0 4 = (P 0 4)); have qp := (pot_fr (F := ([8, 9], [])) (FrM.c FrM.rf hFc1 rfl) rfl : pot Pc1 = pot P); omega⟩) | exact hrs9.elim Or.inl (fun h => Or.inr (Or.inl ⟨rfl, h⟩))))
