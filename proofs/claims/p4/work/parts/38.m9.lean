/-! Contracts of the reference: m9. -/
set_option maxRecDepth 100000 in
set_option maxHeartbeats 4000000 in
theorem m_X12_matchIs (G : GT) (P : PH) (hB : BdM P) (p_lx : (P 0 3 = 0 ∨ P 0 4 + 1 ≤ P 0 5) ∧ P 0 4 ≤ P 0 5) (v_ZC : ZC P) (v_ZI : ZI P) (v_ZS : ZS P) (Q : Option PV → PH → Prop) (hQ : ∀ (P1 : PH) (_ : BdM P1) (_ : FrM ([3, 4, 5, 6, 7, 8, 9, 12, 38], [11, 12]) P P1) (_ : (P1 0 3 = 0 ∨ P1 0 4 + 1 ≤ P1 0 5) ∧ P1 0 4 ≤ P1 0 5) (_ : P 0 4 ≤ P1 0 4) (_ : P 0 8 ≤ 0 ∨ 0 < P1 0 8) (_ : 0 < P1 0 8 ∨ prdU P1 (P 0 37) (P1 11 (P 0 37)).toNat ≤ 20000) (_ : ZC P1) (_ : ZI P1) (_ : ZS P1), Q none P1) : Ct WSM G 4 iX12_matchIs [vR 0] P Q := by
  refine Ct.of (by decide) (l0 := [(0, vR 0)]) rfl (Nat.le_of_ble_eq_true rfl) ?_
  refine g_aload_n dX12_matchIs_0 rfl ?_
  refine g_aload_n dX12_matchIs_1 rfl ?_
  refine m_g38 (z := (P 0 38)) rfl dX12_matchIs_2 rfl ?_
  have f1 := b0_38 hB
  refine g_vI (av := [vI (P 0 38)]) (o := 0) (st := []) (m_X12_isCounted G P (P 0 38) ⟨by have q0 := b0_38 hB; omega, by have q0 := b0_38 hB; omega⟩ hB (by have q0 := b0_38 hB; have q1 := b0_3 hB; have q2 := b0_4 hB; have q3 := b0_5 hB; omega) _ (fun rc2 hc2 Pc2 hBc2 hFc2 gc2_lx gc2_mo gc2_pe gc2_c gc2_ad => ⟨rc2, rfl, ?_⟩)) cf_X12_isCounted t_1714 rfl (by decide) rfl rfl rfl (Nat.le_of_ble_eq_true rfl) (by decide) rfl dX12_matchIs_5
  refine g_if_ne (tgt := 12) dX12_matchIs_8 (by decide) ⟨by omega, by omega⟩ (fun k3 => ?_) (fun k3 => ?_)
  · have h110 := (v_ZI (by omega)).1
    have h130 := (v_ZI (by omega)).2
    refine g_aload_n dX12_matchIs_12 rfl ?_
    refine g_iconst dX12_matchIs_13 ?_
    refine m_p38 rfl dX12_matchIs_14 (by decide) ?_
    have hB4 := bs_38 (z := 1) hBc2 (by decide)
    have iv5 : ZI (up Pc2 0 38 1) := fun h => by have q := (up_same : (up Pc2 0 38 1) 0 38 = 1); omega
    refine g_iconst dX12_matchIs_17 ?_
    refine g_istore_n (l1 := [(1, vI 1), (0, vR 0)]) dX12_matchIs_18 (by decide) rfl ?_
    refine g_aload_n dX12_matchIs_19 rfl ?_
    refine g_vV (av := []) (o := 0) (st := []) (m_X12_lex G (up Pc2 0 38 1)  hB4  _ (fun Pc6 hBc6 hFc6 gc6_pe => ⟨rfl, ?_⟩)) cf_X12_lex t_1697 rfl (by decide) rfl rfl rfl (Nat.le_of_ble_eq_true rfl) (by decide) rfl dX12_matchIs_20
    have z7 : (up Pc2 0 38 1) 0 8 = (Pc2 0 8) := ((up_k (by decide)).trans rfl)
    refine g_aload_n dX12_matchIs_23 rfl ?_
    refine m_g8 (z := (Pc6 0 8)) rfl dX12_matchIs_24 rfl ?_
    have f8 := b0_8 hBc6
    refine g_if_ne (tgt := 46) dX12_matchIs_27 (by decide) ⟨by have q0 := b0_8 hBc6; omega, by have q0 := b0_8 hBc6; omega⟩ (fun k9 => ?_) (fun k9 => ?_)
    · have L46_9 : ∀ (n46_9 : Nat) (i46_0_9 : 1 = prdU Pc6 (P 0 37) (Pc6 11 (P 0 37)).toNat) (hm46_9 : (1601 - Pc6 0 4 : Int).toNat < n46_9), Go WSM G 4 iX12_matchIs 46 [(0, vR 0), (1, vI 1)] [] Pc6 Q := by
        intro n46_9
        induction n46_9 with
        | zero => intro i46_0_9 hm46_9; exact absurd hm46_9 (Nat.not_lt_zero _)
        | succ n46_9 ih46_9 =>
        intro i46_0_9 hm46_9
        obtain ⟨w8, hw8⟩ : ∃ w8, w8 = 1 := ⟨_, rfl⟩
        have iv17 : PU w8 (P 0 37) Pc6 := by unfold PU; rw [hw8]; exact i46_0_9
        refine g_aload_n dX12_matchIs_46 rfl ?_
        refine m_g8 (z := (Pc6 0 8)) rfl dX12_matchIs_47 rfl ?_
        refine g_if_ne (tgt := 179) dX12_matchIs_50 (by decide) ⟨by have q0 := b0_8 hBc6; omega, by have q0 := b0_8 hBc6; omega⟩ (fun k18 => ?_) (fun k18 => by exfalso; have q0 := b0_8 hBc6; omega)
        exact g_retV dX12_matchIs_179 rfl (hQ _ hBc6 (FrM.c (FrM.s (FrM.c FrM.rf hFc2 rfl) rfl) hFc6 rfl) (by have q0 := (((hFc6.1 3 rfl).trans ((up_k (by decide)).trans rfl)) : Pc6 0 3 = (Pc2 0 3)); have q1 := b0_3 hBc2; have q2 := (((hFc6.1 4 rfl).trans ((up_k (by decide)).trans rfl)) : Pc6 0 4 = (Pc2 0 4)); have q3 := b0_4 hBc2; have q4 := (((hFc6.1 5 rfl).trans ((up_k (by decide)).trans rfl)) : Pc6 0 5 = (Pc2 0 5)); have q5 := b0_5 hBc2; omega) (by have q0 := (((hFc6.1 4 rfl).trans ((up_k (by decide)).trans rfl)) : Pc6 0 4 = (Pc2 0 4)); have q1 := b0_4 hBc2; omega) (by have q0 := b0_8 hBc6; omega) (by first | (left; omega) | (right; have q := iv17; unfold PU at q; rw [← q]; omega)) (ZC.fr (F := ([3, 4, 5, 6, 7, 8, 9, 12, 38], [])) v_ZC (FrM.c (FrM.s (FrM.c FrM.rf hFc2 rfl) rfl) hFc6 rfl) rfl) (ZI.fr (F := ([8, 9], [])) iv5 (FrM.c FrM.rf hFc6 rfl) rfl) (ZS.fr (F := ([3, 4, 5, 6, 7, 8, 9, 12, 38], [])) v_ZS (FrM.c (FrM.s (FrM.c FrM.rf hFc2 rfl) rfl) hFc6 rfl) rfl))
      refine g_forget (l1 := [(0, vR 0), (1, vI 1)]) (by intro q hq; simp only [List.mem_cons, List.not_mem_nil, or_false] at hq ⊢; rcases hq with rfl | rfl <;> simp) ?_
      exact L46_9 _ (by first | exact hw9.symm.trans (hNONE) | exact PU.zero (by have q := (((congrFun (hFc6.2 11 rfl rfl) _).trans ((up_o (by decide)).trans ((congrFun (hFc2.2 11 rfl rfl) _).trans rfl))) : Pc6 11 (P 0 37) = (P 11 (P 0 37))); omega)) (Nat.lt_succ_self _)
    · refine g_aload_n dX12_matchIs_30 rfl ?_
      refine g_vI (av := []) (o := 0) (st := []) (m_X12_isKindHere G Pc6  hBc6  _ (fun rc19 hc19 gc19_w => ⟨rc19, rfl, ?_⟩)) cf_X12_isKindHere t_1748 rfl (by decide) rfl rfl rfl (Nat.le_of_ble_eq_true rfl) (by decide) rfl dX12_matchIs_31
      have z20 : Pc6 0 3 = (Pc2 0 3) := ((hFc6.1 3 rfl).trans ((up_k (by decide)).trans rfl))
      refine g_if_ne (tgt := 46) dX12_matchIs_34 (by decide) ⟨by omega, by omega⟩ (fun k21 => ?_) (fun k21 => ?_)
      · have L46_21 : ∀ (n46_21 : Nat) (x46_1_21 : Int) (h_x46_1_21 : 1 ≤ x46_1_21 ∧ x46_1_21 ≤ 20000) (H46_21 : PH) (hB46_21 : BdM H46_21) (hE46_21 : FrM ([3, 4, 5, 6, 7, 8, 9, 12], [11, 12]) Pc6 H46_21) (i46_0_21 : x46_1_21 = prdU H46_21 (P 0 37) (H46_21 11 (P 0 37)).toNat) (i46_1_21 : P 0 8 ≤ 0 ∨ 0 < H46_21 0 8) (i46_2_21 : P 0 4 ≤ H46_21 0 4) (i46_3_21 : (H46_21 0 3 = 0 ∨ H46_21 0 4 + 1 ≤ H46_21 0 5) ∧ H46_21 0 4 ≤ H46_21 0 5) (w46_ZC_21 : ZC H46_21) (w46_ZI_21 : ZI H46_21) (w46_ZS_21 : ZS H46_21) (hm46_21 : (1601 - H46_21 0 4 : Int).toNat < n46_21), Go WSM G 4 iX12_matchIs 46 [(0, vR 0), (1, vI x46_1_21)] [] H46_21 Q := by
          intro n46_21
          induction n46_21 with
          | zero => intro x46_1_21 h_x46_1_21 H46_21 hB46_21 hE46_21 i46_0_21 i46_1_21 i46_2_21 i46_3_21 w46_ZC_21 w46_ZI_21 w46_ZS_21 hm46_21; exact absurd hm46_21 (Nat.not_lt_zero _)
          | succ n46_21 ih46_21 =>
          intro x46_1_21 h_x46_1_21 H46_21 hB46_21 hE46_21 i46_0_21 i46_1_21 i46_2_21 i46_3_21 w46_ZC_21 w46_ZI_21 w46_ZS_21 hm46_21
          obtain ⟨w8, hw8⟩ : ∃ w8, w8 = x46_1_21 := ⟨_, rfl⟩
          have iv284 : PU w8 (P 0 37) H46_21 := by unfold PU; rw [hw8]; exact i46_0_21
          refine g_aload_n dX12_matchIs_46 rfl ?_
          refine m_g8 (z := (H46_21 0 8)) rfl dX12_matchIs_47 rfl ?_
          have f285 := b0_8 hB46_21
          refine g_if_ne (tgt := 179) dX12_matchIs_50 (by decide) ⟨by have q0 := b0_8 hB46_21; omega, by have q0 := b0_8 hB46_21; omega⟩ (fun k286 => ?_) (fun k286 => ?_)
          · exact g_retV dX12_matchIs_179 rfl (hQ _ hB46_21 (FrM.c (FrM.c (FrM.s (FrM.c FrM.rf hFc2 rfl) rfl) hFc6 rfl) hE46_21 rfl) (by have q0 := b0_3 hB46_21; have q1 := b0_4 hB46_21; have q2 := b0_5 hB46_21; omega) (by have q0 := b0_4 hB46_21; omega) (by have q0 := b0_8 hB46_21; omega) (by first | (left; omega) | (right; have q := iv284; unfold PU at q; rw [← q]; omega)) w46_ZC_21 w46_ZI_21 w46_ZS_21)
          · refine g_aload_n dX12_matchIs_53 rfl ?_
            refine g_vI (av := []) (o := 0) (st := []) (m_X12_isKindHere G H46_21  hB46_21  _ (fun rc287 hc287 gc287_w => ⟨rc287, rfl, ?_⟩)) cf_X12_isKindHere t_1748 rfl (by decide) rfl rfl rfl (Nat.le_of_ble_eq_true rfl) (by decide) rfl dX12_matchIs_54
            refine g_if_eq (tgt := 179) dX12_matchIs_57 (by decide) ⟨by omega, by omega⟩ (fun k288 => ?_) (fun k288 => ?_)
            · exact g_retV dX12_matchIs_179 rfl (hQ _ hB46_21 (FrM.c (FrM.c (FrM.s (FrM.c FrM.rf hFc2 rfl) rfl) hFc6 rfl) hE46_21 rfl) (by have q0 := b0_3 hB46_21; have q1 := b0_4 hB46_21; have q2 := b0_5 hB46_21; omega) (by have q0 := b0_4 hB46_21; omega) (by have q0 := b0_8 hB46_21; omega) (by first | (left; omega) | (right; have q := iv284; unfold PU at q; rw [← q]; omega)) w46_ZC_21 w46_ZI_21 w46_ZS_21)
            · refine g_aload_n dX12_matchIs_60 rfl ?_
              refine m_g23 rfl dX12_matchIs_61 ?_
              refine g_aload_n dX12_matchIs_64 rfl ?_
              refine m_g37 (z := (P 0 37)) rfl dX12_matchIs_65 ((hE46_21.1 37 rfl).trans ((hFc6.1 37 rfl).trans ((up_k (by decide)).trans ((hFc2.1 37 rfl).trans rfl)))) ?_
              refine m_l11 (z := (H46_21 11 (P 0 37))) dX12_matchIs_68 ⟨by have q0 := b0_37 hB; omega, by have q0 := b0_37 hB; omega⟩ rfl ?_
              refine g_iconst dX12_matchIs_69 ?_
              have f289 := bl_11 (k := (P 0 37)) hB46_21
              refine g_icmp_ne (tgt := 83) dX12_matchIs_70 (by decide) ⟨by have q0 := bl_11 (k := (P 0 37)) hB46_21; omega, by have q0 := bl_11 (k := (P 0 37)) hB46_21; omega⟩ (by decide) (fun k290 => ?_) (fun k290 => ?_)
              · refine g_aload_n dX12_matchIs_83 rfl ?_
                refine g_iconst dX12_matchIs_84 ?_
                refine g_vI (av := [vI 4]) (o := 0) (st := []) (m_X12_known G H46_21 4 (by decide) hB46_21 (by have q0 := b0_3 hB46_21; have q1 := b0_4 hB46_21; have q2 := b0_5 hB46_21; omega) _ (fun rc291 hc291 Pc291 hBc291 hFc291 gc291_lx gc291_mo gc291_pe gc291_k => ⟨rc291, rfl, ?_⟩)) cf_X12_known t_1752 rfl (by decide) rfl rfl rfl (Nat.le_of_ble_eq_true rfl) (by decide) rfl dX12_matchIs_85
                have z292 : H46_21 0 37 = (P 0 37) := ((hE46_21.1 37 rfl).trans ((hFc6.1 37 rfl).trans ((up_k (by decide)).trans ((hFc2.1 37 rfl).trans rfl))))
                have e37 := (((hE46_21.1 37 rfl).trans ((hFc6.1 37 rfl).trans ((up_k (by decide)).trans ((hFc2.1 37 rfl).trans rfl)))) : H46_21 0 37 = (P 0 37))
                rw [e37] at gc291_k
                have e3 := (((congrFun (hFc291.2 3 rfl rfl) _).trans ((congrFun (hE46_21.2 3 rfl rfl) _).trans ((congrFun (hFc6.2 3 rfl rfl) _).trans ((up_o (by decide)).trans ((congrFun (hFc2.2 3 rfl rfl) _).trans rfl))))) : Pc291 3 ((4 * (P 0 37)) + rc291) = (P 3 ((4 * (P 0 37)) + rc291)))
                refine g_istore_n (l1 := [(2, vI rc291), (0, vR 0), (1, vI x46_1_21)]) dX12_matchIs_88 (by decide) rfl ?_
                refine g_aload_n dX12_matchIs_89 rfl ?_
                refine m_g8 (z := (Pc291 0 8)) rfl dX12_matchIs_90 rfl ?_
                have f293 := b0_8 hBc291
                refine g_if_le (tgt := 97) dX12_matchIs_93 (by decide) ⟨by have q0 := b0_8 hBc291; omega, by have q0 := b0_8 hBc291; omega⟩ (fun k294 => ?_) (fun k294 => ?_)
                · have hpv := (PU.fr (F := ([8, 9], [])) iv284 (FrM.c FrM.rf hFc291 rfl) rfl)
                  have hzc := (ZC.fr (F := ([8, 9], [])) w46_ZC_21 (FrM.c FrM.rf hFc291 rfl) rfl)
                  have hzs := (ZS.fr (F := ([8, 9], [])) w46_ZS_21 (FrM.c FrM.rf hFc291 rfl) rfl)
                  have hbb := hBc291
                  have he11 := (((congrFun (hFc291.2 11 rfl rfl) _).trans rfl) : Pc291 11 (P 0 37) = (H46_21 11 (P 0 37)))
                  have he13 := (((congrFun (hFc291.2 13 rfl rfl) _).trans ((congrFun (hE46_21.2 13 rfl rfl) _).trans ((congrFun (hFc6.2 13 rfl rfl) _).trans ((up_o (by decide)).trans ((congrFun (hFc2.2 13 rfl rfl) _).trans rfl))))) : Pc291 13 (P 0 37) = (P 13 (P 0 37)))
                  have q11 := bl_11 (k := P 0 37) hbb
                  refine g_aload_n dX12_matchIs_97 rfl ?_
                  refine m_g24 rfl dX12_matchIs_98 ?_
                  refine g_iconst dX12_matchIs_101 ?_
                  refine g_aload_n dX12_matchIs_102 rfl ?_
                  refine m_g37 (z := (P 0 37)) rfl dX12_matchIs_103 ((hFc291.1 37 rfl).trans ((hE46_21.1 37 rfl).trans ((hFc6.1 37 rfl).trans ((up_k (by decide)).trans ((hFc2.1 37 rfl).trans rfl))))) ?_
                  refine g_imul dX12_matchIs_106 ?_
                  refine g_aload_n dX12_matchIs_107 rfl ?_
                  refine m_g23 rfl dX12_matchIs_108 ?_
                  refine g_aload_n dX12_matchIs_111 rfl ?_
                  refine m_g37 (z := (P 0 37)) rfl dX12_matchIs_112 ((hFc291.1 37 rfl).trans ((hE46_21.1 37 rfl).trans ((hFc6.1 37 rfl).trans ((up_k (by decide)).trans ((hFc2.1 37 rfl).trans rfl))))) ?_
                  refine m_l11 (z := (H46_21 11 (P 0 37))) dX12_matchIs_115 ⟨by have q0 := b0_37 hB; omega, by have q0 := b0_37 hB; omega⟩ ((congrFun (hFc291.2 11 rfl rfl) _).trans rfl) ?_
                  refine g_iadd dX12_matchIs_116 ?_
                  refine g_iload_n dX12_matchIs_117 rfl ?_
                  refine m_s12 dX12_matchIs_118 ⟨by have q0 := b0_37 hB; have q1 := bl_11 (k := (P 0 37)) hB46_21; omega, by have q0 := b0_37 hB; have q1 := bl_11 (k := (P 0 37)) hB46_21; omega⟩ ?_
                  have hB295 := ba_12 (z := rc291) (k := ((4 * (P 0 37)) + (H46_21 11 (P 0 37)))) hBc291 ⟨by omega, by omega⟩
                  refine g_aload_n dX12_matchIs_119 rfl ?_
                  refine m_g23 rfl dX12_matchIs_120 ?_
                  refine g_aload_n dX12_matchIs_123 rfl ?_
                  refine m_g37 (z := (P 0 37)) rfl dX12_matchIs_124 ((up_o (by decide)).trans ((hFc291.1 37 rfl).trans ((hE46_21.1 37 rfl).trans ((hFc6.1 37 rfl).trans ((up_k (by decide)).trans ((hFc2.1 37 rfl).trans rfl)))))) ?_
                  refine g_dup2 dX12_matchIs_127 rfl rfl ?_
                  refine m_l11 (z := (H46_21 11 (P 0 37))) dX12_matchIs_128 ⟨by have q0 := b0_37 hB; omega, by have q0 := b0_37 hB; omega⟩ ((up_o (by decide)).trans ((congrFun (hFc291.2 11 rfl rfl) _).trans rfl)) ?_
                  refine g_iconst dX12_matchIs_129 ?_
                  refine g_iadd dX12_matchIs_130 ?_
                  refine m_s11 dX12_matchIs_131 ⟨by have q0 := b0_37 hB; omega, by have q0 := b0_37 hB; omega⟩ ?_
                  have hB296 := ba_11 (z := ((H46_21 11 (P 0 37)) + 1)) (k := (P 0 37)) hB295 ⟨by have q0 := bl_11 (k := (P 0 37)) hB46_21; omega, by have q0 := bl_11 (k := (P 0 37)) hB46_21; omega⟩
                  have iv297 : ZC (up (up Pc291 12 ((4 * (P 0 37)) + (H46_21 11 (P 0 37))) rc291) 11 (P 0 37) ((H46_21 11 (P 0 37)) + 1)) := hzc.col (i := P 0 37) (b0_37 hB) he11 ⟨by omega, by omega⟩ (fun j hj => ((up_o (by decide)).trans ((up_k hj).trans rfl))) ((up_o (by decide)).trans up_same) (fun j hj => ((up_k hj).trans ((up_o (by decide)).trans rfl))) up_same (bl_11 hbb).2 (by omega) (fun j => ((up_o (by decide)).trans ((up_o (by decide)).trans rfl))) (fun j => ((up_o (by decide)).trans ((up_o (by decide)).trans rfl)))
                  have iv298 : ZS (up (up Pc291 12 ((4 * (P 0 37)) + (H46_21 11 (P 0 37))) rc291) 11 (P 0 37) ((H46_21 11 (P 0 37)) + 1)) := hzs.un (i := P 0 37) hbb (b0_37 hB) (by omega) ((up_o (by decide)).trans ((up_o (by decide)).trans ((hFc291.1 37 rfl).trans ((hE46_21.1 37 rfl).trans ((hFc6.1 37 rfl).trans ((up_k (by decide)).trans ((hFc2.1 37 rfl).trans rfl))))))) (fun j hj => ((up_o (by decide)).trans ((up_o (by decide)).trans rfl))) (fun j _ => ((up_o (by decide)).trans ((up_o (by decide)).trans rfl))) (fun j hj => ((up_k hj).trans ((up_o (by decide)).trans rfl))) (fun j => ((up_o (by decide)).trans ((up_o (by decide)).trans rfl))) (fun j => ((up_o (by decide)).trans ((up_o (by decide)).trans rfl))) (fun j => ((up_o (by decide)).trans ((up_o (by decide)).trans rfl))) (fun j => ((up_o (by decide)).trans ((up_o (by decide)).trans rfl))) (fun j => ((up_o (by decide)).trans ((up_o (by decide)).trans rfl))) (fun j => ((up_o (by decide)).trans ((up_o (by decide)).trans rfl)))
                  have iv299 : ZI (up (up Pc291 12 ((4 * (P 0 37)) + (H46_21 11 (P 0 37))) rc291) 11 (P 0 37) ((H46_21 11 (P 0 37)) + 1)) := fun h => by have q := (((up_o (by decide)).trans ((up_o (by decide)).trans ((hFc291.1 38 rfl).trans ((hE46_21.1 38 rfl).trans ((hFc6.1 38 rfl).trans up_same))))) : (up (up Pc291 12 ((4 * (P 0 37)) + (H46_21 11 (P 0 37))) rc291) 11 (P 0 37) ((H46_21 11 (P 0 37)) + 1)) 0 38 = 1); omega
                  refine g_iload_n dX12_matchIs_132 rfl ?_
                  refine g_aload_n dX12_matchIs_133 rfl ?_
                  refine g_aload_n dX12_matchIs_134 rfl ?_
                  refine m_g37 (z := (P 0 37)) rfl dX12_matchIs_135 ((up_o (by decide)).trans ((up_o (by decide)).trans ((hFc291.1 37 rfl).trans ((hE46_21.1 37 rfl).trans ((hFc6.1 37 rfl).trans ((up_k (by decide)).trans ((hFc2.1 37 rfl).trans rfl))))))) ?_
                  refine g_iload_n dX12_matchIs_138 rfl ?_
                  have f300 := b0_37 hB
                  refine g_vI (av := [vI (P 0 37), vI rc291]) (o := 0) (st := [vI x46_1_21]) (m_X12_valuesOf G (up (up Pc291 12 ((4 * (P 0 37)) + (H46_21 11 (P 0 37))) rc291) 11 (P 0 37) ((H46_21 11 (P 0 37)) + 1)) (P 0 37) rc291 ⟨by have q0 := b0_37 hB; omega, by have q0 := b0_37 hB; omega⟩ ⟨by omega, by omega⟩ hB296  _ (fun rc301 hc301 gc301_v => ⟨rc301, rfl, ?_⟩)) cf_X12_valuesOf t_1756 rfl (by decide) rfl rfl rfl (Nat.le_of_ble_eq_true rfl) (by decide) rfl dX12_matchIs_139
                  have e3v := (((up_o (by decide)).trans ((up_o (by decide)).trans ((congrFun (hFc291.2 3 rfl rfl) _).trans ((congrFun (hE46_21.2 3 rfl rfl) _).trans ((congrFun (hFc6.2 3 rfl rfl) _).trans ((up_o (by decide)).trans ((congrFun (hFc2.2 3 rfl rfl) _).trans rfl))))))) : (up (up Pc291 12 ((4 * (P 0 37)) + (H46_21 11 (P 0 37))) rc291) 11 (P 0 37) ((H46_21 11 (P 0 37)) + 1)) 3 ((4 * (P 0 37)) + rc291) = (P 3 ((4 * (P 0 37)) + rc291)))
                  have hr9 := (vals_of gc301_v).trans (vals_eq fun _ => ((up_o (by decide)).trans ((up_o (by decide)).trans rfl)))
                  refine g_imul dX12_matchIs_142 ?_
                  refine g_nm (fun w302 e_w302 => ?_)
                  have h_w302 : 1 ≤ w302 ∧ w302 ≤ 40120000 := by rw [e_w302]; exact mul_b (A := 20000) (B := 2006) ⟨by omega, by omega⟩ ⟨by omega, by omega⟩
                  have hm9 := e_w302
                  refine g_istore_n (l1 := [(1, vI w302), (2, vI rc291), (0, vR 0)]) dX12_matchIs_143 (by decide) rfl ?_
                  obtain ⟨w9, hw9⟩ : ∃ w9, w9 = w302 := ⟨_, rfl⟩
                  have iv303 : PU w9 (P 0 37) (up (up Pc291 12 ((4 * (P 0 37)) + (H46_21 11 (P 0 37))) rc291) 11 (P 0 37) ((H46_21 11 (P 0 37)) + 1)) := hpv.col (hw9.trans (by rw [hw8]; exact hm9)) hr9 (by omega) he11 (fun j hj => ((up_o (by decide)).trans ((up_k hj).trans rfl))) ((up_o (by decide)).trans up_same) (fun j => ((up_o (by decide)).trans ((up_o (by decide)).trans rfl))) up_same
                  refine g_iload_n dX12_matchIs_144 rfl ?_
                  refine g_sipush dX12_matchIs_145 (by decide) ?_
                  refine g_icmp_le (tgt := 160) dX12_matchIs_148 (by decide) ⟨by omega, by omega⟩ (by decide) (fun k304 => ?_) (fun k304 => ?_)
                  · refine g_aload_n dX12_matchIs_160 rfl ?_
                    refine m_g8 (z := (Pc291 0 8)) rfl dX12_matchIs_161 ((up_o (by decide)).trans ((up_o (by decide)).trans rfl)) ?_
                    refine g_if_le (tgt := 168) dX12_matchIs_164 (by decide) ⟨by have q0 := b0_8 hBc291; omega, by have q0 := b0_8 hBc291; omega⟩ (fun k305 => ?_) (fun k305 => by exfalso; have q0 := b0_8 hBc291; omega)
                    refine g_aload_n dX12_matchIs_168 rfl ?_
                    refine g_vV (av := []) (o := 0) (st := []) (m_X12_ahead G (up (up Pc291 12 ((4 * (P 0 37)) + (H46_21 11 (P 0 37))) rc291) 11 (P 0 37) ((H46_21 11 (P 0 37)) + 1))  hB296  _ (fun Pc306 hBc306 hFc306 gc306_lx gc306_nx => ⟨rfl, ?_⟩)) cf_X12_ahead t_1683 rfl (by decide) rfl rfl rfl (Nat.le_of_ble_eq_true rfl) (by decide) rfl dX12_matchIs_169
                    have z307 : (up (up Pc291 12 ((4 * (P 0 37)) + (H46_21 11 (P 0 37))) rc291) 11 (P 0 37) ((H46_21 11 (P 0 37)) + 1)) 0 5 = (H46_21 0 5) := ((up_o (by decide)).trans ((up_o (by decide)).trans ((hFc291.1 5 rfl).trans rfl)))
                    refine g_aload_n dX12_matchIs_172 rfl ?_
                    refine g_vV (av := []) (o := 0) (st := []) (m_X12_lex G Pc306  hBc306  _ (fun Pc308 hBc308 hFc308 gc308_pe => ⟨rfl, ?_⟩)) cf_X12_lex t_1697 rfl (by decide) rfl rfl rfl (Nat.le_of_ble_eq_true rfl) (by decide) rfl dX12_matchIs_173
                    have z309 : Pc306 0 8 = (Pc291 0 8) := ((hFc306.1 8 rfl).trans ((up_o (by decide)).trans ((up_o (by decide)).trans rfl)))
                    refine g_goto (tgt := 46) dX12_matchIs_176 (by decide) ?_
                    refine g_forget (l1 := [(0, vR 0), (1, vI w302)]) (by intro q hq; simp only [List.mem_cons, List.not_mem_nil, or_false] at hq ⊢; rcases hq with rfl | rfl <;> simp) ?_
                    exact ih46_21 w302 ⟨by omega, by omega⟩ _ hBc308 (FrM.c (FrM.c (FrM.a (FrM.a (FrM.c (FrM.c FrM.rf hE46_21 rfl) hFc291 rfl) rfl rfl) rfl rfl) hFc306 rfl) hFc308 rfl) (by first | exact hw9.symm.trans ((PU.fr (F := ([3, 4, 5, 6, 7, 8, 9, 12], [])) iv303 (FrM.c (FrM.c FrM.rf hFc306 rfl) hFc308 rfl) rfl)) | exact PU.zero (by have q := (((congrFun (hFc308.2 11 rfl rfl) _).trans ((congrFun (hFc306.2 11 rfl rfl) _).trans up_same)) : Pc308 11 (P 0 37) = ((H46_21 11 (P 0 37)) + 1)); omega)) (by have q0 := b0_8 hBc308; omega) (by have q0 := (((hFc308.1 4 rfl).trans rfl) : Pc308 0 4 = (Pc306 0 4)); have q1 := b0_4 hBc306; omega) (by have q0 := (((hFc308.1 3 rfl).trans rfl) : Pc308 0 3 = (Pc306 0 3)); have q1 := b0_3 hBc306; have q2 := (((hFc308.1 4 rfl).trans rfl) : Pc308 0 4 = (Pc306 0 4)); have q3 := b0_4 hBc306; have q4 := (((hFc308.1 5 rfl).trans rfl) : Pc308 0 5 = (Pc306 0 5)); have q5 := b0_5 hBc306; omega) (ZC.fr (F := ([3, 4, 5, 6, 7, 8, 9, 12], [])) iv297 (FrM.c (FrM.c FrM.rf hFc306 rfl) hFc308 rfl) rfl) (ZI.fr (F := ([3, 4, 5, 6, 7, 8, 9, 12], [])) iv299 (FrM.c (FrM.c FrM.rf hFc306 rfl) hFc308 rfl) rfl) (ZS.fr (F := ([3, 4, 5, 6, 7, 8, 9, 12], [])) iv298 (FrM.c (FrM.c FrM.rf hFc306 rfl) hFc308 rfl) rfl) (by have q0 := (((hFc308.1 4 rfl).trans rfl) : Pc308 0 4 = (Pc306 0 4)); have q1 := b0_4 hBc306; omega)
                  · refine g_aload_n dX12_matchIs_151 rfl ?_
                    refine g_iconst dX12_matchIs_152 ?_
                    refine g_aload_n dX12_matchIs_153 rfl ?_
                    refine m_g4 (z := (H46_21 0 4)) rfl dX12_matchIs_154 ((up_o (by decide)).trans ((up_o (by decide)).trans ((hFc291.1 4 rfl).trans rfl))) ?_
                    have f310 := b0_4 hB46_21
                    refine g_vV (av := [vI 4, vI (H46_21 0 4)]) (o := 0) (st := []) (m_X12_blame G (up (up Pc291 12 ((4 * (P 0 37)) + (H46_21 11 (P 0 37))) rc291) 11 (P 0 37) ((H46_21 11 (P 0 37)) + 1)) 4 (H46_21 0 4) (by decide) ⟨by have q0 := b0_4 hB46_21; omega, by have q0 := b0_4 hB46_21; omega⟩ hB296  _ (fun Pc311 hBc311 hFc311 gc311_f gc311_pe => ⟨rfl, ?_⟩)) cf_X12_blame t_1701 rfl (by decide) rfl rfl rfl (Nat.le_of_ble_eq_true rfl) (by decide) rfl dX12_matchIs_157
                    have z312 : (up (up Pc291 12 ((4 * (P 0 37)) + (H46_21 11 (P 0 37))) rc291) 11 (P 0 37) ((H46_21 11 (P 0 37)) + 1)) 0 8 = (Pc291 0 8) := ((up_o (by decide)).trans ((up_o (by decide)).trans rfl))
                    refine g_aload_n dX12_matchIs_160 rfl ?_
                    refine m_g8 (z := (Pc311 0 8)) rfl dX12_matchIs_161 rfl ?_
                    have f313 := b0_8 hBc311
                    refine g_if_le (tgt := 168) dX12_matchIs_164 (by decide) ⟨by have q0 := b0_8 hBc311; omega, by have q0 := b0_8 hBc311; omega⟩ (fun k314 => ?_) (fun k314 => ?_)
                    · refine g_aload_n dX12_matchIs_168 rfl ?_
                      refine g_vV (av := []) (o := 0) (st := []) (m_X12_ahead G Pc311  hBc311  _ (fun Pc315 hBc315 hFc315 gc315_lx gc315_nx => ⟨rfl, ?_⟩)) cf_X12_ahead t_1683 rfl (by decide) rfl rfl rfl (Nat.le_of_ble_eq_true rfl) (by decide) rfl dX12_matchIs_169
                      have z316 : Pc311 0 5 = (H46_21 0 5) := ((hFc311.1 5 rfl).trans ((up_o (by decide)).trans ((up_o (by decide)).trans ((hFc291.1 5 rfl).trans rfl))))
                      refine g_aload_n dX12_matchIs_172 rfl ?_
                      refine g_vV (av := []) (o := 0) (st := []) (m_X12_lex G Pc315  hBc315  _ (fun Pc317 hBc317 hFc317 gc317_pe => ⟨rfl, ?_⟩)) cf_X12_lex t_1697 rfl (by decide) rfl rfl rfl (Nat.le_of_ble_eq_true rfl) (by decide) rfl dX12_matchIs_173
                      have z318 : Pc315 0 8 = (Pc311 0 8) := ((hFc315.1 8 rfl).trans rfl)
                      refine g_goto (tgt := 46) dX12_matchIs_176 (by decide) ?_
                      refine g_forget (l1 := [(0, vR 0), (1, vI w302)]) (by intro q hq; simp only [List.mem_cons, List.not_mem_nil, or_false] at hq ⊢; rcases hq with rfl | rfl <;> simp) ?_
                      exact ih46_21 w302 ⟨by omega, by omega⟩ _ hBc317 (FrM.c (FrM.c (FrM.c (FrM.a (FrM.a (FrM.c (FrM.c FrM.rf hE46_21 rfl) hFc291 rfl) rfl rfl) rfl rfl) hFc311 rfl) hFc315 rfl) hFc317 rfl) (by first | exact hw9.symm.trans ((PU.fr (F := ([3, 4, 5, 6, 7, 8, 9, 12], [])) iv303 (FrM.c (FrM.c (FrM.c FrM.rf hFc311 rfl) hFc315 rfl) hFc317 rfl) rfl)) | exact PU.zero (by have q := (((congrFun (hFc317.2 11 rfl rfl) _).trans ((congrFun (hFc315.2 11 rfl rfl) _).trans ((congrFun (hFc311.2 11 rfl rfl) _).trans up_same))) : Pc317 11 (P 0 37) = ((H46_21 11 (P 0 37)) + 1)); omega)) (by have q0 := b0_8 hBc317; omega) (by have q0 := (((hFc317.1 4 rfl).trans rfl) : Pc317 0 4 = (Pc315 0 4)); have q1 := b0_4 hBc315; omega) (by have q0 := (((hFc317.1 3 rfl).trans rfl) : Pc317 0 3 = (Pc315 0 3)); have q1 := b0_3 hBc315; have q2 := (((hFc317.1 4 rfl).trans rfl) : Pc317 0 4 = (Pc315 0 4)); have q3 := b0_4 hBc315; have q4 := (((hFc317.1 5 rfl).trans rfl) : Pc317 0 5 = (Pc315 0 5)); have q5 := b0_5 hBc315; omega) (ZC.fr (F := ([3, 4, 5, 6, 7, 8, 9, 12], [])) iv297 (FrM.c (FrM.c (FrM.c FrM.rf hFc311 rfl) hFc315 rfl) hFc317 rfl) rfl) (ZI.fr (F := ([3, 4, 5, 6, 7, 8, 9, 12], [])) iv299 (FrM.c (FrM.c (FrM.c FrM.rf hFc311 rfl) hFc315 rfl) hFc317 rfl) rfl) (ZS.fr (F := ([3, 4, 5, 6, 7, 8, 9, 12], [])) iv298 (FrM.c (FrM.c (FrM.c FrM.rf hFc311 rfl) hFc315 rfl) hFc317 rfl) rfl) (by have q0 := (((hFc317.1 4 rfl).trans rfl) : Pc317 0 4 = (Pc315 0 4)); have q1 := b0_4 hBc315; omega)
                    · exact g_retV dX12_matchIs_167 rfl (hQ _ hBc311 (FrM.c (FrM.a (FrM.a (FrM.c (FrM.c (FrM.c (FrM.s (FrM.c FrM.rf hFc2 rfl) rfl) hFc6 rfl) hE46_21 rfl) hFc291 rfl) rfl rfl) rfl rfl) hFc311 rfl) (by have q0 := (((hFc311.1 3 rfl).trans ((up_o (by decide)).trans ((up_o (by decide)).trans ((hFc291.1 3 rfl).trans rfl)))) : Pc311 0 3 = (H46_21 0 3)); have q1 := b0_3 hB46_21; have q2 := (((hFc311.1 4 rfl).trans ((up_o (by decide)).trans ((up_o (by decide)).trans ((hFc291.1 4 rfl).trans rfl)))) : Pc311 0 4 = (H46_21 0 4)); have q3 := b0_4 hB46_21; have q4 := (((hFc311.1 5 rfl).trans ((up_o (by decide)).trans ((up_o (by decide)).trans ((hFc291.1 5 rfl).trans rfl)))) : Pc311 0 5 = (H46_21 0 5)); have q5 := b0_5 hB46_21; omega) (by have q0 := (((hFc311.1 4 rfl).trans ((up_o (by decide)).trans ((up_o (by decide)).trans ((hFc291.1 4 rfl).trans rfl)))) : Pc311 0 4 = (H46_21 0 4)); have q1 := b0_4 hB46_21; omega) (by have q0 := b0_8 hBc311; omega) (by first | (left; omega) | (right; have q := hNONE; unfold PU at q; rw [← q]; omega)) (ZC.fr (F := ([8, 9], [])) iv297 (FrM.c FrM.rf hFc311 rfl) rfl) (ZI.fr (F := ([8, 9], [])) iv299 (FrM.c FrM.rf hFc311 rfl) rfl) (ZS.fr (F := ([8, 9], [])) iv298 (FrM.c FrM.rf hFc311 rfl) rfl))
                · exact g_retV dX12_matchIs_96 rfl (hQ _ hBc291 (FrM.c (FrM.c (FrM.c (FrM.s (FrM.c FrM.rf hFc2 rfl) rfl) hFc6 rfl) hE46_21 rfl) hFc291 rfl) (by have q0 := (((hFc291.1 3 rfl).trans rfl) : Pc291 0 3 = (H46_21 0 3)); have q1 := b0_3 hB46_21; have q2 := (((hFc291.1 4 rfl).trans rfl) : Pc291 0 4 = (H46_21 0 4)); have q3 := b0_4 hB46_21; have q4 := (((hFc291.1 5 rfl).trans rfl) : Pc291 0 5 = (H46_21 0 5)); have q5 := b0_5 hB46_21; omega) (by have q0 := (((hFc291.1 4 rfl).trans rfl) : Pc291 0 4 = (H46_21 0 4)); have q1 := b0_4 hB46_21; omega) (by have q0 := b0_8 hBc291; omega) (by first | (left; omega) | (right; have q := (PU.fr (F := ([8, 9], [])) iv284 (FrM.c FrM.rf hFc291 rfl) rfl); unfold PU at q; rw [← q]; omega)) (ZC.fr (F := ([8, 9], [])) w46_ZC_21 (FrM.c FrM.rf hFc291 rfl) rfl) (ZI.fr (F := ([8, 9], [])) w46_ZI_21 (FrM.c FrM.rf hFc291 rfl) rfl) (ZS.fr (F := ([8, 9], [])) w46_ZS_21 (FrM.c FrM.rf hFc291 rfl) rfl))
              · refine g_aload_n dX12_matchIs_73 rfl ?_
                refine g_bipush dX12_matchIs_74 (by decide) ?_
                refine g_aload_n dX12_matchIs_76 rfl ?_
                refine m_g4 (z := (H46_21 0 4)) rfl dX12_matchIs_77 rfl ?_
                have f319 := b0_4 hB46_21
                refine g_vV (av := [vI 6, vI (H46_21 0 4)]) (o := 0) (st := []) (m_X12_blame G H46_21 6 (H46_21 0 4) (by decide) ⟨by have q0 := b0_4 hB46_21; omega, by have q0 := b0_4 hB46_21; omega⟩ hB46_21  _ (fun Pc320 hBc320 hFc320 gc320_f gc320_pe => ⟨rfl, ?_⟩)) cf_X12_blame t_1701 rfl (by decide) rfl rfl rfl (Nat.le_of_ble_eq_true rfl) (by decide) rfl dX12_matchIs_80
                refine g_aload_n dX12_matchIs_83 rfl ?_
                refine g_iconst dX12_matchIs_84 ?_
                refine g_vI (av := [vI 4]) (o := 0) (st := []) (m_X12_known G Pc320 4 (by decide) hBc320 (by have q0 := (((hFc320.1 3 rfl).trans rfl) : Pc320 0 3 = (H46_21 0 3)); have q1 := b0_3 hB46_21; have q2 := (((hFc320.1 4 rfl).trans rfl) : Pc320 0 4 = (H46_21 0 4)); have q3 := b0_4 hB46_21; have q4 := (((hFc320.1 5 rfl).trans rfl) : Pc320 0 5 = (H46_21 0 5)); have q5 := b0_5 hB46_21; omega) _ (fun rc321 hc321 Pc321 hBc321 hFc321 gc321_lx gc321_mo gc321_pe gc321_k => ⟨rc321, rfl, ?_⟩)) cf_X12_known t_1752 rfl (by decide) rfl rfl rfl (Nat.le_of_ble_eq_true rfl) (by decide) rfl dX12_matchIs_85
                have z322 : Pc320 0 4 = (H46_21 0 4) := ((hFc320.1 4 rfl).trans rfl)
                have z323 : Pc320 0 37 = (P 0 37) := ((hFc320.1 37 rfl).trans ((hE46_21.1 37 rfl).trans ((hFc6.1 37 rfl).trans ((up_k (by decide)).trans ((hFc2.1 37 rfl).trans rfl)))))
                have e37 := (((hFc320.1 37 rfl).trans ((hE46_21.1 37 rfl).trans ((hFc6.1 37 rfl).trans ((up_k (by decide)).trans ((hFc2.1 37 rfl).trans rfl))))) : Pc320 0 37 = (P 0 37))
                rw [e37] at gc321_k
                have e3 := (((congrFun (hFc321.2 3 rfl rfl) _).trans ((congrFun (hFc320.2 3 rfl rfl) _).trans ((congrFun (hE46_21.2 3 rfl rfl) _).trans ((congrFun (hFc6.2 3 rfl rfl) _).trans ((up_o (by decide)).trans ((congrFun (hFc2.2 3 rfl rfl) _).trans rfl)))))) : Pc321 3 ((4 * (P 0 37)) + rc321) = (P 3 ((4 * (P 0 37)) + rc321)))
                refine g_istore_n (l1 := [(2, vI rc321), (0, vR 0), (1, vI x46_1_21)]) dX12_matchIs_88 (by decide) rfl ?_
                refine g_aload_n dX12_matchIs_89 rfl ?_
                refine m_g8 (z := (Pc321 0 8)) rfl dX12_matchIs_90 rfl ?_
                have f324 := b0_8 hBc321
                refine g_if_le (tgt := 97) dX12_matchIs_93 (by decide) ⟨by have q0 := b0_8 hBc321; omega, by have q0 := b0_8 hBc321; omega⟩ (fun k325 => ?_) (fun k325 => ?_)
                · have hpv := (PU.fr (F := ([8, 9], [])) iv284 (FrM.c (FrM.c FrM.rf hFc320 rfl) hFc321 rfl) rfl)
                  have hzc := (ZC.fr (F := ([8, 9], [])) w46_ZC_21 (FrM.c (FrM.c FrM.rf hFc320 rfl) hFc321 rfl) rfl)
                  have hzs := (ZS.fr (F := ([8, 9], [])) w46_ZS_21 (FrM.c (FrM.c FrM.rf hFc320 rfl) hFc321 rfl) rfl)
                  have hbb := hBc321
                  have he11 := (((congrFun (hFc321.2 11 rfl rfl) _).trans ((congrFun (hFc320.2 11 rfl rfl) _).trans rfl)) : Pc321 11 (P 0 37) = (H46_21 11 (P 0 37)))
                  have he13 := (((congrFun (hFc321.2 13 rfl rfl) _).trans ((congrFun (hFc320.2 13 rfl rfl) _).trans ((congrFun (hE46_21.2 13 rfl rfl) _).trans ((congrFun (hFc6.2 13 rfl rfl) _).trans ((up_o (by decide)).trans ((congrFun (hFc2.2 13 rfl rfl) _).trans rfl)))))) : Pc321 13 (P 0 37) = (P 13 (P 0 37)))
                  have q11 := bl_11 (k := P 0 37) hbb
                  refine g_aload_n dX12_matchIs_97 rfl ?_
                  refine m_g24 rfl dX12_matchIs_98 ?_
                  refine g_iconst dX12_matchIs_101 ?_
                  refine g_aload_n dX12_matchIs_102 rfl ?_
                  refine m_g37 (z := (P 0 37)) rfl dX12_matchIs_103 ((hFc321.1 37 rfl).trans ((hFc320.1 37 rfl).trans ((hE46_21.1 37 rfl).trans ((hFc6.1 37 rfl).trans ((up_k (by decide)).trans ((hFc2.1 37 rfl).trans rfl)))))) ?_
                  refine g_imul dX12_matchIs_106 ?_
                  refine g_aload_n dX12_matchIs_107 rfl ?_
                  refine m_g23 rfl dX12_matchIs_108 ?_
                  refine g_aload_n dX12_matchIs_111 rfl ?_
                  refine m_g37 (z := (P 0 37)) rfl dX12_matchIs_112 ((hFc321.1 37 rfl).trans ((hFc320.1 37 rfl).trans ((hE46_21.1 37 rfl).trans ((hFc6.1 37 rfl).trans ((up_k (by decide)).trans ((hFc2.1 37 rfl).trans rfl)))))) ?_
                  refine m_l11 (z := (H46_21 11 (P 0 37))) dX12_matchIs_115 ⟨by have q0 := b0_37 hB; omega, by have q0 := b0_37 hB; omega⟩ ((congrFun (hFc321.2 11 rfl rfl) _).trans ((congrFun (hFc320.2 11 rfl rfl) _).trans rfl)) ?_
                  refine g_iadd dX12_matchIs_116 ?_
                  refine g_iload_n dX12_matchIs_117 rfl ?_
                  refine m_s12 dX12_matchIs_118 ⟨by have q0 := b0_37 hB; have q1 := bl_11 (k := (P 0 37)) hB46_21; omega, by have q0 := b0_37 hB; have q1 := bl_11 (k := (P 0 37)) hB46_21; omega⟩ ?_
                  have hB326 := ba_12 (z := rc321) (k := ((4 * (P 0 37)) + (H46_21 11 (P 0 37)))) hBc321 ⟨by omega, by omega⟩
                  refine g_aload_n dX12_matchIs_119 rfl ?_
                  refine m_g23 rfl dX12_matchIs_120 ?_
                  refine g_aload_n dX12_matchIs_123 rfl ?_
                  refine m_g37 (z := (P 0 37)) rfl dX12_matchIs_124 ((up_o (by decide)).trans ((hFc321.1 37 rfl).trans ((hFc320.1 37 rfl).trans ((hE46_21.1 37 rfl).trans ((hFc6.1 37 rfl).trans ((up_k (by decide)).trans ((hFc2.1 37 rfl).trans rfl))))))) ?_
                  refine g_dup2 dX12_matchIs_127 rfl rfl ?_
                  refine m_l11 (z := (H46_21 11 (P 0 37))) dX12_matchIs_128 ⟨by have q0 := b0_37 hB; omega, by have q0 := b0_37 hB; omega⟩ ((up_o (by decide)).trans ((congrFun (hFc321.2 11 rfl rfl) _).trans ((congrFun (hFc320.2 11 rfl rfl) _).trans rfl))) ?_
                  refine g_iconst dX12_matchIs_129 ?_
                  refine g_iadd dX12_matchIs_130 ?_
                  refine m_s11 dX12_matchIs_131 ⟨by have q0 := b0_37 hB; omega, by have q0 := b0_37 hB; omega⟩ ?_
                  have hB327 := ba_11 (z := ((H46_21 11 (P 0 37)) + 1)) (k := (P 0 37)) hB326 ⟨by have q0 := bl_11 (k := (P 0 37)) hB46_21; omega, by have q0 := bl_11 (k := (P 0 37)) hB46_21; omega⟩
                  have iv328 : ZC (up (up Pc321 12 ((4 * (P 0 37)) + (H46_21 11 (P 0 37))) rc321) 11 (P 0 37) ((H46_21 11 (P 0 37)) + 1)) := hzc.col (i := P 0 37) (b0_37 hB) he11 ⟨by omega, by omega⟩ (fun j hj => ((up_o (by decide)).trans ((up_k hj).trans rfl))) ((up_o (by decide)).trans up_same) (fun j hj => ((up_k hj).trans ((up_o (by decide)).trans rfl))) up_same (bl_11 hbb).2 (by omega) (fun j => ((up_o (by decide)).trans ((up_o (by decide)).trans rfl))) (fun j => ((up_o (by decide)).trans ((up_o (by decide)).trans rfl)))
                  have iv329 : ZS (up (up Pc321 12 ((4 * (P 0 37)) + (H46_21 11 (P 0 37))) rc321) 11 (P 0 37) ((H46_21 11 (P 0 37)) + 1)) := hzs.un (i := P 0 37) hbb (b0_37 hB) (by omega) ((up_o (by decide)).trans ((up_o (by decide)).trans ((hFc321.1 37 rfl).trans ((hFc320.1 37 rfl).trans ((hE46_21.1 37 rfl).trans ((hFc6.1 37 rfl).trans ((up_k (by decide)).trans ((hFc2.1 37 rfl).trans rfl)))))))) (fun j hj => ((up_o (by decide)).trans ((up_o (by decide)).trans rfl))) (fun j _ => ((up_o (by decide)).trans ((up_o (by decide)).trans rfl))) (fun j hj => ((up_k hj).trans ((up_o (by decide)).trans rfl))) (fun j => ((up_o (by decide)).trans ((up_o (by decide)).trans rfl))) (fun j => ((up_o (by decide)).trans ((up_o (by decide)).trans rfl))) (fun j => ((up_o (by decide)).trans ((up_o (by decide)).trans rfl))) (fun j => ((up_o (by decide)).trans ((up_o (by decide)).trans rfl))) (fun j => ((up_o (by decide)).trans ((up_o (by decide)).trans rfl))) (fun j => ((up_o (by decide)).trans ((up_o (by decide)).trans rfl)))
                  have iv330 : ZI (up (up Pc321 12 ((4 * (P 0 37)) + (H46_21 11 (P 0 37))) rc321) 11 (P 0 37) ((H46_21 11 (P 0 37)) + 1)) := fun h => by have q := (((up_o (by decide)).trans ((up_o (by decide)).trans ((hFc321.1 38 rfl).trans ((hFc320.1 38 rfl).trans ((hE46_21.1 38 rfl).trans ((hFc6.1 38 rfl).trans up_same)))))) : (up (up Pc321 12 ((4 * (P 0 37)) + (H46_21 11 (P 0 37))) rc321) 11 (P 0 37) ((H46_21 11 (P 0 37)) + 1)) 0 38 = 1); omega
                  refine g_iload_n dX12_matchIs_132 rfl ?_
                  refine g_aload_n dX12_matchIs_133 rfl ?_
                  refine g_aload_n dX12_matchIs_134 rfl ?_
                  refine m_g37 (z := (P 0 37)) rfl dX12_matchIs_135 ((up_o (by decide)).trans ((up_o (by decide)).trans ((hFc321.1 37 rfl).trans ((hFc320.1 37 rfl).trans ((hE46_21.1 37 rfl).trans ((hFc6.1 37 rfl).trans ((up_k (by decide)).trans ((hFc2.1 37 rfl).trans rfl)))))))) ?_
                  refine g_iload_n dX12_matchIs_138 rfl ?_
                  have f331 := b0_37 hB
                  refine g_vI (av := [vI (P 0 37), vI rc321]) (o := 0) (st := [vI x46_1_21]) (m_X12_valuesOf G (up (up Pc321 12 ((4 * (P 0 37)) + (H46_21 11 (P 0 37))) rc321) 11 (P 0 37) ((H46_21 11 (P 0 37)) + 1)) (P 0 37) rc321 ⟨by have q0 := b0_37 hB; omega, by have q0 := b0_37 hB; omega⟩ ⟨by omega, by omega⟩ hB327  _ (fun rc332 hc332 gc332_v => ⟨rc332, rfl, ?_⟩)) cf_X12_valuesOf t_1756 rfl (by decide) rfl rfl rfl (Nat.le_of_ble_eq_true rfl) (by decide) rfl dX12_matchIs_139
                  have e3v := (((up_o (by decide)).trans ((up_o (by decide)).trans ((congrFun (hFc321.2 3 rfl rfl) _).trans ((congrFun (hFc320.2 3 rfl rfl) _).trans ((congrFun (hE46_21.2 3 rfl rfl) _).trans ((congrFun (hFc6.2 3 rfl rfl) _).trans ((up_o (by decide)).trans ((congrFun (hFc2.2 3 rfl rfl) _).trans rfl)))))))) : (up (up Pc321 12 ((4 * (P 0 37)) + (H46_21 11 (P 0 37))) rc321) 11 (P 0 37) ((H46_21 11 (P 0 37)) + 1)) 3 ((4 * (P 0 37)) + rc321) = (P 3 ((4 * (P 0 37)) + rc321)))
                  have hr9 := (vals_of gc332_v).trans (vals_eq fun _ => ((up_o (by decide)).trans ((up_o (by decide)).trans rfl)))
                  refine g_imul dX12_matchIs_142 ?_
                  refine g_nm (fun w333 e_w333 => ?_)
                  have h_w333 : 1 ≤ w333 ∧ w333 ≤ 40120000 := by rw [e_w333]; exact mul_b (A := 20000) (B := 2006) ⟨by omega, by omega⟩ ⟨by omega, by omega⟩
                  have hm9 := e_w333
                  refine g_istore_n (l1 := [(1, vI w333), (2, vI rc321), (0, vR 0)]) dX12_matchIs_143 (by decide) rfl ?_
                  obtain ⟨w9, hw9⟩ : ∃ w9, w9 = w333 := ⟨_, rfl⟩
                  have iv334 : PU w9 (P 0 37) (up (up Pc321 12 ((4 * (P 0 37)) + (H46_21 11 (P 0 37))) rc321) 11 (P 0 37) ((H46_21 11 (P 0 37)) + 1)) := hpv.col (hw9.trans (by rw [hw8]; exact hm9)) hr9 (by omega) he11 (fun j hj => ((up_o (by decide)).trans ((up_k hj).trans rfl))) ((up_o (by decide)).trans up_same) (fun j => ((up_o (by decide)).trans ((up_o (by decide)).trans rfl))) up_same
                  refine g_iload_n dX12_matchIs_144 rfl ?_
                  refine g_sipush dX12_matchIs_145 (by decide) ?_
                  refine g_icmp_le (tgt := 160) dX12_matchIs_148 (by decide) ⟨by omega, by omega⟩ (by decide) (fun k335 => ?_) (fun k335 => ?_)
                  · refine g_aload_n dX12_matchIs_160 rfl ?_
                    refine m_g8 (z := (Pc321 0 8)) rfl dX12_matchIs_161 ((up_o (by decide)).trans ((up_o (by decide)).trans rfl)) ?_
                    refine g_if_le (tgt := 168) dX12_matchIs_164 (by decide) ⟨by have q0 := b0_8 hBc321; omega, by have q0 := b0_8 hBc321; omega⟩ (fun k336 => ?_) (fun k336 => by exfalso; have q0 := b0_8 hBc321; omega)
                    refine g_aload_n dX12_matchIs_168 rfl ?_
                    refine g_vV (av := []) (o := 0) (st := []) (m_X12_ahead G (up (up Pc321 12 ((4 * (P 0 37)) + (H46_21 11 (P 0 37))) rc321) 11 (P 0 37) ((H46_21 11 (P 0 37)) + 1))  hB327  _ (fun Pc337 hBc337 hFc337 gc337_lx gc337_nx => ⟨rfl, ?_⟩)) cf_X12_ahead t_1683 rfl (by decide) rfl rfl rfl (Nat.le_of_ble_eq_true rfl) (by decide) rfl dX12_matchIs_169
                    have z338 : (up (up Pc321 12 ((4 * (P 0 37)) + (H46_21 11 (P 0 37))) rc321) 11 (P 0 37) ((H46_21 11 (P 0 37)) + 1)) 0 5 = (H46_21 0 5) := ((up_o (by decide)).trans ((up_o (by decide)).trans ((hFc321.1 5 rfl).trans ((hFc320.1 5 rfl).trans rfl))))
                    refine g_aload_n dX12_matchIs_172 rfl ?_
                    refine g_vV (av := []) (o := 0) (st := []) (m_X12_lex G Pc337  hBc337  _ (fun Pc339 hBc339 hFc339 gc339_pe => ⟨rfl, ?_⟩)) cf_X12_lex t_1697 rfl (by decide) rfl rfl rfl (Nat.le_of_ble_eq_true rfl) (by decide) rfl dX12_matchIs_173
                    have z340 : Pc337 0 8 = (Pc321 0 8) := ((hFc337.1 8 rfl).trans ((up_o (by decide)).trans ((up_o (by decide)).trans rfl)))
                    refine g_goto (tgt := 46) dX12_matchIs_176 (by decide) ?_
                    refine g_forget (l1 := [(0, vR 0), (1, vI w333)]) (by intro q hq; simp only [List.mem_cons, List.not_mem_nil, or_false] at hq ⊢; rcases hq with rfl | rfl <;> simp) ?_
                    exact ih46_21 w333 ⟨by omega, by omega⟩ _ hBc339 (FrM.c (FrM.c (FrM.a (FrM.a (FrM.c (FrM.c (FrM.c FrM.rf hE46_21 rfl) hFc320 rfl) hFc321 rfl) rfl rfl) rfl rfl) hFc337 rfl) hFc339 rfl) (by first | exact hw9.symm.trans ((PU.fr (F := ([3, 4, 5, 6, 7, 8, 9, 12], [])) iv334 (FrM.c (FrM.c FrM.rf hFc337 rfl) hFc339 rfl) rfl)) | exact PU.zero (by have q := (((congrFun (hFc339.2 11 rfl rfl) _).trans ((congrFun (hFc337.2 11 rfl rfl) _).trans up_same)) : Pc339 11 (P 0 37) = ((H46_21 11 (P 0 37)) + 1)); omega)) (by have q0 := b0_8 hBc339; omega) (by have q0 := (((hFc339.1 4 rfl).trans rfl) : Pc339 0 4 = (Pc337 0 4)); have q1 := b0_4 hBc337; omega) (by have q0 := (((hFc339.1 3 rfl).trans rfl) : Pc339 0 3 = (Pc337 0 3)); have q1 := b0_3 hBc337; have q2 := (((hFc339.1 4 rfl).trans rfl) : Pc339 0 4 = (Pc337 0 4)); have q3 := b0_4 hBc337; have q4 := (((hFc339.1 5 rfl).trans rfl) : Pc339 0 5 = (Pc337 0 5)); have q5 := b0_5 hBc337; omega) (ZC.fr (F := ([3, 4, 5, 6, 7, 8, 9, 12], [])) iv328 (FrM.c (FrM.c FrM.rf hFc337 rfl) hFc339 rfl) rfl) (ZI.fr (F := ([3, 4, 5, 6, 7, 8, 9, 12], [])) iv330 (FrM.c (FrM.c FrM.rf hFc337 rfl) hFc339 rfl) rfl) (ZS.fr (F := ([3, 4, 5, 6, 7, 8, 9, 12], [])) iv329 (FrM.c (FrM.c FrM.rf hFc337 rfl) hFc339 rfl) rfl) (by have q0 := (((hFc339.1 4 rfl).trans rfl) : Pc339 0 4 = (Pc337 0 4)); have q1 := b0_4 hBc337; omega)
                  · refine g_aload_n dX12_matchIs_151 rfl ?_
                    refine g_iconst dX12_matchIs_152 ?_
                    refine g_aload_n dX12_matchIs_153 rfl ?_
                    refine m_g4 (z := (H46_21 0 4)) rfl dX12_matchIs_154 ((up_o (by decide)).trans ((up_o (by decide)).trans ((hFc321.1 4 rfl).trans ((hFc320.1 4 rfl).trans rfl)))) ?_
                    refine g_vV (av := [vI 4, vI (H46_21 0 4)]) (o := 0) (st := []) (m_X12_blame G (up (up Pc321 12 ((4 * (P 0 37)) + (H46_21 11 (P 0 37))) rc321) 11 (P 0 37) ((H46_21 11 (P 0 37)) + 1)) 4 (H46_21 0 4) (by decide) ⟨by have q0 := b0_4 hB46_21; omega, by have q0 := b0_4 hB46_21; omega⟩ hB327  _ (fun Pc341 hBc341 hFc341 gc341_f gc341_pe => ⟨rfl, ?_⟩)) cf_X12_blame t_1701 rfl (by decide) rfl rfl rfl (Nat.le_of_ble_eq_true rfl) (by decide) rfl dX12_matchIs_157
                    have z342 : (up (up Pc321 12 ((4 * (P 0 37)) + (H46_21 11 (P 0 37))) rc321) 11 (P 0 37) ((H46_21 11 (P 0 37)) + 1)) 0 8 = (Pc321 0 8) := ((up_o (by decide)).trans ((up_o (by decide)).trans rfl))
                    refine g_aload_n dX12_matchIs_160 rfl ?_
                    refine m_g8 (z := (Pc341 0 8)) rfl dX12_matchIs_161 rfl ?_
                    have f343 := b0_8 hBc341
                    refine g_if_le (tgt := 168) dX12_matchIs_164 (by decide) ⟨by have q0 := b0_8 hBc341; omega, by have q0 := b0_8 hBc341; omega⟩ (fun k344 => ?_) (fun k344 => ?_)
                    · refine g_aload_n dX12_matchIs_168 rfl ?_
                      refine g_vV (av := []) (o := 0) (st := []) (m_X12_ahead G Pc341  hBc341  _ (fun Pc345 hBc345 hFc345 gc345_lx gc345_nx => ⟨rfl, ?_⟩)) cf_X12_ahead t_1683 rfl (by decide) rfl rfl rfl (Nat.le_of_ble_eq_true rfl) (by decide) rfl dX12_matchIs_169
                      have z346 : Pc341 0 5 = (H46_21 0 5) := ((hFc341.1 5 rfl).trans ((up_o (by decide)).trans ((up_o (by decide)).trans ((hFc321.1 5 rfl).trans ((hFc320.1 5 rfl).trans rfl)))))
                      refine g_aload_n dX12_matchIs_172 rfl ?_
                      refine g_vV (av := []) (o := 0) (st := []) (m_X12_lex G Pc345  hBc345  _ (fun Pc347 hBc347 hFc347 gc347_pe => ⟨rfl, ?_⟩)) cf_X12_lex t_1697 rfl (by decide) rfl rfl rfl (Nat.le_of_ble_eq_true rfl) (by decide) rfl dX12_matchIs_173
                      have z348 : Pc345 0 8 = (Pc341 0 8) := ((hFc345.1 8 rfl).trans rfl)
                      refine g_goto (tgt := 46) dX12_matchIs_176 (by decide) ?_
                      refine g_forget (l1 := [(0, vR 0), (1, vI w333)]) (by intro q hq; simp only [List.mem_cons, List.not_mem_nil, or_false] at hq ⊢; rcases hq with rfl | rfl <;> simp) ?_
                      exact ih46_21 w333 ⟨by omega, by omega⟩ _ hBc347 (FrM.c (FrM.c (FrM.c (FrM.a (FrM.a (FrM.c (FrM.c (FrM.c FrM.rf hE46_21 rfl) hFc320 rfl) hFc321 rfl) rfl rfl) rfl rfl) hFc341 rfl) hFc345 rfl) hFc347 rfl) (by first | exact hw9.symm.trans ((PU.fr (F := ([3, 4, 5, 6, 7, 8, 9, 12], [])) iv334 (FrM.c (FrM.c (FrM.c FrM.rf hFc341 rfl) hFc345 rfl) hFc347 rfl) rfl)) | exact PU.zero (by have q := (((congrFun (hFc347.2 11 rfl rfl) _).trans ((congrFun (hFc345.2 11 rfl rfl) _).trans ((congrFun (hFc341.2 11 rfl rfl) _).trans up_same))) : Pc347 11 (P 0 37) = ((H46_21 11 (P 0 37)) + 1)); omega)) (by have q0 := b0_8 hBc347; omega) (by have q0 := (((hFc347.1 4 rfl).trans rfl) : Pc347 0 4 = (Pc345 0 4)); have q1 := b0_4 hBc345; omega) (by have q0 := (((hFc347.1 3 rfl).trans rfl) : Pc347 0 3 = (Pc345 0 3)); have q1 := b0_3 hBc345; have q2 := (((hFc347.1 4 rfl).trans rfl) : Pc347 0 4 = (Pc345 0 4)); have q3 := b0_4 hBc345; have q4 := (((hFc347.1 5 rfl).trans rfl) : Pc347 0 5 = (Pc345 0 5)); have q5 := b0_5 hBc345; omega) (ZC.fr (F := ([3, 4, 5, 6, 7, 8, 9, 12], [])) iv328 (FrM.c (FrM.c (FrM.c FrM.rf hFc341 rfl) hFc345 rfl) hFc347 rfl) rfl) (ZI.fr (F := ([3, 4, 5, 6, 7, 8, 9, 12], [])) iv330 (FrM.c (FrM.c (FrM.c FrM.rf hFc341 rfl) hFc345 rfl) hFc347 rfl) rfl) (ZS.fr (F := ([3, 4, 5, 6, 7, 8, 9, 12], [])) iv329 (FrM.c (FrM.c (FrM.c FrM.rf hFc341 rfl) hFc345 rfl) hFc347 rfl) rfl) (by have q0 := (((hFc347.1 4 rfl).trans rfl) : Pc347 0 4 = (Pc345 0 4)); have q1 := b0_4 hBc345; omega)
                    · exact g_retV dX12_matchIs_167 rfl (hQ _ hBc341 (FrM.c (FrM.a (FrM.a (FrM.c (FrM.c (FrM.c (FrM.c (FrM.s (FrM.c FrM.rf hFc2 rfl) rfl) hFc6 rfl) hE46_21 rfl) hFc320 rfl) hFc321 rfl) rfl rfl) rfl rfl) hFc341 rfl) (by have q0 := (((hFc341.1 3 rfl).trans ((up_o (by decide)).trans ((up_o (by decide)).trans ((hFc321.1 3 rfl).trans ((hFc320.1 3 rfl).trans rfl))))) : Pc341 0 3 = (H46_21 0 3)); have q1 := b0_3 hB46_21; have q2 := (((hFc341.1 4 rfl).trans ((up_o (by decide)).trans ((up_o (by decide)).trans ((hFc321.1 4 rfl).trans ((hFc320.1 4 rfl).trans rfl))))) : Pc341 0 4 = (H46_21 0 4)); have q3 := b0_4 hB46_21; have q4 := (((hFc341.1 5 rfl).trans ((up_o (by decide)).trans ((up_o (by decide)).trans ((hFc321.1 5 rfl).trans ((hFc320.1 5 rfl).trans rfl))))) : Pc341 0 5 = (H46_21 0 5)); have q5 := b0_5 hB46_21; omega) (by have q0 := (((hFc341.1 4 rfl).trans ((up_o (by decide)).trans ((up_o (by decide)).trans ((hFc321.1 4 rfl).trans ((hFc320.1 4 rfl).trans rfl))))) : Pc341 0 4 = (H46_21 0 4)); have q1 := b0_4 hB46_21; omega) (by have q0 := b0_8 hBc341; omega) (by first | (left; omega) | (right; have q := hNONE; unfold PU at q; rw [← q]; omega)) (ZC.fr (F := ([8, 9], [])) iv328 (FrM.c FrM.rf hFc341 rfl) rfl) (ZI.fr (F := ([8, 9], [])) iv330 (FrM.c FrM.rf hFc341 rfl) rfl) (ZS.fr (F := ([8, 9], [])) iv329 (FrM.c FrM.rf hFc341 rfl) rfl))
                · exact g_retV dX12_matchIs_96 rfl (hQ _ hBc321 (FrM.c (FrM.c (FrM.c (FrM.c (FrM.s (FrM.c FrM.rf hFc2 rfl) rfl) hFc6 rfl) hE46_21 rfl) hFc320 rfl) hFc321 rfl) (by have q0 := (((hFc321.1 3 rfl).trans ((hFc320.1 3 rfl).trans rfl)) : Pc321 0 3 = (H46_21 0 3)); have q1 := b0_3 hB46_21; have q2 := (((hFc321.1 4 rfl).trans ((hFc320.1 4 rfl).trans rfl)) : Pc321 0 4 = (H46_21 0 4)); have q3 := b0_4 hB46_21; have q4 := (((hFc321.1 5 rfl).trans ((hFc320.1 5 rfl).trans rfl)) : Pc321 0 5 = (H46_21 0 5)); have q5 := b0_5 hB46_21; omega) (by have q0 := (((hFc321.1 4 rfl).trans ((hFc320.1 4 rfl).trans rfl)) : Pc321 0 4 = (H46_21 0 4)); have q1 := b0_4 hB46_21; omega) (by have q0 := b0_8 hBc321; omega) (by first | (left; omega) | (right; have q := (PU.fr (F := ([8, 9], [])) iv284 (FrM.c (FrM.c FrM.rf hFc320 rfl) hFc321 rfl) rfl); unfold PU at q; rw [← q]; omega)) (ZC.fr (F := ([8, 9], [])) w46_ZC_21 (FrM.c (FrM.c FrM.rf hFc320 rfl) hFc321 rfl) rfl) (ZI.fr (F := ([8, 9], [])) w46_ZI_21 (FrM.c (FrM.c FrM.rf hFc320 rfl) hFc321 rfl) rfl) (ZS.fr (F := ([8, 9], [])) w46_ZS_21 (FrM.c (FrM.c FrM.rf hFc320 rfl) hFc321 rfl) rfl))
        refine g_forget (l1 := [(0, vR 0), (1, vI 1)]) (by intro q hq; simp only [List.mem_cons, List.not_mem_nil, or_false] at hq ⊢; rcases hq with rfl | rfl <;> simp) ?_
        exact L46_21 _ 1 (by decide) _ hBc6 FrM.rf (by first | exact hw9.symm.trans (hNONE) | exact PU.zero (by have q := (((congrFun (hFc6.2 11 rfl rfl) _).trans ((up_o (by decide)).trans ((congrFun (hFc2.2 11 rfl rfl) _).trans rfl))) : Pc6 11 (P 0 37) = (P 11 (P 0 37))); omega)) (by have q0 := b0_8 hBc6; omega) (by have q0 := (((hFc6.1 4 rfl).trans ((up_k (by decide)).trans rfl)) : Pc6 0 4 = (Pc2 0 4)); have q1 := b0_4 hBc2; omega) (by have q0 := (((hFc6.1 3 rfl).trans ((up_k (by decide)).trans rfl)) : Pc6 0 3 = (Pc2 0 3)); have q1 := b0_3 hBc2; have q2 := (((hFc6.1 4 rfl).trans ((up_k (by decide)).trans rfl)) : Pc6 0 4 = (Pc2 0 4)); have q3 := b0_4 hBc2; have q4 := (((hFc6.1 5 rfl).trans ((up_k (by decide)).trans rfl)) : Pc6 0 5 = (Pc2 0 5)); have q5 := b0_5 hBc2; omega) (ZC.fr (F := ([3, 4, 5, 6, 7, 8, 9, 12, 38], [])) v_ZC (FrM.c (FrM.s (FrM.c FrM.rf hFc2 rfl) rfl) hFc6 rfl) rfl) (ZI.fr (F := ([8, 9], [])) iv5 (FrM.c FrM.rf hFc6 rfl) rfl) (ZS.fr (F := ([3, 4, 5, 6, 7, 8, 9, 12, 38], [])) v_ZS (FrM.c (FrM.s (FrM.c FrM.rf hFc2 rfl) rfl) hFc6 rfl) rfl) (Nat.lt_succ_self _)
      · refine g_aload_n dX12_matchIs_37 rfl ?_
        refine g_iconst dX12_matchIs_38 ?_
        refine g_aload_n dX12_matchIs_39 rfl ?_
        refine m_g4 (z := (Pc2 0 4)) rfl dX12_matchIs_40 ((hFc6.1 4 rfl).trans ((up_k (by decide)).trans rfl)) ?_
        have f349 := b0_4 hBc2
        refine g_vV (av := [vI 1, vI (Pc2 0 4)]) (o := 0) (st := []) (m_X12_blame G Pc6 1 (Pc2 0 4) (by decide) ⟨by have q0 := b0_4 hBc2; omega, by have q0 := b0_4 hBc2; omega⟩ hBc6  _ (fun Pc350 hBc350 hFc350 gc350_f gc350_pe => ⟨rfl, ?_⟩)) cf_X12_blame t_1701 rfl (by decide) rfl rfl rfl (Nat.le_of_ble_eq_true rfl) (by decide) rfl dX12_matchIs_43
        have L46_350 : ∀ (n46_350 : Nat) (x46_1_350 : Int) (h_x46_1_350 : 1 ≤ x46_1_350 ∧ x46_1_350 ≤ 20000) (H46_350 : PH) (hB46_350 : BdM H46_350) (hE46_350 : FrM ([3, 4, 5, 6, 7, 8, 9, 12], [11, 12]) Pc350 H46_350) (i46_0_350 : x46_1_350 = prdU H46_350 (P 0 37) (H46_350 11 (P 0 37)).toNat) (i46_1_350 : P 0 8 ≤ 0 ∨ 0 < H46_350 0 8) (i46_2_350 : P 0 4 ≤ H46_350 0 4) (i46_3_350 : (H46_350 0 3 = 0 ∨ H46_350 0 4 + 1 ≤ H46_350 0 5) ∧ H46_350 0 4 ≤ H46_350 0 5) (w46_ZC_350 : ZC H46_350) (w46_ZI_350 : ZI H46_350) (w46_ZS_350 : ZS H46_350) (hm46_350 : (1601 - H46_350 0 4 : Int).toNat < n46_350), Go WSM G 4 iX12_matchIs 46 [(0, vR 0), (1, vI x46_1_350)] [] H46_350 Q := by
          intro n46_350
          induction n46_350 with
          | zero => intro x46_1_350 h_x46_1_350 H46_350 hB46_350 hE46_350 i46_0_350 i46_1_350 i46_2_350 i46_3_350 w46_ZC_350 w46_ZI_350 w46_ZS_350 hm46_350; exact absurd hm46_350 (Nat.not_lt_zero _)
          | succ n46_350 ih46_350 =>
          intro x46_1_350 h_x46_1_350 H46_350 hB46_350 hE46_350 i46_0_350 i46_1_350 i46_2_350 i46_3_350 w46_ZC_350 w46_ZI_350 w46_ZS_350 hm46_350
          obtain ⟨w8, hw8⟩ : ∃ w8, w8 = x46_1_350 := ⟨_, rfl⟩
          have iv612 : PU w8 (P 0 37) H46_350 := by unfold PU; rw [hw8]; exact i46_0_350
          refine g_aload_n dX12_matchIs_46 rfl ?_
          refine m_g8 (z := (H46_350 0 8)) rfl dX12_matchIs_47 rfl ?_
          have f613 := b0_8 hB46_350
          refine g_if_ne (tgt := 179) dX12_matchIs_50 (by decide) ⟨by have q0 := b0_8 hB46_350; omega, by have q0 := b0_8 hB46_350; omega⟩ (fun k614 => ?_) (fun k614 => ?_)
          · exact g_retV dX12_matchIs_179 rfl (hQ _ hB46_350 (FrM.c (FrM.c (FrM.c (FrM.s (FrM.c FrM.rf hFc2 rfl) rfl) hFc6 rfl) hFc350 rfl) hE46_350 rfl) (by have q0 := b0_3 hB46_350; have q1 := b0_4 hB46_350; have q2 := b0_5 hB46_350; omega) (by have q0 := b0_4 hB46_350; omega) (by have q0 := b0_8 hB46_350; omega) (by first | (left; omega) | (right; have q := iv612; unfold PU at q; rw [← q]; omega)) w46_ZC_350 w46_ZI_350 w46_ZS_350)
          · refine g_aload_n dX12_matchIs_53 rfl ?_
            refine g_vI (av := []) (o := 0) (st := []) (m_X12_isKindHere G H46_350  hB46_350  _ (fun rc615 hc615 gc615_w => ⟨rc615, rfl, ?_⟩)) cf_X12_isKindHere t_1748 rfl (by decide) rfl rfl rfl (Nat.le_of_ble_eq_true rfl) (by decide) rfl dX12_matchIs_54
            refine g_if_eq (tgt := 179) dX12_matchIs_57 (by decide) ⟨by omega, by omega⟩ (fun k616 => ?_) (fun k616 => ?_)
            · exact g_retV dX12_matchIs_179 rfl (hQ _ hB46_350 (FrM.c (FrM.c (FrM.c (FrM.s (FrM.c FrM.rf hFc2 rfl) rfl) hFc6 rfl) hFc350 rfl) hE46_350 rfl) (by have q0 := b0_3 hB46_350; have q1 := b0_4 hB46_350; have q2 := b0_5 hB46_350; omega) (by have q0 := b0_4 hB46_350; omega) (by have q0 := b0_8 hB46_350; omega) (by first | (left; omega) | (right; have q := iv612; unfold PU at q; rw [← q]; omega)) w46_ZC_350 w46_ZI_350 w46_ZS_350)
            · refine g_aload_n dX12_matchIs_60 rfl ?_
              refine m_g23 rfl dX12_matchIs_61 ?_
              refine g_aload_n dX12_matchIs_64 rfl ?_
              refine m_g37 (z := (P 0 37)) rfl dX12_matchIs_65 ((hE46_350.1 37 rfl).trans ((hFc350.1 37 rfl).trans ((hFc6.1 37 rfl).trans ((up_k (by decide)).trans ((hFc2.1 37 rfl).trans rfl))))) ?_
              refine m_l11 (z := (H46_350 11 (P 0 37))) dX12_matchIs_68 ⟨by have q0 := b0_37 hB; omega, by have q0 := b0_37 hB; omega⟩ rfl ?_
              refine g_iconst dX12_matchIs_69 ?_
              have f617 := bl_11 (k := (P 0 37)) hB46_350
              refine g_icmp_ne (tgt := 83) dX12_matchIs_70 (by decide) ⟨by have q0 := bl_11 (k := (P 0 37)) hB46_350; omega, by have q0 := bl_11 (k := (P 0 37)) hB46_350; omega⟩ (by decide) (fun k618 => ?_) (fun k618 => ?_)
              · refine g_aload_n dX12_matchIs_83 rfl ?_
                refine g_iconst dX12_matchIs_84 ?_
                refine g_vI (av := [vI 4]) (o := 0) (st := []) (m_X12_known G H46_350 4 (by decide) hB46_350 (by have q0 := b0_3 hB46_350; have q1 := b0_4 hB46_350; have q2 := b0_5 hB46_350; omega) _ (fun rc619 hc619 Pc619 hBc619 hFc619 gc619_lx gc619_mo gc619_pe gc619_k => ⟨rc619, rfl, ?_⟩)) cf_X12_known t_1752 rfl (by decide) rfl rfl rfl (Nat.le_of_ble_eq_true rfl) (by decide) rfl dX12_matchIs_85
                have z620 : H46_350 0 37 = (P 0 37) := ((hE46_350.1 37 rfl).trans ((hFc350.1 37 rfl).trans ((hFc6.1 37 rfl).trans ((up_k (by decide)).trans ((hFc2.1 37 rfl).trans rfl)))))
                have e37 := (((hE46_350.1 37 rfl).trans ((hFc350.1 37 rfl).trans ((hFc6.1 37 rfl).trans ((up_k (by decide)).trans ((hFc2.1 37 rfl).trans rfl))))) : H46_350 0 37 = (P 0 37))
                rw [e37] at gc619_k
                have e3 := (((congrFun (hFc619.2 3 rfl rfl) _).trans ((congrFun (hE46_350.2 3 rfl rfl) _).trans ((congrFun (hFc350.2 3 rfl rfl) _).trans ((congrFun (hFc6.2 3 rfl rfl) _).trans ((up_o (by decide)).trans ((congrFun (hFc2.2 3 rfl rfl) _).trans rfl)))))) : Pc619 3 ((4 * (P 0 37)) + rc619) = (P 3 ((4 * (P 0 37)) + rc619)))
                refine g_istore_n (l1 := [(2, vI rc619), (0, vR 0), (1, vI x46_1_350)]) dX12_matchIs_88 (by decide) rfl ?_
                refine g_aload_n dX12_matchIs_89 rfl ?_
                refine m_g8 (z := (Pc619 0 8)) rfl dX12_matchIs_90 rfl ?_
                have f621 := b0_8 hBc619
                refine g_if_le (tgt := 97) dX12_matchIs_93 (by decide) ⟨by have q0 := b0_8 hBc619; omega, by have q0 := b0_8 hBc619; omega⟩ (fun k622 => ?_) (fun k622 => ?_)
                · have hpv := (PU.fr (F := ([8, 9], [])) iv612 (FrM.c FrM.rf hFc619 rfl) rfl)
                  have hzc := (ZC.fr (F := ([8, 9], [])) w46_ZC_350 (FrM.c FrM.rf hFc619 rfl) rfl)
                  have hzs := (ZS.fr (F := ([8, 9], [])) w46_ZS_350 (FrM.c FrM.rf hFc619 rfl) rfl)
                  have hbb := hBc619
                  have he11 := (((congrFun (hFc619.2 11 rfl rfl) _).trans rfl) : Pc619 11 (P 0 37) = (H46_350 11 (P 0 37)))
                  have he13 := (((congrFun (hFc619.2 13 rfl rfl) _).trans ((congrFun (hE46_350.2 13 rfl rfl) _).trans ((congrFun (hFc350.2 13 rfl rfl) _).trans ((congrFun (hFc6.2 13 rfl rfl) _).trans ((up_o (by decide)).trans ((congrFun (hFc2.2 13 rfl rfl) _).trans rfl)))))) : Pc619 13 (P 0 37) = (P 13 (P 0 37)))
                  have q11 := bl_11 (k := P 0 37) hbb
                  refine g_aload_n dX12_matchIs_97 rfl ?_
                  refine m_g24 rfl dX12_matchIs_98 ?_
                  refine g_iconst dX12_matchIs_101 ?_
                  refine g_aload_n dX12_matchIs_102 rfl ?_
                  refine m_g37 (z := (P 0 37)) rfl dX12_matchIs_103 ((hFc619.1 37 rfl).trans ((hE46_350.1 37 rfl).trans ((hFc350.1 37 rfl).trans ((hFc6.1 37 rfl).trans ((up_k (by decide)).trans ((hFc2.1 37 rfl).trans rfl)))))) ?_
                  refine g_imul dX12_matchIs_106 ?_
                  refine g_aload_n dX12_matchIs_107 rfl ?_
                  refine m_g23 rfl dX12_matchIs_108 ?_
                  refine g_aload_n dX12_matchIs_111 rfl ?_
                  refine m_g37 (z := (P 0 37)) rfl dX12_matchIs_112 ((hFc619.1 37 rfl).trans ((hE46_350.1 37 rfl).trans ((hFc350.1 37 rfl).trans ((hFc6.1 37 rfl).trans ((up_k (by decide)).trans ((hFc2.1 37 rfl).trans rfl)))))) ?_
                  refine m_l11 (z := (H46_350 11 (P 0 37))) dX12_matchIs_115 ⟨by have q0 := b0_37 hB; omega, by have q0 := b0_37 hB; omega⟩ ((congrFun (hFc619.2 11 rfl rfl) _).trans rfl) ?_
                  refine g_iadd dX12_matchIs_116 ?_
                  refine g_iload_n dX12_matchIs_117 rfl ?_
                  refine m_s12 dX12_matchIs_118 ⟨by have q0 := b0_37 hB; have q1 := bl_11 (k := (P 0 37)) hB46_350; omega, by have q0 := b0_37 hB; have q1 := bl_11 (k := (P 0 37)) hB46_350; omega⟩ ?_
                  have hB623 := ba_12 (z := rc619) (k := ((4 * (P 0 37)) + (H46_350 11 (P 0 37)))) hBc619 ⟨by omega, by omega⟩
                  refine g_aload_n dX12_matchIs_119 rfl ?_
                  refine m_g23 rfl dX12_matchIs_120 ?_
                  refine g_aload_n dX12_matchIs_123 rfl ?_
                  refine m_g37 (z := (P 0 37)) rfl dX12_matchIs_124 ((up_o (by decide)).trans ((hFc619.1 37 rfl).trans ((hE46_350.1 37 rfl).trans ((hFc350.1 37 rfl).trans ((hFc6.1 37 rfl).trans ((up_k (by decide)).trans ((hFc2.1 37 rfl).trans rfl))))))) ?_
                  refine g_dup2 dX12_matchIs_127 rfl rfl ?_
                  refine m_l11 (z := (H46_350 11 (P 0 37))) dX12_matchIs_128 ⟨by have q0 := b0_37 hB; omega, by have q0 := b0_37 hB; omega⟩ ((up_o (by decide)).trans ((congrFun (hFc619.2 11 rfl rfl) _).trans rfl)) ?_
                  refine g_iconst dX12_matchIs_129 ?_
                  refine g_iadd dX12_matchIs_130 ?_
                  refine m_s11 dX12_matchIs_131 ⟨by have q0 := b0_37 hB; omega, by have q0 := b0_37 hB; omega⟩ ?_
                  have hB624 := ba_11 (z := ((H46_350 11 (P 0 37)) + 1)) (k := (P 0 37)) hB623 ⟨by have q0 := bl_11 (k := (P 0 37)) hB46_350; omega, by have q0 := bl_11 (k := (P 0 37)) hB46_350; omega⟩
                  have iv625 : ZC (up (up Pc619 12 ((4 * (P 0 37)) + (H46_350 11 (P 0 37))) rc619) 11 (P 0 37) ((H46_350 11 (P 0 37)) + 1)) := hzc.col (i := P 0 37) (b0_37 hB) he11 ⟨by omega, by omega⟩ (fun j hj => ((up_o (by decide)).trans ((up_k hj).trans rfl))) ((up_o (by decide)).trans up_same) (fun j hj => ((up_k hj).trans ((up_o (by decide)).trans rfl))) up_same (bl_11 hbb).2 (by omega) (fun j => ((up_o (by decide)).trans ((up_o (by decide)).trans rfl))) (fun j => ((up_o (by decide)).trans ((up_o (by decide)).trans rfl)))
                  have iv626 : ZS (up (up Pc619 12 ((4 * (P 0 37)) + (H46_350 11 (P 0 37))) rc619) 11 (P 0 37) ((H46_350 11 (P 0 37)) + 1)) := hzs.un (i := P 0 37) hbb (b0_37 hB) (by omega) ((up_o (by decide)).trans ((up_o (by decide)).trans ((hFc619.1 37 rfl).trans ((hE46_350.1 37 rfl).trans ((hFc350.1 37 rfl).trans ((hFc6.1 37 rfl).trans ((up_k (by decide)).trans ((hFc2.1 37 rfl).trans rfl)))))))) (fun j hj => ((up_o (by decide)).trans ((up_o (by decide)).trans rfl))) (fun j _ => ((up_o (by decide)).trans ((up_o (by decide)).trans rfl))) (fun j hj => ((up_k hj).trans ((up_o (by decide)).trans rfl))) (fun j => ((up_o (by decide)).trans ((up_o (by decide)).trans rfl))) (fun j => ((up_o (by decide)).trans ((up_o (by decide)).trans rfl))) (fun j => ((up_o (by decide)).trans ((up_o (by decide)).trans rfl))) (fun j => ((up_o (by decide)).trans ((up_o (by decide)).trans rfl))) (fun j => ((up_o (by decide)).trans ((up_o (by decide)).trans rfl))) (fun j => ((up_o (by decide)).trans ((up_o (by decide)).trans rfl)))
                  have iv627 : ZI (up (up Pc619 12 ((4 * (P 0 37)) + (H46_350 11 (P 0 37))) rc619) 11 (P 0 37) ((H46_350 11 (P 0 37)) + 1)) := fun h => by have q := (((up_o (by decide)).trans ((up_o (by decide)).trans ((hFc619.1 38 rfl).trans ((hE46_350.1 38 rfl).trans ((hFc350.1 38 rfl).trans ((hFc6.1 38 rfl).trans up_same)))))) : (up (up Pc619 12 ((4 * (P 0 37)) + (H46_350 11 (P 0 37))) rc619) 11 (P 0 37) ((H46_350 11 (P 0 37)) + 1)) 0 38 = 1); omega
                  refine g_iload_n dX12_matchIs_132 rfl ?_
                  refine g_aload_n dX12_matchIs_133 rfl ?_
                  refine g_aload_n dX12_matchIs_134 rfl ?_
                  refine m_g37 (z := (P 0 37)) rfl dX12_matchIs_135 ((up_o (by decide)).trans ((up_o (by decide)).trans ((hFc619.1 37 rfl).trans ((hE46_350.1 37 rfl).trans ((hFc350.1 37 rfl).trans ((hFc6.1 37 rfl).trans ((up_k (by decide)).trans ((hFc2.1 37 rfl).trans rfl)))))))) ?_
                  refine g_iload_n dX12_matchIs_138 rfl ?_
                  have f628 := b0_37 hB
                  refine g_vI (av := [vI (P 0 37), vI rc619]) (o := 0) (st := [vI x46_1_350]) (m_X12_valuesOf G (up (up Pc619 12 ((4 * (P 0 37)) + (H46_350 11 (P 0 37))) rc619) 11 (P 0 37) ((H46_350 11 (P 0 37)) + 1)) (P 0 37) rc619 ⟨by have q0 := b0_37 hB; omega, by have q0 := b0_37 hB; omega⟩ ⟨by omega, by omega⟩ hB624  _ (fun rc629 hc629 gc629_v => ⟨rc629, rfl, ?_⟩)) cf_X12_valuesOf t_1756 rfl (by decide) rfl rfl rfl (Nat.le_of_ble_eq_true rfl) (by decide) rfl dX12_matchIs_139
                  have e3v := (((up_o (by decide)).trans ((up_o (by decide)).trans ((congrFun (hFc619.2 3 rfl rfl) _).trans ((congrFun (hE46_350.2 3 rfl rfl) _).trans ((congrFun (hFc350.2 3 rfl rfl) _).trans ((congrFun (hFc6.2 3 rfl rfl) _).trans ((up_o (by decide)).trans ((congrFun (hFc2.2 3 rfl rfl) _).trans rfl)))))))) : (up (up Pc619 12 ((4 * (P 0 37)) + (H46_350 11 (P 0 37))) rc619) 11 (P 0 37) ((H46_350 11 (P 0 37)) + 1)) 3 ((4 * (P 0 37)) + rc619) = (P 3 ((4 * (P 0 37)) + rc619)))
                  have hr9 := (vals_of gc629_v).trans (vals_eq fun _ => ((up_o (by decide)).trans ((up_o (by decide)).trans rfl)))
                  refine g_imul dX12_matchIs_142 ?_
                  refine g_nm (fun w630 e_w630 => ?_)
                  have h_w630 : 1 ≤ w630 ∧ w630 ≤ 40120000 := by rw [e_w630]; exact mul_b (A := 20000) (B := 2006) ⟨by omega, by omega⟩ ⟨by omega, by omega⟩
                  have hm9 := e_w630
                  refine g_istore_n (l1 := [(1, vI w630), (2, vI rc619), (0, vR 0)]) dX12_matchIs_143 (by decide) rfl ?_
                  obtain ⟨w9, hw9⟩ : ∃ w9, w9 = w630 := ⟨_, rfl⟩
                  have iv631 : PU w9 (P 0 37) (up (up Pc619 12 ((4 * (P 0 37)) + (H46_350 11 (P 0 37))) rc619) 11 (P 0 37) ((H46_350 11 (P 0 37)) + 1)) := hpv.col (hw9.trans (by rw [hw8]; exact hm9)) hr9 (by omega) he11 (fun j hj => ((up_o (by decide)).trans ((up_k hj).trans rfl))) ((up_o (by decide)).trans up_same) (fun j => ((up_o (by decide)).trans ((up_o (by decide)).trans rfl))) up_same
                  refine g_iload_n dX12_matchIs_144 rfl ?_
                  refine g_sipush dX12_matchIs_145 (by decide) ?_
                  refine g_icmp_le (tgt := 160) dX12_matchIs_148 (by decide) ⟨by omega, by omega⟩ (by decide) (fun k632 => ?_) (fun k632 => ?_)
                  · refine g_aload_n dX12_matchIs_160 rfl ?_
                    refine m_g8 (z := (Pc619 0 8)) rfl dX12_matchIs_161 ((up_o (by decide)).trans ((up_o (by decide)).trans rfl)) ?_
                    refine g_if_le (tgt := 168) dX12_matchIs_164 (by decide) ⟨by have q0 := b0_8 hBc619; omega, by have q0 := b0_8 hBc619; omega⟩ (fun k633 => ?_) (fun k633 => by exfalso; have q0 := b0_8 hBc619; omega)
                    refine g_aload_n dX12_matchIs_168 rfl ?_
                    refine g_vV (av := []) (o := 0) (st := []) (m_X12_ahead G (up (up Pc619 12 ((4 * (P 0 37)) + (H46_350 11 (P 0 37))) rc619) 11 (P 0 37) ((H46_350 11 (P 0 37)) + 1))  hB624  _ (fun Pc634 hBc634 hFc634 gc634_lx gc634_nx => ⟨rfl, ?_⟩)) cf_X12_ahead t_1683 rfl (by decide) rfl rfl rfl (Nat.le_of_ble_eq_true rfl) (by decide) rfl dX12_matchIs_169
                    have z635 : (up (up Pc619 12 ((4 * (P 0 37)) + (H46_350 11 (P 0 37))) rc619) 11 (P 0 37) ((H46_350 11 (P 0 37)) + 1)) 0 5 = (H46_350 0 5) := ((up_o (by decide)).trans ((up_o (by decide)).trans ((hFc619.1 5 rfl).trans rfl)))
                    refine g_aload_n dX12_matchIs_172 rfl ?_
                    refine g_vV (av := []) (o := 0) (st := []) (m_X12_lex G Pc634  hBc634  _ (fun Pc636 hBc636 hFc636 gc636_pe => ⟨rfl, ?_⟩)) cf_X12_lex t_1697 rfl (by decide) rfl rfl rfl (Nat.le_of_ble_eq_true rfl) (by decide) rfl dX12_matchIs_173
                    have z637 : Pc634 0 8 = (Pc619 0 8) := ((hFc634.1 8 rfl).trans ((up_o (by decide)).trans ((up_o (by decide)).trans rfl)))
                    refine g_goto (tgt := 46) dX12_matchIs_176 (by decide) ?_
                    refine g_forget (l1 := [(0, vR 0), (1, vI w630)]) (by intro q hq; simp only [List.mem_cons, List.not_mem_nil, or_false] at hq ⊢; rcases hq with rfl | rfl <;> simp) ?_
                    exact ih46_350 w630 ⟨by omega, by omega⟩ _ hBc636 (FrM.c (FrM.c (FrM.a (FrM.a (FrM.c (FrM.c FrM.rf hE46_350 rfl) hFc619 rfl) rfl rfl) rfl rfl) hFc634 rfl) hFc636 rfl) (by first | exact hw9.symm.trans ((PU.fr (F := ([3, 4, 5, 6, 7, 8, 9, 12], [])) iv631 (FrM.c (FrM.c FrM.rf hFc634 rfl) hFc636 rfl) rfl)) | exact PU.zero (by have q := (((congrFun (hFc636.2 11 rfl rfl) _).trans ((congrFun (hFc634.2 11 rfl rfl) _).trans up_same)) : Pc636 11 (P 0 37) = ((H46_350 11 (P 0 37)) + 1)); omega)) (by have q0 := b0_8 hBc636; omega) (by have q0 := (((hFc636.1 4 rfl).trans rfl) : Pc636 0 4 = (Pc634 0 4)); have q1 := b0_4 hBc634; omega) (by have q0 := (((hFc636.1 3 rfl).trans rfl) : Pc636 0 3 = (Pc634 0 3)); have q1 := b0_3 hBc634; have q2 := (((hFc636.1 4 rfl).trans rfl) : Pc636 0 4 = (Pc634 0 4)); have q3 := b0_4 hBc634; have q4 := (((hFc636.1 5 rfl).trans rfl) : Pc636 0 5 = (Pc634 0 5)); have q5 := b0_5 hBc634; omega) (ZC.fr (F := ([3, 4, 5, 6, 7, 8, 9, 12], [])) iv625 (FrM.c (FrM.c FrM.rf hFc634 rfl) hFc636 rfl) rfl) (ZI.fr (F := ([3, 4, 5, 6, 7, 8, 9, 12], [])) iv627 (FrM.c (FrM.c FrM.rf hFc634 rfl) hFc636 rfl) rfl) (ZS.fr (F := ([3, 4, 5, 6, 7, 8, 9, 12], [])) iv626 (FrM.c (FrM.c FrM.rf hFc634 rfl) hFc636 rfl) rfl) (by have q0 := (((hFc636.1 4 rfl).trans rfl) : Pc636 0 4 = (Pc634 0 4)); have q1 := b0_4 hBc634; omega)
                  · refine g_aload_n dX12_matchIs_151 rfl ?_
                    refine g_iconst dX12_matchIs_152 ?_
                    refine g_aload_n dX12_matchIs_153 rfl ?_
                    refine m_g4 (z := (H46_350 0 4)) rfl dX12_matchIs_154 ((up_o (by decide)).trans ((up_o (by decide)).trans ((hFc619.1 4 rfl).trans rfl))) ?_
                    have f638 := b0_4 hB46_350
                    refine g_vV (av := [vI 4, vI (H46_350 0 4)]) (o := 0) (st := []) (m_X12_blame G (up (up Pc619 12 ((4 * (P 0 37)) + (H46_350 11 (P 0 37))) rc619) 11 (P 0 37) ((H46_350 11 (P 0 37)) + 1)) 4 (H46_350 0 4) (by decide) ⟨by have q0 := b0_4 hB46_350; omega, by have q0 := b0_4 hB46_350; omega⟩ hB624  _ (fun Pc639 hBc639 hFc639 gc639_f gc639_pe => ⟨rfl, ?_⟩)) cf_X12_blame t_1701 rfl (by decide) rfl rfl rfl (Nat.le_of_ble_eq_true rfl) (by decide) rfl dX12_matchIs_157
                    have z640 : (up (up Pc619 12 ((4 * (P 0 37)) + (H46_350 11 (P 0 37))) rc619) 11 (P 0 37) ((H46_350 11 (P 0 37)) + 1)) 0 8 = (Pc619 0 8) := ((up_o (by decide)).trans ((up_o (by decide)).trans rfl))
                    refine g_aload_n dX12_matchIs_160 rfl ?_
                    refine m_g8 (z := (Pc639 0 8)) rfl dX12_matchIs_161 rfl ?_
                    have f641 := b0_8 hBc639
                    refine g_if_le (tgt := 168) dX12_matchIs_164 (by decide) ⟨by have q0 := b0_8 hBc639; omega, by have q0 := b0_8 hBc639; omega⟩ (fun k642 => ?_) (fun k642 => ?_)
                    · refine g_aload_n dX12_matchIs_168 rfl ?_
                      refine g_vV (av := []) (o := 0) (st := []) (m_X12_ahead G Pc639  hBc639  _ (fun Pc643 hBc643 hFc643 gc643_lx gc643_nx => ⟨rfl, ?_⟩)) cf_X12_ahead t_1683 rfl (by decide) rfl rfl rfl (Nat.le_of_ble_eq_true rfl) (by decide) rfl dX12_matchIs_169
                      have z644 : Pc639 0 5 = (H46_350 0 5) := ((hFc639.1 5 rfl).trans ((up_o (by decide)).trans ((up_o (by decide)).trans ((hFc619.1 5 rfl).trans rfl))))
                      refine g_aload_n dX12_matchIs_172 rfl ?_
                      refine g_vV (av := []) (o := 0) (st := []) (m_X12_lex G Pc643  hBc643  _ (fun Pc645 hBc645 hFc645 gc645_pe => ⟨rfl, ?_⟩)) cf_X12_lex t_1697 rfl (by decide) rfl rfl rfl (Nat.le_of_ble_eq_true rfl) (by decide) rfl dX12_matchIs_173
                      have z646 : Pc643 0 8 = (Pc639 0 8) := ((hFc643.1 8 rfl).trans rfl)
                      refine g_goto (tgt := 46) dX12_matchIs_176 (by decide) ?_
                      refine g_forget (l1 := [(0, vR 0), (1, vI w630)]) (by intro q hq; simp only [List.mem_cons, List.not_mem_nil, or_false] at hq ⊢; rcases hq with rfl | rfl <;> simp) ?_
                      exact ih46_350 w630 ⟨by omega, by omega⟩ _ hBc645 (FrM.c (FrM.c (FrM.c (FrM.a (FrM.a (FrM.c (FrM.c FrM.rf hE46_350 rfl) hFc619 rfl) rfl rfl) rfl rfl) hFc639 rfl) hFc643 rfl) hFc645 rfl) (by first | exact hw9.symm.trans ((PU.fr (F := ([3, 4, 5, 6, 7, 8, 9, 12], [])) iv631 (FrM.c (FrM.c (FrM.c FrM.rf hFc639 rfl) hFc643 rfl) hFc645 rfl) rfl)) | exact PU.zero (by have q := (((congrFun (hFc645.2 11 rfl rfl) _).trans ((congrFun (hFc643.2 11 rfl rfl) _).trans ((congrFun (hFc639.2 11 rfl rfl) _).trans up_same))) : Pc645 11 (P 0 37) = ((H46_350 11 (P 0 37)) + 1)); omega)) (by have q0 := b0_8 hBc645; omega) (by have q0 := (((hFc645.1 4 rfl).trans rfl) : Pc645 0 4 = (Pc643 0 4)); have q1 := b0_4 hBc643; omega) (by have q0 := (((hFc645.1 3 rfl).trans rfl) : Pc645 0 3 = (Pc643 0 3)); have q1 := b0_3 hBc643; have q2 := (((hFc645.1 4 rfl).trans rfl) : Pc645 0 4 = (Pc643 0 4)); have q3 := b0_4 hBc643; have q4 := (((hFc645.1 5 rfl).trans rfl) : Pc645 0 5 = (Pc643 0 5)); have q5 := b0_5 hBc643; omega) (ZC.fr (F := ([3, 4, 5, 6, 7, 8, 9, 12], [])) iv625 (FrM.c (FrM.c (FrM.c FrM.rf hFc639 rfl) hFc643 rfl) hFc645 rfl) rfl) (ZI.fr (F := ([3, 4, 5, 6, 7, 8, 9, 12], [])) iv627 (FrM.c (FrM.c (FrM.c FrM.rf hFc639 rfl) hFc643 rfl) hFc645 rfl) rfl) (ZS.fr (F := ([3, 4, 5, 6, 7, 8, 9, 12], [])) iv626 (FrM.c (FrM.c (FrM.c FrM.rf hFc639 rfl) hFc643 rfl) hFc645 rfl) rfl) (by have q0 := (((hFc645.1 4 rfl).trans rfl) : Pc645 0 4 = (Pc643 0 4)); have q1 := b0_4 hBc643; omega)
                    · exact g_retV dX12_matchIs_167 rfl (hQ _ hBc639 (FrM.c (FrM.a (FrM.a (FrM.c (FrM.c (FrM.c (FrM.c (FrM.s (FrM.c FrM.rf hFc2 rfl) rfl) hFc6 rfl) hFc350 rfl) hE46_350 rfl) hFc619 rfl) rfl rfl) rfl rfl) hFc639 rfl) (by have q0 := (((hFc639.1 3 rfl).trans ((up_o (by decide)).trans ((up_o (by decide)).trans ((hFc619.1 3 rfl).trans rfl)))) : Pc639 0 3 = (H46_350 0 3)); have q1 := b0_3 hB46_350; have q2 := (((hFc639.1 4 rfl).trans ((up_o (by decide)).trans ((up_o (by decide)).trans ((hFc619.1 4 rfl).trans rfl)))) : Pc639 0 4 = (H46_350 0 4)); have q3 := b0_4 hB46_350; have q4 := (((hFc639.1 5 rfl).trans ((up_o (by decide)).trans ((up_o (by decide)).trans ((hFc619.1 5 rfl).trans rfl)))) : Pc639 0 5 = (H46_350 0 5)); have q5 := b0_5 hB46_350; omega) (by have q0 := (((hFc639.1 4 rfl).trans ((up_o (by decide)).trans ((up_o (by decide)).trans ((hFc619.1 4 rfl).trans rfl)))) : Pc639 0 4 = (H46_350 0 4)); have q1 := b0_4 hB46_350; omega) (by have q0 := b0_8 hBc639; omega) (by first | (left; omega) | (right; have q := hNONE; unfold PU at q; rw [← q]; omega)) (ZC.fr (F := ([8, 9], [])) iv625 (FrM.c FrM.rf hFc639 rfl) rfl) (ZI.fr (F := ([8, 9], [])) iv627 (FrM.c FrM.rf hFc639 rfl) rfl) (ZS.fr (F := ([8, 9], [])) iv626 (FrM.c FrM.rf hFc639 rfl) rfl))
                · exact g_retV dX12_matchIs_96 rfl (hQ _ hBc619 (FrM.c (FrM.c (FrM.c (FrM.c (FrM.s (FrM.c FrM.rf hFc2 rfl) rfl) hFc6 rfl) hFc350 rfl) hE46_350 rfl) hFc619 rfl) (by have q0 := (((hFc619.1 3 rfl).trans rfl) : Pc619 0 3 = (H46_350 0 3)); have q1 := b0_3 hB46_350; have q2 := (((hFc619.1 4 rfl).trans rfl) : Pc619 0 4 = (H46_350 0 4)); have q3 := b0_4 hB46_350; have q4 := (((hFc619.1 5 rfl).trans rfl) : Pc619 0 5 = (H46_350 0 5)); have q5 := b0_5 hB46_350; omega) (by have q0 := (((hFc619.1 4 rfl).trans rfl) : Pc619 0 4 = (H46_350 0 4)); have q1 := b0_4 hB46_350; omega) (by have q0 := b0_8 hBc619; omega) (by first | (left; omega) | (right; have q := (PU.fr (F := ([8, 9], [])) iv612 (FrM.c FrM.rf hFc619 rfl) rfl); unfold PU at q; rw [← q]; omega)) (ZC.fr (F := ([8, 9], [])) w46_ZC_350 (FrM.c FrM.rf hFc619 rfl) rfl) (ZI.fr (F := ([8, 9], [])) w46_ZI_350 (FrM.c FrM.rf hFc619 rfl) rfl) (ZS.fr (F := ([8, 9], [])) w46_ZS_350 (FrM.c FrM.rf hFc619 rfl) rfl))
              · refine g_aload_n dX12_matchIs_73 rfl ?_
                refine g_bipush dX12_matchIs_74 (by decide) ?_
                refine g_aload_n dX12_matchIs_76 rfl ?_
                refine m_g4 (z := (H46_350 0 4)) rfl dX12_matchIs_77 rfl ?_
                have f647 := b0_4 hB46_350
                refine g_vV (av := [vI 6, vI (H46_350 0 4)]) (o := 0) (st := []) (m_X12_blame G H46_350 6 (H46_350 0 4) (by decide) ⟨by have q0 := b0_4 hB46_350; omega, by have q0 := b0_4 hB46_350; omega⟩ hB46_350  _ (fun Pc648 hBc648 hFc648 gc648_f gc648_pe => ⟨rfl, ?_⟩)) cf_X12_blame t_1701 rfl (by decide) rfl rfl rfl (Nat.le_of_ble_eq_true rfl) (by decide) rfl dX12_matchIs_80
                refine g_aload_n dX12_matchIs_83 rfl ?_
                refine g_iconst dX12_matchIs_84 ?_
                refine g_vI (av := [vI 4]) (o := 0) (st := []) (m_X12_known G Pc648 4 (by decide) hBc648 (by have q0 := (((hFc648.1 3 rfl).trans rfl) : Pc648 0 3 = (H46_350 0 3)); have q1 := b0_3 hB46_350; have q2 := (((hFc648.1 4 rfl).trans rfl) : Pc648 0 4 = (H46_350 0 4)); have q3 := b0_4 hB46_350; have q4 := (((hFc648.1 5 rfl).trans rfl) : Pc648 0 5 = (H46_350 0 5)); have q5 := b0_5 hB46_350; omega) _ (fun rc649 hc649 Pc649 hBc649 hFc649 gc649_lx gc649_mo gc649_pe gc649_k => ⟨rc649, rfl, ?_⟩)) cf_X12_known t_1752 rfl (by decide) rfl rfl rfl (Nat.le_of_ble_eq_true rfl) (by decide) rfl dX12_matchIs_85
                have z650 : Pc648 0 4 = (H46_350 0 4) := ((hFc648.1 4 rfl).trans rfl)
                have z651 : Pc648 0 37 = (P 0 37) := ((hFc648.1 37 rfl).trans ((hE46_350.1 37 rfl).trans ((hFc350.1 37 rfl).trans ((hFc6.1 37 rfl).trans ((up_k (by decide)).trans ((hFc2.1 37 rfl).trans rfl))))))
                have e37 := (((hFc648.1 37 rfl).trans ((hE46_350.1 37 rfl).trans ((hFc350.1 37 rfl).trans ((hFc6.1 37 rfl).trans ((up_k (by decide)).trans ((hFc2.1 37 rfl).trans rfl)))))) : Pc648 0 37 = (P 0 37))
                rw [e37] at gc649_k
                have e3 := (((congrFun (hFc649.2 3 rfl rfl) _).trans ((congrFun (hFc648.2 3 rfl rfl) _).trans ((congrFun (hE46_350.2 3 rfl rfl) _).trans ((congrFun (hFc350.2 3 rfl rfl) _).trans ((congrFun (hFc6.2 3 rfl rfl) _).trans ((up_o (by decide)).trans ((congrFun (hFc2.2 3 rfl rfl) _).trans rfl))))))) : Pc649 3 ((4 * (P 0 37)) + rc649) = (P 3 ((4 * (P 0 37)) + rc649)))
                refine g_istore_n (l1 := [(2, vI rc649), (0, vR 0), (1, vI x46_1_350)]) dX12_matchIs_88 (by decide) rfl ?_
                refine g_aload_n dX12_matchIs_89 rfl ?_
                refine m_g8 (z := (Pc649 0 8)) rfl dX12_matchIs_90 rfl ?_
                have f652 := b0_8 hBc649
                refine g_if_le (tgt := 97) dX12_matchIs_93 (by decide) ⟨by have q0 := b0_8 hBc649; omega, by have q0 := b0_8 hBc649; omega⟩ (fun k653 => ?_) (fun k653 => ?_)
                · have hpv := (PU.fr (F := ([8, 9], [])) iv612 (FrM.c (FrM.c FrM.rf hFc648 rfl) hFc649 rfl) rfl)
                  have hzc := (ZC.fr (F := ([8, 9], [])) w46_ZC_350 (FrM.c (FrM.c FrM.rf hFc648 rfl) hFc649 rfl) rfl)
                  have hzs := (ZS.fr (F := ([8, 9], [])) w46_ZS_350 (FrM.c (FrM.c FrM.rf hFc648 rfl) hFc649 rfl) rfl)
                  have hbb := hBc649
                  have he11 := (((congrFun (hFc649.2 11 rfl rfl) _).trans ((congrFun (hFc648.2 11 rfl rfl) _).trans rfl)) : Pc649 11 (P 0 37) = (H46_350 11 (P 0 37)))
                  have he13 := (((congrFun (hFc649.2 13 rfl rfl) _).trans ((congrFun (hFc648.2 13 rfl rfl) _).trans ((congrFun (hE46_350.2 13 rfl rfl) _).trans ((congrFun (hFc350.2 13 rfl rfl) _).trans ((congrFun (hFc6.2 13 rfl rfl) _).trans ((up_o (by decide)).trans ((congrFun (hFc2.2 13 rfl rfl) _).trans rfl))))))) : Pc649 13 (P 0 37) = (P 13 (P 0 37)))
                  have q11 := bl_11 (k := P 0 37) hbb
                  refine g_aload_n dX12_matchIs_97 rfl ?_
                  refine m_g24 rfl dX12_matchIs_98 ?_
                  refine g_iconst dX12_matchIs_101 ?_
                  refine g_aload_n dX12_matchIs_102 rfl ?_
                  refine m_g37 (z := (P 0 37)) rfl dX12_matchIs_103 ((hFc649.1 37 rfl).trans ((hFc648.1 37 rfl).trans ((hE46_350.1 37 rfl).trans ((hFc350.1 37 rfl).trans ((hFc6.1 37 rfl).trans ((up_k (by decide)).trans ((hFc2.1 37 rfl).trans rfl))))))) ?_
                  refine g_imul dX12_matchIs_106 ?_
                  refine g_aload_n dX12_matchIs_107 rfl ?_
                  refine m_g23 rfl dX12_matchIs_108 ?_
                  refine g_aload_n dX12_matchIs_111 rfl ?_
                  refine m_g37 (z := (P 0 37)) rfl dX12_matchIs_112 ((hFc649.1 37 rfl).trans ((hFc648.1 37 rfl).trans ((hE46_350.1 37 rfl).trans ((hFc350.1 37 rfl).trans ((hFc6.1 37 rfl).trans ((up_k (by decide)).trans ((hFc2.1 37 rfl).trans rfl))))))) ?_
                  refine m_l11 (z := (H46_350 11 (P 0 37))) dX12_matchIs_115 ⟨by have q0 := b0_37 hB; omega, by have q0 := b0_37 hB; omega⟩ ((congrFun (hFc649.2 11 rfl rfl) _).trans ((congrFun (hFc648.2 11 rfl rfl) _).trans rfl)) ?_
                  refine g_iadd dX12_matchIs_116 ?_
                  refine g_iload_n dX12_matchIs_117 rfl ?_
                  refine m_s12 dX12_matchIs_118 ⟨by have q0 := b0_37 hB; have q1 := bl_11 (k := (P 0 37)) hB46_350; omega, by have q0 := b0_37 hB; have q1 := bl_11 (k := (P 0 37)) hB46_350; omega⟩ ?_
                  have hB654 := ba_12 (z := rc649) (k := ((4 * (P 0 37)) + (H46_350 11 (P 0 37)))) hBc649 ⟨by omega, by omega⟩
                  refine g_aload_n dX12_matchIs_119 rfl ?_
                  refine m_g23 rfl dX12_matchIs_120 ?_
                  refine g_aload_n dX12_matchIs_123 rfl ?_
                  refine m_g37 (z := (P 0 37)) rfl dX12_matchIs_124 ((up_o (by decide)).trans ((hFc649.1 37 rfl).trans ((hFc648.1 37 rfl).trans ((hE46_350.1 37 rfl).trans ((hFc350.1 37 rfl).trans ((hFc6.1 37 rfl).trans ((up_k (by decide)).trans ((hFc2.1 37 rfl).trans rfl)))))))) ?_
                  refine g_dup2 dX12_matchIs_127 rfl rfl ?_
                  refine m_l11 (z := (H46_350 11 (P 0 37))) dX12_matchIs_128 ⟨by have q0 := b0_37 hB; omega, by have q0 := b0_37 hB; omega⟩ ((up_o (by decide)).trans ((congrFun (hFc649.2 11 rfl rfl) _).trans ((congrFun (hFc648.2 11 rfl rfl) _).trans rfl))) ?_
                  refine g_iconst dX12_matchIs_129 ?_
                  refine g_iadd dX12_matchIs_130 ?_
                  refine m_s11 dX12_matchIs_131 ⟨by have q0 := b0_37 hB; omega, by have q0 := b0_37 hB; omega⟩ ?_
                  have hB655 := ba_11 (z := ((H46_350 11 (P 0 37)) + 1)) (k := (P 0 37)) hB654 ⟨by have q0 := bl_11 (k := (P 0 37)) hB46_350; omega, by have q0 := bl_11 (k := (P 0 37)) hB46_350; omega⟩
                  have iv656 : ZC (up (up Pc649 12 ((4 * (P 0 37)) + (H46_350 11 (P 0 37))) rc649) 11 (P 0 37) ((H46_350 11 (P 0 37)) + 1)) := hzc.col (i := P 0 37) (b0_37 hB) he11 ⟨by omega, by omega⟩ (fun j hj => ((up_o (by decide)).trans ((up_k hj).trans rfl))) ((up_o (by decide)).trans up_same) (fun j hj => ((up_k hj).trans ((up_o (by decide)).trans rfl))) up_same (bl_11 hbb).2 (by omega) (fun j => ((up_o (by decide)).trans ((up_o (by decide)).trans rfl))) (fun j => ((up_o (by decide)).trans ((up_o (by decide)).trans rfl)))
                  have iv657 : ZS (up (up Pc649 12 ((4 * (P 0 37)) + (H46_350 11 (P 0 37))) rc649) 11 (P 0 37) ((H46_350 11 (P 0 37)) + 1)) := hzs.un (i := P 0 37) hbb (b0_37 hB) (by omega) ((up_o (by decide)).trans ((up_o (by decide)).trans ((hFc649.1 37 rfl).trans ((hFc648.1 37 rfl).trans ((hE46_350.1 37 rfl).trans ((hFc350.1 37 rfl).trans ((hFc6.1 37 rfl).trans ((up_k (by decide)).trans ((hFc2.1 37 rfl).trans rfl))))))))) (fun j hj => ((up_o (by decide)).trans ((up_o (by decide)).trans rfl))) (fun j _ => ((up_o (by decide)).trans ((up_o (by decide)).trans rfl))) (fun j hj => ((up_k hj).trans ((up_o (by decide)).trans rfl))) (fun j => ((up_o (by decide)).trans ((up_o (by decide)).trans rfl))) (fun j => ((up_o (by decide)).trans ((up_o (by decide)).trans rfl))) (fun j => ((up_o (by decide)).trans ((up_o (by decide)).trans rfl))) (fun j => ((up_o (by decide)).trans ((up_o (by decide)).trans rfl))) (fun j => ((up_o (by decide)).trans ((up_o (by decide)).trans rfl))) (fun j => ((up_o (by decide)).trans ((up_o (by decide)).trans rfl)))
                  have iv658 : ZI (up (up Pc649 12 ((4 * (P 0 37)) + (H46_350 11 (P 0 37))) rc649) 11 (P 0 37) ((H46_350 11 (P 0 37)) + 1)) := fun h => by have q := (((up_o (by decide)).trans ((up_o (by decide)).trans ((hFc649.1 38 rfl).trans ((hFc648.1 38 rfl).trans ((hE46_350.1 38 rfl).trans ((hFc350.1 38 rfl).trans ((hFc6.1 38 rfl).trans up_same))))))) : (up (up Pc649 12 ((4 * (P 0 37)) + (H46_350 11 (P 0 37))) rc649) 11 (P 0 37) ((H46_350 11 (P 0 37)) + 1)) 0 38 = 1); omega
                  refine g_iload_n dX12_matchIs_132 rfl ?_
                  refine g_aload_n dX12_matchIs_133 rfl ?_
                  refine g_aload_n dX12_matchIs_134 rfl ?_
                  refine m_g37 (z := (P 0 37)) rfl dX12_matchIs_135 ((up_o (by decide)).trans ((up_o (by decide)).trans ((hFc649.1 37 rfl).trans ((hFc648.1 37 rfl).trans ((hE46_350.1 37 rfl).trans ((hFc350.1 37 rfl).trans ((hFc6.1 37 rfl).trans ((up_k (by decide)).trans ((hFc2.1 37 rfl).trans rfl))))))))) ?_
                  refine g_iload_n dX12_matchIs_138 rfl ?_
                  have f659 := b0_37 hB
                  refine g_vI (av := [vI (P 0 37), vI rc649]) (o := 0) (st := [vI x46_1_350]) (m_X12_valuesOf G (up (up Pc649 12 ((4 * (P 0 37)) + (H46_350 11 (P 0 37))) rc649) 11 (P 0 37) ((H46_350 11 (P 0 37)) + 1)) (P 0 37) rc649 ⟨by have q0 := b0_37 hB; omega, by have q0 := b0_37 hB; omega⟩ ⟨by omega, by omega⟩ hB655  _ (fun rc660 hc660 gc660_v => ⟨rc660, rfl, ?_⟩)) cf_X12_valuesOf t_1756 rfl (by decide) rfl rfl rfl (Nat.le_of_ble_eq_true rfl) (by decide) rfl dX12_matchIs_139
                  have e3v := (((up_o (by decide)).trans ((up_o (by decide)).trans ((congrFun (hFc649.2 3 rfl rfl) _).trans ((congrFun (hFc648.2 3 rfl rfl) _).trans ((congrFun (hE46_350.2 3 rfl rfl) _).trans ((congrFun (hFc350.2 3 rfl rfl) _).trans ((congrFun (hFc6.2 3 rfl rfl) _).trans ((up_o (by decide)).trans ((congrFun (hFc2.2 3 rfl rfl) _).trans rfl))))))))) : (up (up Pc649 12 ((4 * (P 0 37)) + (H46_350 11 (P 0 37))) rc649) 11 (P 0 37) ((H46_350 11 (P 0 37)) + 1)) 3 ((4 * (P 0 37)) + rc649) = (P 3 ((4 * (P 0 37)) + rc649)))
                  have hr9 := (vals_of gc660_v).trans (vals_eq fun _ => ((up_o (by decide)).trans ((up_o (by decide)).trans rfl)))
                  refine g_imul dX12_matchIs_142 ?_
                  refine g_nm (fun w661 e_w661 => ?_)
                  have h_w661 : 1 ≤ w661 ∧ w661 ≤ 40120000 := by rw [e_w661]; exact mul_b (A := 20000) (B := 2006) ⟨by omega, by omega⟩ ⟨by omega, by omega⟩
                  have hm9 := e_w661
                  refine g_istore_n (l1 := [(1, vI w661), (2, vI rc649), (0, vR 0)]) dX12_matchIs_143 (by decide) rfl ?_
                  obtain ⟨w9, hw9⟩ : ∃ w9, w9 = w661 := ⟨_, rfl⟩
                  have iv662 : PU w9 (P 0 37) (up (up Pc649 12 ((4 * (P 0 37)) + (H46_350 11 (P 0 37))) rc649) 11 (P 0 37) ((H46_350 11 (P 0 37)) + 1)) := hpv.col (hw9.trans (by rw [hw8]; exact hm9)) hr9 (by omega) he11 (fun j hj => ((up_o (by decide)).trans ((up_k hj).trans rfl))) ((up_o (by decide)).trans up_same) (fun j => ((up_o (by decide)).trans ((up_o (by decide)).trans rfl))) up_same
                  refine g_iload_n dX12_matchIs_144 rfl ?_
                  refine g_sipush dX12_matchIs_145 (by decide) ?_
                  refine g_icmp_le (tgt := 160) dX12_matchIs_148 (by decide) ⟨by omega, by omega⟩ (by decide) (fun k663 => ?_) (fun k663 => ?_)
                  · refine g_aload_n dX12_matchIs_160 rfl ?_
                    refine m_g8 (z := (Pc649 0 8)) rfl dX12_matchIs_161 ((up_o (by decide)).trans ((up_o (by decide)).trans rfl)) ?_
                    refine g_if_le (tgt := 168) dX12_matchIs_164 (by decide) ⟨by have q0 := b0_8 hBc649; omega, by have q0 := b0_8 hBc649; omega⟩ (fun k664 => ?_) (fun k664 => by exfalso; have q0 := b0_8 hBc649; omega)
                    refine g_aload_n dX12_matchIs_168 rfl ?_
                    refine g_vV (av := []) (o := 0) (st := []) (m_X12_ahead G (up (up Pc649 12 ((4 * (P 0 37)) + (H46_350 11 (P 0 37))) rc649) 11 (P 0 37) ((H46_350 11 (P 0 37)) + 1))  hB655  _ (fun Pc665 hBc665 hFc665 gc665_lx gc665_nx => ⟨rfl, ?_⟩)) cf_X12_ahead t_1683 rfl (by decide) rfl rfl rfl (Nat.le_of_ble_eq_true rfl) (by decide) rfl dX12_matchIs_169
                    have z666 : (up (up Pc649 12 ((4 * (P 0 37)) + (H46_350 11 (P 0 37))) rc649) 11 (P 0 37) ((H46_350 11 (P 0 37)) + 1)) 0 5 = (H46_350 0 5) := ((up_o (by decide)).trans ((up_o (by decide)).trans ((hFc649.1 5 rfl).trans ((hFc648.1 5 rfl).trans rfl))))
                    refine g_aload_n dX12_matchIs_172 rfl ?_
                    refine g_vV (av := []) (o := 0) (st := []) (m_X12_lex G Pc665  hBc665  _ (fun Pc667 hBc667 hFc667 gc667_pe => ⟨rfl, ?_⟩)) cf_X12_lex t_1697 rfl (by decide) rfl rfl rfl (Nat.le_of_ble_eq_true rfl) (by decide) rfl dX12_matchIs_173
                    have z668 : Pc665 0 8 = (Pc649 0 8) := ((hFc665.1 8 rfl).trans ((up_o (by decide)).trans ((up_o (by decide)).trans rfl)))
                    refine g_goto (tgt := 46) dX12_matchIs_176 (by decide) ?_
                    refine g_forget (l1 := [(0, vR 0), (1, vI w661)]) (by intro q hq; simp only [List.mem_cons, List.not_mem_nil, or_false] at hq ⊢; rcases hq with rfl | rfl <;> simp) ?_
                    exact ih46_350 w661 ⟨by omega, by omega⟩ _ hBc667 (FrM.c (FrM.c (FrM.a (FrM.a (FrM.c (FrM.c (FrM.c FrM.rf hE46_350 rfl) hFc648 rfl) hFc649 rfl) rfl rfl) rfl rfl) hFc665 rfl) hFc667 rfl) (by first | exact hw9.symm.trans ((PU.fr (F := ([3, 4, 5, 6, 7, 8, 9, 12], [])) iv662 (FrM.c (FrM.c FrM.rf hFc665 rfl) hFc667 rfl) rfl)) | exact PU.zero (by have q := (((congrFun (hFc667.2 11 rfl rfl) _).trans ((congrFun (hFc665.2 11 rfl rfl) _).trans up_same)) : Pc667 11 (P 0 37) = ((H46_350 11 (P 0 37)) + 1)); omega)) (by have q0 := b0_8 hBc667; omega) (by have q0 := (((hFc667.1 4 rfl).trans rfl) : Pc667 0 4 = (Pc665 0 4)); have q1 := b0_4 hBc665; omega) (by have q0 := (((hFc667.1 3 rfl).trans rfl) : Pc667 0 3 = (Pc665 0 3)); have q1 := b0_3 hBc665; have q2 := (((hFc667.1 4 rfl).trans rfl) : Pc667 0 4 = (Pc665 0 4)); have q3 := b0_4 hBc665; have q4 := (((hFc667.1 5 rfl).trans rfl) : Pc667 0 5 = (Pc665 0 5)); have q5 := b0_5 hBc665; omega) (ZC.fr (F := ([3, 4, 5, 6, 7, 8, 9, 12], [])) iv656 (FrM.c (FrM.c FrM.rf hFc665 rfl) hFc667 rfl) rfl) (ZI.fr (F := ([3, 4, 5, 6, 7, 8, 9, 12], [])) iv658 (FrM.c (FrM.c FrM.rf hFc665 rfl) hFc667 rfl) rfl) (ZS.fr (F := ([3, 4, 5, 6, 7, 8, 9, 12], [])) iv657 (FrM.c (FrM.c FrM.rf hFc665 rfl) hFc667 rfl) rfl) (by have q0 := (((hFc667.1 4 rfl).trans rfl) : Pc667 0 4 = (Pc665 0 4)); have q1 := b0_4 hBc665; omega)
                  · refine g_aload_n dX12_matchIs_151 rfl ?_
                    refine g_iconst dX12_matchIs_152 ?_
                    refine g_aload_n dX12_matchIs_153 rfl ?_
                    refine m_g4 (z := (H46_350 0 4)) rfl dX12_matchIs_154 ((up_o (by decide)).trans ((up_o (by decide)).trans ((hFc649.1 4 rfl).trans ((hFc648.1 4 rfl).trans rfl)))) ?_
                    refine g_vV (av := [vI 4, vI (H46_350 0 4)]) (o := 0) (st := []) (m_X12_blame G (up (up Pc649 12 ((4 * (P 0 37)) + (H46_350 11 (P 0 37))) rc649) 11 (P 0 37) ((H46_350 11 (P 0 37)) + 1)) 4 (H46_350 0 4) (by decide) ⟨by have q0 := b0_4 hB46_350; omega, by have q0 := b0_4 hB46_350; omega⟩ hB655  _ (fun Pc669 hBc669 hFc669 gc669_f gc669_pe => ⟨rfl, ?_⟩)) cf_X12_blame t_1701 rfl (by decide) rfl rfl rfl (Nat.le_of_ble_eq_true rfl) (by decide) rfl dX12_matchIs_157
                    have z670 : (up (up Pc649 12 ((4 * (P 0 37)) + (H46_350 11 (P 0 37))) rc649) 11 (P 0 37) ((H46_350 11 (P 0 37)) + 1)) 0 8 = (Pc649 0 8) := ((up_o (by decide)).trans ((up_o (by decide)).trans rfl))
                    refine g_aload_n dX12_matchIs_160 rfl ?_
                    refine m_g8 (z := (Pc669 0 8)) rfl dX12_matchIs_161 rfl ?_
                    have f671 := b0_8 hBc669
                    refine g_if_le (tgt := 168) dX12_matchIs_164 (by decide) ⟨by have q0 := b0_8 hBc669; omega, by have q0 := b0_8 hBc669; omega⟩ (fun k672 => ?_) (fun k672 => ?_)
                    · refine g_aload_n dX12_matchIs_168 rfl ?_
                      refine g_vV (av := []) (o := 0) (st := []) (m_X12_ahead G Pc669  hBc669  _ (fun Pc673 hBc673 hFc673 gc673_lx gc673_nx => ⟨rfl, ?_⟩)) cf_X12_ahead t_1683 rfl (by decide) rfl rfl rfl (Nat.le_of_ble_eq_true rfl) (by decide) rfl dX12_matchIs_169
                      have z674 : Pc669 0 5 = (H46_350 0 5) := ((hFc669.1 5 rfl).trans ((up_o (by decide)).trans ((up_o (by decide)).trans ((hFc649.1 5 rfl).trans ((hFc648.1 5 rfl).trans rfl)))))
                      refine g_aload_n dX12_matchIs_172 rfl ?_
                      refine g_vV (av := []) (o := 0) (st := []) (m_X12_lex G Pc673  hBc673  _ (fun Pc675 hBc675 hFc675 gc675_pe => ⟨rfl, ?_⟩)) cf_X12_lex t_1697 rfl (by decide) rfl rfl rfl (Nat.le_of_ble_eq_true rfl) (by decide) rfl dX12_matchIs_173
                      have z676 : Pc673 0 8 = (Pc669 0 8) := ((hFc673.1 8 rfl).trans rfl)
                      refine g_goto (tgt := 46) dX12_matchIs_176 (by decide) ?_
                      refine g_forget (l1 := [(0, vR 0), (1, vI w661)]) (by intro q hq; simp only [List.mem_cons, List.not_mem_nil, or_false] at hq ⊢; rcases hq with rfl | rfl <;> simp) ?_
                      exact ih46_350 w661 ⟨by omega, by omega⟩ _ hBc675 (FrM.c (FrM.c (FrM.c (FrM.a (FrM.a (FrM.c (FrM.c (FrM.c FrM.rf hE46_350 rfl) hFc648 rfl) hFc649 rfl) rfl rfl) rfl rfl) hFc669 rfl) hFc673 rfl) hFc675 rfl) (by first | exact hw9.symm.trans ((PU.fr (F := ([3, 4, 5, 6, 7, 8, 9, 12], [])) iv662 (FrM.c (FrM.c (FrM.c FrM.rf hFc669 rfl) hFc673 rfl) hFc675 rfl) rfl)) | exact PU.zero (by have q := (((congrFun (hFc675.2 11 rfl rfl) _).trans ((congrFun (hFc673.2 11 rfl rfl) _).trans ((congrFun (hFc669.2 11 rfl rfl) _).trans up_same))) : Pc675 11 (P 0 37) = ((H46_350 11 (P 0 37)) + 1)); omega)) (by have q0 := b0_8 hBc675; omega) (by have q0 := (((hFc675.1 4 rfl).trans rfl) : Pc675 0 4 = (Pc673 0 4)); have q1 := b0_4 hBc673; omega) (by have q0 := (((hFc675.1 3 rfl).trans rfl) : Pc675 0 3 = (Pc673 0 3)); have q1 := b0_3 hBc673; have q2 := (((hFc675.1 4 rfl).trans rfl) : Pc675 0 4 = (Pc673 0 4)); have q3 := b0_4 hBc673; have q4 := (((hFc675.1 5 rfl).trans rfl) : Pc675 0 5 = (Pc673 0 5)); have q5 := b0_5 hBc673; omega) (ZC.fr (F := ([3, 4, 5, 6, 7, 8, 9, 12], [])) iv656 (FrM.c (FrM.c (FrM.c FrM.rf hFc669 rfl) hFc673 rfl) hFc675 rfl) rfl) (ZI.fr (F := ([3, 4, 5, 6, 7, 8, 9, 12], [])) iv658 (FrM.c (FrM.c (FrM.c FrM.rf hFc669 rfl) hFc673 rfl) hFc675 rfl) rfl) (ZS.fr (F := ([3, 4, 5, 6, 7, 8, 9, 12], [])) iv657 (FrM.c (FrM.c (FrM.c FrM.rf hFc669 rfl) hFc673 rfl) hFc675 rfl) rfl) (by have q0 := (((hFc675.1 4 rfl).trans rfl) : Pc675 0 4 = (Pc673 0 4)); have q1 := b0_4 hBc673; omega)
                    · exact g_retV dX12_matchIs_167 rfl (hQ _ hBc669 (FrM.c (FrM.a (FrM.a (FrM.c (FrM.c (FrM.c (FrM.c (FrM.c (FrM.s (FrM.c FrM.rf hFc2 rfl) rfl) hFc6 rfl) hFc350 rfl) hE46_350 rfl) hFc648 rfl) hFc649 rfl) rfl rfl) rfl rfl) hFc669 rfl) (by have q0 := (((hFc669.1 3 rfl).trans ((up_o (by decide)).trans ((up_o (by decide)).trans ((hFc649.1 3 rfl).trans ((hFc648.1 3 rfl).trans rfl))))) : Pc669 0 3 = (H46_350 0 3)); have q1 := b0_3 hB46_350; have q2 := (((hFc669.1 4 rfl).trans ((up_o (by decide)).trans ((up_o (by decide)).trans ((hFc649.1 4 rfl).trans ((hFc648.1 4 rfl).trans rfl))))) : Pc669 0 4 = (H46_350 0 4)); have q3 := b0_4 hB46_350; have q4 := (((hFc669.1 5 rfl).trans ((up_o (by decide)).trans ((up_o (by decide)).trans ((hFc649.1 5 rfl).trans ((hFc648.1 5 rfl).trans rfl))))) : Pc669 0 5 = (H46_350 0 5)); have q5 := b0_5 hB46_350; omega) (by have q0 := (((hFc669.1 4 rfl).trans ((up_o (by decide)).trans ((up_o (by decide)).trans ((hFc649.1 4 rfl).trans ((hFc648.1 4 rfl).trans rfl))))) : Pc669 0 4 = (H46_350 0 4)); have q1 := b0_4 hB46_350; omega) (by have q0 := b0_8 hBc669; omega) (by first | (left; omega) | (right; have q := hNONE; unfold PU at q; rw [← q]; omega)) (ZC.fr (F := ([8, 9], [])) iv656 (FrM.c FrM.rf hFc669 rfl) rfl) (ZI.fr (F := ([8, 9], [])) iv658 (FrM.c FrM.rf hFc669 rfl) rfl) (ZS.fr (F := ([8, 9], [])) iv657 (FrM.c FrM.rf hFc669 rfl) rfl))
                · exact g_retV dX12_matchIs_96 rfl (hQ _ hBc649 (FrM.c (FrM.c (FrM.c (FrM.c (FrM.c (FrM.s (FrM.c FrM.rf hFc2 rfl) rfl) hFc6 rfl) hFc350 rfl) hE46_350 rfl) hFc648 rfl) hFc649 rfl) (by have q0 := (((hFc649.1 3 rfl).trans ((hFc648.1 3 rfl).trans rfl)) : Pc649 0 3 = (H46_350 0 3)); have q1 := b0_3 hB46_350; have q2 := (((hFc649.1 4 rfl).trans ((hFc648.1 4 rfl).trans rfl)) : Pc649 0 4 = (H46_350 0 4)); have q3 := b0_4 hB46_350; have q4 := (((hFc649.1 5 rfl).trans ((hFc648.1 5 rfl).trans rfl)) : Pc649 0 5 = (H46_350 0 5)); have q5 := b0_5 hB46_350; omega) (by have q0 := (((hFc649.1 4 rfl).trans ((hFc648.1 4 rfl).trans rfl)) : Pc649 0 4 = (H46_350 0 4)); have q1 := b0_4 hB46_350; omega) (by have q0 := b0_8 hBc649; omega) (by first | (left; omega) | (right; have q := (PU.fr (F := ([8, 9], [])) iv612 (FrM.c (FrM.c FrM.rf hFc648 rfl) hFc649 rfl) rfl); unfold PU at q; rw [← q]; omega)) (ZC.fr (F := ([8, 9], [])) w46_ZC_350 (FrM.c (FrM.c FrM.rf hFc648 rfl) hFc649 rfl) rfl) (ZI.fr (F := ([8, 9], [])) w46_ZI_350 (FrM.c (FrM.c FrM.rf hFc648 rfl) hFc649 rfl) rfl) (ZS.fr (F := ([8, 9], [])) w46_ZS_350 (FrM.c (FrM.c FrM.rf hFc648 rfl) hFc649 rfl) rfl))
        refine g_forget (l1 := [(0, vR 0), (1, vI 1)]) (by intro q hq; simp only [List.mem_cons, List.not_mem_nil, or_false] at hq ⊢; rcases hq with rfl | rfl <;> simp) ?_
        exact L46_350 _ 1 (by decide) _ hBc350 FrM.rf (by first | exact hw9.symm.trans (hNONE) | exact PU.zero (by have q := (((congrFun (hFc350.2 11 rfl rfl) _).trans ((congrFun (hFc6.2 11 rfl rfl) _).trans ((up_o (by decide)).trans ((congrFun (hFc2.2 11 rfl rfl) _).trans rfl)))) : Pc350 11 (P 0 37) = (P 11 (P 0 37))); omega)) (by have q0 := b0_8 hBc350; omega) (by have q0 := (((hFc350.1 4 rfl).trans ((hFc6.1 4 rfl).trans ((up_k (by decide)).trans rfl))) : Pc350 0 4 = (Pc2 0 4)); have q1 := b0_4 hBc2; omega) (by have q0 := (((hFc350.1 3 rfl).trans ((hFc6.1 3 rfl).trans ((up_k (by decide)).trans rfl))) : Pc350 0 3 = (Pc2 0 3)); have q1 := b0_3 hBc2; have q2 := (((hFc350.1 4 rfl).trans ((hFc6.1 4 rfl).trans ((up_k (by decide)).trans rfl))) : Pc350 0 4 = (Pc2 0 4)); have q3 := b0_4 hBc2; have q4 := (((hFc350.1 5 rfl).trans ((hFc6.1 5 rfl).trans ((up_k (by decide)).trans rfl))) : Pc350 0 5 = (Pc2 0 5)); have q5 := b0_5 hBc2; omega) (ZC.fr (F := ([3, 4, 5, 6, 7, 8, 9, 12, 38], [])) v_ZC (FrM.c (FrM.c (FrM.s (FrM.c FrM.rf hFc2 rfl) rfl) hFc6 rfl) hFc350 rfl) rfl) (ZI.fr (F := ([8, 9], [])) iv5 (FrM.c (FrM.c FrM.rf hFc6 rfl) hFc350 rfl) rfl) (ZS.fr (F := ([3, 4, 5, 6, 7, 8, 9, 12, 38], [])) v_ZS (FrM.c (FrM.c (FrM.s (FrM.c FrM.rf hFc2 rfl) rfl) hFc6 rfl) hFc350 rfl) rfl) (Nat.lt_succ_self _)
  · exact g_retV dX12_matchIs_11 rfl (hQ _ hBc2 (FrM.c FrM.rf hFc2 rfl) (by have q0 := b0_3 hBc2; have q1 := b0_4 hBc2; have q2 := b0_5 hBc2; omega) (by have q0 := b0_4 hBc2; omega) (by have q0 := b0_8 hBc2; omega) (by first | (left; omega) | (right; have q := hNONE; unfold PU at q; rw [← q]; omega)) (ZC.fr (F := ([3, 4, 5, 6, 7, 8, 9, 12], [])) v_ZC (FrM.c FrM.rf hFc2 rfl) rfl) (ZI.fr (F := ([3, 4, 5, 6, 7, 8, 9, 12], [])) v_ZI (FrM.c FrM.rf hFc2 rfl) rfl) (ZS.fr (F := ([3, 4, 5, 6, 7, 8, 9, 12], [])) v_ZS (FrM.c FrM.rf hFc2 rfl) rfl))
