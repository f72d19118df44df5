/-! What the reference answers: X12_ahead. -/
set_option maxRecDepth 100000 in
set_option maxHeartbeats 4000000 in
theorem f_X12_ahead (G : GT) (P : PH) (T : TT) (p : Int) (hB : BdM P) (p_pp : P 0 5 = p ∧ 0 ≤ p ∧ p ≤ T.2) (z0 : MT T P) (Q : Option PV → PH → Prop) (hQ : ∀ (P1 : PH) (_ : BdM P1) (_ : FrM ([3, 4, 5, 6, 7, 12], []) P P1) (_ : (P1 0 3 = 0 ∨ P1 0 4 + 1 ≤ P1 0 5) ∧ P1 0 4 ≤ P1 0 5) (_ : P 0 5 ≤ P1 0 4) (_ : MS T p P1), Q none P1) : Ct WSM G 2 iX12_ahead [vR 0] P Q := by
  refine Ct.of (by decide) (l0 := [(0, vR 0)]) rfl (Nat.le_of_ble_eq_true rfl) ?_
  have hsz := z0.1
  have hta := tA_ge T p
  have htl := tA_le (T := T) p_pp.2.2
  have hta9 : tA T p = rE bW T p := rfl
  refine g_aload_n dX12_ahead_0 rfl ?_
  refine m_g5 (z := (P 0 5)) rfl dX12_ahead_1 rfl ?_
  refine g_istore_n (l1 := [(1, vI (P 0 5)), (0, vR 0)]) dX12_ahead_4 (by decide) rfl ?_
  have L5_0 : ∀ (n5_0 : Nat) (x5_1_0 : Int) (h_x5_1_0 : 0 ≤ x5_1_0 ∧ x5_1_0 ≤ 1600) (i5_0_0 : P 0 5 ≤ x5_1_0) (i5_1_0 : rE bW T p = rE bW T x5_1_0) (hm5_0 : ((1601 - x5_1_0) : Int).toNat < n5_0), Go WSM G 2 iX12_ahead 5 [(0, vR 0), (1, vI x5_1_0)] [] P Q := by
    intro n5_0
    induction n5_0 with
    | zero => intro x5_1_0 h_x5_1_0 i5_0_0 i5_1_0 hm5_0; exact absurd hm5_0 (Nat.not_lt_zero _)
    | succ n5_0 ih5_0 =>
    intro x5_1_0 h_x5_1_0 i5_0_0 i5_1_0 hm5_0
    have hT := z0.2 x5_1_0
    refine g_iload_n dX12_ahead_5 rfl ?_
    refine g_aload_n dX12_ahead_6 rfl ?_
    refine m_g2 (z := (P 0 2)) rfl dX12_ahead_7 rfl ?_
    have f45579 := b0_2 hB
    have J41_51275 : ∀ (i41_0_51275 : P 0 5 ≤ x5_1_0) (i41_1_51275 : rE bW T p = x5_1_0), Go WSM G 2 iX12_ahead 41 [(0, vR 0), (1, vI x5_1_0)] [] P Q := by
      intro i41_0_51275 i41_1_51275
      have hl41 : x5_1_0 = tA T p := by omega
      have hp9 := p_pp
      refine g_aload_n dX12_ahead_41 rfl ?_
      refine g_iload_n dX12_ahead_42 rfl ?_
      refine m_p4 rfl dX12_ahead_43 ?_
      have hB51277 := bs_4 (z := x5_1_0) hB ⟨by omega, by omega⟩
      refine g_aload_n dX12_ahead_46 rfl ?_
      refine g_iload_n dX12_ahead_47 rfl ?_
      refine m_p5 rfl dX12_ahead_48 ?_
      have hB51278 := bs_5 (z := x5_1_0) hB51277 ⟨by omega, by omega⟩
      refine g_aload_n dX12_ahead_51 rfl ?_
      refine g_iconst dX12_ahead_52 ?_
      refine m_p3 rfl dX12_ahead_53 ?_
      have hB51279 := bs_3 (z := 0) hB51278 (by decide)
      refine g_aload_n dX12_ahead_56 rfl ?_
      refine g_iconst dX12_ahead_57 ?_
      refine m_p12 rfl dX12_ahead_58 ?_
      have hB51280 := bs_12 (z := (-1)) hB51279 (by decide)
      refine g_iload_n dX12_ahead_61 rfl ?_
      refine g_aload_n dX12_ahead_62 rfl ?_
      refine m_g2 (z := (P 0 2)) rfl dX12_ahead_63 ((up_k (by decide)).trans ((up_k (by decide)).trans ((up_k (by decide)).trans ((up_k (by decide)).trans rfl)))) ?_
      refine g_icmp_lt (tgt := 70) dX12_ahead_66 (by decide) ⟨by omega, by omega⟩ ⟨by have q0 := b0_2 hB; omega, by have q0 := b0_2 hB; omega⟩ (fun k51281 => ?_) (fun k51281 => ?_)
      · have hTa : P 1 x5_1_0 = T.1 (tA T p) := by rw [hl41]; exact z0.2 _ (by omega) (by omega)
        refine g_aload_n dX12_ahead_70 rfl ?_
        refine m_g0 rfl dX12_ahead_71 ?_
        refine g_iload_n dX12_ahead_74 rfl ?_
        refine m_l1 (z := (P 1 x5_1_0)) dX12_ahead_75 ⟨by omega, by omega⟩ ((up_o (by decide)).trans ((up_o (by decide)).trans ((up_o (by decide)).trans ((up_o (by decide)).trans rfl)))) ?_
        have f51282 := bl_1 (k := x5_1_0) hB
        refine g_sI (av := [vI (P 1 x5_1_0)]) (st := []) (m_X12_isLetter G (up (up (up (up P 0 4 x5_1_0) 0 5 x5_1_0) 0 3 0) 0 12 (-1)) (P 1 x5_1_0) ⟨by have q0 := bl_1 (k := x5_1_0) hB; omega, by have q0 := bl_1 (k := x5_1_0) hB; omega⟩ hB51280  _ (fun rc51283 hc51283 gc51283_i => ⟨rc51283, rfl, ?_⟩)) cf_X12_isLetter t_1687 rfl (Nat.le_of_ble_eq_true rfl) (by decide) rfl dX12_ahead_76
        have hL := gc51283_i
        clear gc51283_i
        refine g_istore_n (l1 := [(2, vI rc51283), (0, vR 0), (1, vI x5_1_0)]) dX12_ahead_79 (by decide) rfl ?_
        refine g_aload_n dX12_ahead_80 rfl ?_
        refine m_g0 rfl dX12_ahead_81 ?_
        refine g_iload_n dX12_ahead_84 rfl ?_
        refine m_l1 (z := (P 1 x5_1_0)) dX12_ahead_85 ⟨by omega, by omega⟩ ((up_o (by decide)).trans ((up_o (by decide)).trans ((up_o (by decide)).trans ((up_o (by decide)).trans rfl)))) ?_
        refine g_sI (av := [vI (P 1 x5_1_0)]) (st := []) (m_X12_isDigit G (up (up (up (up P 0 4 x5_1_0) 0 5 x5_1_0) 0 3 0) 0 12 (-1)) (P 1 x5_1_0) ⟨by have q0 := bl_1 (k := x5_1_0) hB; omega, by have q0 := bl_1 (k := x5_1_0) hB; omega⟩ hB51280  _ (fun rc51284 hc51284 gc51284_i => ⟨rc51284, rfl, ?_⟩)) cf_X12_isDigit t_1690 rfl (Nat.le_of_ble_eq_true rfl) (by decide) rfl dX12_ahead_86
        have hD := gc51284_i
        clear gc51284_i
        refine g_istore_n (l1 := [(3, vI rc51284), (2, vI rc51283), (0, vR 0), (1, vI x5_1_0)]) dX12_ahead_89 (by decide) rfl ?_
        refine g_iload_n dX12_ahead_90 rfl ?_
        have J135_54124 : ∀ (H135_54124 : PH) (hB135_54124 : BdM H135_54124) (hE135_54124 : FrM ([12], []) (up (up (up (up P 0 4 x5_1_0) 0 5 x5_1_0) 0 3 0) 0 12 (-1)) H135_54124) (i135_0_54124 : L0 T p rc51283 rc51284 (H135_54124 0 12)), Go WSM G 2 iX12_ahead 135 [(0, vR 0), (1, vI x5_1_0), (2, vI rc51283), (3, vI rc51284)] [] H135_54124 Q := by
          intro H135_54124 hB135_54124 hE135_54124 i135_0_54124
          have hl0 := i135_0_54124
          refine g_aload_n dX12_ahead_135 rfl ?_
          refine g_iconst dX12_ahead_136 ?_
          refine m_p6 rfl dX12_ahead_137 ?_
          have hB54126 := bs_6 (z := 0) hB135_54124 (by decide)
          refine g_aload_n dX12_ahead_140 rfl ?_
          refine g_lconst (z := 0) dX12_ahead_141 (by decide) ?_
          refine m_p7 rfl dX12_ahead_142 ?_
          have hB54127 := bs_7 (z := 0) hB54126 (by decide)
          refine g_aload_n dX12_ahead_145 rfl ?_
          refine g_iconst dX12_ahead_146 ?_
          refine m_p3 rfl dX12_ahead_147 ?_
          have hB54128 := bs_3 (z := 3) hB54127 (by decide)
          refine g_aload_n dX12_ahead_150 rfl ?_
          refine g_iload_n dX12_ahead_151 rfl ?_
          refine g_iconst dX12_ahead_152 ?_
          refine g_iadd dX12_ahead_153 ?_
          refine m_p5 rfl dX12_ahead_154 ?_
          have hB54129 := bs_5 (z := (x5_1_0 + 1)) hB54128 ⟨by omega, by omega⟩
          refine g_iload_n dX12_ahead_157 rfl ?_
          have J176_55539 : ∀ (i176_0_55539 : rc51283 ≠ 0 ∨ rc51284 ≠ 0), Go WSM G 2 iX12_ahead 176 [(0, vR 0), (1, vI x5_1_0), (2, vI rc51283), (3, vI rc51284)] [] (up (up (up (up H135_54124 0 6 0) 0 7 0) 0 3 3) 0 5 (x5_1_0 + 1)) Q := by
            intro i176_0_55539
            refine g_aload_n dX12_ahead_176 rfl ?_
            refine g_iload_n dX12_ahead_177 rfl ?_
            refine g_if_eq (tgt := 185) dX12_ahead_178 (by decide) ⟨by omega, by omega⟩ (fun k55541 => ?_) (fun k55541 => ?_)
            · refine g_iconst dX12_ahead_185 ?_
              refine m_p3 rfl dX12_ahead_186 ?_
              have hB55542 := bs_3 (z := 2) hB54129 (by decide)
              refine g_iload_n dX12_ahead_189 rfl ?_
              refine g_if_eq (tgt := 198) dX12_ahead_190 (by decide) ⟨by omega, by omega⟩ (fun k55543 => ?_) (fun k55543 => by exfalso; omega)
              refine g_iconst dX12_ahead_198 ?_
              have hcA : CC 4 (T.1 (tA T p)) := ⟨fun e => by omega, fun e => by omega⟩
              have hfl : rc51283 = 0 ∨ rc51284 = 0 := by omega
              clear hL hD
              refine g_istore (l1 := [(4, vI 4), (0, vR 0), (1, vI x5_1_0), (2, vI rc51283), (3, vI rc51284)]) dX12_ahead_199 (by decide) rfl ?_
              refine g_iconst dX12_ahead_201 ?_
              refine g_istore (l1 := [(5, vI 0), (4, vI 4), (0, vR 0), (1, vI x5_1_0), (2, vI rc51283), (3, vI rc51284)]) dX12_ahead_202 (by decide) rfl ?_
              have L204_55543 : ∀ (n204_55543 : Nat) (x204_5_55543 : Int) (h_x204_5_55543 : 0 ≤ x204_5_55543 ∧ x204_5_55543 ≤ 1600) (x204_1_55543 : Int) (h_x204_1_55543 : 0 ≤ x204_1_55543 ∧ x204_1_55543 ≤ 1600) (H204_55543 : PH) (hB204_55543 : BdM H204_55543) (hE204_55543 : FrM ([6, 12], []) (up (up (up (up (up H135_54124 0 6 0) 0 7 0) 0 3 3) 0 5 (x5_1_0 + 1)) 0 3 2) H204_55543) (i204_0_55543 : x5_1_0 ≤ x204_1_55543) (i204_1_55543 : x204_5_55543 ≤ x204_1_55543) (i204_2_55543 : x204_1_55543 = tA T p + x204_5_55543) (i204_3_55543 : RN 4 T (tA T p) x204_1_55543) (i204_4_55543 : WV 4 (H204_55543 0 7) (H204_55543 0 6) T (tA T p) x204_5_55543) (i204_5_55543 : H204_55543 0 12 = lx T p x204_5_55543 4) (hm204_55543 : ((1601 - x204_5_55543) : Int).toNat < n204_55543), Go WSM G 2 iX12_ahead 204 [(0, vR 0), (1, vI x204_1_55543), (2, vI rc51283), (3, vI rc51284), (4, vI 4), (5, vI x204_5_55543)] [] H204_55543 Q := by
                intro n204_55543
                induction n204_55543 with
                | zero => intro x204_5_55543 h_x204_5_55543 x204_1_55543 h_x204_1_55543 H204_55543 hB204_55543 hE204_55543 i204_0_55543 i204_1_55543 i204_2_55543 i204_3_55543 i204_4_55543 i204_5_55543 hm204_55543; exact absurd hm204_55543 (Nat.not_lt_zero _)
                | succ n204_55543 ih204_55543 =>
                intro x204_5_55543 h_x204_5_55543 x204_1_55543 h_x204_1_55543 H204_55543 hB204_55543 hE204_55543 i204_0_55543 i204_1_55543 i204_2_55543 i204_3_55543 i204_4_55543 i204_5_55543 hm204_55543
                have hT2 := z0.2 x204_1_55543
                have hrn := i204_3_55543
                have hwv : WV 4 (0) ((H204_55543 0 6)) T (tA T p) x204_5_55543 := by have q := i204_4_55543; rw [show H204_55543 0 7 = 0 from ((hE204_55543.1 7 rfl).trans ((up_k (by decide)).trans ((up_k (by decide)).trans ((up_k (by decide)).trans up_same)))), show H204_55543 0 6 = (H204_55543 0 6) from rfl] at q; exact q
                have hlx := i204_5_55543
                refine g_iload_n dX12_ahead_204 rfl ?_
                refine g_aload_n dX12_ahead_205 rfl ?_
                refine m_g2 (z := (P 0 2)) rfl dX12_ahead_206 ((hE204_55543.1 2 rfl).trans ((up_k (by decide)).trans ((up_k (by decide)).trans ((up_k (by decide)).trans ((up_k (by decide)).trans ((up_k (by decide)).trans ((hE135_54124.1 2 rfl).trans ((up_k (by decide)).trans ((up_k (by decide)).trans ((up_k (by decide)).trans ((up_k (by decide)).trans rfl))))))))))) ?_
                refine g_icmp_ge (tgt := 334) dX12_ahead_209 (by decide) ⟨by omega, by omega⟩ ⟨by have q0 := b0_2 hB; omega, by have q0 := b0_2 hB; omega⟩ (fun k56066 => ?_) (fun k56066 => ?_)
                · have hrs := hrn.stop (by omega)
                  have hps := RX_pos (by decide) (by omega) hcA
                  have hne : tA T p + 1 ≤ x204_1_55543 := by omega
                  refine g_aload_n dX12_ahead_334 rfl ?_
                  refine g_iload_n dX12_ahead_335 rfl ?_
                  refine m_p5 rfl dX12_ahead_336 ?_
                  have hB56067 := bs_5 (z := x204_1_55543) hB204_55543 ⟨by omega, by omega⟩
                  exact g_retV dX12_ahead_339 rfl (hQ _ hB56067 (FrM.s (FrM.c (FrM.s (FrM.s (FrM.s (FrM.s (FrM.s (FrM.c (FrM.s (FrM.s (FrM.s (FrM.s FrM.rf rfl) rfl) rfl) rfl) hE135_54124 rfl) rfl) rfl) rfl) rfl) rfl) hE204_55543 rfl) rfl) (by have q0 := (((up_k (by decide)).trans ((hE204_55543.1 3 rfl).trans up_same)) : (up H204_55543 0 5 x204_1_55543) 0 3 = 2); have q1 := (((up_k (by decide)).trans ((hE204_55543.1 4 rfl).trans ((up_k (by decide)).trans ((up_k (by decide)).trans ((up_k (by decide)).trans ((up_k (by decide)).trans ((up_k (by decide)).trans ((hE135_54124.1 4 rfl).trans ((up_k (by decide)).trans ((up_k (by decide)).trans ((up_k (by decide)).trans up_same))))))))))) : (up H204_55543 0 5 x204_1_55543) 0 4 = x5_1_0); have q2 := (up_same : (up H204_55543 0 5 x204_1_55543) 0 5 = x204_1_55543); omega) (by have q0 := (up_same : (up H204_55543 0 5 x204_1_55543) 0 5 = x204_1_55543); have q1 := (((up_k (by decide)).trans ((hE204_55543.1 4 rfl).trans ((up_k (by decide)).trans ((up_k (by decide)).trans ((up_k (by decide)).trans ((up_k (by decide)).trans ((up_k (by decide)).trans ((hE135_54124.1 4 rfl).trans ((up_k (by decide)).trans ((up_k (by decide)).trans ((up_k (by decide)).trans up_same))))))))))) : (up H204_55543 0 5 x204_1_55543) 0 4 = x5_1_0); omega) (by have q4 := (((up_k (by decide)).trans ((hE204_55543.1 4 rfl).trans ((up_k (by decide)).trans ((up_k (by decide)).trans ((up_k (by decide)).trans ((up_k (by decide)).trans ((up_k (by decide)).trans ((hE135_54124.1 4 rfl).trans ((up_k (by decide)).trans ((up_k (by decide)).trans ((up_k (by decide)).trans up_same))))))))))) : (up H204_55543 0 5 x204_1_55543) 0 4 = x5_1_0); have q5 := (up_same : (up H204_55543 0 5 x204_1_55543) 0 5 = x204_1_55543); have q3 := (((up_k (by decide)).trans ((hE204_55543.1 3 rfl).trans up_same)) : (up H204_55543 0 5 x204_1_55543) 0 3 = 2); first | exact MS.wor2 (n := x204_5_55543) ⟨by omega, by omega⟩ (by omega) (by omega) (hcA.1 rfl) (by omega) (by omega) hrs (by omega) ((((up_k (by decide)).trans rfl)).trans hlx) (by rw [show (up H204_55543 0 5 x204_1_55543) 0 7 = _ from ((up_k (by decide)).trans ((hE204_55543.1 7 rfl).trans ((up_k (by decide)).trans ((up_k (by decide)).trans ((up_k (by decide)).trans up_same))))), show (up H204_55543 0 5 x204_1_55543) 0 6 = _ from ((up_k (by decide)).trans rfl)]; exact hwv) | exact MS.nu2 (n := x204_5_55543) ⟨by omega, by omega⟩ (by omega) (by omega) (hcA.2 rfl) (by omega) (by omega) hrs (by omega) ((((up_k (by decide)).trans rfl)).trans hlx) (by rw [show (up H204_55543 0 5 x204_1_55543) 0 7 = _ from ((up_k (by decide)).trans ((hE204_55543.1 7 rfl).trans ((up_k (by decide)).trans ((up_k (by decide)).trans ((up_k (by decide)).trans up_same))))), show (up H204_55543 0 5 x204_1_55543) 0 6 = _ from ((up_k (by decide)).trans rfl)]; exact hwv)))
                · refine g_iload_n dX12_ahead_212 rfl ?_
                  have J243_56119 : ∀ (i243_0_56119 : x204_1_55543 < T.2 ∧ P 1 x204_1_55543 = T.1 x204_1_55543) (i243_1_56119 : CC 4 (T.1 x204_1_55543)), Go WSM G 2 iX12_ahead 243 [(0, vR 0), (1, vI x204_1_55543), (2, vI rc51283), (3, vI rc51284), (4, vI 4), (5, vI x204_5_55543)] [] H204_55543 Q := by
                    intro i243_0_56119 i243_1_56119
                    have hcT := i243_0_56119
                    have hcc1 := i243_1_56119
                    refine g_iload dX12_ahead_243 rfl ?_
                    refine g_iload dX12_ahead_245 rfl ?_
                    have J263_56143 : ∀ (H263_56143 : PH) (hB263_56143 : BdM H263_56143) (hE263_56143 : FrM ([12], []) H204_55543 H263_56143) (i263_0_56143 : H263_56143 0 12 = lx T p (x204_5_55543 + 1) 4), Go WSM G 2 iX12_ahead 263 [(0, vR 0), (1, vI x204_1_55543), (2, vI rc51283), (3, vI rc51284), (4, vI 4), (5, vI x204_5_55543)] [] H263_56143 Q := by
                      intro H263_56143 hB263_56143 hE263_56143 i263_0_56143
                      refine g_iload dX12_ahead_263 rfl ?_
                      refine g_iload dX12_ahead_265 rfl ?_
                      have J293_56153 : ∀ (i293_0_56153 : W2 4 (H263_56143 0 7) (H263_56143 0 6) T (tA T p) x204_5_55543), Go WSM G 2 iX12_ahead 293 [(0, vR 0), (1, vI x204_1_55543), (2, vI rc51283), (3, vI rc51284), (4, vI 4), (5, vI x204_5_55543)] [] H263_56143 Q := by
                        intro i293_0_56153
                        have hw2 : W2 4 (0) ((H204_55543 0 6)) T (tA T p) x204_5_55543 := by have q := i293_0_56153; rw [show H263_56143 0 7 = 0 from ((hE263_56143.1 7 rfl).trans ((hE204_55543.1 7 rfl).trans ((up_k (by decide)).trans ((up_k (by decide)).trans ((up_k (by decide)).trans up_same))))), show H263_56143 0 6 = (H204_55543 0 6) from ((hE263_56143.1 6 rfl).trans rfl)] at q; exact q
                        refine g_iload dX12_ahead_293 rfl ?_
                        refine g_iload dX12_ahead_295 rfl ?_
                        have J325_56157 : ∀ (H325_56157 : PH) (hB325_56157 : BdM H325_56157) (hE325_56157 : FrM ([6], []) H263_56143 H325_56157) (i325_0_56157 : WV 4 (H325_56157 0 7) (H325_56157 0 6) T (tA T p) (x204_5_55543 + 1)), Go WSM G 2 iX12_ahead 325 [(0, vR 0), (1, vI x204_1_55543), (2, vI rc51283), (3, vI rc51284), (4, vI 4), (5, vI x204_5_55543)] [] H325_56157 Q := by
                          intro H325_56157 hB325_56157 hE325_56157 i325_0_56157
                          have hwv9 := i325_0_56157
                          refine g_iinc (l1 := [(5, vI (x204_5_55543 + 1)), (0, vR 0), (1, vI x204_1_55543), (2, vI rc51283), (3, vI rc51284), (4, vI 4)]) dX12_ahead_325 rfl (by decide) rfl ?_
                          refine g_iinc (l1 := [(1, vI (x204_1_55543 + 1)), (5, vI (x204_5_55543 + 1)), (0, vR 0), (2, vI rc51283), (3, vI rc51284), (4, vI 4)]) dX12_ahead_328 rfl (by decide) rfl ?_
                          refine g_goto (tgt := 204) dX12_ahead_331 (by decide) ?_
                          refine g_forget (l1 := [(0, vR 0), (1, vI (x204_1_55543 + 1)), (2, vI rc51283), (3, vI rc51284), (4, vI 4), (5, vI (x204_5_55543 + 1))]) (by intro q hq; simp only [List.mem_cons, List.not_mem_nil, or_false] at hq ⊢; rcases hq with rfl | rfl | rfl | rfl | rfl | rfl <;> simp) ?_
                          exact ih204_55543 (x204_5_55543 + 1) ⟨by have q0 := b0_2 hB; omega, by have q0 := b0_2 hB; omega⟩ (x204_1_55543 + 1) ⟨by have q0 := b0_2 hB; omega, by have q0 := b0_2 hB; omega⟩ _ hB325_56157 (FrM.c (FrM.c (FrM.c FrM.rf hE204_55543 rfl) hE263_56143 rfl) hE325_56157 rfl) (by omega) (by omega) (by omega) (by first | exact RN.start (by omega) | exact hrn.go (by decide) (by omega) hcc1) (by first | exact hwv9 | (rw [show H325_56157 0 7 = 0 from ((hE325_56157.1 7 rfl).trans ((hE263_56143.1 7 rfl).trans ((hE204_55543.1 7 rfl).trans ((up_k (by decide)).trans ((up_k (by decide)).trans ((up_k (by decide)).trans up_same)))))), show H325_56157 0 6 = 0 from rfl]; exact WV.start)) (by first | (have q12 := (((hE325_56157.1 12 rfl).trans rfl) : H325_56157 0 12 = (H263_56143 0 12)); omega) | exact (((hE325_56157.1 12 rfl).trans rfl)).trans (hl0.2 (by omega) _ (by decide))) (by omega)
                        refine g_icmp_ge (tgt := 325) dX12_ahead_297 (by decide) ⟨by omega, by omega⟩ (by decide) (fun k56159 => ?_) (fun k56159 => ?_)
                        · refine g_forget (l1 := [(0, vR 0), (1, vI x204_1_55543), (2, vI rc51283), (3, vI rc51284), (4, vI 4), (5, vI x204_5_55543)]) (by intro q hq; simp only [List.mem_cons, List.not_mem_nil, or_false] at hq ⊢; rcases hq with rfl | rfl | rfl | rfl | rfl | rfl <;> simp) ?_
                          exact J325_56157 _ hB263_56143 FrM.rf (by first | (rw [show H263_56143 0 7 = _ from ((hE263_56143.1 7 rfl).trans ((hE204_55543.1 7 rfl).trans ((up_k (by decide)).trans ((up_k (by decide)).trans ((up_k (by decide)).trans up_same))))), show H263_56143 0 6 = _ from ((hE263_56143.1 6 rfl).trans rfl)]; first | exact hw2.1 rfl | exact (hw2.2 rfl).v (by omega) (by omega) hcT.2 hv9 | exact WV.big (by decide) (by omega)))
                        · refine g_iload_n dX12_ahead_300 rfl ?_
                          refine g_if_eq (tgt := 325) dX12_ahead_301 (by decide) ⟨by omega, by omega⟩ (fun k56160 => ?_) (fun k56160 => ?_)
                          · refine g_forget (l1 := [(0, vR 0), (1, vI x204_1_55543), (2, vI rc51283), (3, vI rc51284), (4, vI 4), (5, vI x204_5_55543)]) (by intro q hq; simp only [List.mem_cons, List.not_mem_nil, or_false] at hq ⊢; rcases hq with rfl | rfl | rfl | rfl | rfl | rfl <;> simp) ?_
                            exact J325_56157 _ hB263_56143 FrM.rf (by first | (rw [show H263_56143 0 7 = _ from ((hE263_56143.1 7 rfl).trans ((hE204_55543.1 7 rfl).trans ((up_k (by decide)).trans ((up_k (by decide)).trans ((up_k (by decide)).trans up_same))))), show H263_56143 0 6 = _ from ((hE263_56143.1 6 rfl).trans rfl)]; first | exact hw2.1 rfl | exact (hw2.2 rfl).v (by omega) (by omega) hcT.2 hv9 | exact WV.big (by decide) (by omega)))
                          · have hvb : 0 ≤ (H204_55543 0 6) ∧ (H204_55543 0 6) ≤ 999 := by first | exact (hw2.2 rfl).vb hrn ⟨by omega, by omega⟩ (by omega) | (exfalso; omega)
                            refine g_aload_n dX12_ahead_304 rfl ?_
                            refine g_bipush dX12_ahead_305 (by decide) ?_
                            refine g_aload_n dX12_ahead_307 rfl ?_
                            refine m_g6 (z := (H204_55543 0 6)) rfl dX12_ahead_308 ((hE263_56143.1 6 rfl).trans rfl) ?_
                            refine g_imul dX12_ahead_311 ?_
                            refine g_aload_n dX12_ahead_312 rfl ?_
                            refine m_g0 rfl dX12_ahead_313 ?_
                            refine g_iload_n dX12_ahead_316 rfl ?_
                            refine m_l1 (z := (P 1 x204_1_55543)) dX12_ahead_317 ⟨by omega, by omega⟩ ((congrFun (hE263_56143.2 1 rfl rfl) _).trans ((congrFun (hE204_55543.2 1 rfl rfl) _).trans ((up_o (by decide)).trans ((up_o (by decide)).trans ((up_o (by decide)).trans ((up_o (by decide)).trans ((up_o (by decide)).trans ((congrFun (hE135_54124.2 1 rfl rfl) _).trans ((up_o (by decide)).trans ((up_o (by decide)).trans ((up_o (by decide)).trans ((up_o (by decide)).trans rfl)))))))))))) ?_
                            refine g_iadd dX12_ahead_318 ?_
                            refine g_bipush dX12_ahead_319 (by decide) ?_
                            refine g_isub dX12_ahead_321 ?_
                            have hv9 : (((10 * (H204_55543 0 6)) + (P 1 x204_1_55543)) - 48) = (H204_55543 0 6) * 10 + ((P 1 x204_1_55543) - 48) := by omega
                            refine m_p6 rfl dX12_ahead_322 ?_
                            have hB56161 := bs_6 (z := (((10 * (H204_55543 0 6)) + (P 1 x204_1_55543)) - 48)) hB263_56143 ⟨by have q0 := b0_6 hB204_55543; have q1 := bl_1 (k := x204_1_55543) hB; omega, by have q0 := b0_6 hB204_55543; have q1 := bl_1 (k := x204_1_55543) hB; omega⟩
                            refine g_forget (l1 := [(0, vR 0), (1, vI x204_1_55543), (2, vI rc51283), (3, vI rc51284), (4, vI 4), (5, vI x204_5_55543)]) (by intro q hq; simp only [List.mem_cons, List.not_mem_nil, or_false] at hq ⊢; rcases hq with rfl | rfl | rfl | rfl | rfl | rfl <;> simp) ?_
                            exact J325_56157 _ hB56161 (FrM.s FrM.rf rfl) (by first | (rw [show (up H263_56143 0 6 (((10 * (H204_55543 0 6)) + (P 1 x204_1_55543)) - 48)) 0 7 = _ from ((up_k (by decide)).trans ((hE263_56143.1 7 rfl).trans ((hE204_55543.1 7 rfl).trans ((up_k (by decide)).trans ((up_k (by decide)).trans ((up_k (by decide)).trans up_same)))))), show (up H263_56143 0 6 (((10 * (H204_55543 0 6)) + (P 1 x204_1_55543)) - 48)) 0 6 = _ from up_same]; first | exact hw2.1 rfl | exact (hw2.2 rfl).v (by omega) (by omega) hcT.2 hv9 | exact WV.big (by decide) (by omega)))
                      refine g_icmp_ge (tgt := 293) dX12_ahead_267 (by decide) ⟨by omega, by omega⟩ (by decide) (fun k56162 => ?_) (fun k56162 => ?_)
                      · refine g_forget (l1 := [(0, vR 0), (1, vI x204_1_55543), (2, vI rc51283), (3, vI rc51284), (4, vI 4), (5, vI x204_5_55543)]) (by intro q hq; simp only [List.mem_cons, List.not_mem_nil, or_false] at hq ⊢; rcases hq with rfl | rfl | rfl | rfl | rfl | rfl <;> simp) ?_
                        exact J293_56153 (by first | (rw [show H263_56143 0 7 = _ from ((hE263_56143.1 7 rfl).trans ((hE204_55543.1 7 rfl).trans ((up_k (by decide)).trans ((up_k (by decide)).trans ((up_k (by decide)).trans up_same))))), show H263_56143 0 6 = _ from ((hE263_56143.1 6 rfl).trans rfl)]; first | exact W2.six (hwv.w hrn (by omega) (by omega) hcT.2 (hcc1.1 rfl) hw9) | exact W2.four hwv) | (rw [show H263_56143 0 7 = _ from ((hE263_56143.1 7 rfl).trans ((hE204_55543.1 7 rfl).trans ((up_k (by decide)).trans ((up_k (by decide)).trans ((up_k (by decide)).trans up_same))))), show H263_56143 0 6 = _ from ((hE263_56143.1 6 rfl).trans rfl)]; exact W2.six (WV.big (by decide) (by omega))))
                      · refine g_iload_n dX12_ahead_270 rfl ?_
                        refine g_if_eq (tgt := 293) dX12_ahead_271 (by decide) ⟨by omega, by omega⟩ (fun k56163 => ?_) (fun k56163 => by exfalso; omega)
                        refine g_forget (l1 := [(0, vR 0), (1, vI x204_1_55543), (2, vI rc51283), (3, vI rc51284), (4, vI 4), (5, vI x204_5_55543)]) (by intro q hq; simp only [List.mem_cons, List.not_mem_nil, or_false] at hq ⊢; rcases hq with rfl | rfl | rfl | rfl | rfl | rfl <;> simp) ?_
                        exact J293_56153 (by first | (rw [show H263_56143 0 7 = _ from ((hE263_56143.1 7 rfl).trans ((hE204_55543.1 7 rfl).trans ((up_k (by decide)).trans ((up_k (by decide)).trans ((up_k (by decide)).trans up_same))))), show H263_56143 0 6 = _ from ((hE263_56143.1 6 rfl).trans rfl)]; first | exact W2.six (hwv.w hrn (by omega) (by omega) hcT.2 (hcc1.1 rfl) hw9) | exact W2.four hwv) | (rw [show H263_56143 0 7 = _ from ((hE263_56143.1 7 rfl).trans ((hE204_55543.1 7 rfl).trans ((up_k (by decide)).trans ((up_k (by decide)).trans ((up_k (by decide)).trans up_same))))), show H263_56143 0 6 = _ from ((hE263_56143.1 6 rfl).trans rfl)]; exact W2.six (WV.big (by decide) (by omega))))
                    refine g_icmp_ne (tgt := 263) dX12_ahead_247 (by decide) ⟨by omega, by omega⟩ (by decide) (fun k56164 => ?_) (fun k56164 => ?_)
                    · refine g_forget (l1 := [(0, vR 0), (1, vI x204_1_55543), (2, vI rc51283), (3, vI rc51284), (4, vI 4), (5, vI x204_5_55543)]) (by intro q hq; simp only [List.mem_cons, List.not_mem_nil, or_false] at hq ⊢; rcases hq with rfl | rfl | rfl | rfl | rfl | rfl <;> simp) ?_
                      exact J263_56143 _ hB204_55543 FrM.rf (by first | exact (rfl).trans ((show _ = tA T p + 4 by omega).trans (lx_hit (by omega) (by omega) (by omega)).symm) | exact (rfl).trans (hlx.trans (lx_no (by omega)).symm))
                    · refine g_aload_n dX12_ahead_250 rfl ?_
                      refine m_g12 (z := (H204_55543 0 12)) rfl dX12_ahead_251 rfl ?_
                      refine g_iconst dX12_ahead_254 ?_
                      have f56165 := b0_12 hB204_55543
                      refine g_icmp_ne (tgt := 263) dX12_ahead_255 (by decide) ⟨by have q0 := b0_12 hB204_55543; omega, by have q0 := b0_12 hB204_55543; omega⟩ (by decide) (fun k56166 => ?_) (fun k56166 => ?_)
                      · refine g_forget (l1 := [(0, vR 0), (1, vI x204_1_55543), (2, vI rc51283), (3, vI rc51284), (4, vI 4), (5, vI x204_5_55543)]) (by intro q hq; simp only [List.mem_cons, List.not_mem_nil, or_false] at hq ⊢; rcases hq with rfl | rfl | rfl | rfl | rfl | rfl <;> simp) ?_
                        exact J263_56143 _ hB204_55543 FrM.rf (by first | exact (rfl).trans ((show _ = tA T p + 4 by omega).trans (lx_hit (by omega) (by omega) (by omega)).symm) | exact (rfl).trans (hlx.trans (lx_no (by omega)).symm))
                      · refine g_aload_n dX12_ahead_258 rfl ?_
                        refine g_iload_n dX12_ahead_259 rfl ?_
                        refine m_p12 rfl dX12_ahead_260 ?_
                        have hB56167 := bs_12 (z := x204_1_55543) hB204_55543 ⟨by omega, by omega⟩
                        refine g_forget (l1 := [(0, vR 0), (1, vI x204_1_55543), (2, vI rc51283), (3, vI rc51284), (4, vI 4), (5, vI x204_5_55543)]) (by intro q hq; simp only [List.mem_cons, List.not_mem_nil, or_false] at hq ⊢; rcases hq with rfl | rfl | rfl | rfl | rfl | rfl <;> simp) ?_
                        exact J263_56143 _ hB56167 (FrM.s FrM.rf rfl) (by first | exact (up_same).trans ((show _ = tA T p + 4 by omega).trans (lx_hit (by omega) (by omega) (by omega)).symm) | exact (up_same).trans (hlx.trans (lx_no (by omega)).symm))
                  refine g_if_eq (tgt := 231) dX12_ahead_213 (by decide) ⟨by omega, by omega⟩ (fun k56168 => ?_) (fun k56168 => by exfalso; omega)
                  refine g_aload_n dX12_ahead_231 rfl ?_
                  refine m_g0 rfl dX12_ahead_232 ?_
                  refine g_iload_n dX12_ahead_235 rfl ?_
                  refine m_l1 (z := (P 1 x204_1_55543)) dX12_ahead_236 ⟨by omega, by omega⟩ ((congrFun (hE204_55543.2 1 rfl rfl) _).trans ((up_o (by decide)).trans ((up_o (by decide)).trans ((up_o (by decide)).trans ((up_o (by decide)).trans ((up_o (by decide)).trans ((congrFun (hE135_54124.2 1 rfl rfl) _).trans ((up_o (by decide)).trans ((up_o (by decide)).trans ((up_o (by decide)).trans ((up_o (by decide)).trans rfl))))))))))) ?_
                  have f56169 := bl_1 (k := x204_1_55543) hB
                  refine g_sI (av := [vI (P 1 x204_1_55543)]) (st := []) (m_X12_isDigit G H204_55543 (P 1 x204_1_55543) ⟨by have q0 := bl_1 (k := x204_1_55543) hB; omega, by have q0 := bl_1 (k := x204_1_55543) hB; omega⟩ hB204_55543  _ (fun rc56170 hc56170 gc56170_i => ⟨rc56170, rfl, ?_⟩)) cf_X12_isDigit t_1690 rfl (Nat.le_of_ble_eq_true rfl) (by decide) rfl dX12_ahead_237
                  refine g_if_eq (tgt := 334) dX12_ahead_240 (by decide) ⟨by omega, by omega⟩ (fun k56171 => ?_) (fun k56171 => ?_)
                  · have hrs := hrn.stop (by omega)
                    have hps := RX_pos (by decide) (by omega) hcA
                    have hne : tA T p + 1 ≤ x204_1_55543 := by omega
                    refine g_aload_n dX12_ahead_334 rfl ?_
                    refine g_iload_n dX12_ahead_335 rfl ?_
                    refine m_p5 rfl dX12_ahead_336 ?_
                    have hB56172 := bs_5 (z := x204_1_55543) hB204_55543 ⟨by omega, by omega⟩
                    exact g_retV dX12_ahead_339 rfl (hQ _ hB56172 (FrM.s (FrM.c (FrM.s (FrM.s (FrM.s (FrM.s (FrM.s (FrM.c (FrM.s (FrM.s (FrM.s (FrM.s FrM.rf rfl) rfl) rfl) rfl) hE135_54124 rfl) rfl) rfl) rfl) rfl) rfl) hE204_55543 rfl) rfl) (by have q0 := (((up_k (by decide)).trans ((hE204_55543.1 3 rfl).trans up_same)) : (up H204_55543 0 5 x204_1_55543) 0 3 = 2); have q1 := (((up_k (by decide)).trans ((hE204_55543.1 4 rfl).trans ((up_k (by decide)).trans ((up_k (by decide)).trans ((up_k (by decide)).trans ((up_k (by decide)).trans ((up_k (by decide)).trans ((hE135_54124.1 4 rfl).trans ((up_k (by decide)).trans ((up_k (by decide)).trans ((up_k (by decide)).trans up_same))))))))))) : (up H204_55543 0 5 x204_1_55543) 0 4 = x5_1_0); have q2 := (up_same : (up H204_55543 0 5 x204_1_55543) 0 5 = x204_1_55543); omega) (by have q0 := (up_same : (up H204_55543 0 5 x204_1_55543) 0 5 = x204_1_55543); have q1 := (((up_k (by decide)).trans ((hE204_55543.1 4 rfl).trans ((up_k (by decide)).trans ((up_k (by decide)).trans ((up_k (by decide)).trans ((up_k (by decide)).trans ((up_k (by decide)).trans ((hE135_54124.1 4 rfl).trans ((up_k (by decide)).trans ((up_k (by decide)).trans ((up_k (by decide)).trans up_same))))))))))) : (up H204_55543 0 5 x204_1_55543) 0 4 = x5_1_0); omega) (by have q4 := (((up_k (by decide)).trans ((hE204_55543.1 4 rfl).trans ((up_k (by decide)).trans ((up_k (by decide)).trans ((up_k (by decide)).trans ((up_k (by decide)).trans ((up_k (by decide)).trans ((hE135_54124.1 4 rfl).trans ((up_k (by decide)).trans ((up_k (by decide)).trans ((up_k (by decide)).trans up_same))))))))))) : (up H204_55543 0 5 x204_1_55543) 0 4 = x5_1_0); have q5 := (up_same : (up H204_55543 0 5 x204_1_55543) 0 5 = x204_1_55543); have q3 := (((up_k (by decide)).trans ((hE204_55543.1 3 rfl).trans up_same)) : (up H204_55543 0 5 x204_1_55543) 0 3 = 2); first | exact MS.wor2 (n := x204_5_55543) ⟨by omega, by omega⟩ (by omega) (by omega) (hcA.1 rfl) (by omega) (by omega) hrs (by omega) ((((up_k (by decide)).trans rfl)).trans hlx) (by rw [show (up H204_55543 0 5 x204_1_55543) 0 7 = _ from ((up_k (by decide)).trans ((hE204_55543.1 7 rfl).trans ((up_k (by decide)).trans ((up_k (by decide)).trans ((up_k (by decide)).trans up_same))))), show (up H204_55543 0 5 x204_1_55543) 0 6 = _ from ((up_k (by decide)).trans rfl)]; exact hwv) | exact MS.nu2 (n := x204_5_55543) ⟨by omega, by omega⟩ (by omega) (by omega) (hcA.2 rfl) (by omega) (by omega) hrs (by omega) ((((up_k (by decide)).trans rfl)).trans hlx) (by rw [show (up H204_55543 0 5 x204_1_55543) 0 7 = _ from ((up_k (by decide)).trans ((hE204_55543.1 7 rfl).trans ((up_k (by decide)).trans ((up_k (by decide)).trans ((up_k (by decide)).trans up_same))))), show (up H204_55543 0 5 x204_1_55543) 0 6 = _ from ((up_k (by decide)).trans rfl)]; exact hwv)))
                  · refine g_forget (l1 := [(0, vR 0), (1, vI x204_1_55543), (2, vI rc51283), (3, vI rc51284), (4, vI 4), (5, vI x204_5_55543)]) (by intro q hq; simp only [List.mem_cons, List.not_mem_nil, or_false] at hq ⊢; rcases hq with rfl | rfl | rfl | rfl | rfl | rfl <;> simp) ?_
                    exact J243_56119 (by omega) (⟨fun e => by omega, fun e => by omega⟩)
              refine g_forget (l1 := [(0, vR 0), (1, vI x5_1_0), (2, vI rc51283), (3, vI rc51284), (4, vI 4), (5, vI 0)]) (by intro q hq; simp only [List.mem_cons, List.not_mem_nil, or_false] at hq ⊢; rcases hq with rfl | rfl | rfl | rfl | rfl | rfl <;> simp) ?_
              exact L204_55543 _ 0 (by decide) x5_1_0 ⟨by have q0 := b0_2 hB; omega, by have q0 := b0_2 hB; omega⟩ _ hB55542 FrM.rf (by omega) (by omega) (by omega) (by first | exact RN.start (by omega) | exact hrn.go (by decide) (by omega) hcc1) (by first | exact hwv9 | (rw [show (up (up (up (up (up H135_54124 0 6 0) 0 7 0) 0 3 3) 0 5 (x5_1_0 + 1)) 0 3 2) 0 7 = 0 from ((up_k (by decide)).trans ((up_k (by decide)).trans ((up_k (by decide)).trans up_same))), show (up (up (up (up (up H135_54124 0 6 0) 0 7 0) 0 3 3) 0 5 (x5_1_0 + 1)) 0 3 2) 0 6 = 0 from ((up_k (by decide)).trans ((up_k (by decide)).trans ((up_k (by decide)).trans ((up_k (by decide)).trans up_same))))]; exact WV.start)) (by first | (have q12 := (((up_k (by decide)).trans ((up_k (by decide)).trans ((up_k (by decide)).trans ((up_k (by decide)).trans ((up_k (by decide)).trans rfl))))) : (up (up (up (up (up H135_54124 0 6 0) 0 7 0) 0 3 3) 0 5 (x5_1_0 + 1)) 0 3 2) 0 12 = (H135_54124 0 12)); omega) | exact (((up_k (by decide)).trans ((up_k (by decide)).trans ((up_k (by decide)).trans ((up_k (by decide)).trans ((up_k (by decide)).trans rfl)))))).trans (hl0.2 (by omega) _ (by decide))) (Nat.lt_succ_self _)
            · refine g_iconst dX12_ahead_181 ?_
              refine g_goto (tgt := 186) dX12_ahead_182 (by decide) ?_
              refine m_p3 rfl dX12_ahead_186 ?_
              have hB56173 := bs_3 (z := 1) hB54129 (by decide)
              refine g_iload_n dX12_ahead_189 rfl ?_
              refine g_if_eq (tgt := 198) dX12_ahead_190 (by decide) ⟨by omega, by omega⟩ (fun k56174 => by exfalso; omega) (fun k56174 => ?_)
              refine g_bipush dX12_ahead_193 (by decide) ?_
              refine g_goto (tgt := 199) dX12_ahead_195 (by decide) ?_
              have hcA : CC 6 (T.1 (tA T p)) := ⟨fun e => by omega, fun e => by omega⟩
              have hfl : rc51283 = 0 ∨ rc51284 = 0 := by omega
              clear hL hD
              refine g_istore (l1 := [(4, vI 6), (0, vR 0), (1, vI x5_1_0), (2, vI rc51283), (3, vI rc51284)]) dX12_ahead_199 (by decide) rfl ?_
              refine g_iconst dX12_ahead_201 ?_
              refine g_istore (l1 := [(5, vI 0), (4, vI 6), (0, vR 0), (1, vI x5_1_0), (2, vI rc51283), (3, vI rc51284)]) dX12_ahead_202 (by decide) rfl ?_
              have L204_56174 : ∀ (n204_56174 : Nat) (x204_5_56174 : Int) (h_x204_5_56174 : 0 ≤ x204_5_56174 ∧ x204_5_56174 ≤ 1600) (x204_1_56174 : Int) (h_x204_1_56174 : 0 ≤ x204_1_56174 ∧ x204_1_56174 ≤ 1600) (H204_56174 : PH) (hB204_56174 : BdM H204_56174) (hE204_56174 : FrM ([6, 7, 12], []) (up (up (up (up (up H135_54124 0 6 0) 0 7 0) 0 3 3) 0 5 (x5_1_0 + 1)) 0 3 1) H204_56174) (i204_0_56174 : x5_1_0 ≤ x204_1_56174) (i204_1_56174 : x204_5_56174 ≤ x204_1_56174) (i204_2_56174 : x204_1_56174 = tA T p + x204_5_56174) (i204_3_56174 : RN 6 T (tA T p) x204_1_56174) (i204_4_56174 : WV 6 (H204_56174 0 7) (H204_56174 0 6) T (tA T p) x204_5_56174) (i204_5_56174 : H204_56174 0 12 = lx T p x204_5_56174 6) (hm204_56174 : ((1601 - x204_5_56174) : Int).toNat < n204_56174), Go WSM G 2 iX12_ahead 204 [(0, vR 0), (1, vI x204_1_56174), (2, vI rc51283), (3, vI rc51284), (4, vI 6), (5, vI x204_5_56174)] [] H204_56174 Q := by
                intro n204_56174
                induction n204_56174 with
                | zero => intro x204_5_56174 h_x204_5_56174 x204_1_56174 h_x204_1_56174 H204_56174 hB204_56174 hE204_56174 i204_0_56174 i204_1_56174 i204_2_56174 i204_3_56174 i204_4_56174 i204_5_56174 hm204_56174; exact absurd hm204_56174 (Nat.not_lt_zero _)
                | succ n204_56174 ih204_56174 =>
                intro x204_5_56174 h_x204_5_56174 x204_1_56174 h_x204_1_56174 H204_56174 hB204_56174 hE204_56174 i204_0_56174 i204_1_56174 i204_2_56174 i204_3_56174 i204_4_56174 i204_5_56174 hm204_56174
                have hT2 := z0.2 x204_1_56174
                have hrn := i204_3_56174
                have hwv : WV 6 ((H204_56174 0 7)) ((H204_56174 0 6)) T (tA T p) x204_5_56174 := by have q := i204_4_56174; rw [show H204_56174 0 7 = (H204_56174 0 7) from rfl, show H204_56174 0 6 = (H204_56174 0 6) from rfl] at q; exact q
                have hlx := i204_5_56174
                refine g_iload_n dX12_ahead_204 rfl ?_
                refine g_aload_n dX12_ahead_205 rfl ?_
                refine m_g2 (z := (P 0 2)) rfl dX12_ahead_206 ((hE204_56174.1 2 rfl).trans ((up_k (by decide)).trans ((up_k (by decide)).trans ((up_k (by decide)).trans ((up_k (by decide)).trans ((up_k (by decide)).trans ((hE135_54124.1 2 rfl).trans ((up_k (by decide)).trans ((up_k (by decide)).trans ((up_k (by decide)).trans ((up_k (by decide)).trans rfl))))))))))) ?_
                refine g_icmp_ge (tgt := 334) dX12_ahead_209 (by decide) ⟨by omega, by omega⟩ ⟨by have q0 := b0_2 hB; omega, by have q0 := b0_2 hB; omega⟩ (fun k56817 => ?_) (fun k56817 => ?_)
                · have hrs := hrn.stop (by omega)
                  have hps := RX_pos (by decide) (by omega) hcA
                  have hne : tA T p + 1 ≤ x204_1_56174 := by omega
                  refine g_aload_n dX12_ahead_334 rfl ?_
                  refine g_iload_n dX12_ahead_335 rfl ?_
                  refine m_p5 rfl dX12_ahead_336 ?_
                  have hB56818 := bs_5 (z := x204_1_56174) hB204_56174 ⟨by omega, by omega⟩
                  exact g_retV dX12_ahead_339 rfl (hQ _ hB56818 (FrM.s (FrM.c (FrM.s (FrM.s (FrM.s (FrM.s (FrM.s (FrM.c (FrM.s (FrM.s (FrM.s (FrM.s FrM.rf rfl) rfl) rfl) rfl) hE135_54124 rfl) rfl) rfl) rfl) rfl) rfl) hE204_56174 rfl) rfl) (by have q0 := (((up_k (by decide)).trans ((hE204_56174.1 3 rfl).trans up_same)) : (up H204_56174 0 5 x204_1_56174) 0 3 = 1); have q1 := (((up_k (by decide)).trans ((hE204_56174.1 4 rfl).trans ((up_k (by decide)).trans ((up_k (by decide)).trans ((up_k (by decide)).trans ((up_k (by decide)).trans ((up_k (by decide)).trans ((hE135_54124.1 4 rfl).trans ((up_k (by decide)).trans ((up_k (by decide)).trans ((up_k (by decide)).trans up_same))))))))))) : (up H204_56174 0 5 x204_1_56174) 0 4 = x5_1_0); have q2 := (up_same : (up H204_56174 0 5 x204_1_56174) 0 5 = x204_1_56174); omega) (by have q0 := (up_same : (up H204_56174 0 5 x204_1_56174) 0 5 = x204_1_56174); have q1 := (((up_k (by decide)).trans ((hE204_56174.1 4 rfl).trans ((up_k (by decide)).trans ((up_k (by decide)).trans ((up_k (by decide)).trans ((up_k (by decide)).trans ((up_k (by decide)).trans ((hE135_54124.1 4 rfl).trans ((up_k (by decide)).trans ((up_k (by decide)).trans ((up_k (by decide)).trans up_same))))))))))) : (up H204_56174 0 5 x204_1_56174) 0 4 = x5_1_0); omega) (by have q4 := (((up_k (by decide)).trans ((hE204_56174.1 4 rfl).trans ((up_k (by decide)).trans ((up_k (by decide)).trans ((up_k (by decide)).trans ((up_k (by decide)).trans ((up_k (by decide)).trans ((hE135_54124.1 4 rfl).trans ((up_k (by decide)).trans ((up_k (by decide)).trans ((up_k (by decide)).trans up_same))))))))))) : (up H204_56174 0 5 x204_1_56174) 0 4 = x5_1_0); have q5 := (up_same : (up H204_56174 0 5 x204_1_56174) 0 5 = x204_1_56174); have q3 := (((up_k (by decide)).trans ((hE204_56174.1 3 rfl).trans up_same)) : (up H204_56174 0 5 x204_1_56174) 0 3 = 1); first | exact MS.wor2 (n := x204_5_56174) ⟨by omega, by omega⟩ (by omega) (by omega) (hcA.1 rfl) (by omega) (by omega) hrs (by omega) ((((up_k (by decide)).trans rfl)).trans hlx) (by rw [show (up H204_56174 0 5 x204_1_56174) 0 7 = _ from ((up_k (by decide)).trans rfl), show (up H204_56174 0 5 x204_1_56174) 0 6 = _ from ((up_k (by decide)).trans rfl)]; exact hwv) | exact MS.nu2 (n := x204_5_56174) ⟨by omega, by omega⟩ (by omega) (by omega) (hcA.2 rfl) (by omega) (by omega) hrs (by omega) ((((up_k (by decide)).trans rfl)).trans hlx) (by rw [show (up H204_56174 0 5 x204_1_56174) 0 7 = _ from ((up_k (by decide)).trans rfl), show (up H204_56174 0 5 x204_1_56174) 0 6 = _ from ((up_k (by decide)).trans rfl)]; exact hwv)))
                · refine g_iload_n dX12_ahead_212 rfl ?_
                  have J243_56882 : ∀ (i243_0_56882 : x204_1_56174 < T.2 ∧ P 1 x204_1_56174 = T.1 x204_1_56174) (i243_1_56882 : CC 6 (T.1 x204_1_56174)), Go WSM G 2 iX12_ahead 243 [(0, vR 0), (1, vI x204_1_56174), (2, vI rc51283), (3, vI rc51284), (4, vI 6), (5, vI x204_5_56174)] [] H204_56174 Q := by
                    intro i243_0_56882 i243_1_56882
                    have hcT := i243_0_56882
                    have hcc1 := i243_1_56882
                    refine g_iload dX12_ahead_243 rfl ?_
                    refine g_iload dX12_ahead_245 rfl ?_
                    have J263_56912 : ∀ (H263_56912 : PH) (hB263_56912 : BdM H263_56912) (hE263_56912 : FrM ([12], []) H204_56174 H263_56912) (i263_0_56912 : H263_56912 0 12 = lx T p (x204_5_56174 + 1) 6), Go WSM G 2 iX12_ahead 263 [(0, vR 0), (1, vI x204_1_56174), (2, vI rc51283), (3, vI rc51284), (4, vI 6), (5, vI x204_5_56174)] [] H263_56912 Q := by
                      intro H263_56912 hB263_56912 hE263_56912 i263_0_56912
                      refine g_iload dX12_ahead_263 rfl ?_
                      refine g_iload dX12_ahead_265 rfl ?_
                      have J293_56925 : ∀ (H293_56925 : PH) (hB293_56925 : BdM H293_56925) (hE293_56925 : FrM ([7], []) H263_56912 H293_56925) (i293_0_56925 : W2 6 (H293_56925 0 7) (H293_56925 0 6) T (tA T p) x204_5_56174), Go WSM G 2 iX12_ahead 293 [(0, vR 0), (1, vI x204_1_56174), (2, vI rc51283), (3, vI rc51284), (4, vI 6), (5, vI x204_5_56174)] [] H293_56925 Q := by
                        intro H293_56925 hB293_56925 hE293_56925 i293_0_56925
                        have hw2 : W2 6 ((H293_56925 0 7)) ((H204_56174 0 6)) T (tA T p) x204_5_56174 := by have q := i293_0_56925; rw [show H293_56925 0 7 = (H293_56925 0 7) from rfl, show H293_56925 0 6 = (H204_56174 0 6) from ((hE293_56925.1 6 rfl).trans ((hE263_56912.1 6 rfl).trans rfl))] at q; exact q
                        refine g_iload dX12_ahead_293 rfl ?_
                        refine g_iload dX12_ahead_295 rfl ?_
                        have J325_56929 : ∀ (H325_56929 : PH) (hB325_56929 : BdM H325_56929) (hE325_56929 : FrM ([6], []) H293_56925 H325_56929) (i325_0_56929 : WV 6 (H325_56929 0 7) (H325_56929 0 6) T (tA T p) (x204_5_56174 + 1)), Go WSM G 2 iX12_ahead 325 [(0, vR 0), (1, vI x204_1_56174), (2, vI rc51283), (3, vI rc51284), (4, vI 6), (5, vI x204_5_56174)] [] H325_56929 Q := by
                          intro H325_56929 hB325_56929 hE325_56929 i325_0_56929
                          have hwv9 := i325_0_56929
                          refine g_iinc (l1 := [(5, vI (x204_5_56174 + 1)), (0, vR 0), (1, vI x204_1_56174), (2, vI rc51283), (3, vI rc51284), (4, vI 6)]) dX12_ahead_325 rfl (by decide) rfl ?_
                          refine g_iinc (l1 := [(1, vI (x204_1_56174 + 1)), (5, vI (x204_5_56174 + 1)), (0, vR 0), (2, vI rc51283), (3, vI rc51284), (4, vI 6)]) dX12_ahead_328 rfl (by decide) rfl ?_
                          refine g_goto (tgt := 204) dX12_ahead_331 (by decide) ?_
                          refine g_forget (l1 := [(0, vR 0), (1, vI (x204_1_56174 + 1)), (2, vI rc51283), (3, vI rc51284), (4, vI 6), (5, vI (x204_5_56174 + 1))]) (by intro q hq; simp only [List.mem_cons, List.not_mem_nil, or_false] at hq ⊢; rcases hq with rfl | rfl | rfl | rfl | rfl | rfl <;> simp) ?_
                          exact ih204_56174 (x204_5_56174 + 1) ⟨by have q0 := b0_2 hB; omega, by have q0 := b0_2 hB; omega⟩ (x204_1_56174 + 1) ⟨by have q0 := b0_2 hB; omega, by have q0 := b0_2 hB; omega⟩ _ hB325_56929 (FrM.c (FrM.c (FrM.c (FrM.c FrM.rf hE204_56174 rfl) hE263_56912 rfl) hE293_56925 rfl) hE325_56929 rfl) (by omega) (by omega) (by omega) (by first | exact RN.start (by omega) | exact hrn.go (by decide) (by omega) hcc1) (by first | exact hwv9 | (rw [show H325_56929 0 7 = 0 from ((hE325_56929.1 7 rfl).trans rfl), show H325_56929 0 6 = 0 from rfl]; exact WV.start)) (by first | (have q12 := (((hE325_56929.1 12 rfl).trans ((hE293_56925.1 12 rfl).trans rfl)) : H325_56929 0 12 = (H263_56912 0 12)); omega) | exact (((hE325_56929.1 12 rfl).trans ((hE293_56925.1 12 rfl).trans rfl))).trans (hl0.2 (by omega) _ (by decide))) (by omega)
                        refine g_icmp_ge (tgt := 325) dX12_ahead_297 (by decide) ⟨by omega, by omega⟩ (by decide) (fun k56931 => ?_) (fun k56931 => ?_)
                        · refine g_forget (l1 := [(0, vR 0), (1, vI x204_1_56174), (2, vI rc51283), (3, vI rc51284), (4, vI 6), (5, vI x204_5_56174)]) (by intro q hq; simp only [List.mem_cons, List.not_mem_nil, or_false] at hq ⊢; rcases hq with rfl | rfl | rfl | rfl | rfl | rfl <;> simp) ?_
                          exact J325_56929 _ hB293_56925 FrM.rf (by first | (rw [show H293_56925 0 7 = _ from rfl, show H293_56925 0 6 = _ from ((hE293_56925.1 6 rfl).trans ((hE263_56912.1 6 rfl).trans rfl))]; first | exact hw2.1 rfl | exact (hw2.2 rfl).v (by omega) (by omega) hcT.2 hv9 | exact WV.big (by decide) (by omega)))
                        · refine g_iload_n dX12_ahead_300 rfl ?_
                          refine g_if_eq (tgt := 325) dX12_ahead_301 (by decide) ⟨by omega, by omega⟩ (fun k56932 => ?_) (fun k56932 => ?_)
                          · refine g_forget (l1 := [(0, vR 0), (1, vI x204_1_56174), (2, vI rc51283), (3, vI rc51284), (4, vI 6), (5, vI x204_5_56174)]) (by intro q hq; simp only [List.mem_cons, List.not_mem_nil, or_false] at hq ⊢; rcases hq with rfl | rfl | rfl | rfl | rfl | rfl <;> simp) ?_
                            exact J325_56929 _ hB293_56925 FrM.rf (by first | (rw [show H293_56925 0 7 = _ from rfl, show H293_56925 0 6 = _ from ((hE293_56925.1 6 rfl).trans ((hE263_56912.1 6 rfl).trans rfl))]; first | exact hw2.1 rfl | exact (hw2.2 rfl).v (by omega) (by omega) hcT.2 hv9 | exact WV.big (by decide) (by omega)))
                          · have hvb : 0 ≤ (H204_56174 0 6) ∧ (H204_56174 0 6) ≤ 999 := by first | exact (hw2.2 rfl).vb hrn ⟨by omega, by omega⟩ (by omega) | (exfalso; omega)
                            refine g_aload_n dX12_ahead_304 rfl ?_
                            refine g_bipush dX12_ahead_305 (by decide) ?_
                            refine g_aload_n dX12_ahead_307 rfl ?_
                            refine m_g6 (z := (H204_56174 0 6)) rfl dX12_ahead_308 ((hE293_56925.1 6 rfl).trans ((hE263_56912.1 6 rfl).trans rfl)) ?_
                            refine g_imul dX12_ahead_311 ?_
                            refine g_aload_n dX12_ahead_312 rfl ?_
                            refine m_g0 rfl dX12_ahead_313 ?_
                            refine g_iload_n dX12_ahead_316 rfl ?_
                            refine m_l1 (z := (P 1 x204_1_56174)) dX12_ahead_317 ⟨by omega, by omega⟩ ((congrFun (hE293_56925.2 1 rfl rfl) _).trans ((congrFun (hE263_56912.2 1 rfl rfl) _).trans ((congrFun (hE204_56174.2 1 rfl rfl) _).trans ((up_o (by decide)).trans ((up_o (by decide)).trans ((up_o (by decide)).trans ((up_o (by decide)).trans ((up_o (by decide)).trans ((congrFun (hE135_54124.2 1 rfl rfl) _).trans ((up_o (by decide)).trans ((up_o (by decide)).trans ((up_o (by decide)).trans ((up_o (by decide)).trans rfl))))))))))))) ?_
                            refine g_iadd dX12_ahead_318 ?_
                            refine g_bipush dX12_ahead_319 (by decide) ?_
                            refine g_isub dX12_ahead_321 ?_
                            have hv9 : (((10 * (H204_56174 0 6)) + (P 1 x204_1_56174)) - 48) = (H204_56174 0 6) * 10 + ((P 1 x204_1_56174) - 48) := by omega
                            refine m_p6 rfl dX12_ahead_322 ?_
                            have hB56933 := bs_6 (z := (((10 * (H204_56174 0 6)) + (P 1 x204_1_56174)) - 48)) hB293_56925 ⟨by have q0 := b0_6 hB204_56174; have q1 := bl_1 (k := x204_1_56174) hB; omega, by have q0 := b0_6 hB204_56174; have q1 := bl_1 (k := x204_1_56174) hB; omega⟩
                            refine g_forget (l1 := [(0, vR 0), (1, vI x204_1_56174), (2, vI rc51283), (3, vI rc51284), (4, vI 6), (5, vI x204_5_56174)]) (by intro q hq; simp only [List.mem_cons, List.not_mem_nil, or_false] at hq ⊢; rcases hq with rfl | rfl | rfl | rfl | rfl | rfl <;> simp) ?_
                            exact J325_56929 _ hB56933 (FrM.s FrM.rf rfl) (by first | (rw [show (up H293_56925 0 6 (((10 * (H204_56174 0 6)) + (P 1 x204_1_56174)) - 48)) 0 7 = _ from ((up_k (by decide)).trans rfl), show (up H293_56925 0 6 (((10 * (H204_56174 0 6)) + (P 1 x204_1_56174)) - 48)) 0 6 = _ from up_same]; first | exact hw2.1 rfl | exact (hw2.2 rfl).v (by omega) (by omega) hcT.2 hv9 | exact WV.big (by decide) (by omega)))
                      refine g_icmp_ge (tgt := 293) dX12_ahead_267 (by decide) ⟨by omega, by omega⟩ (by decide) (fun k56934 => ?_) (fun k56934 => ?_)
                      · refine g_forget (l1 := [(0, vR 0), (1, vI x204_1_56174), (2, vI rc51283), (3, vI rc51284), (4, vI 6), (5, vI x204_5_56174)]) (by intro q hq; simp only [List.mem_cons, List.not_mem_nil, or_false] at hq ⊢; rcases hq with rfl | rfl | rfl | rfl | rfl | rfl <;> simp) ?_
                        exact J293_56925 _ hB263_56912 FrM.rf (by first | (rw [show H263_56912 0 7 = _ from ((hE263_56912.1 7 rfl).trans rfl), show H263_56912 0 6 = _ from ((hE263_56912.1 6 rfl).trans rfl)]; first | exact W2.six (hwv.w hrn (by omega) (by omega) hcT.2 (hcc1.1 rfl) hw9) | exact W2.four hwv) | (rw [show H263_56912 0 7 = _ from ((hE263_56912.1 7 rfl).trans rfl), show H263_56912 0 6 = _ from ((hE263_56912.1 6 rfl).trans rfl)]; exact W2.six (WV.big (by decide) (by omega))))
                      · refine g_iload_n dX12_ahead_270 rfl ?_
                        refine g_if_eq (tgt := 293) dX12_ahead_271 (by decide) ⟨by omega, by omega⟩ (fun k56935 => by exfalso; omega) (fun k56935 => ?_)
                        refine g_aload_n dX12_ahead_274 rfl ?_
                        refine g_aload_n dX12_ahead_275 rfl ?_
                        refine m_g7 (z := (H204_56174 0 7)) rfl dX12_ahead_276 ((hE263_56912.1 7 rfl).trans rfl) ?_
                        refine g_bipush dX12_ahead_279 (by decide) ?_
                        refine g_lshl dX12_ahead_281 ?_
                        refine g_nm (fun b56936 e_b56936 => ?_)
                        have h_b56936 := llshl_ir (H204_56174 0 7) 8
                        rw [← e_b56936] at h_b56936
                        refine g_aload_n dX12_ahead_282 rfl ?_
                        refine m_g0 rfl dX12_ahead_283 ?_
                        refine g_iload_n dX12_ahead_286 rfl ?_
                        refine m_l1 (z := (P 1 x204_1_56174)) dX12_ahead_287 ⟨by omega, by omega⟩ ((congrFun (hE263_56912.2 1 rfl rfl) _).trans ((congrFun (hE204_56174.2 1 rfl rfl) _).trans ((up_o (by decide)).trans ((up_o (by decide)).trans ((up_o (by decide)).trans ((up_o (by decide)).trans ((up_o (by decide)).trans ((congrFun (hE135_54124.2 1 rfl rfl) _).trans ((up_o (by decide)).trans ((up_o (by decide)).trans ((up_o (by decide)).trans ((up_o (by decide)).trans rfl)))))))))))) ?_
                        refine g_i2l dX12_ahead_288 ⟨by have q0 := bl_1 (k := x204_1_56174) hB; omega, by have q0 := bl_1 (k := x204_1_56174) hB; omega⟩ ?_
                        refine g_lor dX12_ahead_289 ?_
                        refine g_nm (fun b56937 e_b56937 => ?_)
                        have h_b56937 := llor_ir b56936 (P 1 x204_1_56174)
                        rw [← e_b56937] at h_b56937
                        have hw9 : b56937 = llor (llshl (H204_56174 0 7) 8) (P 1 x204_1_56174) := by rw [e_b56937, e_b56936]
                        refine m_p7 rfl dX12_ahead_290 ?_
                        have hB56938 := bs_7 (z := b56937) hB263_56912 ⟨by omega, by omega⟩
                        refine g_forget (l1 := [(0, vR 0), (1, vI x204_1_56174), (2, vI rc51283), (3, vI rc51284), (4, vI 6), (5, vI x204_5_56174)]) (by intro q hq; simp only [List.mem_cons, List.not_mem_nil, or_false] at hq ⊢; rcases hq with rfl | rfl | rfl | rfl | rfl | rfl <;> simp) ?_
                        exact J293_56925 _ hB56938 (FrM.s FrM.rf rfl) (by first | (rw [show (up H263_56912 0 7 b56937) 0 7 = _ from up_same, show (up H263_56912 0 7 b56937) 0 6 = _ from ((up_k (by decide)).trans ((hE263_56912.1 6 rfl).trans rfl))]; first | exact W2.six (hwv.w hrn (by omega) (by omega) hcT.2 (hcc1.1 rfl) hw9) | exact W2.four hwv) | (rw [show (up H263_56912 0 7 b56937) 0 7 = _ from up_same, show (up H263_56912 0 7 b56937) 0 6 = _ from ((up_k (by decide)).trans ((hE263_56912.1 6 rfl).trans rfl))]; exact W2.six (WV.big (by decide) (by omega))))
                    refine g_icmp_ne (tgt := 263) dX12_ahead_247 (by decide) ⟨by omega, by omega⟩ (by decide) (fun k56939 => ?_) (fun k56939 => ?_)
                    · refine g_forget (l1 := [(0, vR 0), (1, vI x204_1_56174), (2, vI rc51283), (3, vI rc51284), (4, vI 6), (5, vI x204_5_56174)]) (by intro q hq; simp only [List.mem_cons, List.not_mem_nil, or_false] at hq ⊢; rcases hq with rfl | rfl | rfl | rfl | rfl | rfl <;> simp) ?_
                      exact J263_56912 _ hB204_56174 FrM.rf (by first | exact (rfl).trans ((show _ = tA T p + 6 by omega).trans (lx_hit (by omega) (by omega) (by omega)).symm) | exact (rfl).trans (hlx.trans (lx_no (by omega)).symm))
                    · refine g_aload_n dX12_ahead_250 rfl ?_
                      refine m_g12 (z := (H204_56174 0 12)) rfl dX12_ahead_251 rfl ?_
                      refine g_iconst dX12_ahead_254 ?_
                      have f56940 := b0_12 hB204_56174
                      refine g_icmp_ne (tgt := 263) dX12_ahead_255 (by decide) ⟨by have q0 := b0_12 hB204_56174; omega, by have q0 := b0_12 hB204_56174; omega⟩ (by decide) (fun k56941 => ?_) (fun k56941 => ?_)
                      · refine g_forget (l1 := [(0, vR 0), (1, vI x204_1_56174), (2, vI rc51283), (3, vI rc51284), (4, vI 6), (5, vI x204_5_56174)]) (by intro q hq; simp only [List.mem_cons, List.not_mem_nil, or_false] at hq ⊢; rcases hq with rfl | rfl | rfl | rfl | rfl | rfl <;> simp) ?_
                        exact J263_56912 _ hB204_56174 FrM.rf (by first | exact (rfl).trans ((show _ = tA T p + 6 by omega).trans (lx_hit (by omega) (by omega) (by omega)).symm) | exact (rfl).trans (hlx.trans (lx_no (by omega)).symm))
                      · refine g_aload_n dX12_ahead_258 rfl ?_
                        refine g_iload_n dX12_ahead_259 rfl ?_
                        refine m_p12 rfl dX12_ahead_260 ?_
                        have hB56942 := bs_12 (z := x204_1_56174) hB204_56174 ⟨by omega, by omega⟩
                        refine g_forget (l1 := [(0, vR 0), (1, vI x204_1_56174), (2, vI rc51283), (3, vI rc51284), (4, vI 6), (5, vI x204_5_56174)]) (by intro q hq; simp only [List.mem_cons, List.not_mem_nil, or_false] at hq ⊢; rcases hq with rfl | rfl | rfl | rfl | rfl | rfl <;> simp) ?_
                        exact J263_56912 _ hB56942 (FrM.s FrM.rf rfl) (by first | exact (up_same).trans ((show _ = tA T p + 6 by omega).trans (lx_hit (by omega) (by omega) (by omega)).symm) | exact (up_same).trans (hlx.trans (lx_no (by omega)).symm))
                  refine g_if_eq (tgt := 231) dX12_ahead_213 (by decide) ⟨by omega, by omega⟩ (fun k56943 => by exfalso; omega) (fun k56943 => ?_)
                  refine g_aload_n dX12_ahead_216 rfl ?_
                  refine m_g0 rfl dX12_ahead_217 ?_
                  refine g_iload_n dX12_ahead_220 rfl ?_
                  refine m_l1 (z := (P 1 x204_1_56174)) dX12_ahead_221 ⟨by omega, by omega⟩ ((congrFun (hE204_56174.2 1 rfl rfl) _).trans ((up_o (by decide)).trans ((up_o (by decide)).trans ((up_o (by decide)).trans ((up_o (by decide)).trans ((up_o (by decide)).trans ((congrFun (hE135_54124.2 1 rfl rfl) _).trans ((up_o (by decide)).trans ((up_o (by decide)).trans ((up_o (by decide)).trans ((up_o (by decide)).trans rfl))))))))))) ?_
                  have f56944 := bl_1 (k := x204_1_56174) hB
                  refine g_sI (av := [vI (P 1 x204_1_56174)]) (st := []) (m_X12_isLetter G H204_56174 (P 1 x204_1_56174) ⟨by have q0 := bl_1 (k := x204_1_56174) hB; omega, by have q0 := bl_1 (k := x204_1_56174) hB; omega⟩ hB204_56174  _ (fun rc56945 hc56945 gc56945_i => ⟨rc56945, rfl, ?_⟩)) cf_X12_isLetter t_1687 rfl (Nat.le_of_ble_eq_true rfl) (by decide) rfl dX12_ahead_222
                  refine g_if_eq (tgt := 334) dX12_ahead_225 (by decide) ⟨by omega, by omega⟩ (fun k56946 => ?_) (fun k56946 => ?_)
                  · have hrs := hrn.stop (by omega)
                    have hps := RX_pos (by decide) (by omega) hcA
                    have hne : tA T p + 1 ≤ x204_1_56174 := by omega
                    refine g_aload_n dX12_ahead_334 rfl ?_
                    refine g_iload_n dX12_ahead_335 rfl ?_
                    refine m_p5 rfl dX12_ahead_336 ?_
                    have hB56947 := bs_5 (z := x204_1_56174) hB204_56174 ⟨by omega, by omega⟩
                    exact g_retV dX12_ahead_339 rfl (hQ _ hB56947 (FrM.s (FrM.c (FrM.s (FrM.s (FrM.s (FrM.s (FrM.s (FrM.c (FrM.s (FrM.s (FrM.s (FrM.s FrM.rf rfl) rfl) rfl) rfl) hE135_54124 rfl) rfl) rfl) rfl) rfl) rfl) hE204_56174 rfl) rfl) (by have q0 := (((up_k (by decide)).trans ((hE204_56174.1 3 rfl).trans up_same)) : (up H204_56174 0 5 x204_1_56174) 0 3 = 1); have q1 := (((up_k (by decide)).trans ((hE204_56174.1 4 rfl).trans ((up_k (by decide)).trans ((up_k (by decide)).trans ((up_k (by decide)).trans ((up_k (by decide)).trans ((up_k (by decide)).trans ((hE135_54124.1 4 rfl).trans ((up_k (by decide)).trans ((up_k (by decide)).trans ((up_k (by decide)).trans up_same))))))))))) : (up H204_56174 0 5 x204_1_56174) 0 4 = x5_1_0); have q2 := (up_same : (up H204_56174 0 5 x204_1_56174) 0 5 = x204_1_56174); omega) (by have q0 := (up_same : (up H204_56174 0 5 x204_1_56174) 0 5 = x204_1_56174); have q1 := (((up_k (by decide)).trans ((hE204_56174.1 4 rfl).trans ((up_k (by decide)).trans ((up_k (by decide)).trans ((up_k (by decide)).trans ((up_k (by decide)).trans ((up_k (by decide)).trans ((hE135_54124.1 4 rfl).trans ((up_k (by decide)).trans ((up_k (by decide)).trans ((up_k (by decide)).trans up_same))))))))))) : (up H204_56174 0 5 x204_1_56174) 0 4 = x5_1_0); omega) (by have q4 := (((up_k (by decide)).trans ((hE204_56174.1 4 rfl).trans ((up_k (by decide)).trans ((up_k (by decide)).trans ((up_k (by decide)).trans ((up_k (by decide)).trans ((up_k (by decide)).trans ((hE135_54124.1 4 rfl).trans ((up_k (by decide)).trans ((up_k (by decide)).trans ((up_k (by decide)).trans up_same))))))))))) : (up H204_56174 0 5 x204_1_56174) 0 4 = x5_1_0); have q5 := (up_same : (up H204_56174 0 5 x204_1_56174) 0 5 = x204_1_56174); have q3 := (((up_k (by decide)).trans ((hE204_56174.1 3 rfl).trans up_same)) : (up H204_56174 0 5 x204_1_56174) 0 3 = 1); first | exact MS.wor2 (n := x204_5_56174) ⟨by omega, by omega⟩ (by omega) (by omega) (hcA.1 rfl) (by omega) (by omega) hrs (by omega) ((((up_k (by decide)).trans rfl)).trans hlx) (by rw [show (up H204_56174 0 5 x204_1_56174) 0 7 = _ from ((up_k (by decide)).trans rfl), show (up H204_56174 0 5 x204_1_56174) 0 6 = _ from ((up_k (by decide)).trans rfl)]; exact hwv) | exact MS.nu2 (n := x204_5_56174) ⟨by omega, by omega⟩ (by omega) (by omega) (hcA.2 rfl) (by omega) (by omega) hrs (by omega) ((((up_k (by decide)).trans rfl)).trans hlx) (by rw [show (up H204_56174 0 5 x204_1_56174) 0 7 = _ from ((up_k (by decide)).trans rfl), show (up H204_56174 0 5 x204_1_56174) 0 6 = _ from ((up_k (by decide)).trans rfl)]; exact hwv)))
                  · refine g_goto (tgt := 243) dX12_ahead_228 (by decide) ?_
                    refine g_forget (l1 := [(0, vR 0), (1, vI x204_1_56174), (2, vI rc51283), (3, vI rc51284), (4, vI 6), (5, vI x204_5_56174)]) (by intro q hq; simp only [List.mem_cons, List.not_mem_nil, or_false] at hq ⊢; rcases hq with rfl | rfl | rfl | rfl | rfl | rfl <;> simp) ?_
                    exact J243_56882 (by omega) (⟨fun e => by omega, fun e => by omega⟩)
              refine g_forget (l1 := [(0, vR 0), (1, vI x5_1_0), (2, vI rc51283), (3, vI rc51284), (4, vI 6), (5, vI 0)]) (by intro q hq; simp only [List.mem_cons, List.not_mem_nil, or_false] at hq ⊢; rcases hq with rfl | rfl | rfl | rfl | rfl | rfl <;> simp) ?_
              exact L204_56174 _ 0 (by decide) x5_1_0 ⟨by have q0 := b0_2 hB; omega, by have q0 := b0_2 hB; omega⟩ _ hB56173 FrM.rf (by omega) (by omega) (by omega) (by first | exact RN.start (by omega) | exact hrn.go (by decide) (by omega) hcc1) (by first | exact hwv9 | (rw [show (up (up (up (up (up H135_54124 0 6 0) 0 7 0) 0 3 3) 0 5 (x5_1_0 + 1)) 0 3 1) 0 7 = 0 from ((up_k (by decide)).trans ((up_k (by decide)).trans ((up_k (by decide)).trans up_same))), show (up (up (up (up (up H135_54124 0 6 0) 0 7 0) 0 3 3) 0 5 (x5_1_0 + 1)) 0 3 1) 0 6 = 0 from ((up_k (by decide)).trans ((up_k (by decide)).trans ((up_k (by decide)).trans ((up_k (by decide)).trans up_same))))]; exact WV.start)) (by first | (have q12 := (((up_k (by decide)).trans ((up_k (by decide)).trans ((up_k (by decide)).trans ((up_k (by decide)).trans ((up_k (by decide)).trans rfl))))) : (up (up (up (up (up H135_54124 0 6 0) 0 7 0) 0 3 3) 0 5 (x5_1_0 + 1)) 0 3 1) 0 12 = (H135_54124 0 12)); omega) | exact (((up_k (by decide)).trans ((up_k (by decide)).trans ((up_k (by decide)).trans ((up_k (by decide)).trans ((up_k (by decide)).trans rfl)))))).trans (hl0.2 (by omega) _ (by decide))) (Nat.lt_succ_self _)
          refine g_if_ne (tgt := 176) dX12_ahead_158 (by decide) ⟨by omega, by omega⟩ (fun k56948 => ?_) (fun k56948 => ?_)
          · refine g_forget (l1 := [(0, vR 0), (1, vI x5_1_0), (2, vI rc51283), (3, vI rc51284)]) (by intro q hq; simp only [List.mem_cons, List.not_mem_nil, or_false] at hq ⊢; rcases hq with rfl | rfl | rfl | rfl <;> simp) ?_
            exact J176_55539 (by omega)
          · refine g_iload_n dX12_ahead_161 rfl ?_
            refine g_if_ne (tgt := 176) dX12_ahead_162 (by decide) ⟨by omega, by omega⟩ (fun k56949 => ?_) (fun k56949 => ?_)
            · refine g_forget (l1 := [(0, vR 0), (1, vI x5_1_0), (2, vI rc51283), (3, vI rc51284)]) (by intro q hq; simp only [List.mem_cons, List.not_mem_nil, or_false] at hq ⊢; rcases hq with rfl | rfl | rfl | rfl <;> simp) ?_
              exact J176_55539 (by omega)
            · refine g_aload_n dX12_ahead_165 rfl ?_
              refine g_aload_n dX12_ahead_166 rfl ?_
              refine m_g0 rfl dX12_ahead_167 ?_
              refine g_iload_n dX12_ahead_170 rfl ?_
              refine m_l1 (z := (P 1 x5_1_0)) dX12_ahead_171 ⟨by omega, by omega⟩ ((up_o (by decide)).trans ((up_o (by decide)).trans ((up_o (by decide)).trans ((up_o (by decide)).trans ((congrFun (hE135_54124.2 1 rfl rfl) _).trans ((up_o (by decide)).trans ((up_o (by decide)).trans ((up_o (by decide)).trans ((up_o (by decide)).trans rfl))))))))) ?_
              refine m_p6 rfl dX12_ahead_172 ?_
              have hB56950 := bs_6 (z := (P 1 x5_1_0)) hB54129 ⟨by have q0 := bl_1 (k := x5_1_0) hB; omega, by have q0 := bl_1 (k := x5_1_0) hB; omega⟩
              exact g_retV dX12_ahead_175 rfl (hQ _ hB56950 (FrM.s (FrM.s (FrM.s (FrM.s (FrM.s (FrM.c (FrM.s (FrM.s (FrM.s (FrM.s FrM.rf rfl) rfl) rfl) rfl) hE135_54124 rfl) rfl) rfl) rfl) rfl) rfl) (by have q0 := (((up_k (by decide)).trans ((up_k (by decide)).trans up_same)) : (up (up (up (up (up H135_54124 0 6 0) 0 7 0) 0 3 3) 0 5 (x5_1_0 + 1)) 0 6 (P 1 x5_1_0)) 0 3 = 3); have q1 := (((up_k (by decide)).trans ((up_k (by decide)).trans ((up_k (by decide)).trans ((up_k (by decide)).trans ((up_k (by decide)).trans ((hE135_54124.1 4 rfl).trans ((up_k (by decide)).trans ((up_k (by decide)).trans ((up_k (by decide)).trans up_same))))))))) : (up (up (up (up (up H135_54124 0 6 0) 0 7 0) 0 3 3) 0 5 (x5_1_0 + 1)) 0 6 (P 1 x5_1_0)) 0 4 = x5_1_0); have q2 := (((up_k (by decide)).trans up_same) : (up (up (up (up (up H135_54124 0 6 0) 0 7 0) 0 3 3) 0 5 (x5_1_0 + 1)) 0 6 (P 1 x5_1_0)) 0 5 = (x5_1_0 + 1)); omega) (by have q0 := (((up_k (by decide)).trans up_same) : (up (up (up (up (up H135_54124 0 6 0) 0 7 0) 0 3 3) 0 5 (x5_1_0 + 1)) 0 6 (P 1 x5_1_0)) 0 5 = (x5_1_0 + 1)); have q1 := (((up_k (by decide)).trans ((up_k (by decide)).trans ((up_k (by decide)).trans ((up_k (by decide)).trans ((up_k (by decide)).trans ((hE135_54124.1 4 rfl).trans ((up_k (by decide)).trans ((up_k (by decide)).trans ((up_k (by decide)).trans up_same))))))))) : (up (up (up (up (up H135_54124 0 6 0) 0 7 0) 0 3 3) 0 5 (x5_1_0 + 1)) 0 6 (P 1 x5_1_0)) 0 4 = x5_1_0); omega) (MS.sig ⟨by omega, by omega⟩ (by have q := (((up_k (by decide)).trans ((up_k (by decide)).trans ((up_k (by decide)).trans ((up_k (by decide)).trans ((up_k (by decide)).trans ((hE135_54124.1 4 rfl).trans ((up_k (by decide)).trans ((up_k (by decide)).trans ((up_k (by decide)).trans up_same))))))))) : (up (up (up (up (up H135_54124 0 6 0) 0 7 0) 0 3 3) 0 5 (x5_1_0 + 1)) 0 6 (P 1 x5_1_0)) 0 4 = x5_1_0); omega) (by omega) (by omega) (by omega) ((up_k (by decide)).trans ((up_k (by decide)).trans up_same)) ((((up_k (by decide)).trans ((up_k (by decide)).trans ((up_k (by decide)).trans ((up_k (by decide)).trans ((up_k (by decide)).trans rfl)))))).trans (hl0.1 ⟨by omega, by omega⟩)) (by have q := (((up_k (by decide)).trans up_same) : (up (up (up (up (up H135_54124 0 6 0) 0 7 0) 0 3 3) 0 5 (x5_1_0 + 1)) 0 6 (P 1 x5_1_0)) 0 5 = (x5_1_0 + 1)); omega) (by have q := (up_same : (up (up (up (up (up H135_54124 0 6 0) 0 7 0) 0 3 3) 0 5 (x5_1_0 + 1)) 0 6 (P 1 x5_1_0)) 0 6 = (P 1 x5_1_0)); omega)))
        have J98_56950 : ∀ (i98_0_56950 : rc51283 ≠ 0 ∨ rc51284 ≠ 0), Go WSM G 2 iX12_ahead 98 [(0, vR 0), (1, vI x5_1_0), (2, vI rc51283), (3, vI rc51284)] [] (up (up (up (up P 0 4 x5_1_0) 0 5 x5_1_0) 0 3 0) 0 12 (-1)) Q := by
          intro i98_0_56950
          have hTm := z0.2 (x5_1_0 - 1)
          refine g_iload_n dX12_ahead_98 rfl ?_
          refine g_if_le (tgt := 135) dX12_ahead_99 (by decide) ⟨by omega, by omega⟩ (fun k56952 => ?_) (fun k56952 => ?_)
          · refine g_forget (l1 := [(0, vR 0), (1, vI x5_1_0), (2, vI rc51283), (3, vI rc51284)]) (by intro q hq; simp only [List.mem_cons, List.not_mem_nil, or_false] at hq ⊢; rcases hq with rfl | rfl | rfl | rfl <;> simp) ?_
            exact J135_54124 _ hB51280 FrM.rf (by first | exact L0.j (by omega) (tJ_t (T := T) (p := p) (by omega) ⟨by omega, by rw [show tA T p - 1 = x5_1_0 - 1 by omega]; omega⟩) ((up_same).trans (by omega)) | exact L0.n (by omega) (tJ_f (T := T) (p := p) (by first | (left; omega) | (right; rw [show tA T p - 1 = x5_1_0 - 1 by omega]; omega))) ((up_same).trans (by omega)) | exact L0.sign ⟨by omega, by omega⟩ ((up_same).trans (by omega)))
          · refine g_aload_n dX12_ahead_102 rfl ?_
            refine m_g0 rfl dX12_ahead_103 ?_
            refine g_iload_n dX12_ahead_106 rfl ?_
            refine g_iconst dX12_ahead_107 ?_
            refine g_isub dX12_ahead_108 ?_
            refine m_l1 (z := (P 1 (x5_1_0 - 1))) dX12_ahead_109 ⟨by omega, by omega⟩ ((up_o (by decide)).trans ((up_o (by decide)).trans ((up_o (by decide)).trans ((up_o (by decide)).trans rfl)))) ?_
            have f56953 := bl_1 (k := (x5_1_0 - 1)) hB
            refine g_sI (av := [vI (P 1 (x5_1_0 - 1))]) (st := []) (m_X12_isLetter G (up (up (up (up P 0 4 x5_1_0) 0 5 x5_1_0) 0 3 0) 0 12 (-1)) (P 1 (x5_1_0 - 1)) ⟨by have q0 := bl_1 (k := (x5_1_0 - 1)) hB; omega, by have q0 := bl_1 (k := (x5_1_0 - 1)) hB; omega⟩ hB51280  _ (fun rc56954 hc56954 gc56954_i => ⟨rc56954, rfl, ?_⟩)) cf_X12_isLetter t_1687 rfl (Nat.le_of_ble_eq_true rfl) (by decide) rfl dX12_ahead_110
            have J130_56958 : ∀ (i130_0_56958 : 0 < x5_1_0 ∧ ((97 ≤ T.1 (x5_1_0 - 1) ∧ T.1 (x5_1_0 - 1) ≤ 122) ∨ (48 ≤ T.1 (x5_1_0 - 1) ∧ T.1 (x5_1_0 - 1) ≤ 57))), Go WSM G 2 iX12_ahead 130 [(0, vR 0), (1, vI x5_1_0), (2, vI rc51283), (3, vI rc51284)] [] (up (up (up (up P 0 4 x5_1_0) 0 5 x5_1_0) 0 3 0) 0 12 (-1)) Q := by
              intro i130_0_56958
              refine g_aload_n dX12_ahead_130 rfl ?_
              refine g_iload_n dX12_ahead_131 rfl ?_
              refine m_p12 rfl dX12_ahead_132 ?_
              have hB56960 := bs_12 (z := x5_1_0) hB51280 ⟨by omega, by omega⟩
              refine g_forget (l1 := [(0, vR 0), (1, vI x5_1_0), (2, vI rc51283), (3, vI rc51284)]) (by intro q hq; simp only [List.mem_cons, List.not_mem_nil, or_false] at hq ⊢; rcases hq with rfl | rfl | rfl | rfl <;> simp) ?_
              exact J135_54124 _ hB56960 (FrM.s FrM.rf rfl) (by first | exact L0.j (by omega) (tJ_t (T := T) (p := p) (by omega) ⟨by omega, by rw [show tA T p - 1 = x5_1_0 - 1 by omega]; omega⟩) ((up_same).trans (by omega)) | exact L0.n (by omega) (tJ_f (T := T) (p := p) (by first | (left; omega) | (right; rw [show tA T p - 1 = x5_1_0 - 1 by omega]; omega))) ((up_same).trans (by omega)) | exact L0.sign ⟨by omega, by omega⟩ ((up_same).trans (by omega)))
            refine g_if_ne (tgt := 130) dX12_ahead_113 (by decide) ⟨by omega, by omega⟩ (fun k56961 => ?_) (fun k56961 => ?_)
            · refine g_forget (l1 := [(0, vR 0), (1, vI x5_1_0), (2, vI rc51283), (3, vI rc51284)]) (by intro q hq; simp only [List.mem_cons, List.not_mem_nil, or_false] at hq ⊢; rcases hq with rfl | rfl | rfl | rfl <;> simp) ?_
              exact J130_56958 (by omega)
            · refine g_aload_n dX12_ahead_116 rfl ?_
              refine m_g0 rfl dX12_ahead_117 ?_
              refine g_iload_n dX12_ahead_120 rfl ?_
              refine g_iconst dX12_ahead_121 ?_
              refine g_isub dX12_ahead_122 ?_
              refine m_l1 (z := (P 1 (x5_1_0 - 1))) dX12_ahead_123 ⟨by omega, by omega⟩ ((up_o (by decide)).trans ((up_o (by decide)).trans ((up_o (by decide)).trans ((up_o (by decide)).trans rfl)))) ?_
              refine g_sI (av := [vI (P 1 (x5_1_0 - 1))]) (st := []) (m_X12_isDigit G (up (up (up (up P 0 4 x5_1_0) 0 5 x5_1_0) 0 3 0) 0 12 (-1)) (P 1 (x5_1_0 - 1)) ⟨by have q0 := bl_1 (k := (x5_1_0 - 1)) hB; omega, by have q0 := bl_1 (k := (x5_1_0 - 1)) hB; omega⟩ hB51280  _ (fun rc56962 hc56962 gc56962_i => ⟨rc56962, rfl, ?_⟩)) cf_X12_isDigit t_1690 rfl (Nat.le_of_ble_eq_true rfl) (by decide) rfl dX12_ahead_124
              refine g_if_eq (tgt := 135) dX12_ahead_127 (by decide) ⟨by omega, by omega⟩ (fun k56963 => ?_) (fun k56963 => ?_)
              · refine g_forget (l1 := [(0, vR 0), (1, vI x5_1_0), (2, vI rc51283), (3, vI rc51284)]) (by intro q hq; simp only [List.mem_cons, List.not_mem_nil, or_false] at hq ⊢; rcases hq with rfl | rfl | rfl | rfl <;> simp) ?_
                exact J135_54124 _ hB51280 FrM.rf (by first | exact L0.j (by omega) (tJ_t (T := T) (p := p) (by omega) ⟨by omega, by rw [show tA T p - 1 = x5_1_0 - 1 by omega]; omega⟩) ((up_same).trans (by omega)) | exact L0.n (by omega) (tJ_f (T := T) (p := p) (by first | (left; omega) | (right; rw [show tA T p - 1 = x5_1_0 - 1 by omega]; omega))) ((up_same).trans (by omega)) | exact L0.sign ⟨by omega, by omega⟩ ((up_same).trans (by omega)))
              · refine g_forget (l1 := [(0, vR 0), (1, vI x5_1_0), (2, vI rc51283), (3, vI rc51284)]) (by intro q hq; simp only [List.mem_cons, List.not_mem_nil, or_false] at hq ⊢; rcases hq with rfl | rfl | rfl | rfl <;> simp) ?_
                exact J130_56958 (by omega)
        refine g_if_ne (tgt := 98) dX12_ahead_91 (by decide) ⟨by omega, by omega⟩ (fun k56964 => ?_) (fun k56964 => ?_)
        · refine g_forget (l1 := [(0, vR 0), (1, vI x5_1_0), (2, vI rc51283), (3, vI rc51284)]) (by intro q hq; simp only [List.mem_cons, List.not_mem_nil, or_false] at hq ⊢; rcases hq with rfl | rfl | rfl | rfl <;> simp) ?_
          exact J98_56950 (by omega)
        · refine g_iload_n dX12_ahead_94 rfl ?_
          refine g_if_eq (tgt := 135) dX12_ahead_95 (by decide) ⟨by omega, by omega⟩ (fun k56965 => ?_) (fun k56965 => ?_)
          · refine g_forget (l1 := [(0, vR 0), (1, vI x5_1_0), (2, vI rc51283), (3, vI rc51284)]) (by intro q hq; simp only [List.mem_cons, List.not_mem_nil, or_false] at hq ⊢; rcases hq with rfl | rfl | rfl | rfl <;> simp) ?_
            exact J135_54124 _ hB51280 FrM.rf (by first | exact L0.j (by omega) (tJ_t (T := T) (p := p) (by omega) ⟨by omega, by rw [show tA T p - 1 = x5_1_0 - 1 by omega]; omega⟩) ((up_same).trans (by omega)) | exact L0.n (by omega) (tJ_f (T := T) (p := p) (by first | (left; omega) | (right; rw [show tA T p - 1 = x5_1_0 - 1 by omega]; omega))) ((up_same).trans (by omega)) | exact L0.sign ⟨by omega, by omega⟩ ((up_same).trans (by omega)))
          · refine g_forget (l1 := [(0, vR 0), (1, vI x5_1_0), (2, vI rc51283), (3, vI rc51284)]) (by intro q hq; simp only [List.mem_cons, List.not_mem_nil, or_false] at hq ⊢; rcases hq with rfl | rfl | rfl | rfl <;> simp) ?_
            exact J98_56950 (by omega)
      · exact g_retV dX12_ahead_69 rfl (hQ _ hB51280 (FrM.s (FrM.s (FrM.s (FrM.s FrM.rf rfl) rfl) rfl) rfl) (by have q0 := (((up_k (by decide)).trans up_same) : (up (up (up (up P 0 4 x5_1_0) 0 5 x5_1_0) 0 3 0) 0 12 (-1)) 0 3 = 0); have q1 := (((up_k (by decide)).trans ((up_k (by decide)).trans ((up_k (by decide)).trans up_same))) : (up (up (up (up P 0 4 x5_1_0) 0 5 x5_1_0) 0 3 0) 0 12 (-1)) 0 4 = x5_1_0); have q2 := (((up_k (by decide)).trans ((up_k (by decide)).trans up_same)) : (up (up (up (up P 0 4 x5_1_0) 0 5 x5_1_0) 0 3 0) 0 12 (-1)) 0 5 = x5_1_0); omega) (by have q0 := (((up_k (by decide)).trans ((up_k (by decide)).trans up_same)) : (up (up (up (up P 0 4 x5_1_0) 0 5 x5_1_0) 0 3 0) 0 12 (-1)) 0 5 = x5_1_0); have q1 := (((up_k (by decide)).trans ((up_k (by decide)).trans ((up_k (by decide)).trans up_same))) : (up (up (up (up P 0 4 x5_1_0) 0 5 x5_1_0) 0 3 0) 0 12 (-1)) 0 4 = x5_1_0); omega) (MS.end ⟨by omega, by omega⟩ (by have q := (((up_k (by decide)).trans ((up_k (by decide)).trans ((up_k (by decide)).trans up_same))) : (up (up (up (up P 0 4 x5_1_0) 0 5 x5_1_0) 0 3 0) 0 12 (-1)) 0 4 = x5_1_0); omega) (by omega) ((up_k (by decide)).trans up_same) up_same (by have q := (((up_k (by decide)).trans ((up_k (by decide)).trans up_same)) : (up (up (up (up P 0 4 x5_1_0) 0 5 x5_1_0) 0 3 0) 0 12 (-1)) 0 5 = x5_1_0); omega)))
    refine g_icmp_ge (tgt := 41) dX12_ahead_10 (by decide) ⟨by omega, by omega⟩ ⟨by have q0 := b0_2 hB; omega, by have q0 := b0_2 hB; omega⟩ (fun k56966 => ?_) (fun k56966 => ?_)
    · refine g_forget (l1 := [(0, vR 0), (1, vI x5_1_0)]) (by intro q hq; simp only [List.mem_cons, List.not_mem_nil, or_false] at hq ⊢; rcases hq with rfl | rfl <;> simp) ?_
      exact J41_51275 (by omega) (i5_1_0.trans (rE_st (fun h => by have q := bW_t.mp h.2; omega)))
    · refine g_aload_n dX12_ahead_13 rfl ?_
      refine m_g0 rfl dX12_ahead_14 ?_
      refine g_iload_n dX12_ahead_17 rfl ?_
      refine m_l1 (z := (P 1 x5_1_0)) dX12_ahead_18 ⟨by omega, by omega⟩ rfl ?_
      refine g_bipush dX12_ahead_19 (by decide) ?_
      have f56967 := bl_1 (k := x5_1_0) hB
      have J35_56969 : ∀ (i35_0_56969 : x5_1_0 < T.2 ∧ (T.1 x5_1_0 = 32 ∨ T.1 x5_1_0 = 10)), Go WSM G 2 iX12_ahead 35 [(0, vR 0), (1, vI x5_1_0)] [] P Q := by
        intro i35_0_56969
        have hgo := rE_go (f := bW) (T := T) (p := x5_1_0) (by omega) (bW_t.mpr (by omega))
        refine g_iinc (l1 := [(1, vI (x5_1_0 + 1)), (0, vR 0)]) dX12_ahead_35 rfl (by decide) rfl ?_
        refine g_goto (tgt := 5) dX12_ahead_38 (by decide) ?_
        refine g_forget (l1 := [(0, vR 0), (1, vI (x5_1_0 + 1))]) (by intro q hq; simp only [List.mem_cons, List.not_mem_nil, or_false] at hq ⊢; rcases hq with rfl | rfl <;> simp) ?_
        exact ih5_0 (x5_1_0 + 1) ⟨by omega, by omega⟩ (by omega) (by first | omega | rfl | (rw [p_pp.1])) (by omega)
      refine g_icmp_eq (tgt := 35) dX12_ahead_21 (by decide) ⟨by have q0 := bl_1 (k := x5_1_0) hB; omega, by have q0 := bl_1 (k := x5_1_0) hB; omega⟩ (by decide) (fun k56971 => ?_) (fun k56971 => ?_)
      · refine g_forget (l1 := [(0, vR 0), (1, vI x5_1_0)]) (by intro q hq; simp only [List.mem_cons, List.not_mem_nil, or_false] at hq ⊢; rcases hq with rfl | rfl <;> simp) ?_
        exact J35_56969 (by omega)
      · refine g_aload_n dX12_ahead_24 rfl ?_
        refine m_g0 rfl dX12_ahead_25 ?_
        refine g_iload_n dX12_ahead_28 rfl ?_
        refine m_l1 (z := (P 1 x5_1_0)) dX12_ahead_29 ⟨by omega, by omega⟩ rfl ?_
        refine g_bipush dX12_ahead_30 (by decide) ?_
        refine g_icmp_ne (tgt := 41) dX12_ahead_32 (by decide) ⟨by have q0 := bl_1 (k := x5_1_0) hB; omega, by have q0 := bl_1 (k := x5_1_0) hB; omega⟩ (by decide) (fun k56972 => ?_) (fun k56972 => ?_)
        · refine g_forget (l1 := [(0, vR 0), (1, vI x5_1_0)]) (by intro q hq; simp only [List.mem_cons, List.not_mem_nil, or_false] at hq ⊢; rcases hq with rfl | rfl <;> simp) ?_
          exact J41_51275 (by omega) (i5_1_0.trans (rE_st (fun h => by have q := bW_t.mp h.2; omega)))
        · refine g_forget (l1 := [(0, vR 0), (1, vI x5_1_0)]) (by intro q hq; simp only [List.mem_cons, List.not_mem_nil, or_false] at hq ⊢; rcases hq with rfl | rfl <;> simp) ?_
          exact J35_56969 (by omega)
  refine g_forget (l1 := [(0, vR 0), (1, vI (P 0 5))]) (by intro q hq; simp only [List.mem_cons, List.not_mem_nil, or_false] at hq ⊢; rcases hq with rfl | rfl <;> simp) ?_
  exact L5_0 _ (P 0 5) ⟨by have q0 := b0_5 hB; omega, by have q0 := b0_5 hB; omega⟩ (by have q0 := b0_5 hB; omega) (by first | omega | rfl | (rw [p_pp.1])) (Nat.lt_succ_self _)
