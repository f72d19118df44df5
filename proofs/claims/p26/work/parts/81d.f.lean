section
/-! What the class answers: X7_step. -/
set_option maxRecDepth 100000 in
set_option maxHeartbeats 4000000 in
theorem f_X7_step (G : GT) (P : PH) (T : TT) (q : Int) (hB : BdX P) (p_q : P 111 3 = q ∧ 0 ≤ q ∧ q ≤ T.2) (p_bw : ((P 111 4 = 1 ∨ P 111 4 = 2) ∧ jn T q = 1) ∨ (P 111 4 ≠ 1 ∧ P 111 4 ≠ 2 ∧ jn T q = 0)) (v_TX : TX P) (v_OWN : OWN P) (z0 : XT T P) (Q : Option PV → PH → Prop) (hQ : ∀ (P1 : PH) (_ : BdX P1) (_ : FrX ([(46, 3), (46, 4), (46, 5), (46, 6), (46, 7), (46, 8)], []) P P1) (_ : XS T q P1), Q none P1) : Ct WSX G 2 iX7_step [vR 111] P Q := by
  refine Ct.of (by decide) (l0 := [(0, vR 111)]) rfl (Nat.le_of_ble_eq_true rfl) ?_
  have hln := z0.1
  have hta := tA_ge T q
  have htl := tA_le (T := T) p_q.2.2
  have hta9 : tA T q = rE bW T q := rfl
  have hjs := tJ_s T q
  refine g_aload_n dX7_step_0 rfl ?_
  refine x_g46_4 (z := (P 111 4)) (⟨by decide, rfl⟩ : kx 111 46) ffX7_75 dX7_step_1 rfl ?_
  refine g_iconst dX7_step_4 ?_
  have f1 := bx_46_4 (o := 111) hB (⟨by decide, rfl⟩ : kx 111 46)
  have J16_5421 : ∀ (i16_0_5421 : P 111 4 = 1 ∨ P 111 4 = 2), Go WSX G 2 iX7_step 16 [(0, vR 111)] [] P Q := by
    intro i16_0_5421
    refine g_iconst dX7_step_16 ?_
    refine g_goto (tgt := 21) dX7_step_17 (by decide) ?_
    refine g_istore_n (l1 := [(1, vI 1), (0, vR 111)]) dX7_step_21 (by decide) rfl ?_
    refine g_aload_n dX7_step_22 rfl ?_
    refine x_g46_3 (z := (P 111 3)) (⟨by decide, rfl⟩ : kx 111 46) ffX7_72 dX7_step_23 rfl ?_
    refine g_istore_n (l1 := [(2, vI (P 111 3)), (1, vI 1), (0, vR 111)]) dX7_step_26 (by decide) rfl ?_
    have L27_5422 : ∀ (n27_5422 : Nat) (H27_5422 : PH) (hB27_5422 : BdX H27_5422) (hE27_5422 : FrX ([(46, 3)], []) P H27_5422) (i27_0_5422 : rE bW T q = rE bW T (H27_5422 111 3)) (i27_1_5422 : 0 ≤ H27_5422 111 3) (hm27_5422 : (1601 - H27_5422 111 3 : Int).toNat < n27_5422), Go WSX G 2 iX7_step 27 [(0, vR 111), (1, vI 1), (2, vI (P 111 3))] [] H27_5422 Q := by
      intro n27_5422
      induction n27_5422 with
      | zero => intro H27_5422 hB27_5422 hE27_5422 i27_0_5422 i27_1_5422 hm27_5422; exact absurd hm27_5422 (Nat.not_lt_zero _)
      | succ n27_5422 ih27_5422 =>
      intro H27_5422 hB27_5422 hE27_5422 i27_0_5422 i27_1_5422 hm27_5422
      have hT := z0.2 ((H27_5422 111 3))
      refine g_aload_n dX7_step_27 rfl ?_
      refine x_g46_3 (z := (H27_5422 111 3)) (⟨by decide, rfl⟩ : kx 111 46) ffX7_72 dX7_step_28 rfl ?_
      have f7936 := bx_46_3 (o := 111) hB27_5422 (⟨by decide, rfl⟩ : kx 111 46)
      have J86_8257 : ∀ (i86_0_8257 : H27_5422 111 3 = tA T q), Go WSX G 2 iX7_step 86 [(0, vR 111), (1, vI 1), (2, vI (P 111 3))] [] H27_5422 Q := by
        intro i86_0_8257
        refine g_aload_n dX7_step_86 rfl ?_
        refine g_aload_n dX7_step_87 rfl ?_
        refine x_g46_3 (z := (H27_5422 111 3)) (⟨by decide, rfl⟩ : kx 111 46) ffX7_72 dX7_step_88 rfl ?_
        refine x_p46_5 (⟨by decide, rfl⟩ : kx 111 46) pfX7_81 dX7_step_91 ?_
        have hB8259 := by_46_5 (z := (H27_5422 111 3)) hB27_5422 (⟨by decide, rfl⟩ : kx 111 46) ⟨by have q0 := bx_46_3 (o := 111) hB27_5422 (⟨by decide, rfl⟩ : kx 111 46); (clear p_bw hjs i16_0_5421; omega), by have q0 := bx_46_3 (o := 111) hB27_5422 (⟨by decide, rfl⟩ : kx 111 46); (clear p_bw hjs i16_0_5421; omega)⟩
        refine g_aload_n dX7_step_94 rfl ?_
        refine g_aload_n dX7_step_95 rfl ?_
        refine x_g46_3 (z := (H27_5422 111 3)) (⟨by decide, rfl⟩ : kx 111 46) ffX7_72 dX7_step_96 ((up_k (by decide)).trans rfl) ?_
        refine x_p46_6 (⟨by decide, rfl⟩ : kx 111 46) pfX7_84 dX7_step_99 ?_
        have hB8260 := by_46_6 (z := (H27_5422 111 3)) hB8259 (⟨by decide, rfl⟩ : kx 111 46) ⟨by have q0 := bx_46_3 (o := 111) hB27_5422 (⟨by decide, rfl⟩ : kx 111 46); (clear p_bw hjs i16_0_5421; omega), by have q0 := bx_46_3 (o := 111) hB27_5422 (⟨by decide, rfl⟩ : kx 111 46); (clear p_bw hjs i16_0_5421; omega)⟩
        refine g_aload_n dX7_step_102 rfl ?_
        refine g_iconst dX7_step_103 ?_
        refine x_p46_8 (⟨by decide, rfl⟩ : kx 111 46) pfX7_87 dX7_step_104 ?_
        have hB8261 := by_46_8 (z := (-1)) hB8260 (⟨by decide, rfl⟩ : kx 111 46) (by decide)
        refine g_aload_n dX7_step_107 rfl ?_
        refine g_iconst dX7_step_108 ?_
        refine x_p46_7 (⟨by decide, rfl⟩ : kx 111 46) pfX7_90 dX7_step_109 ?_
        have hB8262 := by_46_7 (z := 0) hB8261 (⟨by decide, rfl⟩ : kx 111 46) (by decide)
        refine g_aload_n dX7_step_112 rfl ?_
        refine x_g46_3 (z := (H27_5422 111 3)) (⟨by decide, rfl⟩ : kx 111 46) ffX7_72 dX7_step_113 ((up_k (by decide)).trans ((up_k (by decide)).trans ((up_k (by decide)).trans ((up_k (by decide)).trans rfl)))) ?_
        refine g_if_lt (tgt := 130) dX7_step_116 (by decide) ⟨by have q0 := bx_46_3 (o := 111) hB27_5422 (⟨by decide, rfl⟩ : kx 111 46); (clear p_bw hjs i16_0_5421; omega), by have q0 := bx_46_3 (o := 111) hB27_5422 (⟨by decide, rfl⟩ : kx 111 46); (clear p_bw hjs i16_0_5421; omega)⟩ (fun k8263 => by exfalso; have q0 := bx_46_3 (o := 111) hB27_5422 (⟨by decide, rfl⟩ : kx 111 46); (clear p_bw hjs i16_0_5421; omega)) (fun k8263 => ?_)
        skip
        skip
        skip
        refine g_aload_n dX7_step_119 rfl ?_
        refine x_g46_3 (z := (H27_5422 111 3)) (⟨by decide, rfl⟩ : kx 111 46) ffX7_72 dX7_step_120 ((up_k (by decide)).trans ((up_k (by decide)).trans ((up_k (by decide)).trans ((up_k (by decide)).trans rfl)))) ?_
        refine g_aload_n dX7_step_123 rfl ?_
        refine x_g46_2 (z := (P 111 2)) (⟨by decide, rfl⟩ : kx 111 46) ffX7_71 dX7_step_124 ((up_k (by decide)).trans ((up_k (by decide)).trans ((up_k (by decide)).trans ((up_k (by decide)).trans ((FrX.g hE27_5422 (⟨by decide, rfl⟩ : kx 111 46) rfl).trans rfl))))) ?_
        have f8264 := bx_46_2 (o := 111) hB (⟨by decide, rfl⟩ : kx 111 46)
        refine g_icmp_lt (tgt := 136) dX7_step_127 (by decide) ⟨by have q0 := bx_46_3 (o := 111) hB27_5422 (⟨by decide, rfl⟩ : kx 111 46); (clear p_bw hjs i16_0_5421; omega), by have q0 := bx_46_3 (o := 111) hB27_5422 (⟨by decide, rfl⟩ : kx 111 46); (clear p_bw hjs i16_0_5421; omega)⟩ ⟨by have q0 := bx_46_2 (o := 111) hB (⟨by decide, rfl⟩ : kx 111 46); (clear p_bw hjs i16_0_5421; omega), by have q0 := bx_46_2 (o := 111) hB (⟨by decide, rfl⟩ : kx 111 46); (clear p_bw hjs i16_0_5421; omega)⟩ (fun k8265 => ?_) (fun k8265 => ?_)
        · skip
          skip
          skip
          have hTq : P 2 ((H27_5422 111 3)) = T.1 (tA T q) := by rw [show ((H27_5422 111 3) : Int) = tA T q by (clear p_bw hjs i16_0_5421; omega)]; exact z0.2 _ (by (clear p_bw hjs i16_0_5421; omega)) (by (clear p_bw hjs i16_0_5421; omega))
          refine g_aload_n dX7_step_136 rfl ?_
          refine x_g46_1 (n := 2) (⟨by decide, rfl⟩ : kx 111 46) ffX7_41 dX7_step_137 (TX.fr (F := ([(46, 3), (46, 5), (46, 6), (46, 7), (46, 8)], [])) v_TX (FrX.s (FrX.s (FrX.s (FrX.s (FrX.c FrX.rf hE27_5422 rfl) (⟨by decide, rfl⟩ : kx 111 46) rfl) (⟨by decide, rfl⟩ : kx 111 46) rfl) (⟨by decide, rfl⟩ : kx 111 46) rfl) (⟨by decide, rfl⟩ : kx 111 46) rfl) rfl) ?_
          refine g_aload_n dX7_step_140 rfl ?_
          refine x_g46_3 (z := (H27_5422 111 3)) (⟨by decide, rfl⟩ : kx 111 46) ffX7_72 dX7_step_141 ((up_k (by decide)).trans ((up_k (by decide)).trans ((up_k (by decide)).trans ((up_k (by decide)).trans rfl)))) ?_
          refine x_l2 (z := (P 2 (H27_5422 111 3))) (⟨by decide, rfl⟩ : kx 2 2) dX7_step_144 ⟨by have q0 := bx_46_3 (o := 111) hB27_5422 (⟨by decide, rfl⟩ : kx 111 46); (clear p_bw hjs i16_0_5421; omega), by have q0 := bx_46_3 (o := 111) hB27_5422 (⟨by decide, rfl⟩ : kx 111 46); (clear p_bw hjs i16_0_5421; omega)⟩ ((up_o (kx.ne (⟨by decide, rfl⟩ : kx 2 2) (⟨by decide, rfl⟩ : kx 111 46) rfl)).trans ((up_o (kx.ne (⟨by decide, rfl⟩ : kx 2 2) (⟨by decide, rfl⟩ : kx 111 46) rfl)).trans ((up_o (kx.ne (⟨by decide, rfl⟩ : kx 2 2) (⟨by decide, rfl⟩ : kx 111 46) rfl)).trans ((up_o (kx.ne (⟨by decide, rfl⟩ : kx 2 2) (⟨by decide, rfl⟩ : kx 111 46) rfl)).trans ((FrX.g hE27_5422 (⟨by decide, rfl⟩ : kx 2 2) rfl).trans rfl))))) ?_
          refine g_istore_n (l1 := [(3, vI (P 2 (H27_5422 111 3))), (0, vR 111), (1, vI 1), (2, vI (P 111 3))]) dX7_step_145 (by decide) rfl ?_
          have hc3 : (P 2 (H27_5422 111 3)) = T.1 (tA T q) := by (clear p_bw hjs i16_0_5421; omega)
          refine g_iload_n dX7_step_146 rfl ?_
          refine g_bipush dX7_step_147 (by decide) ?_
          have f8266 := bx_2 (o := 2) (k := (H27_5422 111 3)) hB (⟨by decide, rfl⟩ : kx 2 2)
          have J162_8416 : ∀ (i162_0_8416 : (P 2 (H27_5422 111 3)) < 97 ∨ 122 < (P 2 (H27_5422 111 3))), Go WSX G 2 iX7_step 162 [(0, vR 111), (1, vI 1), (2, vI (P 111 3)), (3, vI (P 2 (H27_5422 111 3)))] [] (up (up (up (up H27_5422 111 5 (H27_5422 111 3)) 111 6 (H27_5422 111 3)) 111 8 (-1)) 111 7 0) Q := by
            intro i162_0_8416
            refine g_iconst dX7_step_162 ?_
            refine g_istore (l1 := [(4, vI 0), (0, vR 111), (1, vI 1), (2, vI (P 111 3)), (3, vI (P 2 (H27_5422 111 3)))]) dX7_step_163 (by decide) rfl ?_
            refine g_iload_n dX7_step_165 rfl ?_
            refine g_bipush dX7_step_166 (by decide) ?_
            have J181_8459 : ∀ (i181_0_8459 : (P 2 (H27_5422 111 3)) < 48 ∨ 57 < (P 2 (H27_5422 111 3))), Go WSX G 2 iX7_step 181 [(0, vR 111), (1, vI 1), (2, vI (P 111 3)), (3, vI (P 2 (H27_5422 111 3))), (4, vI 0)] [] (up (up (up (up H27_5422 111 5 (H27_5422 111 3)) 111 6 (H27_5422 111 3)) 111 8 (-1)) 111 7 0) Q := by
              intro i181_0_8459
              refine g_iconst dX7_step_181 ?_
              refine g_istore (l1 := [(5, vI 0), (0, vR 111), (1, vI 1), (2, vI (P 111 3)), (3, vI (P 2 (H27_5422 111 3))), (4, vI 0)]) dX7_step_182 (by decide) rfl ?_
              refine g_iload dX7_step_184 rfl ?_
              refine g_if_ne (tgt := 217) dX7_step_186 (by decide) (by decide) (fun k8465 => by exfalso; (clear p_bw hjs i16_0_5421 i162_0_8416 i181_0_8459; omega)) (fun k8465 => ?_)
              skip
              skip
              skip
              skip
              skip
              refine g_iload dX7_step_189 rfl ?_
              refine g_if_ne (tgt := 217) dX7_step_191 (by decide) (by decide) (fun k8466 => by exfalso; (clear p_bw hjs i16_0_5421 i162_0_8416 i181_0_8459; omega)) (fun k8466 => ?_)
              skip
              skip
              skip
              skip
              skip
              refine g_aload_n dX7_step_194 rfl ?_
              refine g_iconst dX7_step_195 ?_
              refine x_p46_4 (⟨by decide, rfl⟩ : kx 111 46) pfX7_75 dX7_step_196 ?_
              have hB8467 := by_46_4 (z := 3) hB8262 (⟨by decide, rfl⟩ : kx 111 46) (by decide)
              refine g_aload_n dX7_step_199 rfl ?_
              refine g_iload_n dX7_step_200 rfl ?_
              refine x_p46_7 (⟨by decide, rfl⟩ : kx 111 46) pfX7_90 dX7_step_201 ?_
              have hB8468 := by_46_7 (z := (P 2 (H27_5422 111 3))) hB8467 (⟨by decide, rfl⟩ : kx 111 46) ⟨by have q0 := bx_2 (o := 2) (k := (H27_5422 111 3)) hB (⟨by decide, rfl⟩ : kx 2 2); (clear p_bw hjs i16_0_5421 i162_0_8416 i181_0_8459; omega), by have q0 := bx_2 (o := 2) (k := (H27_5422 111 3)) hB (⟨by decide, rfl⟩ : kx 2 2); (clear p_bw hjs i16_0_5421 i162_0_8416 i181_0_8459; omega)⟩
              refine g_aload_n dX7_step_204 rfl ?_
              refine g_dup dX7_step_205 rfl ?_
              refine x_g46_3 (z := (H27_5422 111 3)) (⟨by decide, rfl⟩ : kx 111 46) ffX7_72 dX7_step_206 ((up_k (by decide)).trans ((up_k (by decide)).trans ((up_k (by decide)).trans ((up_k (by decide)).trans ((up_k (by decide)).trans ((up_k (by decide)).trans rfl)))))) ?_
              refine g_iconst dX7_step_209 ?_
              refine g_iadd dX7_step_210 ?_
              refine x_p46_3 (⟨by decide, rfl⟩ : kx 111 46) pfX7_72 dX7_step_211 ?_
              have hB8469 := by_46_3 (z := ((H27_5422 111 3) + 1)) hB8468 (⟨by decide, rfl⟩ : kx 111 46) ⟨by have q0 := bx_46_3 (o := 111) hB27_5422 (⟨by decide, rfl⟩ : kx 111 46); (clear p_bw hjs i16_0_5421 i162_0_8416 i181_0_8459; omega), by have q0 := bx_46_3 (o := 111) hB27_5422 (⟨by decide, rfl⟩ : kx 111 46); (clear p_bw hjs i16_0_5421 i162_0_8416 i181_0_8459; omega)⟩
              refine g_goto (tgt := 253) dX7_step_214 (by decide) ?_
              exact g_retV dX7_step_253 rfl (hQ _ hB8469 (FrX.s (FrX.s (FrX.s (FrX.s (FrX.s (FrX.s (FrX.s (FrX.c FrX.rf hE27_5422 rfl) (⟨by decide, rfl⟩ : kx 111 46) rfl) (⟨by decide, rfl⟩ : kx 111 46) rfl) (⟨by decide, rfl⟩ : kx 111 46) rfl) (⟨by decide, rfl⟩ : kx 111 46) rfl) (⟨by decide, rfl⟩ : kx 111 46) rfl) (⟨by decide, rfl⟩ : kx 111 46) rfl) (⟨by decide, rfl⟩ : kx 111 46) rfl) (by first | exact hNONE | (have q3 := (up_same : (up (up (up (up (up (up (up H27_5422 111 5 (H27_5422 111 3)) 111 6 (H27_5422 111 3)) 111 8 (-1)) 111 7 0) 111 4 3) 111 7 (P 2 (H27_5422 111 3))) 111 3 ((H27_5422 111 3) + 1)) 111 3 = ((H27_5422 111 3) + 1)); have q4 := (((up_k (by decide)).trans ((up_k (by decide)).trans up_same)) : (up (up (up (up (up (up (up H27_5422 111 5 (H27_5422 111 3)) 111 6 (H27_5422 111 3)) 111 8 (-1)) 111 7 0) 111 4 3) 111 7 (P 2 (H27_5422 111 3))) 111 3 ((H27_5422 111 3) + 1)) 111 4 = 3); have q5 := (((up_k (by decide)).trans ((up_k (by decide)).trans ((up_k (by decide)).trans ((up_k (by decide)).trans ((up_k (by decide)).trans ((up_k (by decide)).trans up_same)))))) : (up (up (up (up (up (up (up H27_5422 111 5 (H27_5422 111 3)) 111 6 (H27_5422 111 3)) 111 8 (-1)) 111 7 0) 111 4 3) 111 7 (P 2 (H27_5422 111 3))) 111 3 ((H27_5422 111 3) + 1)) 111 5 = (H27_5422 111 3)); have q6 := (((up_k (by decide)).trans ((up_k (by decide)).trans ((up_k (by decide)).trans ((up_k (by decide)).trans ((up_k (by decide)).trans up_same))))) : (up (up (up (up (up (up (up H27_5422 111 5 (H27_5422 111 3)) 111 6 (H27_5422 111 3)) 111 8 (-1)) 111 7 0) 111 4 3) 111 7 (P 2 (H27_5422 111 3))) 111 3 ((H27_5422 111 3) + 1)) 111 6 = (H27_5422 111 3)); have q7 := (((up_k (by decide)).trans up_same) : (up (up (up (up (up (up (up H27_5422 111 5 (H27_5422 111 3)) 111 6 (H27_5422 111 3)) 111 8 (-1)) 111 7 0) 111 4 3) 111 7 (P 2 (H27_5422 111 3))) 111 3 ((H27_5422 111 3) + 1)) 111 7 = (P 2 (H27_5422 111 3))); have q8 := (((up_k (by decide)).trans ((up_k (by decide)).trans ((up_k (by decide)).trans ((up_k (by decide)).trans up_same)))) : (up (up (up (up (up (up (up H27_5422 111 5 (H27_5422 111 3)) 111 6 (H27_5422 111 3)) 111 8 (-1)) 111 7 0) 111 4 3) 111 7 (P 2 (H27_5422 111 3))) 111 3 ((H27_5422 111 3) + 1)) 111 8 = (-1)); first | exact XS.sig ⟨by (clear p_bw hjs i16_0_5421 i162_0_8416 i181_0_8459; omega), by (clear p_bw hjs i16_0_5421 i162_0_8416 i181_0_8459; omega)⟩ (by (clear p_bw hjs i16_0_5421 i162_0_8416 i181_0_8459; omega)) (by (clear p_bw hjs i16_0_5421 i162_0_8416 i181_0_8459; omega)) (by (clear p_bw hjs i16_0_5421 i162_0_8416 i181_0_8459; omega)) (by (clear p_bw hjs i16_0_5421 i162_0_8416 i181_0_8459; omega)) (by (clear p_bw hjs i16_0_5421 i162_0_8416 i181_0_8459; omega)) (by (clear p_bw hjs i16_0_5421 i162_0_8416 i181_0_8459; omega)) (by (clear p_bw hjs i16_0_5421 i181_0_8459; omega)) (by (clear p_bw hjs i16_0_5421 i162_0_8416; omega)) | exact XS.badj ⟨by (first | (clear p_bw hjs i16_0_5421 i162_0_8416 i181_0_8459; omega) | (clear p_bw hjs i16_0_5421 i162_0_8416; omega) | (clear p_bw hjs i16_0_5421 i181_0_8459; omega) | (clear p_bw hjs i162_0_8416 i181_0_8459; omega) | (clear p_bw i16_0_5421 i162_0_8416 i181_0_8459; omega) | (clear hjs i16_0_5421 i162_0_8416 i181_0_8459; omega) | (clear p_bw hjs i16_0_5421; omega) | (clear p_bw; omega) | omega), by (first | (clear p_bw hjs i16_0_5421 i162_0_8416 i181_0_8459; omega) | (clear p_bw hjs i16_0_5421 i162_0_8416; omega) | (clear p_bw hjs i16_0_5421 i181_0_8459; omega) | (clear p_bw hjs i162_0_8416 i181_0_8459; omega) | (clear p_bw i16_0_5421 i162_0_8416 i181_0_8459; omega) | (clear hjs i16_0_5421 i162_0_8416 i181_0_8459; omega) | (clear p_bw hjs i16_0_5421; omega) | (clear p_bw; omega) | omega)⟩ (by (first | (clear p_bw hjs i16_0_5421 i162_0_8416 i181_0_8459; omega) | (clear p_bw hjs i16_0_5421 i162_0_8416; omega) | (clear p_bw hjs i16_0_5421 i181_0_8459; omega) | (clear p_bw hjs i162_0_8416 i181_0_8459; omega) | (clear p_bw i16_0_5421 i162_0_8416 i181_0_8459; omega) | (clear hjs i16_0_5421 i162_0_8416 i181_0_8459; omega) | (clear p_bw hjs i16_0_5421; omega) | (clear p_bw; omega) | omega)) (by (first | (clear p_bw hjs i16_0_5421 i162_0_8416 i181_0_8459; omega) | (clear p_bw hjs i16_0_5421 i162_0_8416; omega) | (clear p_bw hjs i16_0_5421 i181_0_8459; omega) | (clear p_bw hjs i162_0_8416 i181_0_8459; omega) | (clear p_bw i16_0_5421 i162_0_8416 i181_0_8459; omega) | (clear hjs i16_0_5421 i162_0_8416 i181_0_8459; omega) | (clear p_bw hjs i16_0_5421; omega) | (clear p_bw; omega) | omega)) (by (first | (clear p_bw hjs i16_0_5421 i162_0_8416 i181_0_8459; omega) | (clear p_bw hjs i16_0_5421 i162_0_8416; omega) | (clear p_bw hjs i16_0_5421 i181_0_8459; omega) | (clear p_bw hjs i162_0_8416 i181_0_8459; omega) | (clear p_bw i16_0_5421 i162_0_8416 i181_0_8459; omega) | (clear hjs i16_0_5421 i162_0_8416 i181_0_8459; omega) | (clear p_bw hjs i16_0_5421; omega) | (clear p_bw; omega) | omega)) (by (first | (clear p_bw hjs i16_0_5421 i162_0_8416 i181_0_8459; omega) | (clear p_bw hjs i16_0_5421 i162_0_8416; omega) | (clear p_bw hjs i16_0_5421 i181_0_8459; omega) | (clear p_bw hjs i162_0_8416 i181_0_8459; omega) | (clear p_bw i16_0_5421 i162_0_8416 i181_0_8459; omega) | (clear hjs i16_0_5421 i162_0_8416 i181_0_8459; omega) | (clear p_bw hjs i16_0_5421; omega) | (clear p_bw; omega) | omega)) (by (first | (clear p_bw hjs i16_0_5421 i162_0_8416 i181_0_8459; omega) | (clear p_bw hjs i16_0_5421 i162_0_8416; omega) | (clear p_bw hjs i16_0_5421 i181_0_8459; omega) | (clear p_bw hjs i162_0_8416 i181_0_8459; omega) | (clear p_bw i16_0_5421 i162_0_8416 i181_0_8459; omega) | (clear hjs i16_0_5421 i162_0_8416 i181_0_8459; omega) | (clear p_bw hjs i16_0_5421; omega) | (clear p_bw; omega) | omega)) (by (first | (clear p_bw hjs i16_0_5421 i162_0_8416 i181_0_8459; omega) | (clear p_bw hjs i16_0_5421 i162_0_8416; omega) | (clear p_bw hjs i16_0_5421 i181_0_8459; omega) | (clear p_bw hjs i162_0_8416 i181_0_8459; omega) | (clear p_bw i16_0_5421 i162_0_8416 i181_0_8459; omega) | (clear hjs i16_0_5421 i162_0_8416 i181_0_8459; omega) | (clear p_bw hjs i16_0_5421; omega) | (clear p_bw; omega) | omega)) (by (first | (clear p_bw hjs i16_0_5421 i162_0_8416 i181_0_8459; omega) | (clear p_bw hjs i16_0_5421 i162_0_8416; omega) | (clear p_bw hjs i16_0_5421 i181_0_8459; omega) | (clear p_bw hjs i162_0_8416 i181_0_8459; omega) | (clear p_bw i16_0_5421 i162_0_8416 i181_0_8459; omega) | (clear hjs i16_0_5421 i162_0_8416 i181_0_8459; omega) | (clear p_bw hjs i16_0_5421; omega) | (clear p_bw; omega) | omega)))))
            refine g_icmp_lt (tgt := 181) dX7_step_168 (by decide) ⟨by have q0 := bx_2 (o := 2) (k := (H27_5422 111 3)) hB (⟨by decide, rfl⟩ : kx 2 2); (clear p_bw hjs i16_0_5421 i162_0_8416; omega), by have q0 := bx_2 (o := 2) (k := (H27_5422 111 3)) hB (⟨by decide, rfl⟩ : kx 2 2); (clear p_bw hjs i16_0_5421 i162_0_8416; omega)⟩ (by decide) (fun k8470 => ?_) (fun k8470 => ?_)
            · have r_i162_0_8416 := (i162_0_8416.resolve_right (by (clear p_bw hjs i16_0_5421 i162_0_8416; omega)))
              skip
              skip
              skip
              refine g_forget (l1 := [(0, vR 111), (1, vI 1), (2, vI (P 111 3)), (3, vI (P 2 (H27_5422 111 3))), (4, vI 0)]) (by intro q hq; simp only [List.mem_cons, List.not_mem_nil, or_false] at hq ⊢; rcases hq with rfl | rfl | rfl | rfl | rfl <;> simp) ?_
              exact J181_8459 (by (clear p_bw hjs i16_0_5421 i162_0_8416; omega))
            · skip
              skip
              skip
              skip
              refine g_iload_n dX7_step_171 rfl ?_
              refine g_bipush dX7_step_172 (by decide) ?_
              refine g_icmp_gt (tgt := 181) dX7_step_174 (by decide) ⟨by have q0 := bx_2 (o := 2) (k := (H27_5422 111 3)) hB (⟨by decide, rfl⟩ : kx 2 2); (clear p_bw hjs i16_0_5421 i162_0_8416; omega), by have q0 := bx_2 (o := 2) (k := (H27_5422 111 3)) hB (⟨by decide, rfl⟩ : kx 2 2); (clear p_bw hjs i16_0_5421 i162_0_8416; omega)⟩ (by decide) (fun k8471 => ?_) (fun k8471 => ?_)
              · skip
                skip
                skip
                skip
                refine g_forget (l1 := [(0, vR 111), (1, vI 1), (2, vI (P 111 3)), (3, vI (P 2 (H27_5422 111 3))), (4, vI 0)]) (by intro q hq; simp only [List.mem_cons, List.not_mem_nil, or_false] at hq ⊢; rcases hq with rfl | rfl | rfl | rfl | rfl <;> simp) ?_
                exact J181_8459 (by (clear p_bw hjs i16_0_5421 i162_0_8416; omega))
              · have r_i162_0_8416 := (i162_0_8416.resolve_right (by (clear p_bw hjs i16_0_5421 i162_0_8416; omega)))
                skip
                skip
                skip
                refine g_iconst dX7_step_177 ?_
                refine g_goto (tgt := 182) dX7_step_178 (by decide) ?_
                refine g_istore (l1 := [(5, vI 1), (4, vI 0), (0, vR 111), (1, vI 1), (2, vI (P 111 3)), (3, vI (P 2 (H27_5422 111 3)))]) dX7_step_182 (by decide) rfl ?_
                refine g_iload dX7_step_184 rfl ?_
                have J217_8486 : ∀ (i217_0_8486 : (0 = 1 ∧ 97 ≤ T.1 (tA T q) ∧ T.1 (tA T q) ≤ 122) ∨ (0 = 0 ∧ 48 ≤ T.1 (tA T q) ∧ T.1 (tA T q) ≤ 57)), Go WSX G 2 iX7_step 217 [(0, vR 111), (1, vI 1), (2, vI (P 111 3)), (4, vI 0)] [] (up (up (up (up H27_5422 111 5 (H27_5422 111 3)) 111 6 (H27_5422 111 3)) 111 8 (-1)) 111 7 0) Q := by
                  intro i217_0_8486
                  refine g_iload_n dX7_step_217 rfl ?_
                  have J237_8493 : ∀ (i237_0_8493 : tJn T q = 0), Go WSX G 2 iX7_step 237 [(0, vR 111), (4, vI 0)] [] (up (up (up (up H27_5422 111 5 (H27_5422 111 3)) 111 6 (H27_5422 111 3)) 111 8 (-1)) 111 7 0) Q := by
                    intro i237_0_8493
                    refine g_iload dX7_step_237 rfl ?_
                    refine g_if_eq (tgt := 249) dX7_step_239 (by decide) (by decide) (fun k8495 => ?_) (fun k8495 => by exfalso; (clear p_bw hjs i16_0_5421 i162_0_8416 i217_0_8486; omega))
                    have r_i217_0_8486 := (i217_0_8486.resolve_left (by (clear p_bw hjs i16_0_5421 i162_0_8416 i217_0_8486; omega)))
                    skip
                    skip
                    have r_hjs := (hjs.resolve_left (by (clear p_bw hjs i16_0_5421 i162_0_8416 i217_0_8486; omega)))
                    skip
                    refine g_aload_n dX7_step_249 rfl ?_
                    refine g_vV (av := []) (o := 111) (st := []) (f_X7_stepNumber G (up (up (up (up H27_5422 111 5 (H27_5422 111 3)) 111 6 (H27_5422 111 3)) 111 8 (-1)) 111 7 0) T q  hB8262 (by have q0 := (((up_k (by decide)).trans ((up_k (by decide)).trans ((up_k (by decide)).trans ((up_k (by decide)).trans rfl)))) : (up (up (up (up H27_5422 111 5 (H27_5422 111 3)) 111 6 (H27_5422 111 3)) 111 8 (-1)) 111 7 0) 111 3 = (H27_5422 111 3)); have q1 := bx_46_3 (o := 111) hB27_5422 (⟨by decide, rfl⟩ : kx 111 46); have q2 := (((up_k (by decide)).trans ((up_k (by decide)).trans ((up_k (by decide)).trans up_same))) : (up (up (up (up H27_5422 111 5 (H27_5422 111 3)) 111 6 (H27_5422 111 3)) 111 8 (-1)) 111 7 0) 111 5 = (H27_5422 111 3)); have q3 := (up_same : (up (up (up (up H27_5422 111 5 (H27_5422 111 3)) 111 6 (H27_5422 111 3)) 111 8 (-1)) 111 7 0) 111 7 = 0); have q4 := (((up_k (by decide)).trans up_same) : (up (up (up (up H27_5422 111 5 (H27_5422 111 3)) 111 6 (H27_5422 111 3)) 111 8 (-1)) 111 7 0) 111 8 = (-1)); (clear p_bw hjs i16_0_5421 i162_0_8416 i217_0_8486; omega)) (by (clear p_bw hjs i16_0_5421 i162_0_8416 i217_0_8486; omega)) (TX.fr (F := ([(46, 3), (46, 5), (46, 6), (46, 7), (46, 8)], [])) v_TX (FrX.s (FrX.s (FrX.s (FrX.s (FrX.c FrX.rf hE27_5422 rfl) (⟨by decide, rfl⟩ : kx 111 46) rfl) (⟨by decide, rfl⟩ : kx 111 46) rfl) (⟨by decide, rfl⟩ : kx 111 46) rfl) (⟨by decide, rfl⟩ : kx 111 46) rfl) rfl) ((XT.fr (F := ([(46, 3), (46, 5), (46, 6), (46, 7), (46, 8)], [])) z0 (FrX.s (FrX.s (FrX.s (FrX.s (FrX.c FrX.rf hE27_5422 rfl) (⟨by decide, rfl⟩ : kx 111 46) rfl) (⟨by decide, rfl⟩ : kx 111 46) rfl) (⟨by decide, rfl⟩ : kx 111 46) rfl) (⟨by decide, rfl⟩ : kx 111 46) rfl) rfl)) _ (fun Pc8496 hBc8496 hFc8496 ec8496_0 => ⟨rfl, ?_⟩)) cf_X7_stepNumber t_715 rfl (show kx 111 46 from (⟨by decide, rfl⟩ : kx 111 46)).1 ((show kx 111 46 from (⟨by decide, rfl⟩ : kx 111 46)).sh rfl) rfl rfl (Nat.le_of_ble_eq_true rfl) (by decide) rfl dX7_step_250
                    exact g_retV dX7_step_253 rfl (hQ _ hBc8496 (FrX.c (FrX.s (FrX.s (FrX.s (FrX.s (FrX.c FrX.rf hE27_5422 rfl) (⟨by decide, rfl⟩ : kx 111 46) rfl) (⟨by decide, rfl⟩ : kx 111 46) rfl) (⟨by decide, rfl⟩ : kx 111 46) rfl) (⟨by decide, rfl⟩ : kx 111 46) rfl) hFc8496 rfl) (by first | exact ec8496_0 | (have q3 := (rfl : Pc8496 111 3 = (Pc8496 111 3)); have q4 := (rfl : Pc8496 111 4 = (Pc8496 111 4)); have q5 := (((FrX.g hFc8496 (⟨by decide, rfl⟩ : kx 111 46) rfl).trans ((up_k (by decide)).trans ((up_k (by decide)).trans ((up_k (by decide)).trans up_same)))) : Pc8496 111 5 = (H27_5422 111 3)); have q6 := (rfl : Pc8496 111 6 = (Pc8496 111 6)); have q7 := (rfl : Pc8496 111 7 = (Pc8496 111 7)); have q8 := (((FrX.g hFc8496 (⟨by decide, rfl⟩ : kx 111 46) rfl).trans ((up_k (by decide)).trans up_same)) : Pc8496 111 8 = (-1)); first | exact XS.sig ⟨by (first | (clear p_bw hjs i16_0_5421 i162_0_8416 i217_0_8486; omega) | (clear p_bw hjs i16_0_5421 i162_0_8416; omega) | (clear p_bw hjs i16_0_5421 i217_0_8486; omega) | (clear p_bw hjs i162_0_8416 i217_0_8486; omega) | (clear p_bw i16_0_5421 i162_0_8416 i217_0_8486; omega) | (clear hjs i16_0_5421 i162_0_8416 i217_0_8486; omega) | (clear p_bw hjs i16_0_5421; omega) | (clear p_bw; omega) | omega), by (first | (clear p_bw hjs i16_0_5421 i162_0_8416 i217_0_8486; omega) | (clear p_bw hjs i16_0_5421 i162_0_8416; omega) | (clear p_bw hjs i16_0_5421 i217_0_8486; omega) | (clear p_bw hjs i162_0_8416 i217_0_8486; omega) | (clear p_bw i16_0_5421 i162_0_8416 i217_0_8486; omega) | (clear hjs i16_0_5421 i162_0_8416 i217_0_8486; omega) | (clear p_bw hjs i16_0_5421; omega) | (clear p_bw; omega) | omega)⟩ (by (first | (clear p_bw hjs i16_0_5421 i162_0_8416 i217_0_8486; omega) | (clear p_bw hjs i16_0_5421 i162_0_8416; omega) | (clear p_bw hjs i16_0_5421 i217_0_8486; omega) | (clear p_bw hjs i162_0_8416 i217_0_8486; omega) | (clear p_bw i16_0_5421 i162_0_8416 i217_0_8486; omega) | (clear hjs i16_0_5421 i162_0_8416 i217_0_8486; omega) | (clear p_bw hjs i16_0_5421; omega) | (clear p_bw; omega) | omega)) (by (first | (clear p_bw hjs i16_0_5421 i162_0_8416 i217_0_8486; omega) | (clear p_bw hjs i16_0_5421 i162_0_8416; omega) | (clear p_bw hjs i16_0_5421 i217_0_8486; omega) | (clear p_bw hjs i162_0_8416 i217_0_8486; omega) | (clear p_bw i16_0_5421 i162_0_8416 i217_0_8486; omega) | (clear hjs i16_0_5421 i162_0_8416 i217_0_8486; omega) | (clear p_bw hjs i16_0_5421; omega) | (clear p_bw; omega) | omega)) (by (first | (clear p_bw hjs i16_0_5421 i162_0_8416 i217_0_8486; omega) | (clear p_bw hjs i16_0_5421 i162_0_8416; omega) | (clear p_bw hjs i16_0_5421 i217_0_8486; omega) | (clear p_bw hjs i162_0_8416 i217_0_8486; omega) | (clear p_bw i16_0_5421 i162_0_8416 i217_0_8486; omega) | (clear hjs i16_0_5421 i162_0_8416 i217_0_8486; omega) | (clear p_bw hjs i16_0_5421; omega) | (clear p_bw; omega) | omega)) (by (first | (clear p_bw hjs i16_0_5421 i162_0_8416 i217_0_8486; omega) | (clear p_bw hjs i16_0_5421 i162_0_8416; omega) | (clear p_bw hjs i16_0_5421 i217_0_8486; omega) | (clear p_bw hjs i162_0_8416 i217_0_8486; omega) | (clear p_bw i16_0_5421 i162_0_8416 i217_0_8486; omega) | (clear hjs i16_0_5421 i162_0_8416 i217_0_8486; omega) | (clear p_bw hjs i16_0_5421; omega) | (clear p_bw; omega) | omega)) (by (first | (clear p_bw hjs i16_0_5421 i162_0_8416 i217_0_8486; omega) | (clear p_bw hjs i16_0_5421 i162_0_8416; omega) | (clear p_bw hjs i16_0_5421 i217_0_8486; omega) | (clear p_bw hjs i162_0_8416 i217_0_8486; omega) | (clear p_bw i16_0_5421 i162_0_8416 i217_0_8486; omega) | (clear hjs i16_0_5421 i162_0_8416 i217_0_8486; omega) | (clear p_bw hjs i16_0_5421; omega) | (clear p_bw; omega) | omega)) (by (first | (clear p_bw hjs i16_0_5421 i162_0_8416 i217_0_8486; omega) | (clear p_bw hjs i16_0_5421 i162_0_8416; omega) | (clear p_bw hjs i16_0_5421 i217_0_8486; omega) | (clear p_bw hjs i162_0_8416 i217_0_8486; omega) | (clear p_bw i16_0_5421 i162_0_8416 i217_0_8486; omega) | (clear hjs i16_0_5421 i162_0_8416 i217_0_8486; omega) | (clear p_bw hjs i16_0_5421; omega) | (clear p_bw; omega) | omega)) (by (first | (clear p_bw hjs i16_0_5421 i162_0_8416 i217_0_8486; omega) | (clear p_bw hjs i16_0_5421 i162_0_8416; omega) | (clear p_bw hjs i16_0_5421 i217_0_8486; omega) | (clear p_bw hjs i162_0_8416 i217_0_8486; omega) | (clear p_bw i16_0_5421 i162_0_8416 i217_0_8486; omega) | (clear hjs i16_0_5421 i162_0_8416 i217_0_8486; omega) | (clear p_bw hjs i16_0_5421; omega) | (clear p_bw; omega) | omega)) (by (first | (clear p_bw hjs i16_0_5421 i162_0_8416 i217_0_8486; omega) | (clear p_bw hjs i16_0_5421 i162_0_8416; omega) | (clear p_bw hjs i16_0_5421 i217_0_8486; omega) | (clear p_bw hjs i162_0_8416 i217_0_8486; omega) | (clear p_bw i16_0_5421 i162_0_8416 i217_0_8486; omega) | (clear hjs i16_0_5421 i162_0_8416 i217_0_8486; omega) | (clear p_bw hjs i16_0_5421; omega) | (clear p_bw; omega) | omega)) | exact XS.badj ⟨by (first | (clear p_bw hjs i16_0_5421 i162_0_8416 i217_0_8486; omega) | (clear p_bw hjs i16_0_5421 i162_0_8416; omega) | (clear p_bw hjs i16_0_5421 i217_0_8486; omega) | (clear p_bw hjs i162_0_8416 i217_0_8486; omega) | (clear p_bw i16_0_5421 i162_0_8416 i217_0_8486; omega) | (clear hjs i16_0_5421 i162_0_8416 i217_0_8486; omega) | (clear p_bw hjs i16_0_5421; omega) | (clear p_bw; omega) | omega), by (first | (clear p_bw hjs i16_0_5421 i162_0_8416 i217_0_8486; omega) | (clear p_bw hjs i16_0_5421 i162_0_8416; omega) | (clear p_bw hjs i16_0_5421 i217_0_8486; omega) | (clear p_bw hjs i162_0_8416 i217_0_8486; omega) | (clear p_bw i16_0_5421 i162_0_8416 i217_0_8486; omega) | (clear hjs i16_0_5421 i162_0_8416 i217_0_8486; omega) | (clear p_bw hjs i16_0_5421; omega) | (clear p_bw; omega) | omega)⟩ (by (first | (clear p_bw hjs i16_0_5421 i162_0_8416 i217_0_8486; omega) | (clear p_bw hjs i16_0_5421 i162_0_8416; omega) | (clear p_bw hjs i16_0_5421 i217_0_8486; omega) | (clear p_bw hjs i162_0_8416 i217_0_8486; omega) | (clear p_bw i16_0_5421 i162_0_8416 i217_0_8486; omega) | (clear hjs i16_0_5421 i162_0_8416 i217_0_8486; omega) | (clear p_bw hjs i16_0_5421; omega) | (clear p_bw; omega) | omega)) (by (first | (clear p_bw hjs i16_0_5421 i162_0_8416 i217_0_8486; omega) | (clear p_bw hjs i16_0_5421 i162_0_8416; omega) | (clear p_bw hjs i16_0_5421 i217_0_8486; omega) | (clear p_bw hjs i162_0_8416 i217_0_8486; omega) | (clear p_bw i16_0_5421 i162_0_8416 i217_0_8486; omega) | (clear hjs i16_0_5421 i162_0_8416 i217_0_8486; omega) | (clear p_bw hjs i16_0_5421; omega) | (clear p_bw; omega) | omega)) (by (first | (clear p_bw hjs i16_0_5421 i162_0_8416 i217_0_8486; omega) | (clear p_bw hjs i16_0_5421 i162_0_8416; omega) | (clear p_bw hjs i16_0_5421 i217_0_8486; omega) | (clear p_bw hjs i162_0_8416 i217_0_8486; omega) | (clear p_bw i16_0_5421 i162_0_8416 i217_0_8486; omega) | (clear hjs i16_0_5421 i162_0_8416 i217_0_8486; omega) | (clear p_bw hjs i16_0_5421; omega) | (clear p_bw; omega) | omega)) (by (first | (clear p_bw hjs i16_0_5421 i162_0_8416 i217_0_8486; omega) | (clear p_bw hjs i16_0_5421 i162_0_8416; omega) | (clear p_bw hjs i16_0_5421 i217_0_8486; omega) | (clear p_bw hjs i162_0_8416 i217_0_8486; omega) | (clear p_bw i16_0_5421 i162_0_8416 i217_0_8486; omega) | (clear hjs i16_0_5421 i162_0_8416 i217_0_8486; omega) | (clear p_bw hjs i16_0_5421; omega) | (clear p_bw; omega) | omega)) (by (first | (clear p_bw hjs i16_0_5421 i162_0_8416 i217_0_8486; omega) | (clear p_bw hjs i16_0_5421 i162_0_8416; omega) | (clear p_bw hjs i16_0_5421 i217_0_8486; omega) | (clear p_bw hjs i162_0_8416 i217_0_8486; omega) | (clear p_bw i16_0_5421 i162_0_8416 i217_0_8486; omega) | (clear hjs i16_0_5421 i162_0_8416 i217_0_8486; omega) | (clear p_bw hjs i16_0_5421; omega) | (clear p_bw; omega) | omega)) (by (first | (clear p_bw hjs i16_0_5421 i162_0_8416 i217_0_8486; omega) | (clear p_bw hjs i16_0_5421 i162_0_8416; omega) | (clear p_bw hjs i16_0_5421 i217_0_8486; omega) | (clear p_bw hjs i162_0_8416 i217_0_8486; omega) | (clear p_bw i16_0_5421 i162_0_8416 i217_0_8486; omega) | (clear hjs i16_0_5421 i162_0_8416 i217_0_8486; omega) | (clear p_bw hjs i16_0_5421; omega) | (clear p_bw; omega) | omega)) (by (first | (clear p_bw hjs i16_0_5421 i162_0_8416 i217_0_8486; omega) | (clear p_bw hjs i16_0_5421 i162_0_8416; omega) | (clear p_bw hjs i16_0_5421 i217_0_8486; omega) | (clear p_bw hjs i162_0_8416 i217_0_8486; omega) | (clear p_bw i16_0_5421 i162_0_8416 i217_0_8486; omega) | (clear hjs i16_0_5421 i162_0_8416 i217_0_8486; omega) | (clear p_bw hjs i16_0_5421; omega) | (clear p_bw; omega) | omega)))))
                  refine g_if_eq (tgt := 237) dX7_step_218 (by decide) (by decide) (fun k8497 => by exfalso; (clear p_bw hjs i16_0_5421 i162_0_8416 i217_0_8486; omega)) (fun k8497 => ?_)
                  have r_i217_0_8486 := (i217_0_8486.resolve_left (by (clear p_bw hjs i16_0_5421 i162_0_8416 i217_0_8486 k8497; omega)))
                  skip
                  skip
                  skip
                  skip
                  refine g_iload_n dX7_step_221 rfl ?_
                  refine g_aload_n dX7_step_222 rfl ?_
                  refine x_g46_5 (z := (H27_5422 111 3)) (⟨by decide, rfl⟩ : kx 111 46) ffX7_81 dX7_step_223 ((up_k (by decide)).trans ((up_k (by decide)).trans ((up_k (by decide)).trans up_same))) ?_
                  have f8498 := bx_46_3 (o := 111) hB (⟨by decide, rfl⟩ : kx 111 46)
                  refine g_icmp_ne (tgt := 237) dX7_step_226 (by decide) ⟨by have q0 := bx_46_3 (o := 111) hB (⟨by decide, rfl⟩ : kx 111 46); (clear p_bw hjs i16_0_5421 i162_0_8416 i217_0_8486 k8497; omega), by have q0 := bx_46_3 (o := 111) hB (⟨by decide, rfl⟩ : kx 111 46); (clear p_bw hjs i16_0_5421 i162_0_8416 i217_0_8486 k8497; omega)⟩ ⟨by have q0 := bx_46_3 (o := 111) hB27_5422 (⟨by decide, rfl⟩ : kx 111 46); (clear p_bw hjs i16_0_5421 i162_0_8416 i217_0_8486 k8497; omega), by have q0 := bx_46_3 (o := 111) hB27_5422 (⟨by decide, rfl⟩ : kx 111 46); (clear p_bw hjs i16_0_5421 i162_0_8416 i217_0_8486 k8497; omega)⟩ (fun k8499 => ?_) (fun k8499 => ?_)
                  · skip
                    skip
                    skip
                    skip
                    skip
                    refine g_forget (l1 := [(0, vR 111), (4, vI 0)]) (by intro q hq; simp only [List.mem_cons, List.not_mem_nil, or_false] at hq ⊢; rcases hq with rfl | rfl <;> simp) ?_
                    exact J237_8493 (by (omega))
                  · skip
                    skip
                    skip
                    skip
                    skip
                    refine g_aload_n dX7_step_229 rfl ?_
                    refine g_iconst dX7_step_230 ?_
                    refine x_p46_4 (⟨by decide, rfl⟩ : kx 111 46) pfX7_75 dX7_step_231 ?_
                    have hB8500 := by_46_4 (z := 4) hB8262 (⟨by decide, rfl⟩ : kx 111 46) (by decide)
                    refine g_goto (tgt := 253) dX7_step_234 (by decide) ?_
                    exact g_retV dX7_step_253 rfl (hQ _ hB8500 (FrX.s (FrX.s (FrX.s (FrX.s (FrX.s (FrX.c FrX.rf hE27_5422 rfl) (⟨by decide, rfl⟩ : kx 111 46) rfl) (⟨by decide, rfl⟩ : kx 111 46) rfl) (⟨by decide, rfl⟩ : kx 111 46) rfl) (⟨by decide, rfl⟩ : kx 111 46) rfl) (⟨by decide, rfl⟩ : kx 111 46) rfl) (by first | exact hNONE | (have q3 := (((up_k (by decide)).trans ((up_k (by decide)).trans ((up_k (by decide)).trans ((up_k (by decide)).trans ((up_k (by decide)).trans rfl))))) : (up (up (up (up (up H27_5422 111 5 (H27_5422 111 3)) 111 6 (H27_5422 111 3)) 111 8 (-1)) 111 7 0) 111 4 4) 111 3 = (H27_5422 111 3)); have q4 := (up_same : (up (up (up (up (up H27_5422 111 5 (H27_5422 111 3)) 111 6 (H27_5422 111 3)) 111 8 (-1)) 111 7 0) 111 4 4) 111 4 = 4); have q5 := (((up_k (by decide)).trans ((up_k (by decide)).trans ((up_k (by decide)).trans ((up_k (by decide)).trans up_same)))) : (up (up (up (up (up H27_5422 111 5 (H27_5422 111 3)) 111 6 (H27_5422 111 3)) 111 8 (-1)) 111 7 0) 111 4 4) 111 5 = (H27_5422 111 3)); have q6 := (((up_k (by decide)).trans ((up_k (by decide)).trans ((up_k (by decide)).trans up_same))) : (up (up (up (up (up H27_5422 111 5 (H27_5422 111 3)) 111 6 (H27_5422 111 3)) 111 8 (-1)) 111 7 0) 111 4 4) 111 6 = (H27_5422 111 3)); have q7 := (((up_k (by decide)).trans up_same) : (up (up (up (up (up H27_5422 111 5 (H27_5422 111 3)) 111 6 (H27_5422 111 3)) 111 8 (-1)) 111 7 0) 111 4 4) 111 7 = 0); have q8 := (((up_k (by decide)).trans ((up_k (by decide)).trans up_same)) : (up (up (up (up (up H27_5422 111 5 (H27_5422 111 3)) 111 6 (H27_5422 111 3)) 111 8 (-1)) 111 7 0) 111 4 4) 111 8 = (-1)); first | exact XS.sig ⟨by (clear p_bw hjs i16_0_5421 i162_0_8416 i217_0_8486 k8497 k8499; omega), by (clear p_bw hjs i16_0_5421 i162_0_8416 i217_0_8486 k8497 k8499; omega)⟩ (by (first | (clear p_bw hjs i16_0_5421 i162_0_8416 i217_0_8486 k8497 k8499; omega) | (clear p_bw hjs i16_0_5421 i162_0_8416 i217_0_8486 k8497; omega) | (clear p_bw hjs i16_0_5421 i162_0_8416 i217_0_8486 k8499; omega) | (clear p_bw hjs i16_0_5421 i162_0_8416 k8497 k8499; omega) | (clear p_bw hjs i16_0_5421 i217_0_8486 k8497 k8499; omega) | (clear p_bw hjs i162_0_8416 i217_0_8486 k8497 k8499; omega) | (clear p_bw i16_0_5421 i162_0_8416 i217_0_8486 k8497 k8499; omega) | (clear hjs i16_0_5421 i162_0_8416 i217_0_8486 k8497 k8499; omega) | (clear p_bw hjs i16_0_5421 i162_0_8416 i217_0_8486; omega) | (clear i16_0_5421 hjs p_bw; omega) | omega)) (by (first | (clear p_bw hjs i16_0_5421 i162_0_8416 i217_0_8486 k8497 k8499; omega) | (clear p_bw hjs i16_0_5421 i162_0_8416 i217_0_8486 k8497; omega) | (clear p_bw hjs i16_0_5421 i162_0_8416 i217_0_8486 k8499; omega) | (clear p_bw hjs i16_0_5421 i162_0_8416 k8497 k8499; omega) | (clear p_bw hjs i16_0_5421 i217_0_8486 k8497 k8499; omega) | (clear p_bw hjs i162_0_8416 i217_0_8486 k8497 k8499; omega) | (clear p_bw i16_0_5421 i162_0_8416 i217_0_8486 k8497 k8499; omega) | (clear hjs i16_0_5421 i162_0_8416 i217_0_8486 k8497 k8499; omega) | (clear p_bw hjs i16_0_5421 i162_0_8416 i217_0_8486; omega) | (clear i16_0_5421 hjs p_bw; omega) | omega)) (by (first | (clear p_bw hjs i16_0_5421 i162_0_8416 i217_0_8486 k8497 k8499; omega) | (clear p_bw hjs i16_0_5421 i162_0_8416 i217_0_8486 k8497; omega) | (clear p_bw hjs i16_0_5421 i162_0_8416 i217_0_8486 k8499; omega) | (clear p_bw hjs i16_0_5421 i162_0_8416 k8497 k8499; omega) | (clear p_bw hjs i16_0_5421 i217_0_8486 k8497 k8499; omega) | (clear p_bw hjs i162_0_8416 i217_0_8486 k8497 k8499; omega) | (clear p_bw i16_0_5421 i162_0_8416 i217_0_8486 k8497 k8499; omega) | (clear hjs i16_0_5421 i162_0_8416 i217_0_8486 k8497 k8499; omega) | (clear p_bw hjs i16_0_5421 i162_0_8416 i217_0_8486; omega) | (clear i16_0_5421 hjs p_bw; omega) | omega)) (by (first | (clear p_bw hjs i16_0_5421 i162_0_8416 i217_0_8486 k8497 k8499; omega) | (clear p_bw hjs i16_0_5421 i162_0_8416 i217_0_8486 k8497; omega) | (clear p_bw hjs i16_0_5421 i162_0_8416 i217_0_8486 k8499; omega) | (clear p_bw hjs i16_0_5421 i162_0_8416 k8497 k8499; omega) | (clear p_bw hjs i16_0_5421 i217_0_8486 k8497 k8499; omega) | (clear p_bw hjs i162_0_8416 i217_0_8486 k8497 k8499; omega) | (clear p_bw i16_0_5421 i162_0_8416 i217_0_8486 k8497 k8499; omega) | (clear hjs i16_0_5421 i162_0_8416 i217_0_8486 k8497 k8499; omega) | (clear p_bw hjs i16_0_5421 i162_0_8416 i217_0_8486; omega) | (clear i16_0_5421 hjs p_bw; omega) | omega)) (by (first | (clear p_bw hjs i16_0_5421 i162_0_8416 i217_0_8486 k8497 k8499; omega) | (clear p_bw hjs i16_0_5421 i162_0_8416 i217_0_8486 k8497; omega) | (clear p_bw hjs i16_0_5421 i162_0_8416 i217_0_8486 k8499; omega) | (clear p_bw hjs i16_0_5421 i162_0_8416 k8497 k8499; omega) | (clear p_bw hjs i16_0_5421 i217_0_8486 k8497 k8499; omega) | (clear p_bw hjs i162_0_8416 i217_0_8486 k8497 k8499; omega) | (clear p_bw i16_0_5421 i162_0_8416 i217_0_8486 k8497 k8499; omega) | (clear hjs i16_0_5421 i162_0_8416 i217_0_8486 k8497 k8499; omega) | (clear p_bw hjs i16_0_5421 i162_0_8416 i217_0_8486; omega) | (clear i16_0_5421 hjs p_bw; omega) | omega)) (by (first | (clear p_bw hjs i16_0_5421 i162_0_8416 i217_0_8486 k8497 k8499; omega) | (clear p_bw hjs i16_0_5421 i162_0_8416 i217_0_8486 k8497; omega) | (clear p_bw hjs i16_0_5421 i162_0_8416 i217_0_8486 k8499; omega) | (clear p_bw hjs i16_0_5421 i162_0_8416 k8497 k8499; omega) | (clear p_bw hjs i16_0_5421 i217_0_8486 k8497 k8499; omega) | (clear p_bw hjs i162_0_8416 i217_0_8486 k8497 k8499; omega) | (clear p_bw i16_0_5421 i162_0_8416 i217_0_8486 k8497 k8499; omega) | (clear hjs i16_0_5421 i162_0_8416 i217_0_8486 k8497 k8499; omega) | (clear p_bw hjs i16_0_5421 i162_0_8416 i217_0_8486; omega) | (clear i16_0_5421 hjs p_bw; omega) | omega)) (by (first | (clear p_bw hjs i16_0_5421 i162_0_8416 i217_0_8486 k8497 k8499; omega) | (clear p_bw hjs i16_0_5421 i162_0_8416 i217_0_8486 k8497; omega) | (clear p_bw hjs i16_0_5421 i162_0_8416 i217_0_8486 k8499; omega) | (clear p_bw hjs i16_0_5421 i162_0_8416 k8497 k8499; omega) | (clear p_bw hjs i16_0_5421 i217_0_8486 k8497 k8499; omega) | (clear p_bw hjs i162_0_8416 i217_0_8486 k8497 k8499; omega) | (clear p_bw i16_0_5421 i162_0_8416 i217_0_8486 k8497 k8499; omega) | (clear hjs i16_0_5421 i162_0_8416 i217_0_8486 k8497 k8499; omega) | (clear p_bw hjs i16_0_5421 i162_0_8416 i217_0_8486; omega) | (clear i16_0_5421 hjs p_bw; omega) | omega)) (by (first | (clear p_bw hjs i16_0_5421 i162_0_8416 i217_0_8486 k8497 k8499; omega) | (clear p_bw hjs i16_0_5421 i162_0_8416 i217_0_8486 k8497; omega) | (clear p_bw hjs i16_0_5421 i162_0_8416 i217_0_8486 k8499; omega) | (clear p_bw hjs i16_0_5421 i162_0_8416 k8497 k8499; omega) | (clear p_bw hjs i16_0_5421 i217_0_8486 k8497 k8499; omega) | (clear p_bw hjs i162_0_8416 i217_0_8486 k8497 k8499; omega) | (clear p_bw i16_0_5421 i162_0_8416 i217_0_8486 k8497 k8499; omega) | (clear hjs i16_0_5421 i162_0_8416 i217_0_8486 k8497 k8499; omega) | (clear p_bw hjs i16_0_5421 i162_0_8416 i217_0_8486; omega) | (clear i16_0_5421 hjs p_bw; omega) | omega)) | exact XS.badj ⟨by (clear p_bw hjs i16_0_5421 i162_0_8416 i217_0_8486 k8497 k8499; omega), by (clear p_bw hjs i16_0_5421 i162_0_8416 i217_0_8486 k8497 k8499; omega)⟩ (by (clear p_bw hjs i16_0_5421 i162_0_8416 i217_0_8486 k8497 k8499; omega)) (by (clear p_bw hjs i16_0_5421 i162_0_8416 i217_0_8486 k8497 k8499; omega)) (by (clear p_bw hjs i16_0_5421 i162_0_8416 i217_0_8486 k8497 k8499; omega)) (by (clear p_bw hjs i16_0_5421 i162_0_8416 i217_0_8486 k8497 k8499; omega)) (by (clear p_bw hjs i16_0_5421 i162_0_8416 i217_0_8486 k8497 k8499; omega)) (by (clear p_bw hjs i16_0_5421 i162_0_8416 i217_0_8486 k8497 k8499; omega)) (by (omega)))))
                refine g_if_ne (tgt := 217) dX7_step_186 (by decide) (by decide) (fun k8501 => by exfalso; (clear p_bw hjs i16_0_5421 i162_0_8416; omega)) (fun k8501 => ?_)
                skip
                skip
                skip
                skip
                refine g_iload dX7_step_189 rfl ?_
                refine g_if_ne (tgt := 217) dX7_step_191 (by decide) (by decide) (fun k8502 => ?_) (fun k8502 => by exfalso; (clear p_bw hjs i16_0_5421 i162_0_8416; omega))
                skip
                skip
                skip
                skip
                refine g_forget (l1 := [(0, vR 111), (1, vI 1), (2, vI (P 111 3)), (4, vI 0)]) (by intro q hq; simp only [List.mem_cons, List.not_mem_nil, or_false] at hq ⊢; rcases hq with rfl | rfl | rfl | rfl <;> simp) ?_
                exact J217_8486 (by (clear p_bw hjs i16_0_5421 i162_0_8416 k8502; omega))
          refine g_icmp_lt (tgt := 162) dX7_step_149 (by decide) ⟨by have q0 := bx_2 (o := 2) (k := (H27_5422 111 3)) hB (⟨by decide, rfl⟩ : kx 2 2); (clear p_bw hjs i16_0_5421; omega), by have q0 := bx_2 (o := 2) (k := (H27_5422 111 3)) hB (⟨by decide, rfl⟩ : kx 2 2); (clear p_bw hjs i16_0_5421; omega)⟩ (by decide) (fun k8503 => ?_) (fun k8503 => ?_)
          · skip
            skip
            skip
            refine g_forget (l1 := [(0, vR 111), (1, vI 1), (2, vI (P 111 3)), (3, vI (P 2 (H27_5422 111 3)))]) (by intro q hq; simp only [List.mem_cons, List.not_mem_nil, or_false] at hq ⊢; rcases hq with rfl | rfl | rfl | rfl <;> simp) ?_
            exact J162_8416 (by (clear p_bw hjs i16_0_5421; omega))
          · skip
            skip
            skip
            refine g_iload_n dX7_step_152 rfl ?_
            refine g_bipush dX7_step_153 (by decide) ?_
            refine g_icmp_gt (tgt := 162) dX7_step_155 (by decide) ⟨by have q0 := bx_2 (o := 2) (k := (H27_5422 111 3)) hB (⟨by decide, rfl⟩ : kx 2 2); (clear p_bw hjs i16_0_5421; omega), by have q0 := bx_2 (o := 2) (k := (H27_5422 111 3)) hB (⟨by decide, rfl⟩ : kx 2 2); (clear p_bw hjs i16_0_5421; omega)⟩ (by decide) (fun k8504 => ?_) (fun k8504 => ?_)
            · skip
              skip
              skip
              refine g_forget (l1 := [(0, vR 111), (1, vI 1), (2, vI (P 111 3)), (3, vI (P 2 (H27_5422 111 3)))]) (by intro q hq; simp only [List.mem_cons, List.not_mem_nil, or_false] at hq ⊢; rcases hq with rfl | rfl | rfl | rfl <;> simp) ?_
              exact J162_8416 (by (clear p_bw hjs i16_0_5421; omega))
            · skip
              skip
              skip
              refine g_iconst dX7_step_158 ?_
              refine g_goto (tgt := 163) dX7_step_159 (by decide) ?_
              refine g_istore (l1 := [(4, vI 1), (3, vI (P 2 (H27_5422 111 3))), (0, vR 111), (1, vI 1), (2, vI (P 111 3))]) dX7_step_163 (by decide) rfl ?_
              refine g_iload_n dX7_step_165 rfl ?_
              refine g_bipush dX7_step_166 (by decide) ?_
              have J181_8535 : ∀ (i181_0_8535 : (P 2 (H27_5422 111 3)) < 48 ∨ 57 < (P 2 (H27_5422 111 3))), Go WSX G 2 iX7_step 181 [(0, vR 111), (1, vI 1), (2, vI (P 111 3)), (3, vI (P 2 (H27_5422 111 3))), (4, vI 1)] [] (up (up (up (up H27_5422 111 5 (H27_5422 111 3)) 111 6 (H27_5422 111 3)) 111 8 (-1)) 111 7 0) Q := by
                intro i181_0_8535
                refine g_iconst dX7_step_181 ?_
                refine g_istore (l1 := [(5, vI 0), (0, vR 111), (1, vI 1), (2, vI (P 111 3)), (3, vI (P 2 (H27_5422 111 3))), (4, vI 1)]) dX7_step_182 (by decide) rfl ?_
                refine g_iload dX7_step_184 rfl ?_
                have J217_8550 : ∀ (i217_0_8550 : (1 = 1 ∧ 97 ≤ T.1 (tA T q) ∧ T.1 (tA T q) ≤ 122) ∨ (1 = 0 ∧ 48 ≤ T.1 (tA T q) ∧ T.1 (tA T q) ≤ 57)), Go WSX G 2 iX7_step 217 [(0, vR 111), (1, vI 1), (2, vI (P 111 3)), (4, vI 1)] [] (up (up (up (up H27_5422 111 5 (H27_5422 111 3)) 111 6 (H27_5422 111 3)) 111 8 (-1)) 111 7 0) Q := by
                  intro i217_0_8550
                  refine g_iload_n dX7_step_217 rfl ?_
                  have J237_8557 : ∀ (i237_0_8557 : tJn T q = 0), Go WSX G 2 iX7_step 237 [(0, vR 111), (4, vI 1)] [] (up (up (up (up H27_5422 111 5 (H27_5422 111 3)) 111 6 (H27_5422 111 3)) 111 8 (-1)) 111 7 0) Q := by
                    intro i237_0_8557
                    refine g_iload dX7_step_237 rfl ?_
                    refine g_if_eq (tgt := 249) dX7_step_239 (by decide) (by decide) (fun k8559 => by exfalso; (clear p_bw hjs i16_0_5421 i181_0_8535 i217_0_8550; omega)) (fun k8559 => ?_)
                    have r_i217_0_8550 := (i217_0_8550.resolve_right (by (clear p_bw hjs i16_0_5421 i181_0_8535 i217_0_8550 k8559; omega)))
                    have r_i181_0_8535 := (i181_0_8535.resolve_left (by (clear p_bw hjs i16_0_5421 i181_0_8535 i217_0_8550 k8559; omega)))
                    skip
                    have r_hjs := (hjs.resolve_left (by (clear p_bw hjs i16_0_5421 i181_0_8535 i217_0_8550 k8559; omega)))
                    skip
                    refine g_aload_n dX7_step_242 rfl ?_
                    refine g_vV (av := []) (o := 111) (st := []) (f_X7_stepWord G (up (up (up (up H27_5422 111 5 (H27_5422 111 3)) 111 6 (H27_5422 111 3)) 111 8 (-1)) 111 7 0) T q  hB8262 (by have q0 := (((up_k (by decide)).trans ((up_k (by decide)).trans ((up_k (by decide)).trans ((up_k (by decide)).trans rfl)))) : (up (up (up (up H27_5422 111 5 (H27_5422 111 3)) 111 6 (H27_5422 111 3)) 111 8 (-1)) 111 7 0) 111 3 = (H27_5422 111 3)); have q1 := bx_46_3 (o := 111) hB27_5422 (⟨by decide, rfl⟩ : kx 111 46); have q2 := (((up_k (by decide)).trans ((up_k (by decide)).trans ((up_k (by decide)).trans up_same))) : (up (up (up (up H27_5422 111 5 (H27_5422 111 3)) 111 6 (H27_5422 111 3)) 111 8 (-1)) 111 7 0) 111 5 = (H27_5422 111 3)); have q3 := (up_same : (up (up (up (up H27_5422 111 5 (H27_5422 111 3)) 111 6 (H27_5422 111 3)) 111 8 (-1)) 111 7 0) 111 7 = 0); have q4 := (((up_k (by decide)).trans up_same) : (up (up (up (up H27_5422 111 5 (H27_5422 111 3)) 111 6 (H27_5422 111 3)) 111 8 (-1)) 111 7 0) 111 8 = (-1)); (clear p_bw hjs i16_0_5421 i181_0_8535 i217_0_8550 k8559; omega)) (by (clear p_bw hjs i16_0_5421 i181_0_8535 i217_0_8550 k8559; omega)) (TX.fr (F := ([(46, 3), (46, 5), (46, 6), (46, 7), (46, 8)], [])) v_TX (FrX.s (FrX.s (FrX.s (FrX.s (FrX.c FrX.rf hE27_5422 rfl) (⟨by decide, rfl⟩ : kx 111 46) rfl) (⟨by decide, rfl⟩ : kx 111 46) rfl) (⟨by decide, rfl⟩ : kx 111 46) rfl) (⟨by decide, rfl⟩ : kx 111 46) rfl) rfl) (OWN.fr (F := ([(46, 3), (46, 5), (46, 6), (46, 7), (46, 8)], [])) v_OWN (FrX.s (FrX.s (FrX.s (FrX.s (FrX.c FrX.rf hE27_5422 rfl) (⟨by decide, rfl⟩ : kx 111 46) rfl) (⟨by decide, rfl⟩ : kx 111 46) rfl) (⟨by decide, rfl⟩ : kx 111 46) rfl) (⟨by decide, rfl⟩ : kx 111 46) rfl) rfl) ((XT.fr (F := ([(46, 3), (46, 5), (46, 6), (46, 7), (46, 8)], [])) z0 (FrX.s (FrX.s (FrX.s (FrX.s (FrX.c FrX.rf hE27_5422 rfl) (⟨by decide, rfl⟩ : kx 111 46) rfl) (⟨by decide, rfl⟩ : kx 111 46) rfl) (⟨by decide, rfl⟩ : kx 111 46) rfl) (⟨by decide, rfl⟩ : kx 111 46) rfl) rfl)) _ (fun Pc8560 hBc8560 hFc8560 ec8560_0 => ⟨rfl, ?_⟩)) cf_X7_stepWord t_711 rfl (show kx 111 46 from (⟨by decide, rfl⟩ : kx 111 46)).1 ((show kx 111 46 from (⟨by decide, rfl⟩ : kx 111 46)).sh rfl) rfl rfl (Nat.le_of_ble_eq_true rfl) (by decide) rfl dX7_step_243
                    refine g_goto (tgt := 253) dX7_step_246 (by decide) ?_
                    exact g_retV dX7_step_253 rfl (hQ _ hBc8560 (FrX.c (FrX.s (FrX.s (FrX.s (FrX.s (FrX.c FrX.rf hE27_5422 rfl) (⟨by decide, rfl⟩ : kx 111 46) rfl) (⟨by decide, rfl⟩ : kx 111 46) rfl) (⟨by decide, rfl⟩ : kx 111 46) rfl) (⟨by decide, rfl⟩ : kx 111 46) rfl) hFc8560 rfl) (by first | exact ec8560_0 | (have q3 := (rfl : Pc8560 111 3 = (Pc8560 111 3)); have q4 := (rfl : Pc8560 111 4 = (Pc8560 111 4)); have q5 := (((FrX.g hFc8560 (⟨by decide, rfl⟩ : kx 111 46) rfl).trans ((up_k (by decide)).trans ((up_k (by decide)).trans ((up_k (by decide)).trans up_same)))) : Pc8560 111 5 = (H27_5422 111 3)); have q6 := (rfl : Pc8560 111 6 = (Pc8560 111 6)); have q7 := (rfl : Pc8560 111 7 = (Pc8560 111 7)); have q8 := (rfl : Pc8560 111 8 = (Pc8560 111 8)); first | exact XS.sig ⟨by (first | (clear p_bw hjs i16_0_5421 i181_0_8535 i217_0_8550 k8559; omega) | (clear p_bw hjs i16_0_5421 i181_0_8535 i217_0_8550; omega) | (clear p_bw hjs i16_0_5421 i181_0_8535 k8559; omega) | (clear p_bw hjs i16_0_5421 i217_0_8550 k8559; omega) | (clear p_bw hjs i181_0_8535 i217_0_8550 k8559; omega) | (clear p_bw i16_0_5421 i181_0_8535 i217_0_8550 k8559; omega) | (clear hjs i16_0_5421 i181_0_8535 i217_0_8550 k8559; omega) | (clear p_bw hjs i16_0_5421 i181_0_8535; omega) | (clear hjs p_bw; omega) | omega), by (first | (clear p_bw hjs i16_0_5421 i181_0_8535 i217_0_8550 k8559; omega) | (clear p_bw hjs i16_0_5421 i181_0_8535 i217_0_8550; omega) | (clear p_bw hjs i16_0_5421 i181_0_8535 k8559; omega) | (clear p_bw hjs i16_0_5421 i217_0_8550 k8559; omega) | (clear p_bw hjs i181_0_8535 i217_0_8550 k8559; omega) | (clear p_bw i16_0_5421 i181_0_8535 i217_0_8550 k8559; omega) | (clear hjs i16_0_5421 i181_0_8535 i217_0_8550 k8559; omega) | (clear p_bw hjs i16_0_5421 i181_0_8535; omega) | (clear hjs p_bw; omega) | omega)⟩ (by (first | (clear p_bw hjs i16_0_5421 i181_0_8535 i217_0_8550 k8559; omega) | (clear p_bw hjs i16_0_5421 i181_0_8535 i217_0_8550; omega) | (clear p_bw hjs i16_0_5421 i181_0_8535 k8559; omega) | (clear p_bw hjs i16_0_5421 i217_0_8550 k8559; omega) | (clear p_bw hjs i181_0_8535 i217_0_8550 k8559; omega) | (clear p_bw i16_0_5421 i181_0_8535 i217_0_8550 k8559; omega) | (clear hjs i16_0_5421 i181_0_8535 i217_0_8550 k8559; omega) | (clear p_bw hjs i16_0_5421 i181_0_8535; omega) | (clear hjs p_bw; omega) | omega)) (by (first | (clear p_bw hjs i16_0_5421 i181_0_8535 i217_0_8550 k8559; omega) | (clear p_bw hjs i16_0_5421 i181_0_8535 i217_0_8550; omega) | (clear p_bw hjs i16_0_5421 i181_0_8535 k8559; omega) | (clear p_bw hjs i16_0_5421 i217_0_8550 k8559; omega) | (clear p_bw hjs i181_0_8535 i217_0_8550 k8559; omega) | (clear p_bw i16_0_5421 i181_0_8535 i217_0_8550 k8559; omega) | (clear hjs i16_0_5421 i181_0_8535 i217_0_8550 k8559; omega) | (clear p_bw hjs i16_0_5421 i181_0_8535; omega) | (clear hjs p_bw; omega) | omega)) (by (first | (clear p_bw hjs i16_0_5421 i181_0_8535 i217_0_8550 k8559; omega) | (clear p_bw hjs i16_0_5421 i181_0_8535 i217_0_8550; omega) | (clear p_bw hjs i16_0_5421 i181_0_8535 k8559; omega) | (clear p_bw hjs i16_0_5421 i217_0_8550 k8559; omega) | (clear p_bw hjs i181_0_8535 i217_0_8550 k8559; omega) | (clear p_bw i16_0_5421 i181_0_8535 i217_0_8550 k8559; omega) | (clear hjs i16_0_5421 i181_0_8535 i217_0_8550 k8559; omega) | (clear p_bw hjs i16_0_5421 i181_0_8535; omega) | (clear hjs p_bw; omega) | omega)) (by (first | (clear p_bw hjs i16_0_5421 i181_0_8535 i217_0_8550 k8559; omega) | (clear p_bw hjs i16_0_5421 i181_0_8535 i217_0_8550; omega) | (clear p_bw hjs i16_0_5421 i181_0_8535 k8559; omega) | (clear p_bw hjs i16_0_5421 i217_0_8550 k8559; omega) | (clear p_bw hjs i181_0_8535 i217_0_8550 k8559; omega) | (clear p_bw i16_0_5421 i181_0_8535 i217_0_8550 k8559; omega) | (clear hjs i16_0_5421 i181_0_8535 i217_0_8550 k8559; omega) | (clear p_bw hjs i16_0_5421 i181_0_8535; omega) | (clear hjs p_bw; omega) | omega)) (by (first | (clear p_bw hjs i16_0_5421 i181_0_8535 i217_0_8550 k8559; omega) | (clear p_bw hjs i16_0_5421 i181_0_8535 i217_0_8550; omega) | (clear p_bw hjs i16_0_5421 i181_0_8535 k8559; omega) | (clear p_bw hjs i16_0_5421 i217_0_8550 k8559; omega) | (clear p_bw hjs i181_0_8535 i217_0_8550 k8559; omega) | (clear p_bw i16_0_5421 i181_0_8535 i217_0_8550 k8559; omega) | (clear hjs i16_0_5421 i181_0_8535 i217_0_8550 k8559; omega) | (clear p_bw hjs i16_0_5421 i181_0_8535; omega) | (clear hjs p_bw; omega) | omega)) (by (first | (clear p_bw hjs i16_0_5421 i181_0_8535 i217_0_8550 k8559; omega) | (clear p_bw hjs i16_0_5421 i181_0_8535 i217_0_8550; omega) | (clear p_bw hjs i16_0_5421 i181_0_8535 k8559; omega) | (clear p_bw hjs i16_0_5421 i217_0_8550 k8559; omega) | (clear p_bw hjs i181_0_8535 i217_0_8550 k8559; omega) | (clear p_bw i16_0_5421 i181_0_8535 i217_0_8550 k8559; omega) | (clear hjs i16_0_5421 i181_0_8535 i217_0_8550 k8559; omega) | (clear p_bw hjs i16_0_5421 i181_0_8535; omega) | (clear hjs p_bw; omega) | omega)) (by (first | (clear p_bw hjs i16_0_5421 i181_0_8535 i217_0_8550 k8559; omega) | (clear p_bw hjs i16_0_5421 i181_0_8535 i217_0_8550; omega) | (clear p_bw hjs i16_0_5421 i181_0_8535 k8559; omega) | (clear p_bw hjs i16_0_5421 i217_0_8550 k8559; omega) | (clear p_bw hjs i181_0_8535 i217_0_8550 k8559; omega) | (clear p_bw i16_0_5421 i181_0_8535 i217_0_8550 k8559; omega) | (clear hjs i16_0_5421 i181_0_8535 i217_0_8550 k8559; omega) | (clear p_bw hjs i16_0_5421 i181_0_8535; omega) | (clear hjs p_bw; omega) | omega)) (by (first | (clear p_bw hjs i16_0_5421 i181_0_8535 i217_0_8550 k8559; omega) | (clear p_bw hjs i16_0_5421 i181_0_8535 i217_0_8550; omega) | (clear p_bw hjs i16_0_5421 i181_0_8535 k8559; omega) | (clear p_bw hjs i16_0_5421 i217_0_8550 k8559; omega) | (clear p_bw hjs i181_0_8535 i217_0_8550 k8559; omega) | (clear p_bw i16_0_5421 i181_0_8535 i217_0_8550 k8559; omega) | (clear hjs i16_0_5421 i181_0_8535 i217_0_8550 k8559; omega) | (clear p_bw hjs i16_0_5421 i181_0_8535; omega) | (clear hjs p_bw; omega) | omega)) | exact XS.badj ⟨by (first | (clear p_bw hjs i16_0_5421 i181_0_8535 i217_0_8550 k8559; omega) | (clear p_bw hjs i16_0_5421 i181_0_8535 i217_0_8550; omega) | (clear p_bw hjs i16_0_5421 i181_0_8535 k8559; omega) | (clear p_bw hjs i16_0_5421 i217_0_8550 k8559; omega) | (clear p_bw hjs i181_0_8535 i217_0_8550 k8559; omega) | (clear p_bw i16_0_5421 i181_0_8535 i217_0_8550 k8559; omega) | (clear hjs i16_0_5421 i181_0_8535 i217_0_8550 k8559; omega) | (clear p_bw hjs i16_0_5421 i181_0_8535; omega) | (clear hjs p_bw; omega) | omega), by (first | (clear p_bw hjs i16_0_5421 i181_0_8535 i217_0_8550 k8559; omega) | (clear p_bw hjs i16_0_5421 i181_0_8535 i217_0_8550; omega) | (clear p_bw hjs i16_0_5421 i181_0_8535 k8559; omega) | (clear p_bw hjs i16_0_5421 i217_0_8550 k8559; omega) | (clear p_bw hjs i181_0_8535 i217_0_8550 k8559; omega) | (clear p_bw i16_0_5421 i181_0_8535 i217_0_8550 k8559; omega) | (clear hjs i16_0_5421 i181_0_8535 i217_0_8550 k8559; omega) | (clear p_bw hjs i16_0_5421 i181_0_8535; omega) | (clear hjs p_bw; omega) | omega)⟩ (by (first | (clear p_bw hjs i16_0_5421 i181_0_8535 i217_0_8550 k8559; omega) | (clear p_bw hjs i16_0_5421 i181_0_8535 i217_0_8550; omega) | (clear p_bw hjs i16_0_5421 i181_0_8535 k8559; omega) | (clear p_bw hjs i16_0_5421 i217_0_8550 k8559; omega) | (clear p_bw hjs i181_0_8535 i217_0_8550 k8559; omega) | (clear p_bw i16_0_5421 i181_0_8535 i217_0_8550 k8559; omega) | (clear hjs i16_0_5421 i181_0_8535 i217_0_8550 k8559; omega) | (clear p_bw hjs i16_0_5421 i181_0_8535; omega) | (clear hjs p_bw; omega) | omega)) (by (first | (clear p_bw hjs i16_0_5421 i181_0_8535 i217_0_8550 k8559; omega) | (clear p_bw hjs i16_0_5421 i181_0_8535 i217_0_8550; omega) | (clear p_bw hjs i16_0_5421 i181_0_8535 k8559; omega) | (clear p_bw hjs i16_0_5421 i217_0_8550 k8559; omega) | (clear p_bw hjs i181_0_8535 i217_0_8550 k8559; omega) | (clear p_bw i16_0_5421 i181_0_8535 i217_0_8550 k8559; omega) | (clear hjs i16_0_5421 i181_0_8535 i217_0_8550 k8559; omega) | (clear p_bw hjs i16_0_5421 i181_0_8535; omega) | (clear hjs p_bw; omega) | omega)) (by (first | (clear p_bw hjs i16_0_5421 i181_0_8535 i217_0_8550 k8559; omega) | (clear p_bw hjs i16_0_5421 i181_0_8535 i217_0_8550; omega) | (clear p_bw hjs i16_0_5421 i181_0_8535 k8559; omega) | (clear p_bw hjs i16_0_5421 i217_0_8550 k8559; omega) | (clear p_bw hjs i181_0_8535 i217_0_8550 k8559; omega) | (clear p_bw i16_0_5421 i181_0_8535 i217_0_8550 k8559; omega) | (clear hjs i16_0_5421 i181_0_8535 i217_0_8550 k8559; omega) | (clear p_bw hjs i16_0_5421 i181_0_8535; omega) | (clear hjs p_bw; omega) | omega)) (by (first | (clear p_bw hjs i16_0_5421 i181_0_8535 i217_0_8550 k8559; omega) | (clear p_bw hjs i16_0_5421 i181_0_8535 i217_0_8550; omega) | (clear p_bw hjs i16_0_5421 i181_0_8535 k8559; omega) | (clear p_bw hjs i16_0_5421 i217_0_8550 k8559; omega) | (clear p_bw hjs i181_0_8535 i217_0_8550 k8559; omega) | (clear p_bw i16_0_5421 i181_0_8535 i217_0_8550 k8559; omega) | (clear hjs i16_0_5421 i181_0_8535 i217_0_8550 k8559; omega) | (clear p_bw hjs i16_0_5421 i181_0_8535; omega) | (clear hjs p_bw; omega) | omega)) (by (first | (clear p_bw hjs i16_0_5421 i181_0_8535 i217_0_8550 k8559; omega) | (clear p_bw hjs i16_0_5421 i181_0_8535 i217_0_8550; omega) | (clear p_bw hjs i16_0_5421 i181_0_8535 k8559; omega) | (clear p_bw hjs i16_0_5421 i217_0_8550 k8559; omega) | (clear p_bw hjs i181_0_8535 i217_0_8550 k8559; omega) | (clear p_bw i16_0_5421 i181_0_8535 i217_0_8550 k8559; omega) | (clear hjs i16_0_5421 i181_0_8535 i217_0_8550 k8559; omega) | (clear p_bw hjs i16_0_5421 i181_0_8535; omega) | (clear hjs p_bw; omega) | omega)) (by (first | (clear p_bw hjs i16_0_5421 i181_0_8535 i217_0_8550 k8559; omega) | (clear p_bw hjs i16_0_5421 i181_0_8535 i217_0_8550; omega) | (clear p_bw hjs i16_0_5421 i181_0_8535 k8559; omega) | (clear p_bw hjs i16_0_5421 i217_0_8550 k8559; omega) | (clear p_bw hjs i181_0_8535 i217_0_8550 k8559; omega) | (clear p_bw i16_0_5421 i181_0_8535 i217_0_8550 k8559; omega) | (clear hjs i16_0_5421 i181_0_8535 i217_0_8550 k8559; omega) | (clear p_bw hjs i16_0_5421 i181_0_8535; omega) | (clear hjs p_bw; omega) | omega)) (by (first | (clear p_bw hjs i16_0_5421 i181_0_8535 i217_0_8550 k8559; omega) | (clear p_bw hjs i16_0_5421 i181_0_8535 i217_0_8550; omega) | (clear p_bw hjs i16_0_5421 i181_0_8535 k8559; omega) | (clear p_bw hjs i16_0_5421 i217_0_8550 k8559; omega) | (clear p_bw hjs i181_0_8535 i217_0_8550 k8559; omega) | (clear p_bw i16_0_5421 i181_0_8535 i217_0_8550 k8559; omega) | (clear hjs i16_0_5421 i181_0_8535 i217_0_8550 k8559; omega) | (clear p_bw hjs i16_0_5421 i181_0_8535; omega) | (clear hjs p_bw; omega) | omega)))))
                  refine g_if_eq (tgt := 237) dX7_step_218 (by decide) (by decide) (fun k8561 => by exfalso; (clear p_bw hjs i16_0_5421 i181_0_8535 i217_0_8550; omega)) (fun k8561 => ?_)
                  have r_i217_0_8550 := (i217_0_8550.resolve_right (by (clear p_bw hjs i16_0_5421 i181_0_8535 i217_0_8550 k8561; omega)))
                  have r_i181_0_8535 := (i181_0_8535.resolve_left (by (clear p_bw hjs i16_0_5421 i181_0_8535 i217_0_8550 k8561; omega)))
                  skip
                  skip
                  skip
                  refine g_iload_n dX7_step_221 rfl ?_
                  refine g_aload_n dX7_step_222 rfl ?_
                  refine x_g46_5 (z := (H27_5422 111 3)) (⟨by decide, rfl⟩ : kx 111 46) ffX7_81 dX7_step_223 ((up_k (by decide)).trans ((up_k (by decide)).trans ((up_k (by decide)).trans up_same))) ?_
                  have f8562 := bx_46_3 (o := 111) hB (⟨by decide, rfl⟩ : kx 111 46)
                  refine g_icmp_ne (tgt := 237) dX7_step_226 (by decide) ⟨by have q0 := bx_46_3 (o := 111) hB (⟨by decide, rfl⟩ : kx 111 46); (clear p_bw hjs i16_0_5421 i181_0_8535 i217_0_8550 k8561; omega), by have q0 := bx_46_3 (o := 111) hB (⟨by decide, rfl⟩ : kx 111 46); (clear p_bw hjs i16_0_5421 i181_0_8535 i217_0_8550 k8561; omega)⟩ ⟨by have q0 := bx_46_3 (o := 111) hB27_5422 (⟨by decide, rfl⟩ : kx 111 46); (clear p_bw hjs i16_0_5421 i181_0_8535 i217_0_8550 k8561; omega), by have q0 := bx_46_3 (o := 111) hB27_5422 (⟨by decide, rfl⟩ : kx 111 46); (clear p_bw hjs i16_0_5421 i181_0_8535 i217_0_8550 k8561; omega)⟩ (fun k8563 => ?_) (fun k8563 => ?_)
                  · skip
                    skip
                    skip
                    skip
                    skip
                    refine g_forget (l1 := [(0, vR 111), (4, vI 1)]) (by intro q hq; simp only [List.mem_cons, List.not_mem_nil, or_false] at hq ⊢; rcases hq with rfl | rfl <;> simp) ?_
                    exact J237_8557 (by (omega))
                  · skip
                    skip
                    skip
                    skip
                    skip
                    refine g_aload_n dX7_step_229 rfl ?_
                    refine g_iconst dX7_step_230 ?_
                    refine x_p46_4 (⟨by decide, rfl⟩ : kx 111 46) pfX7_75 dX7_step_231 ?_
                    have hB8564 := by_46_4 (z := 4) hB8262 (⟨by decide, rfl⟩ : kx 111 46) (by decide)
                    refine g_goto (tgt := 253) dX7_step_234 (by decide) ?_
                    exact g_retV dX7_step_253 rfl (hQ _ hB8564 (FrX.s (FrX.s (FrX.s (FrX.s (FrX.s (FrX.c FrX.rf hE27_5422 rfl) (⟨by decide, rfl⟩ : kx 111 46) rfl) (⟨by decide, rfl⟩ : kx 111 46) rfl) (⟨by decide, rfl⟩ : kx 111 46) rfl) (⟨by decide, rfl⟩ : kx 111 46) rfl) (⟨by decide, rfl⟩ : kx 111 46) rfl) (by first | exact hNONE | (have q3 := (((up_k (by decide)).trans ((up_k (by decide)).trans ((up_k (by decide)).trans ((up_k (by decide)).trans ((up_k (by decide)).trans rfl))))) : (up (up (up (up (up H27_5422 111 5 (H27_5422 111 3)) 111 6 (H27_5422 111 3)) 111 8 (-1)) 111 7 0) 111 4 4) 111 3 = (H27_5422 111 3)); have q4 := (up_same : (up (up (up (up (up H27_5422 111 5 (H27_5422 111 3)) 111 6 (H27_5422 111 3)) 111 8 (-1)) 111 7 0) 111 4 4) 111 4 = 4); have q5 := (((up_k (by decide)).trans ((up_k (by decide)).trans ((up_k (by decide)).trans ((up_k (by decide)).trans up_same)))) : (up (up (up (up (up H27_5422 111 5 (H27_5422 111 3)) 111 6 (H27_5422 111 3)) 111 8 (-1)) 111 7 0) 111 4 4) 111 5 = (H27_5422 111 3)); have q6 := (((up_k (by decide)).trans ((up_k (by decide)).trans ((up_k (by decide)).trans up_same))) : (up (up (up (up (up H27_5422 111 5 (H27_5422 111 3)) 111 6 (H27_5422 111 3)) 111 8 (-1)) 111 7 0) 111 4 4) 111 6 = (H27_5422 111 3)); have q7 := (((up_k (by decide)).trans up_same) : (up (up (up (up (up H27_5422 111 5 (H27_5422 111 3)) 111 6 (H27_5422 111 3)) 111 8 (-1)) 111 7 0) 111 4 4) 111 7 = 0); have q8 := (((up_k (by decide)).trans ((up_k (by decide)).trans up_same)) : (up (up (up (up (up H27_5422 111 5 (H27_5422 111 3)) 111 6 (H27_5422 111 3)) 111 8 (-1)) 111 7 0) 111 4 4) 111 8 = (-1)); first | exact XS.sig ⟨by (clear p_bw hjs i16_0_5421 i181_0_8535 i217_0_8550 k8561 k8563; omega), by (clear p_bw hjs i16_0_5421 i181_0_8535 i217_0_8550 k8561 k8563; omega)⟩ (by (first | (clear p_bw hjs i16_0_5421 i181_0_8535 i217_0_8550 k8561 k8563; omega) | (clear p_bw hjs i16_0_5421 i181_0_8535 i217_0_8550 k8561; omega) | (clear p_bw hjs i16_0_5421 i181_0_8535 i217_0_8550 k8563; omega) | (clear p_bw hjs i16_0_5421 i181_0_8535 k8561 k8563; omega) | (clear p_bw hjs i16_0_5421 i217_0_8550 k8561 k8563; omega) | (clear p_bw hjs i181_0_8535 i217_0_8550 k8561 k8563; omega) | (clear p_bw i16_0_5421 i181_0_8535 i217_0_8550 k8561 k8563; omega) | (clear hjs i16_0_5421 i181_0_8535 i217_0_8550 k8561 k8563; omega) | (clear p_bw hjs i16_0_5421 i181_0_8535 i217_0_8550; omega) | (clear i16_0_5421 hjs p_bw; omega) | omega)) (by (first | (clear p_bw hjs i16_0_5421 i181_0_8535 i217_0_8550 k8561 k8563; omega) | (clear p_bw hjs i16_0_5421 i181_0_8535 i217_0_8550 k8561; omega) | (clear p_bw hjs i16_0_5421 i181_0_8535 i217_0_8550 k8563; omega) | (clear p_bw hjs i16_0_5421 i181_0_8535 k8561 k8563; omega) | (clear p_bw hjs i16_0_5421 i217_0_8550 k8561 k8563; omega) | (clear p_bw hjs i181_0_8535 i217_0_8550 k8561 k8563; omega) | (clear p_bw i16_0_5421 i181_0_8535 i217_0_8550 k8561 k8563; omega) | (clear hjs i16_0_5421 i181_0_8535 i217_0_8550 k8561 k8563; omega) | (clear p_bw hjs i16_0_5421 i181_0_8535 i217_0_8550; omega) | (clear i16_0_5421 hjs p_bw; omega) | omega)) (by (first | (clear p_bw hjs i16_0_5421 i181_0_8535 i217_0_8550 k8561 k8563; omega) | (clear p_bw hjs i16_0_5421 i181_0_8535 i217_0_8550 k8561; omega) | (clear p_bw hjs i16_0_5421 i181_0_8535 i217_0_8550 k8563; omega) | (clear p_bw hjs i16_0_5421 i181_0_8535 k8561 k8563; omega) | (clear p_bw hjs i16_0_5421 i217_0_8550 k8561 k8563; omega) | (clear p_bw hjs i181_0_8535 i217_0_8550 k8561 k8563; omega) | (clear p_bw i16_0_5421 i181_0_8535 i217_0_8550 k8561 k8563; omega) | (clear hjs i16_0_5421 i181_0_8535 i217_0_8550 k8561 k8563; omega) | (clear p_bw hjs i16_0_5421 i181_0_8535 i217_0_8550; omega) | (clear i16_0_5421 hjs p_bw; omega) | omega)) (by (first | (clear p_bw hjs i16_0_5421 i181_0_8535 i217_0_8550 k8561 k8563; omega) | (clear p_bw hjs i16_0_5421 i181_0_8535 i217_0_8550 k8561; omega) | (clear p_bw hjs i16_0_5421 i181_0_8535 i217_0_8550 k8563; omega) | (clear p_bw hjs i16_0_5421 i181_0_8535 k8561 k8563; omega) | (clear p_bw hjs i16_0_5421 i217_0_8550 k8561 k8563; omega) | (clear p_bw hjs i181_0_8535 i217_0_8550 k8561 k8563; omega) | (clear p_bw i16_0_5421 i181_0_8535 i217_0_8550 k8561 k8563; omega) | (clear hjs i16_0_5421 i181_0_8535 i217_0_8550 k8561 k8563; omega) | (clear p_bw hjs i16_0_5421 i181_0_8535 i217_0_8550; omega) | (clear i16_0_5421 hjs p_bw; omega) | omega)) (by (first | (clear p_bw hjs i16_0_5421 i181_0_8535 i217_0_8550 k8561 k8563; omega) | (clear p_bw hjs i16_0_5421 i181_0_8535 i217_0_8550 k8561; omega) | (clear p_bw hjs i16_0_5421 i181_0_8535 i217_0_8550 k8563; omega) | (clear p_bw hjs i16_0_5421 i181_0_8535 k8561 k8563; omega) | (clear p_bw hjs i16_0_5421 i217_0_8550 k8561 k8563; omega) | (clear p_bw hjs i181_0_8535 i217_0_8550 k8561 k8563; omega) | (clear p_bw i16_0_5421 i181_0_8535 i217_0_8550 k8561 k8563; omega) | (clear hjs i16_0_5421 i181_0_8535 i217_0_8550 k8561 k8563; omega) | (clear p_bw hjs i16_0_5421 i181_0_8535 i217_0_8550; omega) | (clear i16_0_5421 hjs p_bw; omega) | omega)) (by (first | (clear p_bw hjs i16_0_5421 i181_0_8535 i217_0_8550 k8561 k8563; omega) | (clear p_bw hjs i16_0_5421 i181_0_8535 i217_0_8550 k8561; omega) | (clear p_bw hjs i16_0_5421 i181_0_8535 i217_0_8550 k8563; omega) | (clear p_bw hjs i16_0_5421 i181_0_8535 k8561 k8563; omega) | (clear p_bw hjs i16_0_5421 i217_0_8550 k8561 k8563; omega) | (clear p_bw hjs i181_0_8535 i217_0_8550 k8561 k8563; omega) | (clear p_bw i16_0_5421 i181_0_8535 i217_0_8550 k8561 k8563; omega) | (clear hjs i16_0_5421 i181_0_8535 i217_0_8550 k8561 k8563; omega) | (clear p_bw hjs i16_0_5421 i181_0_8535 i217_0_8550; omega) | (clear i16_0_5421 hjs p_bw; omega) | omega)) (by (first | (clear p_bw hjs i16_0_5421 i181_0_8535 i217_0_8550 k8561 k8563; omega) | (clear p_bw hjs i16_0_5421 i181_0_8535 i217_0_8550 k8561; omega) | (clear p_bw hjs i16_0_5421 i181_0_8535 i217_0_8550 k8563; omega) | (clear p_bw hjs i16_0_5421 i181_0_8535 k8561 k8563; omega) | (clear p_bw hjs i16_0_5421 i217_0_8550 k8561 k8563; omega) | (clear p_bw hjs i181_0_8535 i217_0_8550 k8561 k8563; omega) | (clear p_bw i16_0_5421 i181_0_8535 i217_0_8550 k8561 k8563; omega) | (clear hjs i16_0_5421 i181_0_8535 i217_0_8550 k8561 k8563; omega) | (clear p_bw hjs i16_0_5421 i181_0_8535 i217_0_8550; omega) | (clear i16_0_5421 hjs p_bw; omega) | omega)) (by (first | (clear p_bw hjs i16_0_5421 i181_0_8535 i217_0_8550 k8561 k8563; omega) | (clear p_bw hjs i16_0_5421 i181_0_8535 i217_0_8550 k8561; omega) | (clear p_bw hjs i16_0_5421 i181_0_8535 i217_0_8550 k8563; omega) | (clear p_bw hjs i16_0_5421 i181_0_8535 k8561 k8563; omega) | (clear p_bw hjs i16_0_5421 i217_0_8550 k8561 k8563; omega) | (clear p_bw hjs i181_0_8535 i217_0_8550 k8561 k8563; omega) | (clear p_bw i16_0_5421 i181_0_8535 i217_0_8550 k8561 k8563; omega) | (clear hjs i16_0_5421 i181_0_8535 i217_0_8550 k8561 k8563; omega) | (clear p_bw hjs i16_0_5421 i181_0_8535 i217_0_8550; omega) | (clear i16_0_5421 hjs p_bw; omega) | omega)) | exact XS.badj ⟨by (clear p_bw hjs i16_0_5421 i181_0_8535 i217_0_8550 k8561 k8563; omega), by (clear p_bw hjs i16_0_5421 i181_0_8535 i217_0_8550 k8561 k8563; omega)⟩ (by (clear p_bw hjs i16_0_5421 i181_0_8535 i217_0_8550 k8561 k8563; omega)) (by (clear p_bw hjs i16_0_5421 i181_0_8535 i217_0_8550 k8561 k8563; omega)) (by (clear p_bw hjs i16_0_5421 i181_0_8535 i217_0_8550 k8561 k8563; omega)) (by (clear p_bw hjs i16_0_5421 i181_0_8535 i217_0_8550 k8561 k8563; omega)) (by (clear p_bw hjs i16_0_5421 i181_0_8535 i217_0_8550 k8561 k8563; omega)) (by (clear p_bw hjs i16_0_5421 i181_0_8535 i217_0_8550 k8561 k8563; omega)) (by (omega)))))
                refine g_if_ne (tgt := 217) dX7_step_186 (by decide) (by decide) (fun k8565 => ?_) (fun k8565 => by exfalso; (clear p_bw hjs i16_0_5421 i181_0_8535; omega))
                have r_i181_0_8535 := (i181_0_8535.resolve_left (by (clear p_bw hjs i16_0_5421 i181_0_8535 k8565; omega)))
                skip
                skip
                skip
                refine g_forget (l1 := [(0, vR 111), (1, vI 1), (2, vI (P 111 3)), (4, vI 1)]) (by intro q hq; simp only [List.mem_cons, List.not_mem_nil, or_false] at hq ⊢; rcases hq with rfl | rfl | rfl | rfl <;> simp) ?_
                exact J217_8550 (by (clear p_bw hjs i16_0_5421 i181_0_8535 k8565; omega))
              refine g_icmp_lt (tgt := 181) dX7_step_168 (by decide) ⟨by have q0 := bx_2 (o := 2) (k := (H27_5422 111 3)) hB (⟨by decide, rfl⟩ : kx 2 2); (clear p_bw hjs i16_0_5421; omega), by have q0 := bx_2 (o := 2) (k := (H27_5422 111 3)) hB (⟨by decide, rfl⟩ : kx 2 2); (clear p_bw hjs i16_0_5421; omega)⟩ (by decide) (fun k8566 => by exfalso; have q0 := bx_2 (o := 2) (k := (H27_5422 111 3)) hB (⟨by decide, rfl⟩ : kx 2 2); (clear p_bw hjs i16_0_5421; omega)) (fun k8566 => ?_)
              skip
              skip
              skip
              refine g_iload_n dX7_step_171 rfl ?_
              refine g_bipush dX7_step_172 (by decide) ?_
              refine g_icmp_gt (tgt := 181) dX7_step_174 (by decide) ⟨by have q0 := bx_2 (o := 2) (k := (H27_5422 111 3)) hB (⟨by decide, rfl⟩ : kx 2 2); (clear p_bw hjs i16_0_5421; omega), by have q0 := bx_2 (o := 2) (k := (H27_5422 111 3)) hB (⟨by decide, rfl⟩ : kx 2 2); (clear p_bw hjs i16_0_5421; omega)⟩ (by decide) (fun k8567 => ?_) (fun k8567 => by exfalso; have q0 := bx_2 (o := 2) (k := (H27_5422 111 3)) hB (⟨by decide, rfl⟩ : kx 2 2); (clear p_bw hjs i16_0_5421; omega))
              skip
              skip
              skip
              refine g_forget (l1 := [(0, vR 111), (1, vI 1), (2, vI (P 111 3)), (3, vI (P 2 (H27_5422 111 3))), (4, vI 1)]) (by intro q hq; simp only [List.mem_cons, List.not_mem_nil, or_false] at hq ⊢; rcases hq with rfl | rfl | rfl | rfl | rfl <;> simp) ?_
              exact J181_8535 (by (clear p_bw hjs i16_0_5421; omega))
        · skip
          skip
          skip
          refine g_aload_n dX7_step_130 rfl ?_
          refine g_iconst dX7_step_131 ?_
          refine x_p46_4 (⟨by decide, rfl⟩ : kx 111 46) pfX7_75 dX7_step_132 ?_
          have hB8568 := by_46_4 (z := 0) hB8262 (⟨by decide, rfl⟩ : kx 111 46) (by decide)
          exact g_retV dX7_step_135 rfl (hQ _ hB8568 (FrX.s (FrX.s (FrX.s (FrX.s (FrX.s (FrX.c FrX.rf hE27_5422 rfl) (⟨by decide, rfl⟩ : kx 111 46) rfl) (⟨by decide, rfl⟩ : kx 111 46) rfl) (⟨by decide, rfl⟩ : kx 111 46) rfl) (⟨by decide, rfl⟩ : kx 111 46) rfl) (⟨by decide, rfl⟩ : kx 111 46) rfl) (by have q3 := (((up_k (by decide)).trans ((up_k (by decide)).trans ((up_k (by decide)).trans ((up_k (by decide)).trans ((up_k (by decide)).trans rfl))))) : (up (up (up (up (up H27_5422 111 5 (H27_5422 111 3)) 111 6 (H27_5422 111 3)) 111 8 (-1)) 111 7 0) 111 4 0) 111 3 = (H27_5422 111 3)); have q4 := (up_same : (up (up (up (up (up H27_5422 111 5 (H27_5422 111 3)) 111 6 (H27_5422 111 3)) 111 8 (-1)) 111 7 0) 111 4 0) 111 4 = 0); have q5 := (((up_k (by decide)).trans ((up_k (by decide)).trans ((up_k (by decide)).trans ((up_k (by decide)).trans up_same)))) : (up (up (up (up (up H27_5422 111 5 (H27_5422 111 3)) 111 6 (H27_5422 111 3)) 111 8 (-1)) 111 7 0) 111 4 0) 111 5 = (H27_5422 111 3)); have q6 := (((up_k (by decide)).trans ((up_k (by decide)).trans ((up_k (by decide)).trans up_same))) : (up (up (up (up (up H27_5422 111 5 (H27_5422 111 3)) 111 6 (H27_5422 111 3)) 111 8 (-1)) 111 7 0) 111 4 0) 111 6 = (H27_5422 111 3)); have q7 := (((up_k (by decide)).trans up_same) : (up (up (up (up (up H27_5422 111 5 (H27_5422 111 3)) 111 6 (H27_5422 111 3)) 111 8 (-1)) 111 7 0) 111 4 0) 111 7 = 0); have q8 := (((up_k (by decide)).trans ((up_k (by decide)).trans up_same)) : (up (up (up (up (up H27_5422 111 5 (H27_5422 111 3)) 111 6 (H27_5422 111 3)) 111 8 (-1)) 111 7 0) 111 4 0) 111 8 = (-1)); exact XS.end ⟨by (clear p_bw hjs i16_0_5421; omega), by (clear p_bw hjs i16_0_5421; omega)⟩ (by (clear p_bw hjs i16_0_5421; omega)) (by (clear p_bw hjs i16_0_5421; omega)) (by (clear p_bw hjs i16_0_5421; omega)) (by (clear p_bw hjs i16_0_5421; omega))))
      refine g_if_lt (tgt := 86) dX7_step_31 (by decide) ⟨by have q0 := bx_46_3 (o := 111) hB27_5422 (⟨by decide, rfl⟩ : kx 111 46); (clear p_bw hjs i16_0_5421; omega), by have q0 := bx_46_3 (o := 111) hB27_5422 (⟨by decide, rfl⟩ : kx 111 46); (clear p_bw hjs i16_0_5421; omega)⟩ (fun k8569 => by exfalso; have q0 := bx_46_3 (o := 111) hB27_5422 (⟨by decide, rfl⟩ : kx 111 46); (clear p_bw hjs i16_0_5421; omega)) (fun k8569 => ?_)
      skip
      skip
      skip
      refine g_aload_n dX7_step_34 rfl ?_
      refine x_g46_3 (z := (H27_5422 111 3)) (⟨by decide, rfl⟩ : kx 111 46) ffX7_72 dX7_step_35 rfl ?_
      refine g_aload_n dX7_step_38 rfl ?_
      refine x_g46_2 (z := (P 111 2)) (⟨by decide, rfl⟩ : kx 111 46) ffX7_71 dX7_step_39 ((FrX.g hE27_5422 (⟨by decide, rfl⟩ : kx 111 46) rfl).trans rfl) ?_
      have f8570 := bx_46_2 (o := 111) hB (⟨by decide, rfl⟩ : kx 111 46)
      refine g_icmp_ge (tgt := 86) dX7_step_42 (by decide) ⟨by have q0 := bx_46_3 (o := 111) hB27_5422 (⟨by decide, rfl⟩ : kx 111 46); (clear p_bw hjs i16_0_5421; omega), by have q0 := bx_46_3 (o := 111) hB27_5422 (⟨by decide, rfl⟩ : kx 111 46); (clear p_bw hjs i16_0_5421; omega)⟩ ⟨by have q0 := bx_46_2 (o := 111) hB (⟨by decide, rfl⟩ : kx 111 46); (clear p_bw hjs i16_0_5421; omega), by have q0 := bx_46_2 (o := 111) hB (⟨by decide, rfl⟩ : kx 111 46); (clear p_bw hjs i16_0_5421; omega)⟩ (fun k8571 => ?_) (fun k8571 => ?_)
      · skip
        skip
        skip
        refine g_forget (l1 := [(0, vR 111), (1, vI 1), (2, vI (P 111 3))]) (by intro q hq; simp only [List.mem_cons, List.not_mem_nil, or_false] at hq ⊢; rcases hq with rfl | rfl | rfl <;> simp) ?_
        exact J86_8257 (by rw [hta9, i27_0_5422]; exact (rE_st (fun h => by have q := bW_t.mp h.2; (clear p_bw hjs i16_0_5421; omega))).symm)
      · skip
        skip
        skip
        refine g_aload_n dX7_step_45 rfl ?_
        refine x_g46_1 (n := 2) (⟨by decide, rfl⟩ : kx 111 46) ffX7_41 dX7_step_46 (TX.fr (F := ([(46, 3)], [])) v_TX (FrX.c FrX.rf hE27_5422 rfl) rfl) ?_
        refine g_aload_n dX7_step_49 rfl ?_
        refine x_g46_3 (z := (H27_5422 111 3)) (⟨by decide, rfl⟩ : kx 111 46) ffX7_72 dX7_step_50 rfl ?_
        refine x_l2 (z := (P 2 (H27_5422 111 3))) (⟨by decide, rfl⟩ : kx 2 2) dX7_step_53 ⟨by have q0 := bx_46_3 (o := 111) hB27_5422 (⟨by decide, rfl⟩ : kx 111 46); (clear p_bw hjs i16_0_5421; omega), by have q0 := bx_46_3 (o := 111) hB27_5422 (⟨by decide, rfl⟩ : kx 111 46); (clear p_bw hjs i16_0_5421; omega)⟩ ((FrX.g hE27_5422 (⟨by decide, rfl⟩ : kx 2 2) rfl).trans rfl) ?_
        refine g_bipush dX7_step_54 (by decide) ?_
        have f8572 := bx_2 (o := 2) (k := (H27_5422 111 3)) hB (⟨by decide, rfl⟩ : kx 2 2)
        have J73_8575 : ∀ (i73_0_8575 : 0 ≤ H27_5422 111 3 ∧ H27_5422 111 3 < T.2 ∧ (T.1 (H27_5422 111 3) = 32 ∨ T.1 (H27_5422 111 3) = 10)), Go WSX G 2 iX7_step 73 [(0, vR 111), (1, vI 1), (2, vI (P 111 3))] [] H27_5422 Q := by
          intro i73_0_8575
          have hgo := rE_go (f := bW) (T := T) (p := (H27_5422 111 3)) (by (clear p_bw hjs i16_0_5421 i73_0_8575; omega)) (bW_t.mpr (by (clear p_bw hjs i16_0_5421; omega)))
          refine g_aload_n dX7_step_73 rfl ?_
          refine g_dup dX7_step_74 rfl ?_
          refine x_g46_3 (z := (H27_5422 111 3)) (⟨by decide, rfl⟩ : kx 111 46) ffX7_72 dX7_step_75 rfl ?_
          refine g_iconst dX7_step_78 ?_
          refine g_iadd dX7_step_79 ?_
          refine x_p46_3 (⟨by decide, rfl⟩ : kx 111 46) pfX7_72 dX7_step_80 ?_
          have hB8577 := by_46_3 (z := ((H27_5422 111 3) + 1)) hB27_5422 (⟨by decide, rfl⟩ : kx 111 46) ⟨by have q0 := bx_46_3 (o := 111) hB27_5422 (⟨by decide, rfl⟩ : kx 111 46); (clear p_bw hjs i16_0_5421 i73_0_8575; omega), by have q0 := bx_46_3 (o := 111) hB27_5422 (⟨by decide, rfl⟩ : kx 111 46); (clear p_bw hjs i16_0_5421 i73_0_8575; omega)⟩
          refine g_goto (tgt := 27) dX7_step_83 (by decide) ?_
          refine g_forget (l1 := [(0, vR 111), (1, vI 1), (2, vI (P 111 3))]) (by intro q hq; simp only [List.mem_cons, List.not_mem_nil, or_false] at hq ⊢; rcases hq with rfl | rfl | rfl <;> simp) ?_
          exact ih27_5422 _ hB8577 (FrX.s (FrX.c FrX.rf hE27_5422 rfl) (⟨by decide, rfl⟩ : kx 111 46) rfl) (by first | (have q3 := (up_same : (up H27_5422 111 3 ((H27_5422 111 3) + 1)) 111 3 = ((H27_5422 111 3) + 1)); rw [q3]; (clear p_bw hjs i16_0_5421 i73_0_8575; omega)) | rw [p_q.1]) (by have q0 := (up_same : (up H27_5422 111 3 ((H27_5422 111 3) + 1)) 111 3 = ((H27_5422 111 3) + 1)); have q1 := bx_46_3 (o := 111) hB27_5422 (⟨by decide, rfl⟩ : kx 111 46); (clear p_bw hjs i16_0_5421 i73_0_8575; omega)) (by have q0 := (up_same : (up H27_5422 111 3 ((H27_5422 111 3) + 1)) 111 3 = ((H27_5422 111 3) + 1)); have q1 := bx_46_3 (o := 111) hB27_5422 (⟨by decide, rfl⟩ : kx 111 46); (clear p_bw hjs i16_0_5421 i73_0_8575; omega))
        refine g_icmp_eq (tgt := 73) dX7_step_56 (by decide) ⟨by have q0 := bx_2 (o := 2) (k := (H27_5422 111 3)) hB (⟨by decide, rfl⟩ : kx 2 2); (clear p_bw hjs i16_0_5421; omega), by have q0 := bx_2 (o := 2) (k := (H27_5422 111 3)) hB (⟨by decide, rfl⟩ : kx 2 2); (clear p_bw hjs i16_0_5421; omega)⟩ (by decide) (fun k8578 => ?_) (fun k8578 => ?_)
        · skip
          skip
          skip
          refine g_forget (l1 := [(0, vR 111), (1, vI 1), (2, vI (P 111 3))]) (by intro q hq; simp only [List.mem_cons, List.not_mem_nil, or_false] at hq ⊢; rcases hq with rfl | rfl | rfl <;> simp) ?_
          exact J73_8575 (by have q0 := bx_46_3 (o := 111) hB27_5422 (⟨by decide, rfl⟩ : kx 111 46); (clear p_bw hjs i16_0_5421; omega))
        · skip
          skip
          skip
          refine g_aload_n dX7_step_59 rfl ?_
          refine x_g46_1 (n := 2) (⟨by decide, rfl⟩ : kx 111 46) ffX7_41 dX7_step_60 (TX.fr (F := ([(46, 3)], [])) v_TX (FrX.c FrX.rf hE27_5422 rfl) rfl) ?_
          refine g_aload_n dX7_step_63 rfl ?_
          refine x_g46_3 (z := (H27_5422 111 3)) (⟨by decide, rfl⟩ : kx 111 46) ffX7_72 dX7_step_64 rfl ?_
          refine x_l2 (z := (P 2 (H27_5422 111 3))) (⟨by decide, rfl⟩ : kx 2 2) dX7_step_67 ⟨by have q0 := bx_46_3 (o := 111) hB27_5422 (⟨by decide, rfl⟩ : kx 111 46); (clear p_bw hjs i16_0_5421 k8578; omega), by have q0 := bx_46_3 (o := 111) hB27_5422 (⟨by decide, rfl⟩ : kx 111 46); (clear p_bw hjs i16_0_5421 k8578; omega)⟩ ((FrX.g hE27_5422 (⟨by decide, rfl⟩ : kx 2 2) rfl).trans rfl) ?_
          refine g_bipush dX7_step_68 (by decide) ?_
          refine g_icmp_ne (tgt := 86) dX7_step_70 (by decide) ⟨by have q0 := bx_2 (o := 2) (k := (H27_5422 111 3)) hB (⟨by decide, rfl⟩ : kx 2 2); (clear p_bw hjs i16_0_5421 k8578; omega), by have q0 := bx_2 (o := 2) (k := (H27_5422 111 3)) hB (⟨by decide, rfl⟩ : kx 2 2); (clear p_bw hjs i16_0_5421 k8578; omega)⟩ (by decide) (fun k8579 => ?_) (fun k8579 => ?_)
          · skip
            skip
            skip
            refine g_forget (l1 := [(0, vR 111), (1, vI 1), (2, vI (P 111 3))]) (by intro q hq; simp only [List.mem_cons, List.not_mem_nil, or_false] at hq ⊢; rcases hq with rfl | rfl | rfl <;> simp) ?_
            exact J86_8257 (by rw [hta9, i27_0_5422]; exact (rE_st (fun h => by have q := bW_t.mp h.2; (clear p_bw hjs i16_0_5421; omega))).symm)
          · skip
            skip
            skip
            refine g_forget (l1 := [(0, vR 111), (1, vI 1), (2, vI (P 111 3))]) (by intro q hq; simp only [List.mem_cons, List.not_mem_nil, or_false] at hq ⊢; rcases hq with rfl | rfl | rfl <;> simp) ?_
            exact J73_8575 (by have q0 := bx_46_3 (o := 111) hB27_5422 (⟨by decide, rfl⟩ : kx 111 46); (clear p_bw hjs i16_0_5421 k8578; omega))
    refine g_forget (l1 := [(0, vR 111), (1, vI 1), (2, vI (P 111 3))]) (by intro q hq; simp only [List.mem_cons, List.not_mem_nil, or_false] at hq ⊢; rcases hq with rfl | rfl | rfl <;> simp) ?_
    exact L27_5422 _ _ hB FrX.rf (by first | (have q3 := (rfl : P 111 3 = (P 111 3)); rw [q3]; (first | (clear p_bw hjs i16_0_5421; omega) | (clear p_bw hjs; omega) | (clear p_bw i16_0_5421; omega) | (clear hjs i16_0_5421; omega) | (clear p_bw; omega) | omega)) | rw [p_q.1]) (by have q0 := bx_46_3 (o := 111) hB (⟨by decide, rfl⟩ : kx 111 46); (clear p_bw hjs i16_0_5421; omega)) (Nat.lt_succ_self _)
  refine g_icmp_eq (tgt := 16) dX7_step_5 (by decide) ⟨by have q0 := bx_46_4 (o := 111) hB (⟨by decide, rfl⟩ : kx 111 46); (clear p_bw hjs; omega), by have q0 := bx_46_4 (o := 111) hB (⟨by decide, rfl⟩ : kx 111 46); (clear p_bw hjs; omega)⟩ (by decide) (fun k8580 => ?_) (fun k8580 => ?_)
  · skip
    skip
    refine g_forget (l1 := [(0, vR 111)]) (by intro q hq; simp only [List.mem_cons, List.not_mem_nil, or_false] at hq ⊢; rcases hq with rfl <;> simp) ?_
    exact J16_5421 (by (clear p_bw hjs; omega))
  · skip
    skip
    refine g_aload_n dX7_step_8 rfl ?_
    refine x_g46_4 (z := (P 111 4)) (⟨by decide, rfl⟩ : kx 111 46) ffX7_75 dX7_step_9 rfl ?_
    refine g_iconst dX7_step_12 ?_
    refine g_icmp_ne (tgt := 20) dX7_step_13 (by decide) ⟨by have q0 := bx_46_4 (o := 111) hB (⟨by decide, rfl⟩ : kx 111 46); (clear p_bw hjs k8580; omega), by have q0 := bx_46_4 (o := 111) hB (⟨by decide, rfl⟩ : kx 111 46); (clear p_bw hjs k8580; omega)⟩ (by decide) (fun k8581 => ?_) (fun k8581 => ?_)
    · skip
      skip
      refine g_iconst dX7_step_20 ?_
      refine g_istore_n (l1 := [(1, vI 0), (0, vR 111)]) dX7_step_21 (by decide) rfl ?_
      refine g_aload_n dX7_step_22 rfl ?_
      refine x_g46_3 (z := (P 111 3)) (⟨by decide, rfl⟩ : kx 111 46) ffX7_72 dX7_step_23 rfl ?_
      refine g_istore_n (l1 := [(2, vI (P 111 3)), (1, vI 0), (0, vR 111)]) dX7_step_26 (by decide) rfl ?_
      have L27_8581 : ∀ (n27_8581 : Nat) (H27_8581 : PH) (hB27_8581 : BdX H27_8581) (hE27_8581 : FrX ([(46, 3)], []) P H27_8581) (i27_0_8581 : rE bW T q = rE bW T (H27_8581 111 3)) (i27_1_8581 : 0 ≤ H27_8581 111 3) (hm27_8581 : (1601 - H27_8581 111 3 : Int).toNat < n27_8581), Go WSX G 2 iX7_step 27 [(0, vR 111), (1, vI 0), (2, vI (P 111 3))] [] H27_8581 Q := by
        intro n27_8581
        induction n27_8581 with
        | zero => intro H27_8581 hB27_8581 hE27_8581 i27_0_8581 i27_1_8581 hm27_8581; exact absurd hm27_8581 (Nat.not_lt_zero _)
        | succ n27_8581 ih27_8581 =>
        intro H27_8581 hB27_8581 hE27_8581 i27_0_8581 i27_1_8581 hm27_8581
        have hT := z0.2 ((H27_8581 111 3))
        refine g_aload_n dX7_step_27 rfl ?_
        refine x_g46_3 (z := (H27_8581 111 3)) (⟨by decide, rfl⟩ : kx 111 46) ffX7_72 dX7_step_28 rfl ?_
        have f10391 := bx_46_3 (o := 111) hB27_8581 (⟨by decide, rfl⟩ : kx 111 46)
        have J86_10616 : ∀ (i86_0_10616 : H27_8581 111 3 = tA T q), Go WSX G 2 iX7_step 86 [(0, vR 111), (1, vI 0), (2, vI (P 111 3))] [] H27_8581 Q := by
          intro i86_0_10616
          refine g_aload_n dX7_step_86 rfl ?_
          refine g_aload_n dX7_step_87 rfl ?_
          refine x_g46_3 (z := (H27_8581 111 3)) (⟨by decide, rfl⟩ : kx 111 46) ffX7_72 dX7_step_88 rfl ?_
          refine x_p46_5 (⟨by decide, rfl⟩ : kx 111 46) pfX7_81 dX7_step_91 ?_
          have hB10618 := by_46_5 (z := (H27_8581 111 3)) hB27_8581 (⟨by decide, rfl⟩ : kx 111 46) ⟨by have q0 := bx_46_3 (o := 111) hB27_8581 (⟨by decide, rfl⟩ : kx 111 46); (clear p_bw hjs k8580 k8581; omega), by have q0 := bx_46_3 (o := 111) hB27_8581 (⟨by decide, rfl⟩ : kx 111 46); (clear p_bw hjs k8580 k8581; omega)⟩
          refine g_aload_n dX7_step_94 rfl ?_
          refine g_aload_n dX7_step_95 rfl ?_
          refine x_g46_3 (z := (H27_8581 111 3)) (⟨by decide, rfl⟩ : kx 111 46) ffX7_72 dX7_step_96 ((up_k (by decide)).trans rfl) ?_
          refine x_p46_6 (⟨by decide, rfl⟩ : kx 111 46) pfX7_84 dX7_step_99 ?_
          have hB10619 := by_46_6 (z := (H27_8581 111 3)) hB10618 (⟨by decide, rfl⟩ : kx 111 46) ⟨by have q0 := bx_46_3 (o := 111) hB27_8581 (⟨by decide, rfl⟩ : kx 111 46); (clear p_bw hjs k8580 k8581; omega), by have q0 := bx_46_3 (o := 111) hB27_8581 (⟨by decide, rfl⟩ : kx 111 46); (clear p_bw hjs k8580 k8581; omega)⟩
          refine g_aload_n dX7_step_102 rfl ?_
          refine g_iconst dX7_step_103 ?_
          refine x_p46_8 (⟨by decide, rfl⟩ : kx 111 46) pfX7_87 dX7_step_104 ?_
          have hB10620 := by_46_8 (z := (-1)) hB10619 (⟨by decide, rfl⟩ : kx 111 46) (by decide)
          refine g_aload_n dX7_step_107 rfl ?_
          refine g_iconst dX7_step_108 ?_
          refine x_p46_7 (⟨by decide, rfl⟩ : kx 111 46) pfX7_90 dX7_step_109 ?_
          have hB10621 := by_46_7 (z := 0) hB10620 (⟨by decide, rfl⟩ : kx 111 46) (by decide)
          refine g_aload_n dX7_step_112 rfl ?_
          refine x_g46_3 (z := (H27_8581 111 3)) (⟨by decide, rfl⟩ : kx 111 46) ffX7_72 dX7_step_113 ((up_k (by decide)).trans ((up_k (by decide)).trans ((up_k (by decide)).trans ((up_k (by decide)).trans rfl)))) ?_
          refine g_if_lt (tgt := 130) dX7_step_116 (by decide) ⟨by have q0 := bx_46_3 (o := 111) hB27_8581 (⟨by decide, rfl⟩ : kx 111 46); (clear p_bw hjs k8580 k8581; omega), by have q0 := bx_46_3 (o := 111) hB27_8581 (⟨by decide, rfl⟩ : kx 111 46); (clear p_bw hjs k8580 k8581; omega)⟩ (fun k10622 => by exfalso; have q0 := bx_46_3 (o := 111) hB27_8581 (⟨by decide, rfl⟩ : kx 111 46); (clear p_bw hjs k8580 k8581; omega)) (fun k10622 => ?_)
          skip
          skip
          refine g_aload_n dX7_step_119 rfl ?_
          refine x_g46_3 (z := (H27_8581 111 3)) (⟨by decide, rfl⟩ : kx 111 46) ffX7_72 dX7_step_120 ((up_k (by decide)).trans ((up_k (by decide)).trans ((up_k (by decide)).trans ((up_k (by decide)).trans rfl)))) ?_
          refine g_aload_n dX7_step_123 rfl ?_
          refine x_g46_2 (z := (P 111 2)) (⟨by decide, rfl⟩ : kx 111 46) ffX7_71 dX7_step_124 ((up_k (by decide)).trans ((up_k (by decide)).trans ((up_k (by decide)).trans ((up_k (by decide)).trans ((FrX.g hE27_8581 (⟨by decide, rfl⟩ : kx 111 46) rfl).trans rfl))))) ?_
          have f10623 := bx_46_2 (o := 111) hB (⟨by decide, rfl⟩ : kx 111 46)
          refine g_icmp_lt (tgt := 136) dX7_step_127 (by decide) ⟨by have q0 := bx_46_3 (o := 111) hB27_8581 (⟨by decide, rfl⟩ : kx 111 46); (clear p_bw hjs k8580 k8581; omega), by have q0 := bx_46_3 (o := 111) hB27_8581 (⟨by decide, rfl⟩ : kx 111 46); (clear p_bw hjs k8580 k8581; omega)⟩ ⟨by have q0 := bx_46_2 (o := 111) hB (⟨by decide, rfl⟩ : kx 111 46); (clear p_bw hjs k8580 k8581; omega), by have q0 := bx_46_2 (o := 111) hB (⟨by decide, rfl⟩ : kx 111 46); (clear p_bw hjs k8580 k8581; omega)⟩ (fun k10624 => ?_) (fun k10624 => ?_)
          · skip
            skip
            have hTq : P 2 ((H27_8581 111 3)) = T.1 (tA T q) := by rw [show ((H27_8581 111 3) : Int) = tA T q by (clear p_bw hjs k8580 k8581; omega)]; exact z0.2 _ (by (clear p_bw hjs k8580 k8581; omega)) (by (clear p_bw hjs k8580 k8581; omega))
            refine g_aload_n dX7_step_136 rfl ?_
            refine x_g46_1 (n := 2) (⟨by decide, rfl⟩ : kx 111 46) ffX7_41 dX7_step_137 (TX.fr (F := ([(46, 3), (46, 5), (46, 6), (46, 7), (46, 8)], [])) v_TX (FrX.s (FrX.s (FrX.s (FrX.s (FrX.c FrX.rf hE27_8581 rfl) (⟨by decide, rfl⟩ : kx 111 46) rfl) (⟨by decide, rfl⟩ : kx 111 46) rfl) (⟨by decide, rfl⟩ : kx 111 46) rfl) (⟨by decide, rfl⟩ : kx 111 46) rfl) rfl) ?_
            refine g_aload_n dX7_step_140 rfl ?_
            refine x_g46_3 (z := (H27_8581 111 3)) (⟨by decide, rfl⟩ : kx 111 46) ffX7_72 dX7_step_141 ((up_k (by decide)).trans ((up_k (by decide)).trans ((up_k (by decide)).trans ((up_k (by decide)).trans rfl)))) ?_
            refine x_l2 (z := (P 2 (H27_8581 111 3))) (⟨by decide, rfl⟩ : kx 2 2) dX7_step_144 ⟨by have q0 := bx_46_3 (o := 111) hB27_8581 (⟨by decide, rfl⟩ : kx 111 46); (clear p_bw hjs k8580 k8581; omega), by have q0 := bx_46_3 (o := 111) hB27_8581 (⟨by decide, rfl⟩ : kx 111 46); (clear p_bw hjs k8580 k8581; omega)⟩ ((up_o (kx.ne (⟨by decide, rfl⟩ : kx 2 2) (⟨by decide, rfl⟩ : kx 111 46) rfl)).trans ((up_o (kx.ne (⟨by decide, rfl⟩ : kx 2 2) (⟨by decide, rfl⟩ : kx 111 46) rfl)).trans ((up_o (kx.ne (⟨by decide, rfl⟩ : kx 2 2) (⟨by decide, rfl⟩ : kx 111 46) rfl)).trans ((up_o (kx.ne (⟨by decide, rfl⟩ : kx 2 2) (⟨by decide, rfl⟩ : kx 111 46) rfl)).trans ((FrX.g hE27_8581 (⟨by decide, rfl⟩ : kx 2 2) rfl).trans rfl))))) ?_
            refine g_istore_n (l1 := [(3, vI (P 2 (H27_8581 111 3))), (0, vR 111), (1, vI 0), (2, vI (P 111 3))]) dX7_step_145 (by decide) rfl ?_
            have hc3 : (P 2 (H27_8581 111 3)) = T.1 (tA T q) := by (clear p_bw hjs k8580 k8581; omega)
            refine g_iload_n dX7_step_146 rfl ?_
            refine g_bipush dX7_step_147 (by decide) ?_
            have f10625 := bx_2 (o := 2) (k := (H27_8581 111 3)) hB (⟨by decide, rfl⟩ : kx 2 2)
            have J162_10727 : ∀ (i162_0_10727 : (P 2 (H27_8581 111 3)) < 97 ∨ 122 < (P 2 (H27_8581 111 3))), Go WSX G 2 iX7_step 162 [(0, vR 111), (1, vI 0), (2, vI (P 111 3)), (3, vI (P 2 (H27_8581 111 3)))] [] (up (up (up (up H27_8581 111 5 (H27_8581 111 3)) 111 6 (H27_8581 111 3)) 111 8 (-1)) 111 7 0) Q := by
              intro i162_0_10727
              refine g_iconst dX7_step_162 ?_
              refine g_istore (l1 := [(4, vI 0), (0, vR 111), (1, vI 0), (2, vI (P 111 3)), (3, vI (P 2 (H27_8581 111 3)))]) dX7_step_163 (by decide) rfl ?_
              refine g_iload_n dX7_step_165 rfl ?_
              refine g_bipush dX7_step_166 (by decide) ?_
              have J181_10758 : ∀ (i181_0_10758 : (P 2 (H27_8581 111 3)) < 48 ∨ 57 < (P 2 (H27_8581 111 3))), Go WSX G 2 iX7_step 181 [(0, vR 111), (1, vI 0), (2, vI (P 111 3)), (3, vI (P 2 (H27_8581 111 3))), (4, vI 0)] [] (up (up (up (up H27_8581 111 5 (H27_8581 111 3)) 111 6 (H27_8581 111 3)) 111 8 (-1)) 111 7 0) Q := by
                intro i181_0_10758
                refine g_iconst dX7_step_181 ?_
                refine g_istore (l1 := [(5, vI 0), (0, vR 111), (1, vI 0), (2, vI (P 111 3)), (3, vI (P 2 (H27_8581 111 3))), (4, vI 0)]) dX7_step_182 (by decide) rfl ?_
                refine g_iload dX7_step_184 rfl ?_
                refine g_if_ne (tgt := 217) dX7_step_186 (by decide) (by decide) (fun k10764 => by exfalso; (clear p_bw hjs k8580 k8581 i162_0_10727 i181_0_10758; omega)) (fun k10764 => ?_)
                skip
                skip
                skip
                skip
                refine g_iload dX7_step_189 rfl ?_
                refine g_if_ne (tgt := 217) dX7_step_191 (by decide) (by decide) (fun k10765 => by exfalso; (clear p_bw hjs k8580 k8581 i162_0_10727 i181_0_10758; omega)) (fun k10765 => ?_)
                skip
                skip
                skip
                skip
                refine g_aload_n dX7_step_194 rfl ?_
                refine g_iconst dX7_step_195 ?_
                refine x_p46_4 (⟨by decide, rfl⟩ : kx 111 46) pfX7_75 dX7_step_196 ?_
                have hB10766 := by_46_4 (z := 3) hB10621 (⟨by decide, rfl⟩ : kx 111 46) (by decide)
                refine g_aload_n dX7_step_199 rfl ?_
                refine g_iload_n dX7_step_200 rfl ?_
                refine x_p46_7 (⟨by decide, rfl⟩ : kx 111 46) pfX7_90 dX7_step_201 ?_
                have hB10767 := by_46_7 (z := (P 2 (H27_8581 111 3))) hB10766 (⟨by decide, rfl⟩ : kx 111 46) ⟨by have q0 := bx_2 (o := 2) (k := (H27_8581 111 3)) hB (⟨by decide, rfl⟩ : kx 2 2); (clear p_bw hjs k8580 k8581 i162_0_10727 i181_0_10758; omega), by have q0 := bx_2 (o := 2) (k := (H27_8581 111 3)) hB (⟨by decide, rfl⟩ : kx 2 2); (clear p_bw hjs k8580 k8581 i162_0_10727 i181_0_10758; omega)⟩
                refine g_aload_n dX7_step_204 rfl ?_
                refine g_dup dX7_step_205 rfl ?_
                refine x_g46_3 (z := (H27_8581 111 3)) (⟨by decide, rfl⟩ : kx 111 46) ffX7_72 dX7_step_206 ((up_k (by decide)).trans ((up_k (by decide)).trans ((up_k (by decide)).trans ((up_k (by decide)).trans ((up_k (by decide)).trans ((up_k (by decide)).trans rfl)))))) ?_
                refine g_iconst dX7_step_209 ?_
                refine g_iadd dX7_step_210 ?_
                refine x_p46_3 (⟨by decide, rfl⟩ : kx 111 46) pfX7_72 dX7_step_211 ?_
                have hB10768 := by_46_3 (z := ((H27_8581 111 3) + 1)) hB10767 (⟨by decide, rfl⟩ : kx 111 46) ⟨by have q0 := bx_46_3 (o := 111) hB27_8581 (⟨by decide, rfl⟩ : kx 111 46); (clear p_bw hjs k8580 k8581 i162_0_10727 i181_0_10758; omega), by have q0 := bx_46_3 (o := 111) hB27_8581 (⟨by decide, rfl⟩ : kx 111 46); (clear p_bw hjs k8580 k8581 i162_0_10727 i181_0_10758; omega)⟩
                refine g_goto (tgt := 253) dX7_step_214 (by decide) ?_
                exact g_retV dX7_step_253 rfl (hQ _ hB10768 (FrX.s (FrX.s (FrX.s (FrX.s (FrX.s (FrX.s (FrX.s (FrX.c FrX.rf hE27_8581 rfl) (⟨by decide, rfl⟩ : kx 111 46) rfl) (⟨by decide, rfl⟩ : kx 111 46) rfl) (⟨by decide, rfl⟩ : kx 111 46) rfl) (⟨by decide, rfl⟩ : kx 111 46) rfl) (⟨by decide, rfl⟩ : kx 111 46) rfl) (⟨by decide, rfl⟩ : kx 111 46) rfl) (⟨by decide, rfl⟩ : kx 111 46) rfl) (by first | exact hNONE | (have q3 := (up_same : (up (up (up (up (up (up (up H27_8581 111 5 (H27_8581 111 3)) 111 6 (H27_8581 111 3)) 111 8 (-1)) 111 7 0) 111 4 3) 111 7 (P 2 (H27_8581 111 3))) 111 3 ((H27_8581 111 3) + 1)) 111 3 = ((H27_8581 111 3) + 1)); have q4 := (((up_k (by decide)).trans ((up_k (by decide)).trans up_same)) : (up (up (up (up (up (up (up H27_8581 111 5 (H27_8581 111 3)) 111 6 (H27_8581 111 3)) 111 8 (-1)) 111 7 0) 111 4 3) 111 7 (P 2 (H27_8581 111 3))) 111 3 ((H27_8581 111 3) + 1)) 111 4 = 3); have q5 := (((up_k (by decide)).trans ((up_k (by decide)).trans ((up_k (by decide)).trans ((up_k (by decide)).trans ((up_k (by decide)).trans ((up_k (by decide)).trans up_same)))))) : (up (up (up (up (up (up (up H27_8581 111 5 (H27_8581 111 3)) 111 6 (H27_8581 111 3)) 111 8 (-1)) 111 7 0) 111 4 3) 111 7 (P 2 (H27_8581 111 3))) 111 3 ((H27_8581 111 3) + 1)) 111 5 = (H27_8581 111 3)); have q6 := (((up_k (by decide)).trans ((up_k (by decide)).trans ((up_k (by decide)).trans ((up_k (by decide)).trans ((up_k (by decide)).trans up_same))))) : (up (up (up (up (up (up (up H27_8581 111 5 (H27_8581 111 3)) 111 6 (H27_8581 111 3)) 111 8 (-1)) 111 7 0) 111 4 3) 111 7 (P 2 (H27_8581 111 3))) 111 3 ((H27_8581 111 3) + 1)) 111 6 = (H27_8581 111 3)); have q7 := (((up_k (by decide)).trans up_same) : (up (up (up (up (up (up (up H27_8581 111 5 (H27_8581 111 3)) 111 6 (H27_8581 111 3)) 111 8 (-1)) 111 7 0) 111 4 3) 111 7 (P 2 (H27_8581 111 3))) 111 3 ((H27_8581 111 3) + 1)) 111 7 = (P 2 (H27_8581 111 3))); have q8 := (((up_k (by decide)).trans ((up_k (by decide)).trans ((up_k (by decide)).trans ((up_k (by decide)).trans up_same)))) : (up (up (up (up (up (up (up H27_8581 111 5 (H27_8581 111 3)) 111 6 (H27_8581 111 3)) 111 8 (-1)) 111 7 0) 111 4 3) 111 7 (P 2 (H27_8581 111 3))) 111 3 ((H27_8581 111 3) + 1)) 111 8 = (-1)); first | exact XS.sig ⟨by (clear p_bw hjs k8580 k8581 i162_0_10727 i181_0_10758; omega), by (clear p_bw hjs k8580 k8581 i162_0_10727 i181_0_10758; omega)⟩ (by (clear p_bw hjs k8580 k8581 i162_0_10727 i181_0_10758; omega)) (by (clear p_bw hjs k8580 k8581 i162_0_10727 i181_0_10758; omega)) (by (clear p_bw hjs k8580 k8581 i162_0_10727 i181_0_10758; omega)) (by (clear p_bw hjs k8580 k8581 i162_0_10727 i181_0_10758; omega)) (by (clear p_bw hjs k8580 k8581 i162_0_10727 i181_0_10758; omega)) (by (clear p_bw hjs k8580 k8581 i162_0_10727 i181_0_10758; omega)) (by (clear p_bw hjs k8580 k8581 i181_0_10758; omega)) (by (clear p_bw hjs k8580 k8581 i162_0_10727; omega)) | exact XS.badj ⟨by (first | (clear p_bw hjs k8580 k8581 i162_0_10727 i181_0_10758; omega) | (clear p_bw hjs k8580 k8581 i162_0_10727; omega) | (clear p_bw hjs k8580 k8581 i181_0_10758; omega) | (clear p_bw hjs k8580 i162_0_10727 i181_0_10758; omega) | (clear p_bw hjs k8581 i162_0_10727 i181_0_10758; omega) | (clear p_bw k8580 k8581 i162_0_10727 i181_0_10758; omega) | (clear hjs k8580 k8581 i162_0_10727 i181_0_10758; omega) | (clear p_bw hjs k8580 k8581; omega) | (clear hjs p_bw; omega) | omega), by (first | (clear p_bw hjs k8580 k8581 i162_0_10727 i181_0_10758; omega) | (clear p_bw hjs k8580 k8581 i162_0_10727; omega) | (clear p_bw hjs k8580 k8581 i181_0_10758; omega) | (clear p_bw hjs k8580 i162_0_10727 i181_0_10758; omega) | (clear p_bw hjs k8581 i162_0_10727 i181_0_10758; omega) | (clear p_bw k8580 k8581 i162_0_10727 i181_0_10758; omega) | (clear hjs k8580 k8581 i162_0_10727 i181_0_10758; omega) | (clear p_bw hjs k8580 k8581; omega) | (clear hjs p_bw; omega) | omega)⟩ (by (first | (clear p_bw hjs k8580 k8581 i162_0_10727 i181_0_10758; omega) | (clear p_bw hjs k8580 k8581 i162_0_10727; omega) | (clear p_bw hjs k8580 k8581 i181_0_10758; omega) | (clear p_bw hjs k8580 i162_0_10727 i181_0_10758; omega) | (clear p_bw hjs k8581 i162_0_10727 i181_0_10758; omega) | (clear p_bw k8580 k8581 i162_0_10727 i181_0_10758; omega) | (clear hjs k8580 k8581 i162_0_10727 i181_0_10758; omega) | (clear p_bw hjs k8580 k8581; omega) | (clear hjs p_bw; omega) | omega)) (by (first | (clear p_bw hjs k8580 k8581 i162_0_10727 i181_0_10758; omega) | (clear p_bw hjs k8580 k8581 i162_0_10727; omega) | (clear p_bw hjs k8580 k8581 i181_0_10758; omega) | (clear p_bw hjs k8580 i162_0_10727 i181_0_10758; omega) | (clear p_bw hjs k8581 i162_0_10727 i181_0_10758; omega) | (clear p_bw k8580 k8581 i162_0_10727 i181_0_10758; omega) | (clear hjs k8580 k8581 i162_0_10727 i181_0_10758; omega) | (clear p_bw hjs k8580 k8581; omega) | (clear hjs p_bw; omega) | omega)) (by (first | (clear p_bw hjs k8580 k8581 i162_0_10727 i181_0_10758; omega) | (clear p_bw hjs k8580 k8581 i162_0_10727; omega) | (clear p_bw hjs k8580 k8581 i181_0_10758; omega) | (clear p_bw hjs k8580 i162_0_10727 i181_0_10758; omega) | (clear p_bw hjs k8581 i162_0_10727 i181_0_10758; omega) | (clear p_bw k8580 k8581 i162_0_10727 i181_0_10758; omega) | (clear hjs k8580 k8581 i162_0_10727 i181_0_10758; omega) | (clear p_bw hjs k8580 k8581; omega) | (clear hjs p_bw; omega) | omega)) (by (first | (clear p_bw hjs k8580 k8581 i162_0_10727 i181_0_10758; omega) | (clear p_bw hjs k8580 k8581 i162_0_10727; omega) | (clear p_bw hjs k8580 k8581 i181_0_10758; omega) | (clear p_bw hjs k8580 i162_0_10727 i181_0_10758; omega) | (clear p_bw hjs k8581 i162_0_10727 i181_0_10758; omega) | (clear p_bw k8580 k8581 i162_0_10727 i181_0_10758; omega) | (clear hjs k8580 k8581 i162_0_10727 i181_0_10758; omega) | (clear p_bw hjs k8580 k8581; omega) | (clear hjs p_bw; omega) | omega)) (by (first | (clear p_bw hjs k8580 k8581 i162_0_10727 i181_0_10758; omega) | (clear p_bw hjs k8580 k8581 i162_0_10727; omega) | (clear p_bw hjs k8580 k8581 i181_0_10758; omega) | (clear p_bw hjs k8580 i162_0_10727 i181_0_10758; omega) | (clear p_bw hjs k8581 i162_0_10727 i181_0_10758; omega) | (clear p_bw k8580 k8581 i162_0_10727 i181_0_10758; omega) | (clear hjs k8580 k8581 i162_0_10727 i181_0_10758; omega) | (clear p_bw hjs k8580 k8581; omega) | (clear hjs p_bw; omega) | omega)) (by (first | (clear p_bw hjs k8580 k8581 i162_0_10727 i181_0_10758; omega) | (clear p_bw hjs k8580 k8581 i162_0_10727; omega) | (clear p_bw hjs k8580 k8581 i181_0_10758; omega) | (clear p_bw hjs k8580 i162_0_10727 i181_0_10758; omega) | (clear p_bw hjs k8581 i162_0_10727 i181_0_10758; omega) | (clear p_bw k8580 k8581 i162_0_10727 i181_0_10758; omega) | (clear hjs k8580 k8581 i162_0_10727 i181_0_10758; omega) | (clear p_bw hjs k8580 k8581; omega) | (clear hjs p_bw; omega) | omega)) (by (first | (clear p_bw hjs k8580 k8581 i162_0_10727 i181_0_10758; omega) | (clear p_bw hjs k8580 k8581 i162_0_10727; omega) | (clear p_bw hjs k8580 k8581 i181_0_10758; omega) | (clear p_bw hjs k8580 i162_0_10727 i181_0_10758; omega) | (clear p_bw hjs k8581 i162_0_10727 i181_0_10758; omega) | (clear p_bw k8580 k8581 i162_0_10727 i181_0_10758; omega) | (clear hjs k8580 k8581 i162_0_10727 i181_0_10758; omega) | (clear p_bw hjs k8580 k8581; omega) | (clear hjs p_bw; omega) | omega)))))
              refine g_icmp_lt (tgt := 181) dX7_step_168 (by decide) ⟨by have q0 := bx_2 (o := 2) (k := (H27_8581 111 3)) hB (⟨by decide, rfl⟩ : kx 2 2); (clear p_bw hjs k8580 k8581 i162_0_10727; omega), by have q0 := bx_2 (o := 2) (k := (H27_8581 111 3)) hB (⟨by decide, rfl⟩ : kx 2 2); (clear p_bw hjs k8580 k8581 i162_0_10727; omega)⟩ (by decide) (fun k10769 => ?_) (fun k10769 => ?_)
              · have r_i162_0_10727 := (i162_0_10727.resolve_right (by (clear p_bw hjs k8580 k8581 i162_0_10727; omega)))
                skip
                skip
                refine g_forget (l1 := [(0, vR 111), (1, vI 0), (2, vI (P 111 3)), (3, vI (P 2 (H27_8581 111 3))), (4, vI 0)]) (by intro q hq; simp only [List.mem_cons, List.not_mem_nil, or_false] at hq ⊢; rcases hq with rfl | rfl | rfl | rfl | rfl <;> simp) ?_
                exact J181_10758 (by (clear p_bw hjs k8580 k8581 i162_0_10727; omega))
              · skip
                skip
                skip
                refine g_iload_n dX7_step_171 rfl ?_
                refine g_bipush dX7_step_172 (by decide) ?_
                refine g_icmp_gt (tgt := 181) dX7_step_174 (by decide) ⟨by have q0 := bx_2 (o := 2) (k := (H27_8581 111 3)) hB (⟨by decide, rfl⟩ : kx 2 2); (clear p_bw hjs k8580 k8581 i162_0_10727; omega), by have q0 := bx_2 (o := 2) (k := (H27_8581 111 3)) hB (⟨by decide, rfl⟩ : kx 2 2); (clear p_bw hjs k8580 k8581 i162_0_10727; omega)⟩ (by decide) (fun k10770 => ?_) (fun k10770 => ?_)
                · skip
                  skip
                  skip
                  refine g_forget (l1 := [(0, vR 111), (1, vI 0), (2, vI (P 111 3)), (3, vI (P 2 (H27_8581 111 3))), (4, vI 0)]) (by intro q hq; simp only [List.mem_cons, List.not_mem_nil, or_false] at hq ⊢; rcases hq with rfl | rfl | rfl | rfl | rfl <;> simp) ?_
                  exact J181_10758 (by (clear p_bw hjs k8580 k8581 i162_0_10727; omega))
                · have r_i162_0_10727 := (i162_0_10727.resolve_right (by (clear p_bw hjs k8580 k8581 i162_0_10727; omega)))
                  skip
                  skip
                  refine g_iconst dX7_step_177 ?_
                  refine g_goto (tgt := 182) dX7_step_178 (by decide) ?_
                  refine g_istore (l1 := [(5, vI 1), (4, vI 0), (0, vR 111), (1, vI 0), (2, vI (P 111 3)), (3, vI (P 2 (H27_8581 111 3)))]) dX7_step_182 (by decide) rfl ?_
                  refine g_iload dX7_step_184 rfl ?_
                  have J217_10779 : ∀ (i217_0_10779 : (0 = 1 ∧ 97 ≤ T.1 (tA T q) ∧ T.1 (tA T q) ≤ 122) ∨ (0 = 0 ∧ 48 ≤ T.1 (tA T q) ∧ T.1 (tA T q) ≤ 57)), Go WSX G 2 iX7_step 217 [(0, vR 111), (1, vI 0), (2, vI (P 111 3)), (4, vI 0)] [] (up (up (up (up H27_8581 111 5 (H27_8581 111 3)) 111 6 (H27_8581 111 3)) 111 8 (-1)) 111 7 0) Q := by
                    intro i217_0_10779
                    refine g_iload_n dX7_step_217 rfl ?_
                    have J237_10783 : ∀ (i237_0_10783 : tJn T q = 0), Go WSX G 2 iX7_step 237 [(0, vR 111), (4, vI 0)] [] (up (up (up (up H27_8581 111 5 (H27_8581 111 3)) 111 6 (H27_8581 111 3)) 111 8 (-1)) 111 7 0) Q := by
                      intro i237_0_10783
                      refine g_iload dX7_step_237 rfl ?_
                      refine g_if_eq (tgt := 249) dX7_step_239 (by decide) (by decide) (fun k10785 => ?_) (fun k10785 => by exfalso; (clear p_bw hjs k8580 k8581 i162_0_10727 i217_0_10779; omega))
                      have r_i217_0_10779 := (i217_0_10779.resolve_left (by (clear p_bw hjs k8580 k8581 i162_0_10727 i217_0_10779; omega)))
                      skip
                      have r_hjs := (hjs.resolve_left (by (clear p_bw hjs k8580 k8581 i162_0_10727 i217_0_10779; omega)))
                      skip
                      refine g_aload_n dX7_step_249 rfl ?_
                      refine g_vV (av := []) (o := 111) (st := []) (f_X7_stepNumber G (up (up (up (up H27_8581 111 5 (H27_8581 111 3)) 111 6 (H27_8581 111 3)) 111 8 (-1)) 111 7 0) T q  hB10621 (by have q0 := (((up_k (by decide)).trans ((up_k (by decide)).trans ((up_k (by decide)).trans ((up_k (by decide)).trans rfl)))) : (up (up (up (up H27_8581 111 5 (H27_8581 111 3)) 111 6 (H27_8581 111 3)) 111 8 (-1)) 111 7 0) 111 3 = (H27_8581 111 3)); have q1 := bx_46_3 (o := 111) hB27_8581 (⟨by decide, rfl⟩ : kx 111 46); have q2 := (((up_k (by decide)).trans ((up_k (by decide)).trans ((up_k (by decide)).trans up_same))) : (up (up (up (up H27_8581 111 5 (H27_8581 111 3)) 111 6 (H27_8581 111 3)) 111 8 (-1)) 111 7 0) 111 5 = (H27_8581 111 3)); have q3 := (up_same : (up (up (up (up H27_8581 111 5 (H27_8581 111 3)) 111 6 (H27_8581 111 3)) 111 8 (-1)) 111 7 0) 111 7 = 0); have q4 := (((up_k (by decide)).trans up_same) : (up (up (up (up H27_8581 111 5 (H27_8581 111 3)) 111 6 (H27_8581 111 3)) 111 8 (-1)) 111 7 0) 111 8 = (-1)); (clear p_bw hjs k8580 k8581 i162_0_10727 i217_0_10779; omega)) (by (clear p_bw hjs k8580 k8581 i162_0_10727 i217_0_10779; omega)) (TX.fr (F := ([(46, 3), (46, 5), (46, 6), (46, 7), (46, 8)], [])) v_TX (FrX.s (FrX.s (FrX.s (FrX.s (FrX.c FrX.rf hE27_8581 rfl) (⟨by decide, rfl⟩ : kx 111 46) rfl) (⟨by decide, rfl⟩ : kx 111 46) rfl) (⟨by decide, rfl⟩ : kx 111 46) rfl) (⟨by decide, rfl⟩ : kx 111 46) rfl) rfl) ((XT.fr (F := ([(46, 3), (46, 5), (46, 6), (46, 7), (46, 8)], [])) z0 (FrX.s (FrX.s (FrX.s (FrX.s (FrX.c FrX.rf hE27_8581 rfl) (⟨by decide, rfl⟩ : kx 111 46) rfl) (⟨by decide, rfl⟩ : kx 111 46) rfl) (⟨by decide, rfl⟩ : kx 111 46) rfl) (⟨by decide, rfl⟩ : kx 111 46) rfl) rfl)) _ (fun Pc10786 hBc10786 hFc10786 ec10786_0 => ⟨rfl, ?_⟩)) cf_X7_stepNumber t_715 rfl (show kx 111 46 from (⟨by decide, rfl⟩ : kx 111 46)).1 ((show kx 111 46 from (⟨by decide, rfl⟩ : kx 111 46)).sh rfl) rfl rfl (Nat.le_of_ble_eq_true rfl) (by decide) rfl dX7_step_250
                      exact g_retV dX7_step_253 rfl (hQ _ hBc10786 (FrX.c (FrX.s (FrX.s (FrX.s (FrX.s (FrX.c FrX.rf hE27_8581 rfl) (⟨by decide, rfl⟩ : kx 111 46) rfl) (⟨by decide, rfl⟩ : kx 111 46) rfl) (⟨by decide, rfl⟩ : kx 111 46) rfl) (⟨by decide, rfl⟩ : kx 111 46) rfl) hFc10786 rfl) (by first | exact ec10786_0 | (have q3 := (rfl : Pc10786 111 3 = (Pc10786 111 3)); have q4 := (rfl : Pc10786 111 4 = (Pc10786 111 4)); have q5 := (((FrX.g hFc10786 (⟨by decide, rfl⟩ : kx 111 46) rfl).trans ((up_k (by decide)).trans ((up_k (by decide)).trans ((up_k (by decide)).trans up_same)))) : Pc10786 111 5 = (H27_8581 111 3)); have q6 := (rfl : Pc10786 111 6 = (Pc10786 111 6)); have q7 := (rfl : Pc10786 111 7 = (Pc10786 111 7)); have q8 := (((FrX.g hFc10786 (⟨by decide, rfl⟩ : kx 111 46) rfl).trans ((up_k (by decide)).trans up_same)) : Pc10786 111 8 = (-1)); first | exact XS.sig ⟨by (first | (clear p_bw hjs k8580 k8581 i162_0_10727 i217_0_10779; omega) | (clear p_bw hjs k8580 k8581 i162_0_10727; omega) | (clear p_bw hjs k8580 k8581 i217_0_10779; omega) | (clear p_bw hjs k8580 i162_0_10727 i217_0_10779; omega) | (clear p_bw hjs k8581 i162_0_10727 i217_0_10779; omega) | (clear p_bw k8580 k8581 i162_0_10727 i217_0_10779; omega) | (clear hjs k8580 k8581 i162_0_10727 i217_0_10779; omega) | (clear p_bw hjs k8580 k8581; omega) | (clear hjs p_bw; omega) | omega), by (first | (clear p_bw hjs k8580 k8581 i162_0_10727 i217_0_10779; omega) | (clear p_bw hjs k8580 k8581 i162_0_10727; omega) | (clear p_bw hjs k8580 k8581 i217_0_10779; omega) | (clear p_bw hjs k8580 i162_0_10727 i217_0_10779; omega) | (clear p_bw hjs k8581 i162_0_10727 i217_0_10779; omega) | (clear p_bw k8580 k8581 i162_0_10727 i217_0_10779; omega) | (clear hjs k8580 k8581 i162_0_10727 i217_0_10779; omega) | (clear p_bw hjs k8580 k8581; omega) | (clear hjs p_bw; omega) | omega)⟩ (by (first | (clear p_bw hjs k8580 k8581 i162_0_10727 i217_0_10779; omega) | (clear p_bw hjs k8580 k8581 i162_0_10727; omega) | (clear p_bw hjs k8580 k8581 i217_0_10779; omega) | (clear p_bw hjs k8580 i162_0_10727 i217_0_10779; omega) | (clear p_bw hjs k8581 i162_0_10727 i217_0_10779; omega) | (clear p_bw k8580 k8581 i162_0_10727 i217_0_10779; omega) | (clear hjs k8580 k8581 i162_0_10727 i217_0_10779; omega) | (clear p_bw hjs k8580 k8581; omega) | (clear hjs p_bw; omega) | omega)) (by (first | (clear p_bw hjs k8580 k8581 i162_0_10727 i217_0_10779; omega) | (clear p_bw hjs k8580 k8581 i162_0_10727; omega) | (clear p_bw hjs k8580 k8581 i217_0_10779; omega) | (clear p_bw hjs k8580 i162_0_10727 i217_0_10779; omega) | (clear p_bw hjs k8581 i162_0_10727 i217_0_10779; omega) | (clear p_bw k8580 k8581 i162_0_10727 i217_0_10779; omega) | (clear hjs k8580 k8581 i162_0_10727 i217_0_10779; omega) | (clear p_bw hjs k8580 k8581; omega) | (clear hjs p_bw; omega) | omega)) (by (first | (clear p_bw hjs k8580 k8581 i162_0_10727 i217_0_10779; omega) | (clear p_bw hjs k8580 k8581 i162_0_10727; omega) | (clear p_bw hjs k8580 k8581 i217_0_10779; omega) | (clear p_bw hjs k8580 i162_0_10727 i217_0_10779; omega) | (clear p_bw hjs k8581 i162_0_10727 i217_0_10779; omega) | (clear p_bw k8580 k8581 i162_0_10727 i217_0_10779; omega) | (clear hjs k8580 k8581 i162_0_10727 i217_0_10779; omega) | (clear p_bw hjs k8580 k8581; omega) | (clear hjs p_bw; omega) | omega)) (by (first | (clear p_bw hjs k8580 k8581 i162_0_10727 i217_0_10779; omega) | (clear p_bw hjs k8580 k8581 i162_0_10727; omega) | (clear p_bw hjs k8580 k8581 i217_0_10779; omega) | (clear p_bw hjs k8580 i162_0_10727 i217_0_10779; omega) | (clear p_bw hjs k8581 i162_0_10727 i217_0_10779; omega) | (clear p_bw k8580 k8581 i162_0_10727 i217_0_10779; omega) | (clear hjs k8580 k8581 i162_0_10727 i217_0_10779; omega) | (clear p_bw hjs k8580 k8581; omega) | (clear hjs p_bw; omega) | omega)) (by (first | (clear p_bw hjs k8580 k8581 i162_0_10727 i217_0_10779; omega) | (clear p_bw hjs k8580 k8581 i162_0_10727; omega) | (clear p_bw hjs k8580 k8581 i217_0_10779; omega) | (clear p_bw hjs k8580 i162_0_10727 i217_0_10779; omega) | (clear p_bw hjs k8581 i162_0_10727 i217_0_10779; omega) | (clear p_bw k8580 k8581 i162_0_10727 i217_0_10779; omega) | (clear hjs k8580 k8581 i162_0_10727 i217_0_10779; omega) | (clear p_bw hjs k8580 k8581; omega) | (clear hjs p_bw; omega) | omega)) (by (first | (clear p_bw hjs k8580 k8581 i162_0_10727 i217_0_10779; omega) | (clear p_bw hjs k8580 k8581 i162_0_10727; omega) | (clear p_bw hjs k8580 k8581 i217_0_10779; omega) | (clear p_bw hjs k8580 i162_0_10727 i217_0_10779; omega) | (clear p_bw hjs k8581 i162_0_10727 i217_0_10779; omega) | (clear p_bw k8580 k8581 i162_0_10727 i217_0_10779; omega) | (clear hjs k8580 k8581 i162_0_10727 i217_0_10779; omega) | (clear p_bw hjs k8580 k8581; omega) | (clear hjs p_bw; omega) | omega)) (by (first | (clear p_bw hjs k8580 k8581 i162_0_10727 i217_0_10779; omega) | (clear p_bw hjs k8580 k8581 i162_0_10727; omega) | (clear p_bw hjs k8580 k8581 i217_0_10779; omega) | (clear p_bw hjs k8580 i162_0_10727 i217_0_10779; omega) | (clear p_bw hjs k8581 i162_0_10727 i217_0_10779; omega) | (clear p_bw k8580 k8581 i162_0_10727 i217_0_10779; omega) | (clear hjs k8580 k8581 i162_0_10727 i217_0_10779; omega) | (clear p_bw hjs k8580 k8581; omega) | (clear hjs p_bw; omega) | omega)) (by (first | (clear p_bw hjs k8580 k8581 i162_0_10727 i217_0_10779; omega) | (clear p_bw hjs k8580 k8581 i162_0_10727; omega) | (clear p_bw hjs k8580 k8581 i217_0_10779; omega) | (clear p_bw hjs k8580 i162_0_10727 i217_0_10779; omega) | (clear p_bw hjs k8581 i162_0_10727 i217_0_10779; omega) | (clear p_bw k8580 k8581 i162_0_10727 i217_0_10779; omega) | (clear hjs k8580 k8581 i162_0_10727 i217_0_10779; omega) | (clear p_bw hjs k8580 k8581; omega) | (clear hjs p_bw; omega) | omega)) | exact XS.badj ⟨by (first | (clear p_bw hjs k8580 k8581 i162_0_10727 i217_0_10779; omega) | (clear p_bw hjs k8580 k8581 i162_0_10727; omega) | (clear p_bw hjs k8580 k8581 i217_0_10779; omega) | (clear p_bw hjs k8580 i162_0_10727 i217_0_10779; omega) | (clear p_bw hjs k8581 i162_0_10727 i217_0_10779; omega) | (clear p_bw k8580 k8581 i162_0_10727 i217_0_10779; omega) | (clear hjs k8580 k8581 i162_0_10727 i217_0_10779; omega) | (clear p_bw hjs k8580 k8581; omega) | (clear hjs p_bw; omega) | omega), by (first | (clear p_bw hjs k8580 k8581 i162_0_10727 i217_0_10779; omega) | (clear p_bw hjs k8580 k8581 i162_0_10727; omega) | (clear p_bw hjs k8580 k8581 i217_0_10779; omega) | (clear p_bw hjs k8580 i162_0_10727 i217_0_10779; omega) | (clear p_bw hjs k8581 i162_0_10727 i217_0_10779; omega) | (clear p_bw k8580 k8581 i162_0_10727 i217_0_10779; omega) | (clear hjs k8580 k8581 i162_0_10727 i217_0_10779; omega) | (clear p_bw hjs k8580 k8581; omega) | (clear hjs p_bw; omega) | omega)⟩ (by (first | (clear p_bw hjs k8580 k8581 i162_0_10727 i217_0_10779; omega) | (clear p_bw hjs k8580 k8581 i162_0_10727; omega) | (clear p_bw hjs k8580 k8581 i217_0_10779; omega) | (clear p_bw hjs k8580 i162_0_10727 i217_0_10779; omega) | (clear p_bw hjs k8581 i162_0_10727 i217_0_10779; omega) | (clear p_bw k8580 k8581 i162_0_10727 i217_0_10779; omega) | (clear hjs k8580 k8581 i162_0_10727 i217_0_10779; omega) | (clear p_bw hjs k8580 k8581; omega) | (clear hjs p_bw; omega) | omega)) (by (first | (clear p_bw hjs k8580 k8581 i162_0_10727 i217_0_10779; omega) | (clear p_bw hjs k8580 k8581 i162_0_10727; omega) | (clear p_bw hjs k8580 k8581 i217_0_10779; omega) | (clear p_bw hjs k8580 i162_0_10727 i217_0_10779; omega) | (clear p_bw hjs k8581 i162_0_10727 i217_0_10779; omega) | (clear p_bw k8580 k8581 i162_0_10727 i217_0_10779; omega) | (clear hjs k8580 k8581 i162_0_10727 i217_0_10779; omega) | (clear p_bw hjs k8580 k8581; omega) | (clear hjs p_bw; omega) | omega)) (by (first | (clear p_bw hjs k8580 k8581 i162_0_10727 i217_0_10779; omega) | (clear p_bw hjs k8580 k8581 i162_0_10727; omega) | (clear p_bw hjs k8580 k8581 i217_0_10779; omega) | (clear p_bw hjs k8580 i162_0_10727 i217_0_10779; omega) | (clear p_bw hjs k8581 i162_0_10727 i217_0_10779; omega) | (clear p_bw k8580 k8581 i162_0_10727 i217_0_10779; omega) | (clear hjs k8580 k8581 i162_0_10727 i217_0_10779; omega) | (clear p_bw hjs k8580 k8581; omega) | (clear hjs p_bw; omega) | omega)) (by (first | (clear p_bw hjs k8580 k8581 i162_0_10727 i217_0_10779; omega) | (clear p_bw hjs k8580 k8581 i162_0_10727; omega) | (clear p_bw hjs k8580 k8581 i217_0_10779; omega) | (clear p_bw hjs k8580 i162_0_10727 i217_0_10779; omega) | (clear p_bw hjs k8581 i162_0_10727 i217_0_10779; omega) | (clear p_bw k8580 k8581 i162_0_10727 i217_0_10779; omega) | (clear hjs k8580 k8581 i162_0_10727 i217_0_10779; omega) | (clear p_bw hjs k8580 k8581; omega) | (clear hjs p_bw; omega) | omega)) (by (first | (clear p_bw hjs k8580 k8581 i162_0_10727 i217_0_10779; omega) | (clear p_bw hjs k8580 k8581 i162_0_10727; omega) | (clear p_bw hjs k8580 k8581 i217_0_10779; omega) | (clear p_bw hjs k8580 i162_0_10727 i217_0_10779; omega) | (clear p_bw hjs k8581 i162_0_10727 i217_0_10779; omega) | (clear p_bw k8580 k8581 i162_0_10727 i217_0_10779; omega) | (clear hjs k8580 k8581 i162_0_10727 i217_0_10779; omega) | (clear p_bw hjs k8580 k8581; omega) | (clear hjs p_bw; omega) | omega)) (by (first | (clear p_bw hjs k8580 k8581 i162_0_10727 i217_0_10779; omega) | (clear p_bw hjs k8580 k8581 i162_0_10727; omega) | (clear p_bw hjs k8580 k8581 i217_0_10779; omega) | (clear p_bw hjs k8580 i162_0_10727 i217_0_10779; omega) | (clear p_bw hjs k8581 i162_0_10727 i217_0_10779; omega) | (clear p_bw k8580 k8581 i162_0_10727 i217_0_10779; omega) | (clear hjs k8580 k8581 i162_0_10727 i217_0_10779; omega) | (clear p_bw hjs k8580 k8581; omega) | (clear hjs p_bw; omega) | omega)) (by (first | (clear p_bw hjs k8580 k8581 i162_0_10727 i217_0_10779; omega) | (clear p_bw hjs k8580 k8581 i162_0_10727; omega) | (clear p_bw hjs k8580 k8581 i217_0_10779; omega) | (clear p_bw hjs k8580 i162_0_10727 i217_0_10779; omega) | (clear p_bw hjs k8581 i162_0_10727 i217_0_10779; omega) | (clear p_bw k8580 k8581 i162_0_10727 i217_0_10779; omega) | (clear hjs k8580 k8581 i162_0_10727 i217_0_10779; omega) | (clear p_bw hjs k8580 k8581; omega) | (clear hjs p_bw; omega) | omega)))))
                    refine g_if_eq (tgt := 237) dX7_step_218 (by decide) (by decide) (fun k10787 => ?_) (fun k10787 => by exfalso; (clear p_bw hjs k8580 k8581 i162_0_10727 i217_0_10779; omega))
                    have r_i217_0_10779 := (i217_0_10779.resolve_left (by (clear p_bw hjs k8580 k8581 i162_0_10727 i217_0_10779; omega)))
                    skip
                    skip
                    skip
                    refine g_forget (l1 := [(0, vR 111), (4, vI 0)]) (by intro q hq; simp only [List.mem_cons, List.not_mem_nil, or_false] at hq ⊢; rcases hq with rfl | rfl <;> simp) ?_
                    exact J237_10783 (by (omega))
                  refine g_if_ne (tgt := 217) dX7_step_186 (by decide) (by decide) (fun k10788 => by exfalso; (clear p_bw hjs k8580 k8581 i162_0_10727; omega)) (fun k10788 => ?_)
                  skip
                  skip
                  skip
                  refine g_iload dX7_step_189 rfl ?_
                  refine g_if_ne (tgt := 217) dX7_step_191 (by decide) (by decide) (fun k10789 => ?_) (fun k10789 => by exfalso; (clear p_bw hjs k8580 k8581 i162_0_10727; omega))
                  skip
                  skip
                  skip
                  refine g_forget (l1 := [(0, vR 111), (1, vI 0), (2, vI (P 111 3)), (4, vI 0)]) (by intro q hq; simp only [List.mem_cons, List.not_mem_nil, or_false] at hq ⊢; rcases hq with rfl | rfl | rfl | rfl <;> simp) ?_
                  exact J217_10779 (by (clear p_bw hjs k8580 k8581 i162_0_10727 k10789; omega))
            refine g_icmp_lt (tgt := 162) dX7_step_149 (by decide) ⟨by have q0 := bx_2 (o := 2) (k := (H27_8581 111 3)) hB (⟨by decide, rfl⟩ : kx 2 2); (clear p_bw hjs k8580 k8581; omega), by have q0 := bx_2 (o := 2) (k := (H27_8581 111 3)) hB (⟨by decide, rfl⟩ : kx 2 2); (clear p_bw hjs k8580 k8581; omega)⟩ (by decide) (fun k10790 => ?_) (fun k10790 => ?_)
            · skip
              skip
              refine g_forget (l1 := [(0, vR 111), (1, vI 0), (2, vI (P 111 3)), (3, vI (P 2 (H27_8581 111 3)))]) (by intro q hq; simp only [List.mem_cons, List.not_mem_nil, or_false] at hq ⊢; rcases hq with rfl | rfl | rfl | rfl <;> simp) ?_
              exact J162_10727 (by (clear p_bw hjs k8580 k8581; omega))
            · skip
              skip
              refine g_iload_n dX7_step_152 rfl ?_
              refine g_bipush dX7_step_153 (by decide) ?_
              refine g_icmp_gt (tgt := 162) dX7_step_155 (by decide) ⟨by have q0 := bx_2 (o := 2) (k := (H27_8581 111 3)) hB (⟨by decide, rfl⟩ : kx 2 2); (clear p_bw hjs k8580 k8581; omega), by have q0 := bx_2 (o := 2) (k := (H27_8581 111 3)) hB (⟨by decide, rfl⟩ : kx 2 2); (clear p_bw hjs k8580 k8581; omega)⟩ (by decide) (fun k10791 => ?_) (fun k10791 => ?_)
              · skip
                skip
                refine g_forget (l1 := [(0, vR 111), (1, vI 0), (2, vI (P 111 3)), (3, vI (P 2 (H27_8581 111 3)))]) (by intro q hq; simp only [List.mem_cons, List.not_mem_nil, or_false] at hq ⊢; rcases hq with rfl | rfl | rfl | rfl <;> simp) ?_
                exact J162_10727 (by (clear p_bw hjs k8580 k8581; omega))
              · skip
                skip
                refine g_iconst dX7_step_158 ?_
                refine g_goto (tgt := 163) dX7_step_159 (by decide) ?_
                refine g_istore (l1 := [(4, vI 1), (3, vI (P 2 (H27_8581 111 3))), (0, vR 111), (1, vI 0), (2, vI (P 111 3))]) dX7_step_163 (by decide) rfl ?_
                refine g_iload_n dX7_step_165 rfl ?_
                refine g_bipush dX7_step_166 (by decide) ?_
                have J181_10810 : ∀ (i181_0_10810 : (P 2 (H27_8581 111 3)) < 48 ∨ 57 < (P 2 (H27_8581 111 3))), Go WSX G 2 iX7_step 181 [(0, vR 111), (1, vI 0), (2, vI (P 111 3)), (3, vI (P 2 (H27_8581 111 3))), (4, vI 1)] [] (up (up (up (up H27_8581 111 5 (H27_8581 111 3)) 111 6 (H27_8581 111 3)) 111 8 (-1)) 111 7 0) Q := by
                  intro i181_0_10810
                  refine g_iconst dX7_step_181 ?_
                  refine g_istore (l1 := [(5, vI 0), (0, vR 111), (1, vI 0), (2, vI (P 111 3)), (3, vI (P 2 (H27_8581 111 3))), (4, vI 1)]) dX7_step_182 (by decide) rfl ?_
                  refine g_iload dX7_step_184 rfl ?_
                  have J217_10819 : ∀ (i217_0_10819 : (1 = 1 ∧ 97 ≤ T.1 (tA T q) ∧ T.1 (tA T q) ≤ 122) ∨ (1 = 0 ∧ 48 ≤ T.1 (tA T q) ∧ T.1 (tA T q) ≤ 57)), Go WSX G 2 iX7_step 217 [(0, vR 111), (1, vI 0), (2, vI (P 111 3)), (4, vI 1)] [] (up (up (up (up H27_8581 111 5 (H27_8581 111 3)) 111 6 (H27_8581 111 3)) 111 8 (-1)) 111 7 0) Q := by
                    intro i217_0_10819
                    refine g_iload_n dX7_step_217 rfl ?_
                    have J237_10823 : ∀ (i237_0_10823 : tJn T q = 0), Go WSX G 2 iX7_step 237 [(0, vR 111), (4, vI 1)] [] (up (up (up (up H27_8581 111 5 (H27_8581 111 3)) 111 6 (H27_8581 111 3)) 111 8 (-1)) 111 7 0) Q := by
                      intro i237_0_10823
                      refine g_iload dX7_step_237 rfl ?_
                      refine g_if_eq (tgt := 249) dX7_step_239 (by decide) (by decide) (fun k10825 => by exfalso; (clear p_bw hjs k8580 k8581 i181_0_10810 i217_0_10819; omega)) (fun k10825 => ?_)
                      have r_i217_0_10819 := (i217_0_10819.resolve_right (by (clear p_bw hjs k8580 k8581 i181_0_10810 i217_0_10819 k10825; omega)))
                      have r_i181_0_10810 := (i181_0_10810.resolve_left (by (clear p_bw hjs k8580 k8581 i181_0_10810 i217_0_10819 k10825; omega)))
                      have r_hjs := (hjs.resolve_left (by (clear p_bw hjs k8580 k8581 i181_0_10810 i217_0_10819 k10825; omega)))
                      skip
                      refine g_aload_n dX7_step_242 rfl ?_
                      refine g_vV (av := []) (o := 111) (st := []) (f_X7_stepWord G (up (up (up (up H27_8581 111 5 (H27_8581 111 3)) 111 6 (H27_8581 111 3)) 111 8 (-1)) 111 7 0) T q  hB10621 (by have q0 := (((up_k (by decide)).trans ((up_k (by decide)).trans ((up_k (by decide)).trans ((up_k (by decide)).trans rfl)))) : (up (up (up (up H27_8581 111 5 (H27_8581 111 3)) 111 6 (H27_8581 111 3)) 111 8 (-1)) 111 7 0) 111 3 = (H27_8581 111 3)); have q1 := bx_46_3 (o := 111) hB27_8581 (⟨by decide, rfl⟩ : kx 111 46); have q2 := (((up_k (by decide)).trans ((up_k (by decide)).trans ((up_k (by decide)).trans up_same))) : (up (up (up (up H27_8581 111 5 (H27_8581 111 3)) 111 6 (H27_8581 111 3)) 111 8 (-1)) 111 7 0) 111 5 = (H27_8581 111 3)); have q3 := (up_same : (up (up (up (up H27_8581 111 5 (H27_8581 111 3)) 111 6 (H27_8581 111 3)) 111 8 (-1)) 111 7 0) 111 7 = 0); have q4 := (((up_k (by decide)).trans up_same) : (up (up (up (up H27_8581 111 5 (H27_8581 111 3)) 111 6 (H27_8581 111 3)) 111 8 (-1)) 111 7 0) 111 8 = (-1)); (clear p_bw hjs k8580 k8581 i181_0_10810 i217_0_10819 k10825; omega)) (by (clear p_bw hjs k8580 k8581 i181_0_10810 i217_0_10819 k10825; omega)) (TX.fr (F := ([(46, 3), (46, 5), (46, 6), (46, 7), (46, 8)], [])) v_TX (FrX.s (FrX.s (FrX.s (FrX.s (FrX.c FrX.rf hE27_8581 rfl) (⟨by decide, rfl⟩ : kx 111 46) rfl) (⟨by decide, rfl⟩ : kx 111 46) rfl) (⟨by decide, rfl⟩ : kx 111 46) rfl) (⟨by decide, rfl⟩ : kx 111 46) rfl) rfl) (OWN.fr (F := ([(46, 3), (46, 5), (46, 6), (46, 7), (46, 8)], [])) v_OWN (FrX.s (FrX.s (FrX.s (FrX.s (FrX.c FrX.rf hE27_8581 rfl) (⟨by decide, rfl⟩ : kx 111 46) rfl) (⟨by decide, rfl⟩ : kx 111 46) rfl) (⟨by decide, rfl⟩ : kx 111 46) rfl) (⟨by decide, rfl⟩ : kx 111 46) rfl) rfl) ((XT.fr (F := ([(46, 3), (46, 5), (46, 6), (46, 7), (46, 8)], [])) z0 (FrX.s (FrX.s (FrX.s (FrX.s (FrX.c FrX.rf hE27_8581 rfl) (⟨by decide, rfl⟩ : kx 111 46) rfl) (⟨by decide, rfl⟩ : kx 111 46) rfl) (⟨by decide, rfl⟩ : kx 111 46) rfl) (⟨by decide, rfl⟩ : kx 111 46) rfl) rfl)) _ (fun Pc10826 hBc10826 hFc10826 ec10826_0 => ⟨rfl, ?_⟩)) cf_X7_stepWord t_711 rfl (show kx 111 46 from (⟨by decide, rfl⟩ : kx 111 46)).1 ((show kx 111 46 from (⟨by decide, rfl⟩ : kx 111 46)).sh rfl) rfl rfl (Nat.le_of_ble_eq_true rfl) (by decide) rfl dX7_step_243
                      refine g_goto (tgt := 253) dX7_step_246 (by decide) ?_
                      exact g_retV dX7_step_253 rfl (hQ _ hBc10826 (FrX.c (FrX.s (FrX.s (FrX.s (FrX.s (FrX.c FrX.rf hE27_8581 rfl) (⟨by decide, rfl⟩ : kx 111 46) rfl) (⟨by decide, rfl⟩ : kx 111 46) rfl) (⟨by decide, rfl⟩ : kx 111 46) rfl) (⟨by decide, rfl⟩ : kx 111 46) rfl) hFc10826 rfl) (by first | exact ec10826_0 | (have q3 := (rfl : Pc10826 111 3 = (Pc10826 111 3)); have q4 := (rfl : Pc10826 111 4 = (Pc10826 111 4)); have q5 := (((FrX.g hFc10826 (⟨by decide, rfl⟩ : kx 111 46) rfl).trans ((up_k (by decide)).trans ((up_k (by decide)).trans ((up_k (by decide)).trans up_same)))) : Pc10826 111 5 = (H27_8581 111 3)); have q6 := (rfl : Pc10826 111 6 = (Pc10826 111 6)); have q7 := (rfl : Pc10826 111 7 = (Pc10826 111 7)); have q8 := (rfl : Pc10826 111 8 = (Pc10826 111 8)); first | exact XS.sig ⟨by (first | (clear p_bw hjs k8580 k8581 i181_0_10810 i217_0_10819 k10825; omega) | (clear p_bw hjs k8580 k8581 i181_0_10810 i217_0_10819; omega) | (clear p_bw hjs k8580 k8581 i181_0_10810 k10825; omega) | (clear p_bw hjs k8580 k8581 i217_0_10819 k10825; omega) | (clear p_bw hjs k8580 i181_0_10810 i217_0_10819 k10825; omega) | (clear p_bw hjs k8581 i181_0_10810 i217_0_10819 k10825; omega) | (clear p_bw k8580 k8581 i181_0_10810 i217_0_10819 k10825; omega) | (clear hjs k8580 k8581 i181_0_10810 i217_0_10819 k10825; omega) | (clear p_bw hjs k8580 k8581 i181_0_10810; omega) | (clear k8580 hjs p_bw; omega) | omega), by (first | (clear p_bw hjs k8580 k8581 i181_0_10810 i217_0_10819 k10825; omega) | (clear p_bw hjs k8580 k8581 i181_0_10810 i217_0_10819; omega) | (clear p_bw hjs k8580 k8581 i181_0_10810 k10825; omega) | (clear p_bw hjs k8580 k8581 i217_0_10819 k10825; omega) | (clear p_bw hjs k8580 i181_0_10810 i217_0_10819 k10825; omega) | (clear p_bw hjs k8581 i181_0_10810 i217_0_10819 k10825; omega) | (clear p_bw k8580 k8581 i181_0_10810 i217_0_10819 k10825; omega) | (clear hjs k8580 k8581 i181_0_10810 i217_0_10819 k10825; omega) | (clear p_bw hjs k8580 k8581 i181_0_10810; omega) | (clear k8580 hjs p_bw; omega) | omega)⟩ (by (first | (clear p_bw hjs k8580 k8581 i181_0_10810 i217_0_10819 k10825; omega) | (clear p_bw hjs k8580 k8581 i181_0_10810 i217_0_10819; omega) | (clear p_bw hjs k8580 k8581 i181_0_10810 k10825; omega) | (clear p_bw hjs k8580 k8581 i217_0_10819 k10825; omega) | (clear p_bw hjs k8580 i181_0_10810 i217_0_10819 k10825; omega) | (clear p_bw hjs k8581 i181_0_10810 i217_0_10819 k10825; omega) | (clear p_bw k8580 k8581 i181_0_10810 i217_0_10819 k10825; omega) | (clear hjs k8580 k8581 i181_0_10810 i217_0_10819 k10825; omega) | (clear p_bw hjs k8580 k8581 i181_0_10810; omega) | (clear k8580 hjs p_bw; omega) | omega)) (by (first | (clear p_bw hjs k8580 k8581 i181_0_10810 i217_0_10819 k10825; omega) | (clear p_bw hjs k8580 k8581 i181_0_10810 i217_0_10819; omega) | (clear p_bw hjs k8580 k8581 i181_0_10810 k10825; omega) | (clear p_bw hjs k8580 k8581 i217_0_10819 k10825; omega) | (clear p_bw hjs k8580 i181_0_10810 i217_0_10819 k10825; omega) | (clear p_bw hjs k8581 i181_0_10810 i217_0_10819 k10825; omega) | (clear p_bw k8580 k8581 i181_0_10810 i217_0_10819 k10825; omega) | (clear hjs k8580 k8581 i181_0_10810 i217_0_10819 k10825; omega) | (clear p_bw hjs k8580 k8581 i181_0_10810; omega) | (clear k8580 hjs p_bw; omega) | omega)) (by (first | (clear p_bw hjs k8580 k8581 i181_0_10810 i217_0_10819 k10825; omega) | (clear p_bw hjs k8580 k8581 i181_0_10810 i217_0_10819; omega) | (clear p_bw hjs k8580 k8581 i181_0_10810 k10825; omega) | (clear p_bw hjs k8580 k8581 i217_0_10819 k10825; omega) | (clear p_bw hjs k8580 i181_0_10810 i217_0_10819 k10825; omega) | (clear p_bw hjs k8581 i181_0_10810 i217_0_10819 k10825; omega) | (clear p_bw k8580 k8581 i181_0_10810 i217_0_10819 k10825; omega) | (clear hjs k8580 k8581 i181_0_10810 i217_0_10819 k10825; omega) | (clear p_bw hjs k8580 k8581 i181_0_10810; omega) | (clear k8580 hjs p_bw; omega) | omega)) (by (first | (clear p_bw hjs k8580 k8581 i181_0_10810 i217_0_10819 k10825; omega) | (clear p_bw hjs k8580 k8581 i181_0_10810 i217_0_10819; omega) | (clear p_bw hjs k8580 k8581 i181_0_10810 k10825; omega) | (clear p_bw hjs k8580 k8581 i217_0_10819 k10825; omega) | (clear p_bw hjs k8580 i181_0_10810 i217_0_10819 k10825; omega) | (clear p_bw hjs k8581 i181_0_10810 i217_0_10819 k10825; omega) | (clear p_bw k8580 k8581 i181_0_10810 i217_0_10819 k10825; omega) | (clear hjs k8580 k8581 i181_0_10810 i217_0_10819 k10825; omega) | (clear p_bw hjs k8580 k8581 i181_0_10810; omega) | (clear k8580 hjs p_bw; omega) | omega)) (by (first | (clear p_bw hjs k8580 k8581 i181_0_10810 i217_0_10819 k10825; omega) | (clear p_bw hjs k8580 k8581 i181_0_10810 i217_0_10819; omega) | (clear p_bw hjs k8580 k8581 i181_0_10810 k10825; omega) | (clear p_bw hjs k8580 k8581 i217_0_10819 k10825; omega) | (clear p_bw hjs k8580 i181_0_10810 i217_0_10819 k10825; omega) | (clear p_bw hjs k8581 i181_0_10810 i217_0_10819 k10825; omega) | (clear p_bw k8580 k8581 i181_0_10810 i217_0_10819 k10825; omega) | (clear hjs k8580 k8581 i181_0_10810 i217_0_10819 k10825; omega) | (clear p_bw hjs k8580 k8581 i181_0_10810; omega) | (clear k8580 hjs p_bw; omega) | omega)) (by (first | (clear p_bw hjs k8580 k8581 i181_0_10810 i217_0_10819 k10825; omega) | (clear p_bw hjs k8580 k8581 i181_0_10810 i217_0_10819; omega) | (clear p_bw hjs k8580 k8581 i181_0_10810 k10825; omega) | (clear p_bw hjs k8580 k8581 i217_0_10819 k10825; omega) | (clear p_bw hjs k8580 i181_0_10810 i217_0_10819 k10825; omega) | (clear p_bw hjs k8581 i181_0_10810 i217_0_10819 k10825; omega) | (clear p_bw k8580 k8581 i181_0_10810 i217_0_10819 k10825; omega) | (clear hjs k8580 k8581 i181_0_10810 i217_0_10819 k10825; omega) | (clear p_bw hjs k8580 k8581 i181_0_10810; omega) | (clear k8580 hjs p_bw; omega) | omega)) (by (first | (clear p_bw hjs k8580 k8581 i181_0_10810 i217_0_10819 k10825; omega) | (clear p_bw hjs k8580 k8581 i181_0_10810 i217_0_10819; omega) | (clear p_bw hjs k8580 k8581 i181_0_10810 k10825; omega) | (clear p_bw hjs k8580 k8581 i217_0_10819 k10825; omega) | (clear p_bw hjs k8580 i181_0_10810 i217_0_10819 k10825; omega) | (clear p_bw hjs k8581 i181_0_10810 i217_0_10819 k10825; omega) | (clear p_bw k8580 k8581 i181_0_10810 i217_0_10819 k10825; omega) | (clear hjs k8580 k8581 i181_0_10810 i217_0_10819 k10825; omega) | (clear p_bw hjs k8580 k8581 i181_0_10810; omega) | (clear k8580 hjs p_bw; omega) | omega)) (by (first | (clear p_bw hjs k8580 k8581 i181_0_10810 i217_0_10819 k10825; omega) | (clear p_bw hjs k8580 k8581 i181_0_10810 i217_0_10819; omega) | (clear p_bw hjs k8580 k8581 i181_0_10810 k10825; omega) | (clear p_bw hjs k8580 k8581 i217_0_10819 k10825; omega) | (clear p_bw hjs k8580 i181_0_10810 i217_0_10819 k10825; omega) | (clear p_bw hjs k8581 i181_0_10810 i217_0_10819 k10825; omega) | (clear p_bw k8580 k8581 i181_0_10810 i217_0_10819 k10825; omega) | (clear hjs k8580 k8581 i181_0_10810 i217_0_10819 k10825; omega) | (clear p_bw hjs k8580 k8581 i181_0_10810; omega) | (clear k8580 hjs p_bw; omega) | omega)) | exact XS.badj ⟨by (first | (clear p_bw hjs k8580 k8581 i181_0_10810 i217_0_10819 k10825; omega) | (clear p_bw hjs k8580 k8581 i181_0_10810 i217_0_10819; omega) | (clear p_bw hjs k8580 k8581 i181_0_10810 k10825; omega) | (clear p_bw hjs k8580 k8581 i217_0_10819 k10825; omega) | (clear p_bw hjs k8580 i181_0_10810 i217_0_10819 k10825; omega) | (clear p_bw hjs k8581 i181_0_10810 i217_0_10819 k10825; omega) | (clear p_bw k8580 k8581 i181_0_10810 i217_0_10819 k10825; omega) | (clear hjs k8580 k8581 i181_0_10810 i217_0_10819 k10825; omega) | (clear p_bw hjs k8580 k8581 i181_0_10810; omega) | (clear k8580 hjs p_bw; omega) | omega), by (first | (clear p_bw hjs k8580 k8581 i181_0_10810 i217_0_10819 k10825; omega) | (clear p_bw hjs k8580 k8581 i181_0_10810 i217_0_10819; omega) | (clear p_bw hjs k8580 k8581 i181_0_10810 k10825; omega) | (clear p_bw hjs k8580 k8581 i217_0_10819 k10825; omega) | (clear p_bw hjs k8580 i181_0_10810 i217_0_10819 k10825; omega) | (clear p_bw hjs k8581 i181_0_10810 i217_0_10819 k10825; omega) | (clear p_bw k8580 k8581 i181_0_10810 i217_0_10819 k10825; omega) | (clear hjs k8580 k8581 i181_0_10810 i217_0_10819 k10825; omega) | (clear p_bw hjs k8580 k8581 i181_0_10810; omega) | (clear k8580 hjs p_bw; omega) | omega)⟩ (by (first | (clear p_bw hjs k8580 k8581 i181_0_10810 i217_0_10819 k10825; omega) | (clear p_bw hjs k8580 k8581 i181_0_10810 i217_0_10819; omega) | (clear p_bw hjs k8580 k8581 i181_0_10810 k10825; omega) | (clear p_bw hjs k8580 k8581 i217_0_10819 k10825; omega) | (clear p_bw hjs k8580 i181_0_10810 i217_0_10819 k10825; omega) | (clear p_bw hjs k8581 i181_0_10810 i217_0_10819 k10825; omega) | (clear p_bw k8580 k8581 i181_0_10810 i217_0_10819 k10825; omega) | (clear hjs k8580 k8581 i181_0_10810 i217_0_10819 k10825; omega) | (clear p_bw hjs k8580 k8581 i181_0_10810; omega) | (clear k8580 hjs p_bw; omega) | omega)) (by (first | (clear p_bw hjs k8580 k8581 i181_0_10810 i217_0_10819 k10825; omega) | (clear p_bw hjs k8580 k8581 i181_0_10810 i217_0_10819; omega) | (clear p_bw hjs k8580 k8581 i181_0_10810 k10825; omega) | (clear p_bw hjs k8580 k8581 i217_0_10819 k10825; omega) | (clear p_bw hjs k8580 i181_0_10810 i217_0_10819 k10825; omega) | (clear p_bw hjs k8581 i181_0_10810 i217_0_10819 k10825; omega) | (clear p_bw k8580 k8581 i181_0_10810 i217_0_10819 k10825; omega) | (clear hjs k8580 k8581 i181_0_10810 i217_0_10819 k10825; omega) | (clear p_bw hjs k8580 k8581 i181_0_10810; omega) | (clear k8580 hjs p_bw; omega) | omega)) (by (first | (clear p_bw hjs k8580 k8581 i181_0_10810 i217_0_10819 k10825; omega) | (clear p_bw hjs k8580 k8581 i181_0_10810 i217_0_10819; omega) | (clear p_bw hjs k8580 k8581 i181_0_10810 k10825; omega) | (clear p_bw hjs k8580 k8581 i217_0_10819 k10825; omega) | (clear p_bw hjs k8580 i181_0_10810 i217_0_10819 k10825; omega) | (clear p_bw hjs k8581 i181_0_10810 i217_0_10819 k10825; omega) | (clear p_bw k8580 k8581 i181_0_10810 i217_0_10819 k10825; omega) | (clear hjs k8580 k8581 i181_0_10810 i217_0_10819 k10825; omega) | (clear p_bw hjs k8580 k8581 i181_0_10810; omega) | (clear k8580 hjs p_bw; omega) | omega)) (by (first | (clear p_bw hjs k8580 k8581 i181_0_10810 i217_0_10819 k10825; omega) | (clear p_bw hjs k8580 k8581 i181_0_10810 i217_0_10819; omega) | (clear p_bw hjs k8580 k8581 i181_0_10810 k10825; omega) | (clear p_bw hjs k8580 k8581 i217_0_10819 k10825; omega) | (clear p_bw hjs k8580 i181_0_10810 i217_0_10819 k10825; omega) | (clear p_bw hjs k8581 i181_0_10810 i217_0_10819 k10825; omega) | (clear p_bw k8580 k8581 i181_0_10810 i217_0_10819 k10825; omega) | (clear hjs k8580 k8581 i181_0_10810 i217_0_10819 k10825; omega) | (clear p_bw hjs k8580 k8581 i181_0_10810; omega) | (clear k8580 hjs p_bw; omega) | omega)) (by (first | (clear p_bw hjs k8580 k8581 i181_0_10810 i217_0_10819 k10825; omega) | (clear p_bw hjs k8580 k8581 i181_0_10810 i217_0_10819; omega) | (clear p_bw hjs k8580 k8581 i181_0_10810 k10825; omega) | (clear p_bw hjs k8580 k8581 i217_0_10819 k10825; omega) | (clear p_bw hjs k8580 i181_0_10810 i217_0_10819 k10825; omega) | (clear p_bw hjs k8581 i181_0_10810 i217_0_10819 k10825; omega) | (clear p_bw k8580 k8581 i181_0_10810 i217_0_10819 k10825; omega) | (clear hjs k8580 k8581 i181_0_10810 i217_0_10819 k10825; omega) | (clear p_bw hjs k8580 k8581 i181_0_10810; omega) | (clear k8580 hjs p_bw; omega) | omega)) (by (first | (clear p_bw hjs k8580 k8581 i181_0_10810 i217_0_10819 k10825; omega) | (clear p_bw hjs k8580 k8581 i181_0_10810 i217_0_10819; omega) | (clear p_bw hjs k8580 k8581 i181_0_10810 k10825; omega) | (clear p_bw hjs k8580 k8581 i217_0_10819 k10825; omega) | (clear p_bw hjs k8580 i181_0_10810 i217_0_10819 k10825; omega) | (clear p_bw hjs k8581 i181_0_10810 i217_0_10819 k10825; omega) | (clear p_bw k8580 k8581 i181_0_10810 i217_0_10819 k10825; omega) | (clear hjs k8580 k8581 i181_0_10810 i217_0_10819 k10825; omega) | (clear p_bw hjs k8580 k8581 i181_0_10810; omega) | (clear k8580 hjs p_bw; omega) | omega)) (by (first | (clear p_bw hjs k8580 k8581 i181_0_10810 i217_0_10819 k10825; omega) | (clear p_bw hjs k8580 k8581 i181_0_10810 i217_0_10819; omega) | (clear p_bw hjs k8580 k8581 i181_0_10810 k10825; omega) | (clear p_bw hjs k8580 k8581 i217_0_10819 k10825; omega) | (clear p_bw hjs k8580 i181_0_10810 i217_0_10819 k10825; omega) | (clear p_bw hjs k8581 i181_0_10810 i217_0_10819 k10825; omega) | (clear p_bw k8580 k8581 i181_0_10810 i217_0_10819 k10825; omega) | (clear hjs k8580 k8581 i181_0_10810 i217_0_10819 k10825; omega) | (clear p_bw hjs k8580 k8581 i181_0_10810; omega) | (clear k8580 hjs p_bw; omega) | omega)))))
                    refine g_if_eq (tgt := 237) dX7_step_218 (by decide) (by decide) (fun k10827 => ?_) (fun k10827 => by exfalso; (clear p_bw hjs k8580 k8581 i181_0_10810 i217_0_10819; omega))
                    have r_i217_0_10819 := (i217_0_10819.resolve_right (by (clear p_bw hjs k8580 k8581 i181_0_10810 i217_0_10819; omega)))
                    have r_i181_0_10810 := (i181_0_10810.resolve_left (by (clear p_bw hjs k8580 k8581 i181_0_10810 i217_0_10819; omega)))
                    skip
                    skip
                    refine g_forget (l1 := [(0, vR 111), (4, vI 1)]) (by intro q hq; simp only [List.mem_cons, List.not_mem_nil, or_false] at hq ⊢; rcases hq with rfl | rfl <;> simp) ?_
                    exact J237_10823 (by (omega))
                  refine g_if_ne (tgt := 217) dX7_step_186 (by decide) (by decide) (fun k10828 => ?_) (fun k10828 => by exfalso; (clear p_bw hjs k8580 k8581 i181_0_10810; omega))
                  have r_i181_0_10810 := (i181_0_10810.resolve_left (by (clear p_bw hjs k8580 k8581 i181_0_10810 k10828; omega)))
                  skip
                  skip
                  refine g_forget (l1 := [(0, vR 111), (1, vI 0), (2, vI (P 111 3)), (4, vI 1)]) (by intro q hq; simp only [List.mem_cons, List.not_mem_nil, or_false] at hq ⊢; rcases hq with rfl | rfl | rfl | rfl <;> simp) ?_
                  exact J217_10819 (by (clear p_bw hjs k8580 k8581 i181_0_10810 k10828; omega))
                refine g_icmp_lt (tgt := 181) dX7_step_168 (by decide) ⟨by have q0 := bx_2 (o := 2) (k := (H27_8581 111 3)) hB (⟨by decide, rfl⟩ : kx 2 2); (clear p_bw hjs k8580 k8581; omega), by have q0 := bx_2 (o := 2) (k := (H27_8581 111 3)) hB (⟨by decide, rfl⟩ : kx 2 2); (clear p_bw hjs k8580 k8581; omega)⟩ (by decide) (fun k10829 => by exfalso; have q0 := bx_2 (o := 2) (k := (H27_8581 111 3)) hB (⟨by decide, rfl⟩ : kx 2 2); (clear p_bw hjs k8580 k8581; omega)) (fun k10829 => ?_)
                skip
                skip
                refine g_iload_n dX7_step_171 rfl ?_
                refine g_bipush dX7_step_172 (by decide) ?_
                refine g_icmp_gt (tgt := 181) dX7_step_174 (by decide) ⟨by have q0 := bx_2 (o := 2) (k := (H27_8581 111 3)) hB (⟨by decide, rfl⟩ : kx 2 2); (clear p_bw hjs k8580 k8581; omega), by have q0 := bx_2 (o := 2) (k := (H27_8581 111 3)) hB (⟨by decide, rfl⟩ : kx 2 2); (clear p_bw hjs k8580 k8581; omega)⟩ (by decide) (fun k10830 => ?_) (fun k10830 => by exfalso; have q0 := bx_2 (o := 2) (k := (H27_8581 111 3)) hB (⟨by decide, rfl⟩ : kx 2 2); (clear p_bw hjs k8580 k8581; omega))
                skip
                skip
                refine g_forget (l1 := [(0, vR 111), (1, vI 0), (2, vI (P 111 3)), (3, vI (P 2 (H27_8581 111 3))), (4, vI 1)]) (by intro q hq; simp only [List.mem_cons, List.not_mem_nil, or_false] at hq ⊢; rcases hq with rfl | rfl | rfl | rfl | rfl <;> simp) ?_
                exact J181_10810 (by (clear p_bw hjs k8580 k8581; omega))
          · skip
            skip
            refine g_aload_n dX7_step_130 rfl ?_
            refine g_iconst dX7_step_131 ?_
            refine x_p46_4 (⟨by decide, rfl⟩ : kx 111 46) pfX7_75 dX7_step_132 ?_
            have hB10831 := by_46_4 (z := 0) hB10621 (⟨by decide, rfl⟩ : kx 111 46) (by decide)
            exact g_retV dX7_step_135 rfl (hQ _ hB10831 (FrX.s (FrX.s (FrX.s (FrX.s (FrX.s (FrX.c FrX.rf hE27_8581 rfl) (⟨by decide, rfl⟩ : kx 111 46) rfl) (⟨by decide, rfl⟩ : kx 111 46) rfl) (⟨by decide, rfl⟩ : kx 111 46) rfl) (⟨by decide, rfl⟩ : kx 111 46) rfl) (⟨by decide, rfl⟩ : kx 111 46) rfl) (by have q3 := (((up_k (by decide)).trans ((up_k (by decide)).trans ((up_k (by decide)).trans ((up_k (by decide)).trans ((up_k (by decide)).trans rfl))))) : (up (up (up (up (up H27_8581 111 5 (H27_8581 111 3)) 111 6 (H27_8581 111 3)) 111 8 (-1)) 111 7 0) 111 4 0) 111 3 = (H27_8581 111 3)); have q4 := (up_same : (up (up (up (up (up H27_8581 111 5 (H27_8581 111 3)) 111 6 (H27_8581 111 3)) 111 8 (-1)) 111 7 0) 111 4 0) 111 4 = 0); have q5 := (((up_k (by decide)).trans ((up_k (by decide)).trans ((up_k (by decide)).trans ((up_k (by decide)).trans up_same)))) : (up (up (up (up (up H27_8581 111 5 (H27_8581 111 3)) 111 6 (H27_8581 111 3)) 111 8 (-1)) 111 7 0) 111 4 0) 111 5 = (H27_8581 111 3)); have q6 := (((up_k (by decide)).trans ((up_k (by decide)).trans ((up_k (by decide)).trans up_same))) : (up (up (up (up (up H27_8581 111 5 (H27_8581 111 3)) 111 6 (H27_8581 111 3)) 111 8 (-1)) 111 7 0) 111 4 0) 111 6 = (H27_8581 111 3)); have q7 := (((up_k (by decide)).trans up_same) : (up (up (up (up (up H27_8581 111 5 (H27_8581 111 3)) 111 6 (H27_8581 111 3)) 111 8 (-1)) 111 7 0) 111 4 0) 111 7 = 0); have q8 := (((up_k (by decide)).trans ((up_k (by decide)).trans up_same)) : (up (up (up (up (up H27_8581 111 5 (H27_8581 111 3)) 111 6 (H27_8581 111 3)) 111 8 (-1)) 111 7 0) 111 4 0) 111 8 = (-1)); exact XS.end ⟨by (clear p_bw hjs k8580 k8581; omega), by (clear p_bw hjs k8580 k8581; omega)⟩ (by (clear p_bw hjs k8580 k8581; omega)) (by (clear p_bw hjs k8580 k8581; omega)) (by (clear p_bw hjs k8580 k8581; omega)) (by (clear p_bw hjs k8580 k8581; omega))))
        refine g_if_lt (tgt := 86) dX7_step_31 (by decide) ⟨by have q0 := bx_46_3 (o := 111) hB27_8581 (⟨by decide, rfl⟩ : kx 111 46); (clear p_bw hjs k8580 k8581; omega), by have q0 := bx_46_3 (o := 111) hB27_8581 (⟨by decide, rfl⟩ : kx 111 46); (clear p_bw hjs k8580 k8581; omega)⟩ (fun k10832 => by exfalso; have q0 := bx_46_3 (o := 111) hB27_8581 (⟨by decide, rfl⟩ : kx 111 46); (clear p_bw hjs k8580 k8581; omega)) (fun k10832 => ?_)
        skip
        skip
        refine g_aload_n dX7_step_34 rfl ?_
        refine x_g46_3 (z := (H27_8581 111 3)) (⟨by decide, rfl⟩ : kx 111 46) ffX7_72 dX7_step_35 rfl ?_
        refine g_aload_n dX7_step_38 rfl ?_
        refine x_g46_2 (z := (P 111 2)) (⟨by decide, rfl⟩ : kx 111 46) ffX7_71 dX7_step_39 ((FrX.g hE27_8581 (⟨by decide, rfl⟩ : kx 111 46) rfl).trans rfl) ?_
        have f10833 := bx_46_2 (o := 111) hB (⟨by decide, rfl⟩ : kx 111 46)
        refine g_icmp_ge (tgt := 86) dX7_step_42 (by decide) ⟨by have q0 := bx_46_3 (o := 111) hB27_8581 (⟨by decide, rfl⟩ : kx 111 46); (clear p_bw hjs k8580 k8581; omega), by have q0 := bx_46_3 (o := 111) hB27_8581 (⟨by decide, rfl⟩ : kx 111 46); (clear p_bw hjs k8580 k8581; omega)⟩ ⟨by have q0 := bx_46_2 (o := 111) hB (⟨by decide, rfl⟩ : kx 111 46); (clear p_bw hjs k8580 k8581; omega), by have q0 := bx_46_2 (o := 111) hB (⟨by decide, rfl⟩ : kx 111 46); (clear p_bw hjs k8580 k8581; omega)⟩ (fun k10834 => ?_) (fun k10834 => ?_)
        · skip
          skip
          refine g_forget (l1 := [(0, vR 111), (1, vI 0), (2, vI (P 111 3))]) (by intro q hq; simp only [List.mem_cons, List.not_mem_nil, or_false] at hq ⊢; rcases hq with rfl | rfl | rfl <;> simp) ?_
          exact J86_10616 (by rw [hta9, i27_0_8581]; exact (rE_st (fun h => by have q := bW_t.mp h.2; (clear p_bw hjs k8580 k8581; omega))).symm)
        · skip
          skip
          refine g_aload_n dX7_step_45 rfl ?_
          refine x_g46_1 (n := 2) (⟨by decide, rfl⟩ : kx 111 46) ffX7_41 dX7_step_46 (TX.fr (F := ([(46, 3)], [])) v_TX (FrX.c FrX.rf hE27_8581 rfl) rfl) ?_
          refine g_aload_n dX7_step_49 rfl ?_
          refine x_g46_3 (z := (H27_8581 111 3)) (⟨by decide, rfl⟩ : kx 111 46) ffX7_72 dX7_step_50 rfl ?_
          refine x_l2 (z := (P 2 (H27_8581 111 3))) (⟨by decide, rfl⟩ : kx 2 2) dX7_step_53 ⟨by have q0 := bx_46_3 (o := 111) hB27_8581 (⟨by decide, rfl⟩ : kx 111 46); (clear p_bw hjs k8580 k8581; omega), by have q0 := bx_46_3 (o := 111) hB27_8581 (⟨by decide, rfl⟩ : kx 111 46); (clear p_bw hjs k8580 k8581; omega)⟩ ((FrX.g hE27_8581 (⟨by decide, rfl⟩ : kx 2 2) rfl).trans rfl) ?_
          refine g_bipush dX7_step_54 (by decide) ?_
          have f10835 := bx_2 (o := 2) (k := (H27_8581 111 3)) hB (⟨by decide, rfl⟩ : kx 2 2)
          have J73_10838 : ∀ (i73_0_10838 : 0 ≤ H27_8581 111 3 ∧ H27_8581 111 3 < T.2 ∧ (T.1 (H27_8581 111 3) = 32 ∨ T.1 (H27_8581 111 3) = 10)), Go WSX G 2 iX7_step 73 [(0, vR 111), (1, vI 0), (2, vI (P 111 3))] [] H27_8581 Q := by
            intro i73_0_10838
            have hgo := rE_go (f := bW) (T := T) (p := (H27_8581 111 3)) (by (clear p_bw hjs k8580 k8581 i73_0_10838; omega)) (bW_t.mpr (by (clear p_bw hjs k8580 k8581; omega)))
            refine g_aload_n dX7_step_73 rfl ?_
            refine g_dup dX7_step_74 rfl ?_
            refine x_g46_3 (z := (H27_8581 111 3)) (⟨by decide, rfl⟩ : kx 111 46) ffX7_72 dX7_step_75 rfl ?_
            refine g_iconst dX7_step_78 ?_
            refine g_iadd dX7_step_79 ?_
            refine x_p46_3 (⟨by decide, rfl⟩ : kx 111 46) pfX7_72 dX7_step_80 ?_
            have hB10840 := by_46_3 (z := ((H27_8581 111 3) + 1)) hB27_8581 (⟨by decide, rfl⟩ : kx 111 46) ⟨by have q0 := bx_46_3 (o := 111) hB27_8581 (⟨by decide, rfl⟩ : kx 111 46); (clear p_bw hjs k8580 k8581 i73_0_10838; omega), by have q0 := bx_46_3 (o := 111) hB27_8581 (⟨by decide, rfl⟩ : kx 111 46); (clear p_bw hjs k8580 k8581 i73_0_10838; omega)⟩
            refine g_goto (tgt := 27) dX7_step_83 (by decide) ?_
            refine g_forget (l1 := [(0, vR 111), (1, vI 0), (2, vI (P 111 3))]) (by intro q hq; simp only [List.mem_cons, List.not_mem_nil, or_false] at hq ⊢; rcases hq with rfl | rfl | rfl <;> simp) ?_
            exact ih27_8581 _ hB10840 (FrX.s (FrX.c FrX.rf hE27_8581 rfl) (⟨by decide, rfl⟩ : kx 111 46) rfl) (by first | (have q3 := (up_same : (up H27_8581 111 3 ((H27_8581 111 3) + 1)) 111 3 = ((H27_8581 111 3) + 1)); rw [q3]; (clear p_bw hjs k8580 k8581 i73_0_10838; omega)) | rw [p_q.1]) (by have q0 := (up_same : (up H27_8581 111 3 ((H27_8581 111 3) + 1)) 111 3 = ((H27_8581 111 3) + 1)); have q1 := bx_46_3 (o := 111) hB27_8581 (⟨by decide, rfl⟩ : kx 111 46); (clear p_bw hjs k8580 k8581 i73_0_10838; omega)) (by have q0 := (up_same : (up H27_8581 111 3 ((H27_8581 111 3) + 1)) 111 3 = ((H27_8581 111 3) + 1)); have q1 := bx_46_3 (o := 111) hB27_8581 (⟨by decide, rfl⟩ : kx 111 46); (clear p_bw hjs k8580 k8581 i73_0_10838; omega))
          refine g_icmp_eq (tgt := 73) dX7_step_56 (by decide) ⟨by have q0 := bx_2 (o := 2) (k := (H27_8581 111 3)) hB (⟨by decide, rfl⟩ : kx 2 2); (clear p_bw hjs k8580 k8581; omega), by have q0 := bx_2 (o := 2) (k := (H27_8581 111 3)) hB (⟨by decide, rfl⟩ : kx 2 2); (clear p_bw hjs k8580 k8581; omega)⟩ (by decide) (fun k10841 => ?_) (fun k10841 => ?_)
          · skip
            skip
            refine g_forget (l1 := [(0, vR 111), (1, vI 0), (2, vI (P 111 3))]) (by intro q hq; simp only [List.mem_cons, List.not_mem_nil, or_false] at hq ⊢; rcases hq with rfl | rfl | rfl <;> simp) ?_
            exact J73_10838 (by have q0 := bx_46_3 (o := 111) hB27_8581 (⟨by decide, rfl⟩ : kx 111 46); (clear p_bw hjs k8580 k8581; omega))
          · skip
            skip
            refine g_aload_n dX7_step_59 rfl ?_
            refine x_g46_1 (n := 2) (⟨by decide, rfl⟩ : kx 111 46) ffX7_41 dX7_step_60 (TX.fr (F := ([(46, 3)], [])) v_TX (FrX.c FrX.rf hE27_8581 rfl) rfl) ?_
            refine g_aload_n dX7_step_63 rfl ?_
            refine x_g46_3 (z := (H27_8581 111 3)) (⟨by decide, rfl⟩ : kx 111 46) ffX7_72 dX7_step_64 rfl ?_
            refine x_l2 (z := (P 2 (H27_8581 111 3))) (⟨by decide, rfl⟩ : kx 2 2) dX7_step_67 ⟨by have q0 := bx_46_3 (o := 111) hB27_8581 (⟨by decide, rfl⟩ : kx 111 46); (clear p_bw hjs k8580 k8581 k10841; omega), by have q0 := bx_46_3 (o := 111) hB27_8581 (⟨by decide, rfl⟩ : kx 111 46); (clear p_bw hjs k8580 k8581 k10841; omega)⟩ ((FrX.g hE27_8581 (⟨by decide, rfl⟩ : kx 2 2) rfl).trans rfl) ?_
            refine g_bipush dX7_step_68 (by decide) ?_
            refine g_icmp_ne (tgt := 86) dX7_step_70 (by decide) ⟨by have q0 := bx_2 (o := 2) (k := (H27_8581 111 3)) hB (⟨by decide, rfl⟩ : kx 2 2); (clear p_bw hjs k8580 k8581 k10841; omega), by have q0 := bx_2 (o := 2) (k := (H27_8581 111 3)) hB (⟨by decide, rfl⟩ : kx 2 2); (clear p_bw hjs k8580 k8581 k10841; omega)⟩ (by decide) (fun k10842 => ?_) (fun k10842 => ?_)
            · skip
              skip
              refine g_forget (l1 := [(0, vR 111), (1, vI 0), (2, vI (P 111 3))]) (by intro q hq; simp only [List.mem_cons, List.not_mem_nil, or_false] at hq ⊢; rcases hq with rfl | rfl | rfl <;> simp) ?_
              exact J86_10616 (by rw [hta9, i27_0_8581]; exact (rE_st (fun h => by have q := bW_t.mp h.2; (clear p_bw hjs k8580 k8581; omega))).symm)
            · skip
              skip
              refine g_forget (l1 := [(0, vR 111), (1, vI 0), (2, vI (P 111 3))]) (by intro q hq; simp only [List.mem_cons, List.not_mem_nil, or_false] at hq ⊢; rcases hq with rfl | rfl | rfl <;> simp) ?_
              exact J73_10838 (by have q0 := bx_46_3 (o := 111) hB27_8581 (⟨by decide, rfl⟩ : kx 111 46); (clear p_bw hjs k8580 k8581 k10841; omega))
      refine g_forget (l1 := [(0, vR 111), (1, vI 0), (2, vI (P 111 3))]) (by intro q hq; simp only [List.mem_cons, List.not_mem_nil, or_false] at hq ⊢; rcases hq with rfl | rfl | rfl <;> simp) ?_
      exact L27_8581 _ _ hB FrX.rf (by first | (have q3 := (rfl : P 111 3 = (P 111 3)); rw [q3]; (first | (clear p_bw hjs k8580 k8581; omega) | (clear p_bw hjs k8580; omega) | (clear p_bw hjs k8581; omega) | (clear p_bw k8580 k8581; omega) | (clear hjs k8580 k8581; omega) | (clear p_bw hjs; omega) | omega)) | rw [p_q.1]) (by have q0 := bx_46_3 (o := 111) hB (⟨by decide, rfl⟩ : kx 111 46); (clear p_bw hjs k8580 k8581; omega)) (Nat.lt_succ_self _)
    · skip
      skip
      refine g_forget (l1 := [(0, vR 111)]) (by intro q hq; simp only [List.mem_cons, List.not_mem_nil, or_false] at hq ⊢; rcases hq with rfl <;> simp) ?_
      exact J16_5421 (by (clear p_bw hjs k8580; omega))
/-! What the class answers: X7_begin_B16. -/
set_option maxRecDepth 100000 in
set_option maxHeartbeats 4000000 in
theorem f_X7_begin_B16 (G : GT) (P : PH) (T : TT) (hB : BdX P) (p_tx : P 1 1 = T.2 ∧ ∀ i : Int, 0 ≤ i → i < T.2 → P 2 i = T.1 i) (v_OWN : OWN P) (Q : Option PV → PH → Prop) (hQ : ∀ (P1 : PH) (_ : BdX P1) (_ : FrX ([(46, 1), (46, 2), (46, 3), (46, 4), (46, 5), (46, 6), (46, 7), (46, 8)], []) P P1) (_ : TX P1) (_ : XT T P1) (_ : XS T 0 P1), Q none P1) : Ct WSX G 3 iX7_begin [vR 111, vR 1] P Q := by
  refine Ct.of (by decide) (l0 := [(0, vR 111), (1, vR 1)]) rfl (Nat.le_of_ble_eq_true rfl) ?_
  have hb1 := bx_1_1 (o := 1) hB ⟨by decide, rfl⟩
  refine g_aload_n dX7_begin_0 rfl ?_
  refine g_aload_n dX7_begin_1 rfl ?_
  refine x_g1_0 (n := 2) (⟨by decide, rfl⟩ : kx 1 1) ffX7_54 dX7_begin_2 rfl ?_
  refine x_p46_1 (⟨by decide, rfl⟩ : kx 111 46) pfX7_41 dX7_begin_5 ?_
  have hB1 := bw_111_1 (x := 2) hB
  have iv2 : TX (up P 111 1 ((2 : Nat) : Int)) := up_same
  refine g_aload_n dX7_begin_8 rfl ?_
  refine g_iconst dX7_begin_9 ?_
  refine g_aload_n dX7_begin_10 rfl ?_
  refine x_g1_1 (z := (P 1 1)) (⟨by decide, rfl⟩ : kx 1 1) ffX7_59 dX7_begin_11 ((up_o (kx.ne (⟨by decide, rfl⟩ : kx 1 1) (⟨by decide, rfl⟩ : kx 111 46) rfl)).trans rfl) ?_
  refine g_aload_n dX7_begin_14 rfl ?_
  refine x_g46_1 (n := 2) (⟨by decide, rfl⟩ : kx 111 46) ffX7_41 dX7_begin_15 up_same ?_
  refine x_n2 (⟨by decide, rfl⟩ : kx 2 2) dX7_begin_18 ?_
  have f3 := bx_1_1 (o := 1) hB (⟨by decide, rfl⟩ : kx 1 1)
  refine g_sI (av := [vI (P 1 1), vI 1600]) (st := [vI 0, vR 111]) (m_J9_min_7cf53 G (up P 111 1 ((2 : Nat) : Int)) (P 1 1) 1600 ⟨by have q0 := bx_1_1 (o := 1) hB (⟨by decide, rfl⟩ : kx 1 1); (clear p_tx; omega), by have q0 := bx_1_1 (o := 1) hB (⟨by decide, rfl⟩ : kx 1 1); (clear p_tx; omega)⟩ (by decide) hB1  _ (fun rc4 hc4 gc4_m => ⟨rc4, rfl, ?_⟩)) cf_J9_min_7cf53 t_703 rfl (Nat.le_of_ble_eq_true rfl) (by decide) rfl dX7_begin_19
  refine g_sI (av := [vI 0, vI rc4]) (st := [vR 111]) (m_J9_max_7cf53 G (up P 111 1 ((2 : Nat) : Int)) 0 rc4 (by decide) ⟨by (clear p_tx gc4_m; omega), by (clear p_tx gc4_m; omega)⟩ hB1  _ (fun rc5 hc5 gc5_m => ⟨rc5, rfl, ?_⟩)) cf_J9_max_7cf53 t_706 rfl (Nat.le_of_ble_eq_true rfl) (by decide) rfl dX7_begin_22
  refine x_p46_2 (⟨by decide, rfl⟩ : kx 111 46) pfX7_71 dX7_begin_25 ?_
  have hB6 := by_46_2 (z := rc5) hB1 (⟨by decide, rfl⟩ : kx 111 46) ⟨by (omega), by (omega)⟩
  refine g_aload_n dX7_begin_28 rfl ?_
  refine g_iconst dX7_begin_29 ?_
  refine x_p46_3 (⟨by decide, rfl⟩ : kx 111 46) pfX7_72 dX7_begin_30 ?_
  have hB7 := by_46_3 (z := 0) hB6 (⟨by decide, rfl⟩ : kx 111 46) (by decide)
  refine g_aload_n dX7_begin_33 rfl ?_
  refine g_iconst dX7_begin_34 ?_
  refine x_p46_4 (⟨by decide, rfl⟩ : kx 111 46) pfX7_75 dX7_begin_35 ?_
  have hB8 := by_46_4 (z := 0) hB7 (⟨by decide, rfl⟩ : kx 111 46) (by decide)
  have iv9 : XT T (up (up (up (up P 111 1 ((2 : Nat) : Int)) 111 2 rc5) 111 3 0) 111 4 0) := ⟨by have q := (((up_k (by decide)).trans ((up_k (by decide)).trans up_same)) : (up (up (up (up P 111 1 ((2 : Nat) : Int)) 111 2 rc5) 111 3 0) 111 4 0) 111 2 = rc5); (omega), fun i h0 h1 => (((up_o (kx.ne (⟨by decide, rfl⟩ : kx 2 2) (⟨by decide, rfl⟩ : kx 111 46) rfl)).trans ((up_o (kx.ne (⟨by decide, rfl⟩ : kx 2 2) (⟨by decide, rfl⟩ : kx 111 46) rfl)).trans ((up_o (kx.ne (⟨by decide, rfl⟩ : kx 2 2) (⟨by decide, rfl⟩ : kx 111 46) rfl)).trans ((up_o (kx.ne (⟨by decide, rfl⟩ : kx 2 2) (⟨by decide, rfl⟩ : kx 111 46) rfl)).trans rfl))))).trans (p_tx.2 i h0 h1)⟩
  refine g_aload_n dX7_begin_38 rfl ?_
  refine g_vV (av := []) (o := 111) (st := []) (f_X7_step G (up (up (up (up P 111 1 ((2 : Nat) : Int)) 111 2 rc5) 111 3 0) 111 4 0) T 0  hB8 (⟨((up_k (by decide)).trans up_same), by decide, by (clear gc4_m gc5_m; omega)⟩) (Or.inr ⟨by have q := (up_same : (up (up (up (up P 111 1 ((2 : Nat) : Int)) 111 2 rc5) 111 3 0) 111 4 0) 111 4 = 0); (clear p_tx gc4_m gc5_m; omega), by have q := (up_same : (up (up (up (up P 111 1 ((2 : Nat) : Int)) 111 2 rc5) 111 3 0) 111 4 0) 111 4 = 0); (clear p_tx gc4_m gc5_m; omega), jn_0 T⟩) (TX.fr (F := ([(46, 2), (46, 3), (46, 4)], [])) iv2 (FrX.s (FrX.s (FrX.s FrX.rf (⟨by decide, rfl⟩ : kx 111 46) rfl) (⟨by decide, rfl⟩ : kx 111 46) rfl) (⟨by decide, rfl⟩ : kx 111 46) rfl) rfl) (OWN.fr (F := ([(46, 1), (46, 2), (46, 3), (46, 4)], [])) v_OWN (FrX.s (FrX.s (FrX.s (FrX.s FrX.rf (⟨by decide, rfl⟩ : kx 111 46) rfl) (⟨by decide, rfl⟩ : kx 111 46) rfl) (⟨by decide, rfl⟩ : kx 111 46) rfl) (⟨by decide, rfl⟩ : kx 111 46) rfl) rfl) (iv9) _ (fun Pc10 hBc10 hFc10 ec10_0 => ⟨rfl, ?_⟩)) cf_X7_step t_707 rfl (show kx 111 46 from (⟨by decide, rfl⟩ : kx 111 46)).1 ((show kx 111 46 from (⟨by decide, rfl⟩ : kx 111 46)).sh rfl) rfl rfl (Nat.le_of_ble_eq_true rfl) (by decide) rfl dX7_begin_39
  exact g_retV dX7_begin_42 rfl (hQ _ hBc10 (FrX.c (FrX.s (FrX.s (FrX.s (FrX.s FrX.rf (⟨by decide, rfl⟩ : kx 111 46) rfl) (⟨by decide, rfl⟩ : kx 111 46) rfl) (⟨by decide, rfl⟩ : kx 111 46) rfl) (⟨by decide, rfl⟩ : kx 111 46) rfl) hFc10 rfl) (TX.fr (F := ([(46, 2), (46, 3), (46, 4), (46, 5), (46, 6), (46, 7), (46, 8)], [])) iv2 (FrX.c (FrX.s (FrX.s (FrX.s FrX.rf (⟨by decide, rfl⟩ : kx 111 46) rfl) (⟨by decide, rfl⟩ : kx 111 46) rfl) (⟨by decide, rfl⟩ : kx 111 46) rfl) hFc10 rfl) rfl) ((XT.fr (F := ([(46, 3), (46, 4), (46, 5), (46, 6), (46, 7), (46, 8)], [])) iv9 (FrX.c FrX.rf hFc10 rfl) rfl)) (ec10_0))
end
section
section
/-! What the class answers: X6_fail. -/
set_option maxRecDepth 100000 in
set_option maxHeartbeats 4000000 in
theorem f_X6_fail (G : GT) (P : PH) (a1 : Int) (a2 : Int) (h_a1 : (-2147483648) ≤ a1 ∧ a1 ≤ 2147483647) (h_a2 : (-2147483648) ≤ a2 ∧ a2 ≤ 2147483647) (hB : BdX P) (Q : Option PV → PH → Prop) (hQ : ∀ (r : Int) (_ : 0 ≤ r ∧ r ≤ 1) (P1 : PH) (_ : BdX P1) (_ : FrX ([(45, 3), (45, 4)], []) P P1) (_ : P1 110 3 = a1 ∧ P1 110 4 = a2 ∧ r = 0), Q (some (vI r)) P1) : Ct WSX G 1 iX6_fail [vR 110, vI a1, vI a2] P Q := by
  refine Ct.of (by decide) (l0 := [(0, vR 110), (1, vI a1), (2, vI a2)]) rfl (Nat.le_of_ble_eq_true rfl) ?_
  refine g_aload_n dX6_fail_0 rfl ?_
  refine g_iload_n dX6_fail_1 rfl ?_
  refine x_p45_3 (⟨by decide, rfl⟩ : kx 110 45) pfX6_82 dX6_fail_2 ?_
  have hB1 := by_45_3 (z := a1) hB (⟨by decide, rfl⟩ : kx 110 45) ⟨by omega, by omega⟩
  refine g_aload_n dX6_fail_5 rfl ?_
  refine g_iload_n dX6_fail_6 rfl ?_
  refine x_p45_4 (⟨by decide, rfl⟩ : kx 110 45) pfX6_23 dX6_fail_7 ?_
  have hB2 := by_45_4 (z := a2) hB1 (⟨by decide, rfl⟩ : kx 110 45) ⟨by omega, by omega⟩
  refine g_iconst dX6_fail_10 ?_
  exact g_retZ dX6_fail_11 rfl (by decide) (hQ 0 (by decide) _ hB2 (FrX.s (FrX.s FrX.rf (⟨by decide, rfl⟩ : kx 110 45) rfl) (⟨by decide, rfl⟩ : kx 110 45) rfl) (by have q0 := (((up_k (by decide)).trans up_same) : (up (up P 110 3 a1) 110 4 a2) 110 3 = a1); have q1 := (up_same : (up (up P 110 3 a1) 110 4 a2) 110 4 = a2); omega))
/-! What the class answers: X6_failHere. -/
set_option maxRecDepth 100000 in
set_option maxHeartbeats 4000000 in
theorem f_X6_failHere (G : GT) (P : PH) (T : TT) (p : Int) (hB : BdX P) (z0 : XS T p P) (Q : Option PV → PH → Prop) (hQ : ∀ (r : Int) (_ : 0 ≤ r ∧ r ≤ 1) (P1 : PH) (_ : BdX P1) (_ : FrX ([(45, 3), (45, 4)], []) P P1) (_ : P1 110 3 = 1 ∧ P1 110 4 = fh T p ∧ r = 0), Q (some (vI r)) P1) : Ct WSX G 1 iX6_failHere [vR 110] P Q := by
  refine Ct.of (by decide) (l0 := [(0, vR 110)]) rfl (Nat.le_of_ble_eq_true rfl) ?_
  have hb := z0.b
  have h6 : tK T p = 4 → P 111 6 = tS T p := z0.bad
  have hfh := fh_s T p
  refine g_aload_n dX6_failHere_0 rfl ?_
  refine g_iconst dX6_failHere_1 ?_
  refine x_p45_3 (⟨by decide, rfl⟩ : kx 110 45) pfX6_82 dX6_failHere_2 ?_
  have hB1 := by_45_3 (z := 1) hB (⟨by decide, rfl⟩ : kx 110 45) (by decide)
  refine g_aload_n dX6_failHere_5 rfl ?_
  refine g_aload_n dX6_failHere_6 rfl ?_
  refine x_g45_0 (n := 111) (⟨by decide, rfl⟩ : kx 110 45) ffX6_12 dX6_failHere_7 rfl ?_
  refine x_g46_4 (z := (P 111 4)) (⟨by decide, rfl⟩ : kx 111 46) ffX6_40 dX6_failHere_10 ((up_o (kx.ne (⟨by decide, rfl⟩ : kx 111 46) (⟨by decide, rfl⟩ : kx 110 45) rfl)).trans rfl) ?_
  refine g_iconst dX6_failHere_13 ?_
  have f2 := bx_46_4 (o := 111) hB (⟨by decide, rfl⟩ : kx 111 46)
  refine g_icmp_ne (tgt := 27) dX6_failHere_14 (by decide) ⟨by have q0 := bx_46_4 (o := 111) hB (⟨by decide, rfl⟩ : kx 111 46); (clear hb h6 hfh; omega), by have q0 := bx_46_4 (o := 111) hB (⟨by decide, rfl⟩ : kx 111 46); (clear hb h6 hfh; omega)⟩ (by decide) (fun k3 => ?_) (fun k3 => ?_)
  · skip
    refine g_aload_n dX6_failHere_27 rfl ?_
    refine x_g45_0 (n := 111) (⟨by decide, rfl⟩ : kx 110 45) ffX6_12 dX6_failHere_28 rfl ?_
    refine x_g46_5 (z := (P 111 5)) (⟨by decide, rfl⟩ : kx 111 46) ffX6_72 dX6_failHere_31 ((up_o (kx.ne (⟨by decide, rfl⟩ : kx 111 46) (⟨by decide, rfl⟩ : kx 110 45) rfl)).trans rfl) ?_
    refine x_p45_4 (⟨by decide, rfl⟩ : kx 110 45) pfX6_23 dX6_failHere_34 ?_
    have hB4 := by_45_4 (z := (P 111 5)) hB1 (⟨by decide, rfl⟩ : kx 110 45) ⟨by have q0 := bx_46_5 (o := 111) hB (⟨by decide, rfl⟩ : kx 111 46); (clear hb h6 hfh k3; omega), by have q0 := bx_46_5 (o := 111) hB (⟨by decide, rfl⟩ : kx 111 46); (clear hb h6 hfh k3; omega)⟩
    refine g_iconst dX6_failHere_37 ?_
    exact g_retZ dX6_failHere_38 rfl (by decide) (hQ 0 (by decide) _ hB4 (FrX.s (FrX.s FrX.rf (⟨by decide, rfl⟩ : kx 110 45) rfl) (⟨by decide, rfl⟩ : kx 110 45) rfl) (by have q0 := (((up_k (by decide)).trans up_same) : (up (up P 110 3 1) 110 4 (P 111 5)) 110 3 = 1); have q1 := (up_same : (up (up P 110 3 1) 110 4 (P 111 5)) 110 4 = (P 111 5)); have q2 := bx_46_5 (o := 111) hB (⟨by decide, rfl⟩ : kx 111 46); (omega)))
  · skip
    refine g_aload_n dX6_failHere_17 rfl ?_
    refine x_g45_0 (n := 111) (⟨by decide, rfl⟩ : kx 110 45) ffX6_12 dX6_failHere_18 rfl ?_
    refine x_g46_6 (z := (P 111 6)) (⟨by decide, rfl⟩ : kx 111 46) ffX6_86 dX6_failHere_21 ((up_o (kx.ne (⟨by decide, rfl⟩ : kx 111 46) (⟨by decide, rfl⟩ : kx 110 45) rfl)).trans rfl) ?_
    refine g_goto (tgt := 34) dX6_failHere_24 (by decide) ?_
    refine x_p45_4 (⟨by decide, rfl⟩ : kx 110 45) pfX6_23 dX6_failHere_34 ?_
    have hB5 := by_45_4 (z := (P 111 6)) hB1 (⟨by decide, rfl⟩ : kx 110 45) ⟨by have q0 := bx_46_6 (o := 111) hB (⟨by decide, rfl⟩ : kx 111 46); (clear hb h6 hfh k3; omega), by have q0 := bx_46_6 (o := 111) hB (⟨by decide, rfl⟩ : kx 111 46); (clear hb h6 hfh k3; omega)⟩
    refine g_iconst dX6_failHere_37 ?_
    exact g_retZ dX6_failHere_38 rfl (by decide) (hQ 0 (by decide) _ hB5 (FrX.s (FrX.s FrX.rf (⟨by decide, rfl⟩ : kx 110 45) rfl) (⟨by decide, rfl⟩ : kx 110 45) rfl) (by have q0 := (((up_k (by decide)).trans up_same) : (up (up P 110 3 1) 110 4 (P 111 6)) 110 3 = 1); have q1 := (up_same : (up (up P 110 3 1) 110 4 (P 111 6)) 110 4 = (P 111 6)); have q2 := bx_46_6 (o := 111) hB (⟨by decide, rfl⟩ : kx 111 46); (omega)))
/-! What the class answers: X6_begin_B16. -/
set_option maxRecDepth 100000 in
set_option maxHeartbeats 4000000 in
theorem f_X6_begin_B16 (G : GT) (P : PH) (T : TT) (hB : BdX P) (p_tx : P 1 1 = T.2 ∧ ∀ i : Int, 0 ≤ i → i < T.2 → P 2 i = T.1 i) (v_OWN : OWN P) (Q : Option PV → PH → Prop) (hQ : ∀ (P1 : PH) (_ : BdX P1) (_ : FrX ([(45, 3), (45, 4), (46, 1), (46, 2), (46, 3), (46, 4), (46, 5), (46, 6), (46, 7), (46, 8)], []) P P1) (_ : P1 110 3 = 0 ∧ P1 110 4 = -1) (_ : TX P1) (_ : XT T P1) (_ : XS T 0 P1), Q none P1) : Ct WSX G 4 iX6_begin [vR 110, vR 1] P Q := by
  refine Ct.of (by decide) (l0 := [(0, vR 110), (1, vR 1)]) rfl (Nat.le_of_ble_eq_true rfl) ?_
  refine g_aload_n dX6_begin_0 rfl ?_
  refine g_iconst dX6_begin_1 ?_
  refine x_p45_3 (⟨by decide, rfl⟩ : kx 110 45) pfX6_82 dX6_begin_2 ?_
  have hB1 := by_45_3 (z := 0) hB (⟨by decide, rfl⟩ : kx 110 45) (by decide)
  refine g_aload_n dX6_begin_5 rfl ?_
  refine g_iconst dX6_begin_6 ?_
  refine x_p45_4 (⟨by decide, rfl⟩ : kx 110 45) pfX6_23 dX6_begin_7 ?_
  have hB2 := by_45_4 (z := (-1)) hB1 (⟨by decide, rfl⟩ : kx 110 45) (by decide)
  refine g_aload_n dX6_begin_10 rfl ?_
  refine x_g45_0 (n := 111) (⟨by decide, rfl⟩ : kx 110 45) ffX6_12 dX6_begin_11 rfl ?_
  refine g_aload_n dX6_begin_14 rfl ?_
  refine g_vV (av := [vR 1]) (o := 111) (st := []) (f_X7_begin_B16 G (up (up P 110 3 0) 110 4 (-1)) T  hB2 (⟨by have q := (((up_o (kx.ne (⟨by decide, rfl⟩ : kx 1 1) (⟨by decide, rfl⟩ : kx 110 45) rfl)).trans ((up_o (kx.ne (⟨by decide, rfl⟩ : kx 1 1) (⟨by decide, rfl⟩ : kx 110 45) rfl)).trans rfl)) : (up (up P 110 3 0) 110 4 (-1)) 1 1 = (P 1 1)); have q1 := p_tx.1; (clear p_tx; omega), fun i h0 h1 => (((up_o (kx.ne (⟨by decide, rfl⟩ : kx 2 2) (⟨by decide, rfl⟩ : kx 110 45) rfl)).trans ((up_o (kx.ne (⟨by decide, rfl⟩ : kx 2 2) (⟨by decide, rfl⟩ : kx 110 45) rfl)).trans rfl))).trans (p_tx.2 i h0 h1)⟩) (OWN.fr (F := ([(45, 3), (45, 4)], [])) v_OWN (FrX.s (FrX.s FrX.rf (⟨by decide, rfl⟩ : kx 110 45) rfl) (⟨by decide, rfl⟩ : kx 110 45) rfl) rfl) _ (fun Pc3 hBc3 hFc3 vc3_TX ec3_0 ec3_1 => ⟨rfl, ?_⟩)) cf_X7_begin t_699 rfl (show kx 111 46 from (⟨by decide, rfl⟩ : kx 111 46)).1 ((show kx 111 46 from (⟨by decide, rfl⟩ : kx 111 46)).sh rfl) rfl rfl (Nat.le_of_ble_eq_true rfl) (by decide) rfl dX6_begin_15
  exact g_retV dX6_begin_18 rfl (hQ _ hBc3 (FrX.c (FrX.s (FrX.s FrX.rf (⟨by decide, rfl⟩ : kx 110 45) rfl) (⟨by decide, rfl⟩ : kx 110 45) rfl) hFc3 rfl) (by have q0 := (((FrX.g hFc3 (⟨by decide, rfl⟩ : kx 110 45) rfl).trans ((up_k (by decide)).trans up_same)) : Pc3 110 3 = 0); have q1 := (((FrX.g hFc3 (⟨by decide, rfl⟩ : kx 110 45) rfl).trans up_same) : Pc3 110 4 = (-1)); (clear p_tx; omega)) vc3_TX (ec3_0) (ec3_1))
/-! What the class answers: X6_readSign. -/
set_option maxRecDepth 100000 in
set_option maxHeartbeats 4000000 in
theorem f_X6_readSign (G : GT) (P : PH) (T : TT) (p : Int) (a1 : Int) (h_a1 : (-2147483648) ≤ a1 ∧ a1 ≤ 2147483647) (hB : BdX P) (v_TX : TX P) (v_OWN : OWN P) (z0 : XT T P) (z1 : XS T p P) (Q : Option PV → PH → Prop) (hQ : ∀ (r : Int) (_ : 0 ≤ r ∧ r ≤ 1) (P1 : PH) (_ : BdX P1) (_ : FrX ([(45, 3), (45, 4), (46, 3), (46, 4), (46, 5), (46, 6), (46, 7), (46, 8)], []) P P1) (_ : (r = 1 ∧ (sgn T a1 p).1 = 0 ∧ P1 110 3 = P 110 3 ∧ P1 110 4 = P 110 4) ∨ (r = 0 ∧ (sgn T a1 p).1 ≠ 0 ∧ P1 110 3 = (sgn T a1 p).1 ∧ P1 110 4 = (sgn T a1 p).2)) (_ : CP (sgn T a1 p).1 (XS T (sgn T a1 p).2) P1), Q (some (vI r)) P1) : Ct WSX G 3 iX6_readSign [vR 110, vI a1] P Q := by
  refine Ct.of (by decide) (l0 := [(0, vR 110), (1, vI a1)]) rfl (Nat.le_of_ble_eq_true rfl) ?_
  have hsg := sgn_s T a1 p
  refine g_aload_n dX6_readSign_0 rfl ?_
  refine x_g45_0 (n := 111) (⟨by decide, rfl⟩ : kx 110 45) ffX6_12 dX6_readSign_1 rfl ?_
  refine g_iload_n dX6_readSign_4 rfl ?_
  refine g_vI (av := [vI a1]) (o := 111) (st := []) (f_X7_isSign G P T p a1 ⟨by (clear hsg; omega), by (clear hsg; omega)⟩ hB (z1) _ (fun rc1 hc1 gc1_f => ⟨rc1, rfl, ?_⟩)) cf_X7_isSign t_801 rfl (show kx 111 46 from (⟨by decide, rfl⟩ : kx 111 46)).1 ((show kx 111 46 from (⟨by decide, rfl⟩ : kx 111 46)).sh rfl) rfl rfl (Nat.le_of_ble_eq_true rfl) (by decide) rfl dX6_readSign_5
  refine g_if_ne (tgt := 16) dX6_readSign_8 (by decide) ⟨by (clear hsg gc1_f; omega), by (clear hsg gc1_f; omega)⟩ (fun k2 => ?_) (fun k2 => ?_)
  · have k2n : 1 ≤ rc1 := by (clear hsg gc1_f; omega)
    clear k2
    have r_gc1_f := (gc1_f.resolve_right (by (clear hsg gc1_f; omega)))
    have r_hsg := (hsg.resolve_right (by (clear hsg gc1_f; omega)))
    refine g_aload_n dX6_readSign_16 rfl ?_
    refine x_g45_0 (n := 111) (⟨by decide, rfl⟩ : kx 110 45) ffX6_12 dX6_readSign_17 rfl ?_
    refine g_vV (av := []) (o := 111) (st := []) (f_X7_step G P T (tE T p)  hB ((z1.stp (by (clear hsg gc1_f; omega))).1) ((z1.stp (by (clear hsg gc1_f; omega))).2) v_TX v_OWN (z0) _ (fun Pc3 hBc3 hFc3 ec3_0 => ⟨rfl, ?_⟩)) cf_X7_step t_731 rfl (show kx 111 46 from (⟨by decide, rfl⟩ : kx 111 46)).1 ((show kx 111 46 from (⟨by decide, rfl⟩ : kx 111 46)).sh rfl) rfl rfl (Nat.le_of_ble_eq_true rfl) (by decide) rfl dX6_readSign_20
    refine g_iconst dX6_readSign_23 ?_
    exact g_retZ dX6_readSign_24 rfl (by decide) (hQ 1 (by decide) _ hBc3 (FrX.c FrX.rf hFc3 rfl) (by have q0 := (((FrX.g hFc3 (⟨by decide, rfl⟩ : kx 110 45) rfl).trans rfl) : Pc3 110 3 = (P 110 3)); have q1 := bx_45_3 (o := 110) hB (⟨by decide, rfl⟩ : kx 110 45); have q2 := (((FrX.g hFc3 (⟨by decide, rfl⟩ : kx 110 45) rfl).trans rfl) : Pc3 110 4 = (P 110 4)); have q3 := bx_45_4 (o := 110) hB (⟨by decide, rfl⟩ : kx 110 45); (clear hsg gc1_f; omega)) ((fun h0 => by first | exact (by first | (rw [show (sgn T a1 p).2 = (tE T p) by (clear hsg gc1_f; omega)]; exact ec3_0)) | (exfalso; (first | (clear hsg gc1_f; omega) | (clear hsg; omega) | (clear gc1_f; omega) | omega)))))
  · skip
    skip
    refine g_aload_n dX6_readSign_11 rfl ?_
    refine g_vI (av := []) (o := 110) (st := []) (f_X6_failHere G P T p  hB (z1) _ (fun rc4 hc4 Pc4 hBc4 hFc4 gc4_f => ⟨rc4, rfl, ?_⟩)) cf_X6_failHere t_723 rfl (show kx 110 45 from (⟨by decide, rfl⟩ : kx 110 45)).1 ((show kx 110 45 from (⟨by decide, rfl⟩ : kx 110 45)).sh rfl) rfl rfl (Nat.le_of_ble_eq_true rfl) (by decide) rfl dX6_readSign_12
    exact g_retZ dX6_readSign_15 rfl (by (clear hsg gc1_f k2; omega)) (hQ rc4 ⟨by (clear hsg gc1_f k2; omega), by (clear hsg gc1_f k2; omega)⟩ _ hBc4 (FrX.c FrX.rf hFc4 rfl) (by have q0 := bx_45_3 (o := 110) hBc4 (⟨by decide, rfl⟩ : kx 110 45); have q1 := bx_45_4 (o := 110) hBc4 (⟨by decide, rfl⟩ : kx 110 45); (omega)) ((fun h0 => by first | exact (by first | (rw [show (sgn T a1 p).2 = p by (omega)]; exact (XS.fr (F := ([(45, 3), (45, 4)], [])) z1 (FrX.c FrX.rf hFc4 rfl) rfl))) | (exfalso; (first | (clear hsg gc1_f k2; omega) | (clear hsg gc1_f; omega) | (clear hsg k2; omega) | (clear gc1_f k2; omega) | (clear hsg; omega) | omega)))))
/-! What the class answers: X6_readNumber. -/
set_option maxRecDepth 100000 in
set_option maxHeartbeats 4000000 in
theorem f_X6_readNumber (G : GT) (P : PH) (T : TT) (p : Int) (a1 : Int) (a2 : Int) (h_a1 : (-2147483648) ≤ a1 ∧ a1 ≤ 2147483647) (h_a2 : (-2147483648) ≤ a2 ∧ a2 ≤ 2147483647) (hB : BdX P) (p_lo : 0 ≤ a1) (v_TX : TX P) (v_OWN : OWN P) (z0 : XT T P) (z1 : XS T p P) (Q : Option PV → PH → Prop) (hQ : ∀ (r : Int) (_ : (-2147483648) ≤ r ∧ r ≤ 2147483647) (P1 : PH) (_ : BdX P1) (_ : FrX ([(45, 3), (45, 4), (46, 3), (46, 4), (46, 5), (46, 6), (46, 7), (46, 8)], []) P P1) (_ : (r = tV T p ∧ a1 ≤ r ∧ r ≤ a2 ∧ (num T a1 a2 p).1 = 0 ∧ P1 110 3 = P 110 3 ∧ P1 110 4 = P 110 4) ∨ (r = -1 ∧ (num T a1 a2 p).1 ≠ 0 ∧ P1 110 3 = (num T a1 a2 p).1 ∧ P1 110 4 = (num T a1 a2 p).2)) (_ : CP (num T a1 a2 p).1 (XS T (num T a1 a2 p).2) P1), Q (some (vI r)) P1) : Ct WSX G 3 iX6_readNumber [vR 110, vI a1, vI a2] P Q := by
  refine Ct.of (by decide) (l0 := [(0, vR 110), (1, vI a1), (2, vI a2)]) rfl (Nat.le_of_ble_eq_true rfl) ?_
  have hsg := num_s T a1 a2 p
  have hb := z1.b
  have hv : tK T p = 2 → P 111 7 = tV T p := fun h => (z1.tok (by (clear hsg hb; omega))).2
  refine g_aload_n dX6_readNumber_0 rfl ?_
  refine x_g45_0 (n := 111) (⟨by decide, rfl⟩ : kx 110 45) ffX6_12 dX6_readNumber_1 rfl ?_
  refine x_g46_4 (z := (P 111 4)) (⟨by decide, rfl⟩ : kx 111 46) ffX6_40 dX6_readNumber_4 rfl ?_
  refine g_iconst dX6_readNumber_7 ?_
  have f1 := bx_46_4 (o := 111) hB (⟨by decide, rfl⟩ : kx 111 46)
  refine g_icmp_eq (tgt := 18) dX6_readNumber_8 (by decide) ⟨by have q0 := bx_46_4 (o := 111) hB (⟨by decide, rfl⟩ : kx 111 46); (clear hsg hb hv; omega), by have q0 := bx_46_4 (o := 111) hB (⟨by decide, rfl⟩ : kx 111 46); (clear hsg hb hv; omega)⟩ (by decide) (fun k2 => ?_) (fun k2 => ?_)
  · skip
    refine g_aload_n dX6_readNumber_18 rfl ?_
    refine x_g45_0 (n := 111) (⟨by decide, rfl⟩ : kx 110 45) ffX6_12 dX6_readNumber_19 rfl ?_
    refine x_g46_7 (z := (P 111 7)) (⟨by decide, rfl⟩ : kx 111 46) ffX6_95 dX6_readNumber_22 rfl ?_
    refine g_istore_n (l1 := [(3, vI (P 111 7)), (0, vR 110), (1, vI a1), (2, vI a2)]) dX6_readNumber_25 (by decide) rfl ?_
    refine g_iload_n dX6_readNumber_26 rfl ?_
    refine g_iload_n dX6_readNumber_27 rfl ?_
    have f3 := bx_46_7 (o := 111) hB (⟨by decide, rfl⟩ : kx 111 46)
    refine g_icmp_lt (tgt := 36) dX6_readNumber_28 (by decide) ⟨by have q0 := bx_46_7 (o := 111) hB (⟨by decide, rfl⟩ : kx 111 46); (clear hsg hb hv k2; omega), by have q0 := bx_46_7 (o := 111) hB (⟨by decide, rfl⟩ : kx 111 46); (clear hsg hb hv k2; omega)⟩ ⟨by (clear hsg hb hv k2; omega), by (clear hsg hb hv k2; omega)⟩ (fun k4 => ?_) (fun k4 => ?_)
    · skip
      refine g_aload_n dX6_readNumber_36 rfl ?_
      refine g_iconst dX6_readNumber_37 ?_
      refine g_aload_n dX6_readNumber_38 rfl ?_
      refine x_g45_0 (n := 111) (⟨by decide, rfl⟩ : kx 110 45) ffX6_12 dX6_readNumber_39 rfl ?_
      refine x_g46_5 (z := (P 111 5)) (⟨by decide, rfl⟩ : kx 111 46) ffX6_72 dX6_readNumber_42 rfl ?_
      have f5 := bx_46_5 (o := 111) hB (⟨by decide, rfl⟩ : kx 111 46)
      refine g_vI (av := [vI 4, vI (P 111 5)]) (o := 110) (st := []) (f_X6_fail G P 4 (P 111 5) (by decide) ⟨by have q0 := bx_46_5 (o := 111) hB (⟨by decide, rfl⟩ : kx 111 46); (clear hsg hb hv k2 k4; omega), by have q0 := bx_46_5 (o := 111) hB (⟨by decide, rfl⟩ : kx 111 46); (clear hsg hb hv k2 k4; omega)⟩ hB  _ (fun rc6 hc6 Pc6 hBc6 hFc6 gc6_f => ⟨rc6, rfl, ?_⟩)) cf_X6_fail t_727 rfl (show kx 110 45 from (⟨by decide, rfl⟩ : kx 110 45)).1 ((show kx 110 45 from (⟨by decide, rfl⟩ : kx 110 45)).sh rfl) rfl rfl (Nat.le_of_ble_eq_true rfl) (by decide) rfl dX6_readNumber_45
      refine g_pop dX6_readNumber_48 rfl ?_
      refine g_iconst dX6_readNumber_49 ?_
      exact g_retI dX6_readNumber_50 rfl (hQ (-1) (by decide) _ hBc6 (FrX.c FrX.rf hFc6 rfl) (by have q0 := bx_45_3 (o := 110) hBc6 (⟨by decide, rfl⟩ : kx 110 45); have q1 := bx_45_4 (o := 110) hBc6 (⟨by decide, rfl⟩ : kx 110 45); (omega)) ((fun h0 => by first | exact (by first | (rw [show (num T a1 a2 p).2 = p by (omega)]; exact (XS.fr (F := ([(45, 3), (45, 4)], [])) z1 (FrX.c FrX.rf hFc6 rfl) rfl))) | (exfalso; (first | (clear hsg hb hv k2 k4; omega) | (clear hsg hb hv k2; omega) | (clear hsg hb hv k4; omega) | (clear hsg hb k2 k4; omega) | (clear hsg hv k2 k4; omega) | (clear hb hv k2 k4; omega) | (clear hsg hb hv; omega) | (clear hsg; omega) | omega)))))
    · skip
      refine g_iload_n dX6_readNumber_31 rfl ?_
      refine g_iload_n dX6_readNumber_32 rfl ?_
      refine g_icmp_le (tgt := 51) dX6_readNumber_33 (by decide) ⟨by have q0 := bx_46_7 (o := 111) hB (⟨by decide, rfl⟩ : kx 111 46); (clear hsg hb hv k2 k4; omega), by have q0 := bx_46_7 (o := 111) hB (⟨by decide, rfl⟩ : kx 111 46); (clear hsg hb hv k2 k4; omega)⟩ ⟨by (clear hsg hb hv k2 k4; omega), by (clear hsg hb hv k2 k4; omega)⟩ (fun k7 => ?_) (fun k7 => ?_)
      · skip
        refine g_aload_n dX6_readNumber_51 rfl ?_
        refine x_g45_0 (n := 111) (⟨by decide, rfl⟩ : kx 110 45) ffX6_12 dX6_readNumber_52 rfl ?_
        refine g_vV (av := []) (o := 111) (st := []) (f_X7_step G P T (tE T p)  hB ((z1.stp (by (clear hsg; omega))).1) ((z1.stp (by (clear hsg; omega))).2) v_TX v_OWN (z0) _ (fun Pc8 hBc8 hFc8 ec8_0 => ⟨rfl, ?_⟩)) cf_X7_step t_731 rfl (show kx 111 46 from (⟨by decide, rfl⟩ : kx 111 46)).1 ((show kx 111 46 from (⟨by decide, rfl⟩ : kx 111 46)).sh rfl) rfl rfl (Nat.le_of_ble_eq_true rfl) (by decide) rfl dX6_readNumber_55
        refine g_iload_n dX6_readNumber_58 rfl ?_
        exact g_retI dX6_readNumber_59 rfl (hQ (P 111 7) ⟨by have q0 := bx_46_7 (o := 111) hB (⟨by decide, rfl⟩ : kx 111 46); (clear hsg hb hv k2 k4; omega), by have q0 := bx_46_7 (o := 111) hB (⟨by decide, rfl⟩ : kx 111 46); (clear hsg hb hv k2 k4; omega)⟩ _ hBc8 (FrX.c FrX.rf hFc8 rfl) (by have q0 := bx_46_7 (o := 111) hB (⟨by decide, rfl⟩ : kx 111 46); have q1 := (((FrX.g hFc8 (⟨by decide, rfl⟩ : kx 110 45) rfl).trans rfl) : Pc8 110 3 = (P 110 3)); have q2 := bx_45_3 (o := 110) hB (⟨by decide, rfl⟩ : kx 110 45); have q3 := (((FrX.g hFc8 (⟨by decide, rfl⟩ : kx 110 45) rfl).trans rfl) : Pc8 110 4 = (P 110 4)); have q4 := bx_45_4 (o := 110) hB (⟨by decide, rfl⟩ : kx 110 45); (omega)) ((fun h0 => by first | exact (by first | (rw [show (num T a1 a2 p).2 = (tE T p) by (clear hb hv k2 k4; omega)]; exact ec8_0)) | (exfalso; (first | (clear hsg hb hv k2 k4; omega) | (clear hsg hb hv k2; omega) | (clear hsg hb hv k4; omega) | (clear hsg hb k2 k4; omega) | (clear hsg hv k2 k4; omega) | (clear hb hv k2 k4; omega) | (clear hsg hb hv; omega) | (clear hsg; omega) | omega)))))
      · skip
        refine g_aload_n dX6_readNumber_36 rfl ?_
        refine g_iconst dX6_readNumber_37 ?_
        refine g_aload_n dX6_readNumber_38 rfl ?_
        refine x_g45_0 (n := 111) (⟨by decide, rfl⟩ : kx 110 45) ffX6_12 dX6_readNumber_39 rfl ?_
        refine x_g46_5 (z := (P 111 5)) (⟨by decide, rfl⟩ : kx 111 46) ffX6_72 dX6_readNumber_42 rfl ?_
        have f9 := bx_46_5 (o := 111) hB (⟨by decide, rfl⟩ : kx 111 46)
        refine g_vI (av := [vI 4, vI (P 111 5)]) (o := 110) (st := []) (f_X6_fail G P 4 (P 111 5) (by decide) ⟨by have q0 := bx_46_5 (o := 111) hB (⟨by decide, rfl⟩ : kx 111 46); (clear hsg hb hv k2 k4; omega), by have q0 := bx_46_5 (o := 111) hB (⟨by decide, rfl⟩ : kx 111 46); (clear hsg hb hv k2 k4; omega)⟩ hB  _ (fun rc10 hc10 Pc10 hBc10 hFc10 gc10_f => ⟨rc10, rfl, ?_⟩)) cf_X6_fail t_727 rfl (show kx 110 45 from (⟨by decide, rfl⟩ : kx 110 45)).1 ((show kx 110 45 from (⟨by decide, rfl⟩ : kx 110 45)).sh rfl) rfl rfl (Nat.le_of_ble_eq_true rfl) (by decide) rfl dX6_readNumber_45
        refine g_pop dX6_readNumber_48 rfl ?_
        refine g_iconst dX6_readNumber_49 ?_
        exact g_retI dX6_readNumber_50 rfl (hQ (-1) (by decide) _ hBc10 (FrX.c FrX.rf hFc10 rfl) (by have q0 := bx_45_3 (o := 110) hBc10 (⟨by decide, rfl⟩ : kx 110 45); have q1 := bx_45_4 (o := 110) hBc10 (⟨by decide, rfl⟩ : kx 110 45); (omega)) ((fun h0 => by first | exact (by first | (rw [show (num T a1 a2 p).2 = p by (omega)]; exact (XS.fr (F := ([(45, 3), (45, 4)], [])) z1 (FrX.c FrX.rf hFc10 rfl) rfl))) | (exfalso; (first | (clear hsg hb hv k2 k4; omega) | (clear hsg hb hv k2; omega) | (clear hsg hb hv k4; omega) | (clear hsg hb k2 k4; omega) | (clear hsg hv k2 k4; omega) | (clear hb hv k2 k4; omega) | (clear hsg hb hv; omega) | (clear hsg; omega) | omega)))))
  · skip
    refine g_aload_n dX6_readNumber_11 rfl ?_
    refine g_vI (av := []) (o := 110) (st := []) (f_X6_failHere G P T p  hB (z1) _ (fun rc11 hc11 Pc11 hBc11 hFc11 gc11_f => ⟨rc11, rfl, ?_⟩)) cf_X6_failHere t_723 rfl (show kx 110 45 from (⟨by decide, rfl⟩ : kx 110 45)).1 ((show kx 110 45 from (⟨by decide, rfl⟩ : kx 110 45)).sh rfl) rfl rfl (Nat.le_of_ble_eq_true rfl) (by decide) rfl dX6_readNumber_12
    refine g_pop dX6_readNumber_15 rfl ?_
    refine g_iconst dX6_readNumber_16 ?_
    exact g_retI dX6_readNumber_17 rfl (hQ (-1) (by decide) _ hBc11 (FrX.c FrX.rf hFc11 rfl) (by have q0 := bx_45_3 (o := 110) hBc11 (⟨by decide, rfl⟩ : kx 110 45); have q1 := bx_45_4 (o := 110) hBc11 (⟨by decide, rfl⟩ : kx 110 45); (omega)) ((fun h0 => by first | exact (by first | (rw [show (num T a1 a2 p).2 = p by (omega)]; exact (XS.fr (F := ([(45, 3), (45, 4)], [])) z1 (FrX.c FrX.rf hFc11 rfl) rfl))) | (exfalso; (first | (clear hsg hb hv k2; omega) | (clear hsg hb hv; omega) | (clear hsg hb k2; omega) | (clear hsg hv k2; omega) | (clear hb hv k2; omega) | (clear hsg hb; omega) | omega)))))
/-! What the class answers: X6_readRule. -/
set_option maxRecDepth 100000 in
set_option maxHeartbeats 4000000 in
theorem f_X6_readRule (G : GT) (P : PH) (T : TT) (p : Int) (M : PH) (o : Nat) (k_o : kx o 28) (hB : BdX P) (p_k0 : tO T p = 5) (v_TX : TX P) (v_OWN : OWN P) (z0 : XT T P) (z1 : XS T p P) (z2 : XM M o P) (z3 : RT o P) (Q : Option PV → PH → Prop) (hQ : ∀ (r : Int) (_ : 0 ≤ r ∧ r ≤ 1) (P1 : PH) (_ : BdX P1) (_ : FrX ([(28, 9), (45, 3), (45, 4), (46, 3), (46, 4), (46, 5), (46, 6), (46, 7), (46, 8)], []) P P1) (_ : (r = 1 ∧ (num T 0 3 (tE T p)).1 = 0 ∧ P1 110 3 = P 110 3 ∧ P1 110 4 = P 110 4) ∨ (r = 0 ∧ (num T 0 3 (tE T p)).1 ≠ 0 ∧ P1 110 3 = (num T 0 3 (tE T p)).1 ∧ P1 110 4 = (num T 0 3 (tE T p)).2)) (_ : CP (num T 0 3 (tE T p)).1 (XS T (num T 0 3 (tE T p)).2) P1) (_ : CP (num T 0 3 (tE T p)).1 (XM (up M 0 3 (tV T (tE T p))) o) P1) (_ : KT (tbX o) P P1), Q (some (vI r)) P1) : Ct WSX G 4 iX6_readRule [vR 110] P Q := by
  refine Ct.of (by decide) (l0 := [(0, vR 110)]) rfl (Nat.le_of_ble_eq_true rfl) ?_
  have kt0 : KT (tbX o) P P := KT.rf
  have hor := tO_r T p
  have hk1 : tK T p = 1 := by (omega)
  refine g_aload_n dX6_readRule_0 rfl ?_
  refine x_g45_0 (n := 111) (⟨by decide, rfl⟩ : kx 110 45) ffX6_12 dX6_readRule_1 rfl ?_
  refine g_vV (av := []) (o := 111) (st := []) (f_X7_step G P T (tE T p)  hB ((z1.stp (by (clear hor; omega))).1) ((z1.stp (by (clear hor; omega))).2) v_TX v_OWN (z0) _ (fun Pc1 hBc1 hFc1 ec1_0 => ⟨rfl, ?_⟩)) cf_X7_step t_731 rfl (show kx 111 46 from (⟨by decide, rfl⟩ : kx 111 46)).1 ((show kx 111 46 from (⟨by decide, rfl⟩ : kx 111 46)).sh rfl) rfl rfl (Nat.le_of_ble_eq_true rfl) (by decide) rfl dX6_readRule_4
  refine g_aload_n dX6_readRule_7 rfl ?_
  refine x_g45_2 (n := o) (⟨by decide, rfl⟩ : kx 110 45) ffX6_27 dX6_readRule_8 (RT.fr (F := ([(46, 3), (46, 4), (46, 5), (46, 6), (46, 7), (46, 8)], [])) z3 (FrX.c FrX.rf hFc1 rfl) rfl) ?_
  refine g_aload_n dX6_readRule_11 rfl ?_
  refine g_iconst dX6_readRule_12 ?_
  refine g_iconst dX6_readRule_13 ?_
  refine g_vI (av := [vI 0, vI 3]) (o := 110) (st := [vR o]) (f_X6_readNumber G Pc1 T (tE T p) 0 3 (by decide) (by decide) hBc1 (by (clear hor; omega)) (TX.fr (F := ([(46, 3), (46, 4), (46, 5), (46, 6), (46, 7), (46, 8)], [])) v_TX (FrX.c FrX.rf hFc1 rfl) rfl) (OWN.fr (F := ([(46, 3), (46, 4), (46, 5), (46, 6), (46, 7), (46, 8)], [])) v_OWN (FrX.c FrX.rf hFc1 rfl) rfl) ((XT.fr (F := ([(46, 3), (46, 4), (46, 5), (46, 6), (46, 7), (46, 8)], [])) z0 (FrX.c FrX.rf hFc1 rfl) rfl)) (ec1_0) _ (fun rc2 hc2 Pc2 hBc2 hFc2 gc2_n ec2_0 => ⟨rc2, rfl, ?_⟩)) cf_X6_readNumber t_816 rfl (show kx 110 45 from (⟨by decide, rfl⟩ : kx 110 45)).1 ((show kx 110 45 from (⟨by decide, rfl⟩ : kx 110 45)).sh rfl) rfl rfl (Nat.le_of_ble_eq_true rfl) (by decide) rfl dX6_readRule_14
  have zq3 : Pc1 110 3 = (P 110 3) := ((FrX.g hFc1 (⟨by decide, rfl⟩ : kx 110 45) rfl).trans rfl)
  have zq4 : Pc1 110 4 = (P 110 4) := ((FrX.g hFc1 (⟨by decide, rfl⟩ : kx 110 45) rfl).trans rfl)
  refine x_p28_9 k_o pfX6_102 dX6_readRule_17 ?_
  have hB5 := by_28_9 (z := rc2) hBc2 k_o ⟨by (clear hor gc2_n; omega), by (clear hor gc2_n; omega)⟩
  have kt6 : KT (tbX o) P (up Pc2 o 9 rc2) := KT.w (KT.fr (F := ([(45, 3), (45, 4), (46, 3), (46, 4), (46, 5), (46, 6), (46, 7), (46, 8)], [])) kt0 (FrX.c (FrX.c FrX.rf hFc1 rfl) hFc2 rfl) rfl) (Or.inl rfl)
  refine g_aload_n dX6_readRule_20 rfl ?_
  refine x_g45_2 (n := o) (⟨by decide, rfl⟩ : kx 110 45) ffX6_27 dX6_readRule_21 (RT.fr (F := ([(28, 9), (45, 3), (45, 4), (46, 3), (46, 4), (46, 5), (46, 6), (46, 7), (46, 8)], [])) z3 (FrX.s (FrX.c (FrX.c FrX.rf hFc1 rfl) hFc2 rfl) k_o rfl) rfl) ?_
  refine x_g28_9 (z := rc2) k_o ffX6_102 dX6_readRule_24 up_same ?_
  refine g_iconst dX6_readRule_27 ?_
  refine g_icmp_eq (tgt := 35) dX6_readRule_28 (by decide) ⟨by (clear hor gc2_n; omega), by (clear hor gc2_n; omega)⟩ (by decide) (fun k7 => ?_) (fun k7 => ?_)
  · skip
    refine g_iconst dX6_readRule_35 ?_
    exact g_retZ dX6_readRule_36 rfl (by decide) (hQ 0 (by decide) _ hB5 (FrX.s (FrX.c (FrX.c FrX.rf hFc1 rfl) hFc2 rfl) k_o rfl) (by have q0 := (((up_o (kx.ne (⟨by decide, rfl⟩ : kx 110 45) k_o rfl)).trans rfl) : (up Pc2 o 9 rc2) 110 3 = (Pc2 110 3)); have q1 := bx_45_3 (o := 110) hBc2 (⟨by decide, rfl⟩ : kx 110 45); have q2 := (((up_o (kx.ne (⟨by decide, rfl⟩ : kx 110 45) k_o rfl)).trans rfl) : (up Pc2 o 9 rc2) 110 4 = (Pc2 110 4)); have q3 := bx_45_4 (o := 110) hBc2 (⟨by decide, rfl⟩ : kx 110 45); (clear hor; omega)) ((fun h0 => (XS.fr (F := ([(28, 9)], [])) (ec2_0 h0) (FrX.s FrX.rf k_o rfl) rfl))) (fun h0 => z2.rule ((up_k (by decide)).trans ((FrX.g hFc2 k_o rfl).trans ((FrX.g hFc1 k_o rfl).trans rfl))) ((up_k (by decide)).trans ((FrX.g hFc2 k_o rfl).trans ((FrX.g hFc1 k_o rfl).trans rfl))) ((up_k (by decide)).trans ((FrX.g hFc2 k_o rfl).trans ((FrX.g hFc1 k_o rfl).trans rfl))) ((up_same).trans (by (clear hor k7; omega))) ((up_k (by decide)).trans ((FrX.g hFc2 k_o rfl).trans ((FrX.g hFc1 k_o rfl).trans rfl))) (fun j => ((up_o (kx.ne (ck_28_1 k_o) k_o rfl)).trans ((FrX.g hFc2 (ck_28_1 k_o) rfl).trans ((FrX.g hFc1 (ck_28_1 k_o) rfl).trans rfl)))) (fun j => ((up_o (kx.ne (ck_28_4 k_o) k_o rfl)).trans ((FrX.g hFc2 (ck_28_4 k_o) rfl).trans ((FrX.g hFc1 (ck_28_4 k_o) rfl).trans rfl))))) (kt6))
  · skip
    refine g_iconst dX6_readRule_31 ?_
    refine g_goto (tgt := 36) dX6_readRule_32 (by decide) ?_
    exact g_retZ dX6_readRule_36 rfl (by decide) (hQ 1 (by decide) _ hB5 (FrX.s (FrX.c (FrX.c FrX.rf hFc1 rfl) hFc2 rfl) k_o rfl) (by have q0 := (((up_o (kx.ne (⟨by decide, rfl⟩ : kx 110 45) k_o rfl)).trans rfl) : (up Pc2 o 9 rc2) 110 3 = (Pc2 110 3)); have q1 := bx_45_3 (o := 110) hBc2 (⟨by decide, rfl⟩ : kx 110 45); have q2 := (((up_o (kx.ne (⟨by decide, rfl⟩ : kx 110 45) k_o rfl)).trans rfl) : (up Pc2 o 9 rc2) 110 4 = (Pc2 110 4)); have q3 := bx_45_4 (o := 110) hBc2 (⟨by decide, rfl⟩ : kx 110 45); (clear hor; omega)) ((fun h0 => (XS.fr (F := ([(28, 9)], [])) (ec2_0 h0) (FrX.s FrX.rf k_o rfl) rfl))) (fun h0 => z2.rule ((up_k (by decide)).trans ((FrX.g hFc2 k_o rfl).trans ((FrX.g hFc1 k_o rfl).trans rfl))) ((up_k (by decide)).trans ((FrX.g hFc2 k_o rfl).trans ((FrX.g hFc1 k_o rfl).trans rfl))) ((up_k (by decide)).trans ((FrX.g hFc2 k_o rfl).trans ((FrX.g hFc1 k_o rfl).trans rfl))) ((up_same).trans (by (clear hor k7; omega))) ((up_k (by decide)).trans ((FrX.g hFc2 k_o rfl).trans ((FrX.g hFc1 k_o rfl).trans rfl))) (fun j => ((up_o (kx.ne (ck_28_1 k_o) k_o rfl)).trans ((FrX.g hFc2 (ck_28_1 k_o) rfl).trans ((FrX.g hFc1 (ck_28_1 k_o) rfl).trans rfl)))) (fun j => ((up_o (kx.ne (ck_28_4 k_o) k_o rfl)).trans ((FrX.g hFc2 (ck_28_4 k_o) rfl).trans ((FrX.g hFc1 (ck_28_4 k_o) rfl).trans rfl))))) (kt6))
/-! What the class answers: X6_readBudget. -/
set_option maxRecDepth 100000 in
set_option maxHeartbeats 4000000 in
theorem f_X6_readBudget (G : GT) (P : PH) (T : TT) (p : Int) (M : PH) (o : Nat) (k_o : kx o 28) (hB : BdX P) (p_k0 : tO T p = 6) (v_TX : TX P) (v_OWN : OWN P) (z0 : XT T P) (z1 : XS T p P) (z2 : XM M o P) (z3 : RT o P) (Q : Option PV → PH → Prop) (hQ : ∀ (r : Int) (_ : 0 ≤ r ∧ r ≤ 1) (P1 : PH) (_ : BdX P1) (_ : FrX ([(28, 10), (45, 3), (45, 4), (46, 3), (46, 4), (46, 5), (46, 6), (46, 7), (46, 8)], []) P P1) (_ : (r = 1 ∧ (num T 1 999 (tE T p)).1 = 0 ∧ P1 110 3 = P 110 3 ∧ P1 110 4 = P 110 4) ∨ (r = 0 ∧ (num T 1 999 (tE T p)).1 ≠ 0 ∧ P1 110 3 = (num T 1 999 (tE T p)).1 ∧ P1 110 4 = (num T 1 999 (tE T p)).2)) (_ : CP (num T 1 999 (tE T p)).1 (XS T (num T 1 999 (tE T p)).2) P1) (_ : CP (num T 1 999 (tE T p)).1 (XM (up M 0 4 (tV T (tE T p))) o) P1) (_ : KT (tbX o) P P1), Q (some (vI r)) P1) : Ct WSX G 4 iX6_readBudget [vR 110] P Q := by
  refine Ct.of (by decide) (l0 := [(0, vR 110)]) rfl (Nat.le_of_ble_eq_true rfl) ?_
  have kt0 : KT (tbX o) P P := KT.rf
  have hor := tO_r T p
  have hk1 : tK T p = 1 := by (omega)
  refine g_aload_n dX6_readBudget_0 rfl ?_
  refine x_g45_0 (n := 111) (⟨by decide, rfl⟩ : kx 110 45) ffX6_12 dX6_readBudget_1 rfl ?_
  refine g_vV (av := []) (o := 111) (st := []) (f_X7_step G P T (tE T p)  hB ((z1.stp (by (clear hor; omega))).1) ((z1.stp (by (clear hor; omega))).2) v_TX v_OWN (z0) _ (fun Pc1 hBc1 hFc1 ec1_0 => ⟨rfl, ?_⟩)) cf_X7_step t_731 rfl (show kx 111 46 from (⟨by decide, rfl⟩ : kx 111 46)).1 ((show kx 111 46 from (⟨by decide, rfl⟩ : kx 111 46)).sh rfl) rfl rfl (Nat.le_of_ble_eq_true rfl) (by decide) rfl dX6_readBudget_4
  refine g_aload_n dX6_readBudget_7 rfl ?_
  refine x_g45_2 (n := o) (⟨by decide, rfl⟩ : kx 110 45) ffX6_27 dX6_readBudget_8 (RT.fr (F := ([(46, 3), (46, 4), (46, 5), (46, 6), (46, 7), (46, 8)], [])) z3 (FrX.c FrX.rf hFc1 rfl) rfl) ?_
  refine g_aload_n dX6_readBudget_11 rfl ?_
  refine g_iconst dX6_readBudget_12 ?_
  refine g_sipush dX6_readBudget_13 (by decide) ?_
  refine g_vI (av := [vI 1, vI 999]) (o := 110) (st := [vR o]) (f_X6_readNumber G Pc1 T (tE T p) 1 999 (by decide) (by decide) hBc1 (by (clear hor; omega)) (TX.fr (F := ([(46, 3), (46, 4), (46, 5), (46, 6), (46, 7), (46, 8)], [])) v_TX (FrX.c FrX.rf hFc1 rfl) rfl) (OWN.fr (F := ([(46, 3), (46, 4), (46, 5), (46, 6), (46, 7), (46, 8)], [])) v_OWN (FrX.c FrX.rf hFc1 rfl) rfl) ((XT.fr (F := ([(46, 3), (46, 4), (46, 5), (46, 6), (46, 7), (46, 8)], [])) z0 (FrX.c FrX.rf hFc1 rfl) rfl)) (ec1_0) _ (fun rc2 hc2 Pc2 hBc2 hFc2 gc2_n ec2_0 => ⟨rc2, rfl, ?_⟩)) cf_X6_readNumber t_816 rfl (show kx 110 45 from (⟨by decide, rfl⟩ : kx 110 45)).1 ((show kx 110 45 from (⟨by decide, rfl⟩ : kx 110 45)).sh rfl) rfl rfl (Nat.le_of_ble_eq_true rfl) (by decide) rfl dX6_readBudget_16
  have zq3 : Pc1 110 3 = (P 110 3) := ((FrX.g hFc1 (⟨by decide, rfl⟩ : kx 110 45) rfl).trans rfl)
  have zq4 : Pc1 110 4 = (P 110 4) := ((FrX.g hFc1 (⟨by decide, rfl⟩ : kx 110 45) rfl).trans rfl)
  refine x_p28_10 k_o pfX6_105 dX6_readBudget_19 ?_
  have hB5 := by_28_10 (z := rc2) hBc2 k_o ⟨by (clear hor gc2_n; omega), by (clear hor gc2_n; omega)⟩
  have kt6 : KT (tbX o) P (up Pc2 o 10 rc2) := KT.w (KT.fr (F := ([(45, 3), (45, 4), (46, 3), (46, 4), (46, 5), (46, 6), (46, 7), (46, 8)], [])) kt0 (FrX.c (FrX.c FrX.rf hFc1 rfl) hFc2 rfl) rfl) (Or.inl rfl)
  refine g_aload_n dX6_readBudget_22 rfl ?_
  refine x_g45_2 (n := o) (⟨by decide, rfl⟩ : kx 110 45) ffX6_27 dX6_readBudget_23 (RT.fr (F := ([(28, 10), (45, 3), (45, 4), (46, 3), (46, 4), (46, 5), (46, 6), (46, 7), (46, 8)], [])) z3 (FrX.s (FrX.c (FrX.c FrX.rf hFc1 rfl) hFc2 rfl) k_o rfl) rfl) ?_
  refine x_g28_10 (z := rc2) k_o ffX6_105 dX6_readBudget_26 up_same ?_
  refine g_iconst dX6_readBudget_29 ?_
  refine g_icmp_eq (tgt := 37) dX6_readBudget_30 (by decide) ⟨by (clear hor gc2_n; omega), by (clear hor gc2_n; omega)⟩ (by decide) (fun k7 => ?_) (fun k7 => ?_)
  · skip
    refine g_iconst dX6_readBudget_37 ?_
    exact g_retZ dX6_readBudget_38 rfl (by decide) (hQ 0 (by decide) _ hB5 (FrX.s (FrX.c (FrX.c FrX.rf hFc1 rfl) hFc2 rfl) k_o rfl) (by have q0 := (((up_o (kx.ne (⟨by decide, rfl⟩ : kx 110 45) k_o rfl)).trans rfl) : (up Pc2 o 10 rc2) 110 3 = (Pc2 110 3)); have q1 := bx_45_3 (o := 110) hBc2 (⟨by decide, rfl⟩ : kx 110 45); have q2 := (((up_o (kx.ne (⟨by decide, rfl⟩ : kx 110 45) k_o rfl)).trans rfl) : (up Pc2 o 10 rc2) 110 4 = (Pc2 110 4)); have q3 := bx_45_4 (o := 110) hBc2 (⟨by decide, rfl⟩ : kx 110 45); (clear hor; omega)) ((fun h0 => (XS.fr (F := ([(28, 10)], [])) (ec2_0 h0) (FrX.s FrX.rf k_o rfl) rfl))) (fun h0 => z2.budget ((up_k (by decide)).trans ((FrX.g hFc2 k_o rfl).trans ((FrX.g hFc1 k_o rfl).trans rfl))) ((up_k (by decide)).trans ((FrX.g hFc2 k_o rfl).trans ((FrX.g hFc1 k_o rfl).trans rfl))) ((up_k (by decide)).trans ((FrX.g hFc2 k_o rfl).trans ((FrX.g hFc1 k_o rfl).trans rfl))) ((up_k (by decide)).trans ((FrX.g hFc2 k_o rfl).trans ((FrX.g hFc1 k_o rfl).trans rfl))) ((up_same).trans (by (clear hor k7; omega))) (fun j => ((up_o (kx.ne (ck_28_1 k_o) k_o rfl)).trans ((FrX.g hFc2 (ck_28_1 k_o) rfl).trans ((FrX.g hFc1 (ck_28_1 k_o) rfl).trans rfl)))) (fun j => ((up_o (kx.ne (ck_28_4 k_o) k_o rfl)).trans ((FrX.g hFc2 (ck_28_4 k_o) rfl).trans ((FrX.g hFc1 (ck_28_4 k_o) rfl).trans rfl))))) (kt6))
  · skip
    refine g_iconst dX6_readBudget_33 ?_
    refine g_goto (tgt := 38) dX6_readBudget_34 (by decide) ?_
    exact g_retZ dX6_readBudget_38 rfl (by decide) (hQ 1 (by decide) _ hB5 (FrX.s (FrX.c (FrX.c FrX.rf hFc1 rfl) hFc2 rfl) k_o rfl) (by have q0 := (((up_o (kx.ne (⟨by decide, rfl⟩ : kx 110 45) k_o rfl)).trans rfl) : (up Pc2 o 10 rc2) 110 3 = (Pc2 110 3)); have q1 := bx_45_3 (o := 110) hBc2 (⟨by decide, rfl⟩ : kx 110 45); have q2 := (((up_o (kx.ne (⟨by decide, rfl⟩ : kx 110 45) k_o rfl)).trans rfl) : (up Pc2 o 10 rc2) 110 4 = (Pc2 110 4)); have q3 := bx_45_4 (o := 110) hBc2 (⟨by decide, rfl⟩ : kx 110 45); (clear hor; omega)) ((fun h0 => (XS.fr (F := ([(28, 10)], [])) (ec2_0 h0) (FrX.s FrX.rf k_o rfl) rfl))) (fun h0 => z2.budget ((up_k (by decide)).trans ((FrX.g hFc2 k_o rfl).trans ((FrX.g hFc1 k_o rfl).trans rfl))) ((up_k (by decide)).trans ((FrX.g hFc2 k_o rfl).trans ((FrX.g hFc1 k_o rfl).trans rfl))) ((up_k (by decide)).trans ((FrX.g hFc2 k_o rfl).trans ((FrX.g hFc1 k_o rfl).trans rfl))) ((up_k (by decide)).trans ((FrX.g hFc2 k_o rfl).trans ((FrX.g hFc1 k_o rfl).trans rfl))) ((up_same).trans (by (clear hor k7; omega))) (fun j => ((up_o (kx.ne (ck_28_1 k_o) k_o rfl)).trans ((FrX.g hFc2 (ck_28_1 k_o) rfl).trans ((FrX.g hFc1 (ck_28_1 k_o) rfl).trans rfl)))) (fun j => ((up_o (kx.ne (ck_28_4 k_o) k_o rfl)).trans ((FrX.g hFc2 (ck_28_4 k_o) rfl).trans ((FrX.g hFc1 (ck_28_4 k_o) rfl).trans rfl))))) (kt6))
end
section
/-! What the class answers: X9_addColumn. -/
set_option maxRecDepth 100000 in
set_option maxHeartbeats 4000000 in
theorem f_X9_addColumn (G : GT) (P : PH) (K : PH) (M : PH) (i : Int) (F : FT) (o0 : Nat) (a1 : Int) (k_o0 : kx o0 28) (h_a1 : (-2147483648) ≤ a1 ∧ a1 ≤ 2147483647) (hB : BdX P) (p_aw : AW K) (p_kb : -1 ≤ a1 ∧ a1 < K 0 0) (p_m4 : 0 ≤ M 0 0 ∧ M 0 0 ≤ 3) (p_ri : (M 0 0 = 0 ∧ i = 1) ∨ (1 ≤ M 0 0 ∧ i = M 0 1)) (p_rb : 1 ≤ i ∧ i ≤ 20000 ∧ 1 ≤ sz K a1) (z0 : XK K (crX o0 0) P) (z1 : XM M o0 P) (z2 : XZ K M o0 P) (z3 : XFz K M F o0 P) (Q : Option PV → PH → Prop) (hQ : ∀ (P1 : PH) (_ : BdX P1) (_ : FrX ([(28, 6), (28, 7)], [39, 40, 41, 44]) P P1) (_ : XM (mCol M a1 (i * sz K a1)) o0 P1) (_ : KT (tbX o0) P P1) (_ : XZ K (mCol M a1 (i * sz K a1)) o0 P1) (_ : XFz K (mCol M a1 (i * sz K a1)) F o0 P1), Q none P1) : Ct WSX G 2 iX9_addColumn [vR o0, vI a1] P Q := by
  refine Ct.of (by decide) (l0 := [(0, vR o0), (1, vI a1)]) rfl (Nat.le_of_ble_eq_true rfl) ?_
  have kt0 : KT (tbX o0) P P := KT.rf
  have hmb := z1.b
  have hszs := sz_s K a1
  have hk0 := p_aw.1
  have ha1 := p_aw.2.1 a1
  refine g_aload_n dX9_addColumn_0 rfl ?_
  refine x_g28_0 (n := (crX o0 0)) k_o0 ffX9_12 dX9_addColumn_1 rfl ?_
  refine g_iload_n dX9_addColumn_4 rfl ?_
  refine g_vI (av := [vI a1]) (o := (crX o0 0)) (st := []) (f_X3_sizeOf G P K (crX o0 0) a1 (ck_28_0 k_o0) ⟨by (first | (clear p_ri hmb hszs; omega) | omega), by (first | (clear p_ri hmb hszs; omega) | omega)⟩ hB (by (first | (clear p_ri hmb hszs; omega) | (clear p_ri hmb; omega) | (clear p_ri hszs; omega) | (clear hmb hszs; omega) | (clear p_ri; omega) | omega)) (z0) _ (fun rc1 hc1 gc1_s => ⟨rc1, rfl, ?_⟩)) cf_X3_sizeOf t_792 rfl (show kx (crX o0 0) 29 from (ck_28_0 k_o0)).1 ((show kx (crX o0 0) 29 from (ck_28_0 k_o0)).sh rfl) rfl rfl (Nat.le_of_ble_eq_true rfl) (by decide) rfl dX9_addColumn_5
  refine g_istore_n (l1 := [(2, vI rc1), (0, vR o0), (1, vI a1)]) dX9_addColumn_8 (by decide) rfl ?_
  refine g_aload_n dX9_addColumn_9 rfl ?_
  refine x_g28_6 (z := (P o0 6)) k_o0 ffX9_39 dX9_addColumn_10 rfl ?_
  refine g_iconst dX9_addColumn_13 ?_
  have f2 := bx_28_6 (o := o0) hB k_o0
  refine g_icmp_ge (tgt := 24) dX9_addColumn_14 (by decide) ⟨by have q0 := bx_28_6 (o := o0) hB k_o0; (first | (clear p_ri hmb hszs; omega) | omega), by have q0 := bx_28_6 (o := o0) hB k_o0; (first | (clear p_ri hmb hszs; omega) | omega)⟩ (by decide) (fun k3 => ?_) (fun k3 => ?_)
  · first | (revert r_hszs; intro r_hszs) | have r_hszs := (hszs.resolve_right (by (clear p_ri hmb hszs k3; omega))) | have r_hszs := (hszs.resolve_left (by (clear p_ri hmb hszs k3; omega))) | skip
    first | (revert r_p_ri; intro r_p_ri) | have r_p_ri := (p_ri.resolve_right (by (clear p_ri hmb hszs k3; omega))) | have r_p_ri := (p_ri.resolve_left (by (clear p_ri hmb hszs k3; omega))) | skip
    exfalso
    have ha2 := p_aw.2.1 a1
    rcases hszs with h | h
    · first | (revert r_p_ri; intro r_p_ri) | have r_p_ri := (p_ri.resolve_right (by (clear p_ri hmb k3; omega))) | have r_p_ri := (p_ri.resolve_left (by (clear p_ri hmb k3; omega))) | skip
      (first | (clear p_ri hmb k3; omega) | (clear p_ri hmb; omega) | (clear p_ri k3; omega) | (clear hmb k3; omega) | (clear p_ri; omega) | omega)
    · first | (revert r_p_ri; intro r_p_ri) | have r_p_ri := (p_ri.resolve_right (by (clear p_ri hmb k3; omega))) | have r_p_ri := (p_ri.resolve_left (by (clear p_ri hmb k3; omega))) | skip
      have ha3 := ha2 (by (first | (clear p_ri hmb k3; omega) | (clear p_ri hmb; omega) | (clear p_ri k3; omega) | (clear hmb k3; omega) | (clear p_ri; omega) | omega)) (by (first | (clear p_ri hmb k3; omega) | (clear p_ri hmb; omega) | (clear p_ri k3; omega) | (clear hmb k3; omega) | (clear p_ri; omega) | omega)); (first | (clear p_ri hmb k3; omega) | (clear p_ri hmb; omega) | (clear p_ri k3; omega) | (clear hmb k3; omega) | (clear p_ri; omega) | omega)
  · first | (revert r_hszs; intro r_hszs) | have r_hszs := (hszs.resolve_right (by (clear p_ri hmb hszs k3; omega))) | have r_hszs := (hszs.resolve_left (by (clear p_ri hmb hszs k3; omega))) | skip
    first | (revert r_p_ri; intro r_p_ri) | have r_p_ri := (p_ri.resolve_right (by (clear p_ri hmb hszs k3; omega))) | have r_p_ri := (p_ri.resolve_left (by (clear p_ri hmb hszs k3; omega))) | skip
    refine g_iload_n dX9_addColumn_17 rfl ?_
    refine g_sipush dX9_addColumn_18 (by decide) ?_
    refine g_icmp_le (tgt := 25) dX9_addColumn_21 (by decide) ⟨by (first | (clear p_ri hmb hszs k3; omega) | omega), by (first | (clear p_ri hmb hszs k3; omega) | omega)⟩ (by decide) (fun k4 => ?_) (fun k4 => ?_)
    · first | (revert r_hszs; intro r_hszs) | have r_hszs := (hszs.resolve_right (by (clear p_ri hmb hszs k3 k4; omega))) | have r_hszs := (hszs.resolve_left (by (clear p_ri hmb hszs k3 k4; omega))) | skip
      first | (revert r_p_ri; intro r_p_ri) | have r_p_ri := (p_ri.resolve_right (by (clear p_ri hmb hszs k3 k4; omega))) | have r_p_ri := (p_ri.resolve_left (by (clear p_ri hmb hszs k3 k4; omega))) | skip
      refine g_aload_n dX9_addColumn_25 rfl ?_
      refine x_g28_1 (n := (crX o0 1)) k_o0 ffX9_18 dX9_addColumn_26 rfl ?_
      refine g_aload_n dX9_addColumn_29 rfl ?_
      refine x_g28_6 (z := (P o0 6)) k_o0 ffX9_39 dX9_addColumn_30 rfl ?_
      refine g_iload_n dX9_addColumn_33 rfl ?_
      refine x_s39 (ck_28_1 k_o0) dX9_addColumn_34 ⟨by have q0 := bx_28_6 (o := o0) hB k_o0; (first | (clear p_ri hmb hszs k3 k4; omega) | omega), by have q0 := bx_28_6 (o := o0) hB k_o0; (first | (clear p_ri hmb hszs k3 k4; omega) | omega)⟩ ?_
      have hB5 := by_39 (z := a1) (k := (P o0 6)) hB (ck_28_1 k_o0) ⟨by (first | (clear p_ri hmb hszs k3 k4; omega) | omega), by (first | (clear p_ri hmb hszs k3 k4; omega) | omega)⟩
      have kt6 : KT (tbX o0) P (up P (crX o0 1) (P o0 6) a1) := KT.w kt0 (TB.c (Or.inl rfl) (k_o0).1 (by decide))
      refine g_aload_n dX9_addColumn_35 rfl ?_
      refine x_g28_2 (n := (crX o0 2)) k_o0 ffX9_22 dX9_addColumn_36 rfl ?_
      refine g_aload_n dX9_addColumn_39 rfl ?_
      refine x_g28_6 (z := (P o0 6)) k_o0 ffX9_39 dX9_addColumn_40 ((up_o (kx.ne k_o0 (ck_28_1 k_o0) rfl)).trans rfl) ?_
      refine g_iload_n dX9_addColumn_43 rfl ?_
      refine x_s40 (ck_28_2 k_o0) dX9_addColumn_44 ⟨by have q0 := bx_28_6 (o := o0) hB k_o0; (first | (clear p_ri hmb hszs k3 k4; omega) | omega), by have q0 := bx_28_6 (o := o0) hB k_o0; (first | (clear p_ri hmb hszs k3 k4; omega) | omega)⟩ ?_
      have hB7 := by_40 (z := rc1) (k := (P o0 6)) hB5 (ck_28_2 k_o0) ⟨by (first | (clear p_ri hmb hszs k3 k4; omega) | omega), by (first | (clear p_ri hmb hszs k3 k4; omega) | omega)⟩
      have kt8 : KT (tbX o0) P (up (up P (crX o0 1) (P o0 6) a1) (crX o0 2) (P o0 6) rc1) := KT.w kt6 (TB.c (Or.inl rfl) (k_o0).1 (by decide))
      refine g_aload_n dX9_addColumn_45 rfl ?_
      refine x_g28_3 (n := (crX o0 3)) k_o0 ffX9_25 dX9_addColumn_46 rfl ?_
      refine g_aload_n dX9_addColumn_49 rfl ?_
      refine x_g28_6 (z := (P o0 6)) k_o0 ffX9_39 dX9_addColumn_50 ((up_o (kx.ne k_o0 (ck_28_2 k_o0) rfl)).trans ((up_o (kx.ne k_o0 (ck_28_1 k_o0) rfl)).trans rfl)) ?_
      refine g_iconst dX9_addColumn_53 ?_
      refine x_s41 (ck_28_3 k_o0) dX9_addColumn_54 ⟨by have q0 := bx_28_6 (o := o0) hB k_o0; (first | (clear p_ri hmb hszs k3 k4; omega) | omega), by have q0 := bx_28_6 (o := o0) hB k_o0; (first | (clear p_ri hmb hszs k3 k4; omega) | omega)⟩ ?_
      have hB9 := by_41 (z := 0) (k := (P o0 6)) hB7 (ck_28_3 k_o0) (by decide)
      have kt10 : KT (tbX o0) P (up (up (up P (crX o0 1) (P o0 6) a1) (crX o0 2) (P o0 6) rc1) (crX o0 3) (P o0 6) 0) := KT.w kt8 (TB.c (Or.inl rfl) (k_o0).1 (by decide))
      refine g_iconst dX9_addColumn_55 ?_
      refine g_istore_n (l1 := [(3, vI 0), (2, vI rc1), (0, vR o0), (1, vI a1)]) dX9_addColumn_56 (by decide) rfl ?_
      have L57_10 : ∀ (n57_10 : Nat) (x57_3_10 : Int) (h_x57_3_10 : 0 ≤ x57_3_10 ∧ x57_3_10 ≤ 2048) (H57_10 : PH) (hB57_10 : BdX H57_10) (hE57_10 : FrX ([], [44]) (up (up (up P (crX o0 1) (P o0 6) a1) (crX o0 2) (P o0 6) rc1) (crX o0 3) (P o0 6) 0) H57_10) (i57_0_10 : ZRx (crX (crX o0 5) (P o0 6).toNat) x57_3_10 P H57_10) (i57_1_10 : x57_3_10 ≤ rc1 ∨ x57_3_10 = 0) (w57_q0_10 : KT (tbX o0) P H57_10) (hm57_10 : ((2049 - x57_3_10) : Int).toNat < n57_10), Go WSX G 2 iX9_addColumn 57 [(0, vR o0), (2, vI rc1), (3, vI x57_3_10)] [] H57_10 Q := by
        intro n57_10
        induction n57_10 with
        | zero => intro x57_3_10 h_x57_3_10 H57_10 hB57_10 hE57_10 i57_0_10 i57_1_10 w57_q0_10 hm57_10; exact absurd hm57_10 (Nat.not_lt_zero _)
        | succ n57_10 ih57_10 =>
        intro x57_3_10 h_x57_3_10 H57_10 hB57_10 hE57_10 i57_0_10 i57_1_10 w57_q0_10 hm57_10
        have hl2 : rc1 = sz K a1 := by (first | (clear p_ri hmb hszs k3 k4 i57_1_10; omega) | (clear p_ri hmb hszs k3 k4; omega) | (clear p_ri hmb hszs k3 i57_1_10; omega) | (clear p_ri hmb hszs k4 i57_1_10; omega) | (clear p_ri hmb k3 k4 i57_1_10; omega) | (clear p_ri hszs k3 k4 i57_1_10; omega) | (clear hmb hszs k3 k4 i57_1_10; omega) | (clear p_ri hmb hszs k3; omega) | (clear hmb p_ri; omega) | omega)
        refine g_iload_n dX9_addColumn_57 rfl ?_
        refine g_iload_n dX9_addColumn_58 rfl ?_
        refine g_icmp_ge (tgt := 80) dX9_addColumn_59 (by decide) ⟨by (first | (clear p_ri hmb hszs k3 k4 i57_1_10; omega) | omega), by (first | (clear p_ri hmb hszs k3 k4 i57_1_10; omega) | omega)⟩ ⟨by (first | (clear p_ri hmb hszs k3 k4 i57_1_10; omega) | omega), by (first | (clear p_ri hmb hszs k3 k4 i57_1_10; omega) | omega)⟩ (fun k282 => ?_) (fun k282 => ?_)
        · first | (revert r_i57_1_10; intro r_i57_1_10) | have r_i57_1_10 := (i57_1_10.resolve_right (by (clear p_ri hmb hszs k3 k4 i57_1_10; omega))) | have r_i57_1_10 := (i57_1_10.resolve_left (by (clear p_ri hmb hszs k3 k4 i57_1_10; omega))) | skip
          first | (revert r_hszs; intro r_hszs) | have r_hszs := (hszs.resolve_right (by (clear p_ri hmb hszs k3 k4 i57_1_10; omega))) | have r_hszs := (hszs.resolve_left (by (clear p_ri hmb hszs k3 k4 i57_1_10; omega))) | skip
          first | (revert r_p_ri; intro r_p_ri) | have r_p_ri := (p_ri.resolve_right (by (clear p_ri hmb hszs k3 k4 i57_1_10; omega))) | have r_p_ri := (p_ri.resolve_left (by (clear p_ri hmb hszs k3 k4 i57_1_10; omega))) | skip
          have iv283 : XFz K (mCol M a1 (i * sz K a1)) F o0 H57_10 := z3.col (c0 := P o0 6) (by (first | (clear p_ri hmb hszs k3 k4 i57_1_10; omega) | (clear p_ri hmb hszs k3 k4; omega) | (clear p_ri hmb hszs k3 i57_1_10; omega) | (clear p_ri hmb hszs k4 i57_1_10; omega) | (clear p_ri hmb k3 k4 i57_1_10; omega) | (clear p_ri hszs k3 k4 i57_1_10; omega) | (clear hmb hszs k3 k4 i57_1_10; omega) | (clear p_ri hmb hszs k3; omega) | (clear hmb p_ri; omega) | omega)) (by (first | (clear p_ri hmb hszs k3 k4 i57_1_10; omega) | (clear p_ri hmb hszs k3 k4; omega) | (clear p_ri hmb hszs k3 i57_1_10; omega) | (clear p_ri hmb hszs k4 i57_1_10; omega) | (clear p_ri hmb k3 k4 i57_1_10; omega) | (clear p_ri hszs k3 k4 i57_1_10; omega) | (clear hmb hszs k3 k4 i57_1_10; omega) | (clear p_ri hmb hszs k3; omega) | (clear hmb p_ri; omega) | omega)) (by have q := i57_0_10; rw [show x57_3_10 = sz K a1 by (first | (clear p_ri hmb hszs k3 k4 i57_1_10; omega) | (clear p_ri hmb hszs k3 k4; omega) | (clear p_ri hmb hszs k3 i57_1_10; omega) | (clear p_ri hmb hszs k4 i57_1_10; omega) | (clear p_ri hmb k3 k4 i57_1_10; omega) | (clear p_ri hszs k3 k4 i57_1_10; omega) | (clear hmb hszs k3 k4 i57_1_10; omega) | (clear p_ri hmb hszs k3; omega) | (clear hmb p_ri; omega) | omega)] at q; exact q)
          refine g_aload_n dX9_addColumn_80 rfl ?_
          refine g_aload_n dX9_addColumn_81 rfl ?_
          refine x_g28_6 (z := (P o0 6)) k_o0 ffX9_39 dX9_addColumn_82 ((FrX.g hE57_10 k_o0 rfl).trans ((up_o (kx.ne k_o0 (ck_28_3 k_o0) rfl)).trans ((up_o (kx.ne k_o0 (ck_28_2 k_o0) rfl)).trans ((up_o (kx.ne k_o0 (ck_28_1 k_o0) rfl)).trans rfl)))) ?_
          refine g_if_ne (tgt := 92) dX9_addColumn_85 (by decide) ⟨by have q0 := bx_28_6 (o := o0) hB k_o0; (first | (clear p_ri hmb hszs k3 k4 i57_1_10; omega) | omega), by have q0 := bx_28_6 (o := o0) hB k_o0; (first | (clear p_ri hmb hszs k3 k4 i57_1_10; omega) | omega)⟩ (fun k284 => ?_) (fun k284 => ?_)
          · have k284n : 1 ≤ (P o0 6) := by have q0 := bx_28_6 (o := o0) hB k_o0; (first | (clear p_ri hmb hszs k3 k4 i57_1_10; omega) | (clear p_ri hmb hszs k3 k4; omega) | (clear p_ri hmb hszs k3 i57_1_10; omega) | (clear p_ri hmb hszs k4 i57_1_10; omega) | (clear p_ri hmb k3 k4 i57_1_10; omega) | (clear p_ri hszs k3 k4 i57_1_10; omega) | (clear hmb hszs k3 k4 i57_1_10; omega) | (clear p_ri hmb hszs k3; omega) | (clear hmb p_ri; omega) | omega)
            clear k284
            first | (revert r_i57_1_10; intro r_i57_1_10) | have r_i57_1_10 := (i57_1_10.resolve_right (by (clear p_ri hmb hszs k3 k4 i57_1_10; omega))) | have r_i57_1_10 := (i57_1_10.resolve_left (by (clear p_ri hmb hszs k3 k4 i57_1_10; omega))) | skip
            first | (revert r_hszs; intro r_hszs) | have r_hszs := (hszs.resolve_right (by (clear p_ri hmb hszs k3 k4 i57_1_10; omega))) | have r_hszs := (hszs.resolve_left (by (clear p_ri hmb hszs k3 k4 i57_1_10; omega))) | skip
            first | (revert r_p_ri; intro r_p_ri) | have r_p_ri := (p_ri.resolve_right (by (clear p_ri hmb hszs k3 k4 i57_1_10; omega))) | have r_p_ri := (p_ri.resolve_left (by (clear p_ri hmb hszs k3 k4 i57_1_10; omega))) | skip
            refine g_aload_n dX9_addColumn_92 rfl ?_
            refine x_g28_7 (z := (P o0 7)) k_o0 ffX9_43 dX9_addColumn_93 ((FrX.g hE57_10 k_o0 rfl).trans ((up_o (kx.ne k_o0 (ck_28_3 k_o0) rfl)).trans ((up_o (kx.ne k_o0 (ck_28_2 k_o0) rfl)).trans ((up_o (kx.ne k_o0 (ck_28_1 k_o0) rfl)).trans rfl)))) ?_
            refine g_iload_n dX9_addColumn_96 rfl ?_
            refine g_imul dX9_addColumn_97 ?_
            refine g_nm (fun w285 e_w285 => ?_)
            have h_w285 : 1 ≤ w285 ∧ w285 ≤ 40120000 := by rw [e_w285]; exact mul_b (A := 20000) (B := 2006) ⟨by (first | (clear p_ri hmb hszs k3 k4 i57_1_10; omega) | (clear p_ri hmb hszs k3 k4; omega) | (clear p_ri hmb hszs k3 i57_1_10; omega) | (clear p_ri hmb hszs k4 i57_1_10; omega) | (clear p_ri hmb k3 k4 i57_1_10; omega) | (clear p_ri hszs k3 k4 i57_1_10; omega) | (clear hmb hszs k3 k4 i57_1_10; omega) | (clear p_ri hmb hszs k3; omega) | (clear hmb p_ri; omega) | omega), by (first | (clear p_ri hmb hszs k3 k4 i57_1_10; omega) | (clear p_ri hmb hszs k3 k4; omega) | (clear p_ri hmb hszs k3 i57_1_10; omega) | (clear p_ri hmb hszs k4 i57_1_10; omega) | (clear p_ri hmb k3 k4 i57_1_10; omega) | (clear p_ri hszs k3 k4 i57_1_10; omega) | (clear hmb hszs k3 k4 i57_1_10; omega) | (clear p_ri hmb hszs k3; omega) | (clear hmb p_ri; omega) | omega)⟩ ⟨by (first | (clear p_ri hmb hszs k3 k4 i57_1_10; omega) | (clear p_ri hmb hszs k3 k4; omega) | (clear p_ri hmb hszs k3 i57_1_10; omega) | (clear p_ri hmb hszs k4 i57_1_10; omega) | (clear p_ri hmb k3 k4 i57_1_10; omega) | (clear p_ri hszs k3 k4 i57_1_10; omega) | (clear hmb hszs k3 k4 i57_1_10; omega) | (clear p_ri hmb hszs k3; omega) | (clear hmb p_ri; omega) | omega), by (first | (clear p_ri hmb hszs k3 k4 i57_1_10; omega) | (clear p_ri hmb hszs k3 k4; omega) | (clear p_ri hmb hszs k3 i57_1_10; omega) | (clear p_ri hmb hszs k4 i57_1_10; omega) | (clear p_ri hmb k3 k4 i57_1_10; omega) | (clear p_ri hszs k3 k4 i57_1_10; omega) | (clear hmb hszs k3 k4 i57_1_10; omega) | (clear p_ri hmb hszs k3; omega) | (clear hmb p_ri; omega) | omega)⟩
            have hm9 := e_w285
            refine x_p28_7 k_o0 pfX9_43 dX9_addColumn_98 ?_
            have hB286 := by_28_7 (z := w285) hB57_10 k_o0 ⟨by (first | (clear p_ri hmb hszs k3 k4 i57_1_10; omega) | omega), by (first | (clear p_ri hmb hszs k3 k4 i57_1_10; omega) | omega)⟩
            have kt287 : KT (tbX o0) P (up H57_10 o0 7 w285) := KT.w w57_q0_10 (Or.inl rfl)
            refine g_aload_n dX9_addColumn_101 rfl ?_
            refine g_dup dX9_addColumn_102 rfl ?_
            refine x_g28_6 (z := (P o0 6)) k_o0 ffX9_39 dX9_addColumn_103 ((up_k (by decide)).trans ((FrX.g hE57_10 k_o0 rfl).trans ((up_o (kx.ne k_o0 (ck_28_3 k_o0) rfl)).trans ((up_o (kx.ne k_o0 (ck_28_2 k_o0) rfl)).trans ((up_o (kx.ne k_o0 (ck_28_1 k_o0) rfl)).trans rfl))))) ?_
            refine g_iconst dX9_addColumn_106 ?_
            refine g_iadd dX9_addColumn_107 ?_
            refine x_p28_6 k_o0 pfX9_39 dX9_addColumn_108 ?_
            have hB288 := by_28_6 (z := ((P o0 6) + 1)) hB286 k_o0 ⟨by have q0 := bx_28_6 (o := o0) hB k_o0; (first | (clear p_ri hmb hszs k3 k4 i57_1_10; omega) | omega), by have q0 := bx_28_6 (o := o0) hB k_o0; (first | (clear p_ri hmb hszs k3 k4 i57_1_10; omega) | omega)⟩
            have kt289 : KT (tbX o0) P (up (up H57_10 o0 7 w285) o0 6 ((P o0 6) + 1)) := KT.w kt287 (Or.inl rfl)
            exact g_retV dX9_addColumn_111 rfl (hQ _ hB288 (FrX.s (FrX.s (FrX.c (FrX.s (FrX.s (FrX.s FrX.rf (ck_28_1 k_o0) rfl) (ck_28_2 k_o0) rfl) (ck_28_3 k_o0) rfl) hE57_10 rfl) k_o0 rfl) k_o0 rfl) (by first | exact z1.col up_same ((((up_k (by decide)).trans up_same)).trans (by first | (rw [hm9]; congr 1 <;> (first | (clear p_ri hmb hszs k3 k4 i57_1_10; omega) | (clear p_ri hmb hszs k3 k4; omega) | (clear p_ri hmb hszs k3 i57_1_10; omega) | (clear p_ri hmb hszs k4 i57_1_10; omega) | (clear p_ri hmb k3 k4 i57_1_10; omega) | (clear p_ri hszs k3 k4 i57_1_10; omega) | (clear hmb hszs k3 k4 i57_1_10; omega) | (clear p_ri hmb hszs k3; omega) | (clear hmb p_ri; omega) | omega)) | (rw [show i = 1 by (first | (clear p_ri hmb hszs k3 k4 i57_1_10; omega) | (clear p_ri hmb hszs k3 k4; omega) | (clear p_ri hmb hszs k3 i57_1_10; omega) | (clear p_ri hmb hszs k4 i57_1_10; omega) | (clear p_ri hmb k3 k4 i57_1_10; omega) | (clear p_ri hszs k3 k4 i57_1_10; omega) | (clear hmb hszs k3 k4 i57_1_10; omega) | (clear p_ri hmb hszs k3; omega) | (clear hmb p_ri; omega) | omega)]; (first | (clear p_ri hmb hszs k3 k4 i57_1_10; omega) | (clear p_ri hmb hszs k3 k4; omega) | (clear p_ri hmb hszs k3 i57_1_10; omega) | (clear p_ri hmb hszs k4 i57_1_10; omega) | (clear p_ri hmb k3 k4 i57_1_10; omega) | (clear p_ri hszs k3 k4 i57_1_10; omega) | (clear hmb hszs k3 k4 i57_1_10; omega) | (clear p_ri hmb hszs k3; omega) | (clear hmb p_ri; omega) | omega)))) ((up_k (by decide)).trans ((up_k (by decide)).trans ((FrX.g hE57_10 k_o0 rfl).trans ((up_o (kx.ne k_o0 (ck_28_3 k_o0) rfl)).trans ((up_o (kx.ne k_o0 (ck_28_2 k_o0) rfl)).trans ((up_o (kx.ne k_o0 (ck_28_1 k_o0) rfl)).trans rfl)))))) ((up_k (by decide)).trans ((up_k (by decide)).trans ((FrX.g hE57_10 k_o0 rfl).trans ((up_o (kx.ne k_o0 (ck_28_3 k_o0) rfl)).trans ((up_o (kx.ne k_o0 (ck_28_2 k_o0) rfl)).trans ((up_o (kx.ne k_o0 (ck_28_1 k_o0) rfl)).trans rfl)))))) ((up_k (by decide)).trans ((up_k (by decide)).trans ((FrX.g hE57_10 k_o0 rfl).trans ((up_o (kx.ne k_o0 (ck_28_3 k_o0) rfl)).trans ((up_o (kx.ne k_o0 (ck_28_2 k_o0) rfl)).trans ((up_o (kx.ne k_o0 (ck_28_1 k_o0) rfl)).trans rfl)))))) ((up_o (kx.ne (ck_28_1 k_o0) k_o0 rfl)).trans ((up_o (kx.ne (ck_28_1 k_o0) k_o0 rfl)).trans ((FrX.g hE57_10 (ck_28_1 k_o0) rfl).trans ((up_o (kx.ne (ck_28_1 k_o0) (ck_28_3 k_o0) rfl)).trans ((up_o (kx.ne (ck_28_1 k_o0) (ck_28_2 k_o0) rfl)).trans up_same))))) (fun j hj => ((up_o (kx.ne (ck_28_1 k_o0) k_o0 rfl)).trans ((up_o (kx.ne (ck_28_1 k_o0) k_o0 rfl)).trans ((FrX.g hE57_10 (ck_28_1 k_o0) rfl).trans ((up_o (kx.ne (ck_28_1 k_o0) (ck_28_3 k_o0) rfl)).trans ((up_o (kx.ne (ck_28_1 k_o0) (ck_28_2 k_o0) rfl)).trans ((up_k hj).trans rfl))))))) (fun j => ((up_o (kx.ne (ck_28_4 k_o0) k_o0 rfl)).trans ((up_o (kx.ne (ck_28_4 k_o0) k_o0 rfl)).trans ((FrX.g hE57_10 (ck_28_4 k_o0) rfl).trans ((up_o (kx.ne (ck_28_4 k_o0) (ck_28_3 k_o0) rfl)).trans ((up_o (kx.ne (ck_28_4 k_o0) (ck_28_2 k_o0) rfl)).trans ((up_o (kx.ne (ck_28_4 k_o0) (ck_28_1 k_o0) rfl)).trans rfl))))))) | (exfalso; (first | (clear p_ri hmb hszs k3 k4 i57_1_10; omega) | (clear p_ri hmb hszs k3 k4; omega) | (clear p_ri hmb hszs k3 i57_1_10; omega) | (clear p_ri hmb hszs k4 i57_1_10; omega) | (clear p_ri hmb k3 k4 i57_1_10; omega) | (clear p_ri hszs k3 k4 i57_1_10; omega) | (clear hmb hszs k3 k4 i57_1_10; omega) | (clear p_ri hmb hszs k3; omega) | (clear hmb p_ri; omega) | omega))) (kt289) (by first | exact z2.col hmb.1 (((up_o (kx.ne (ck_28_2 k_o0) k_o0 rfl)).trans ((up_o (kx.ne (ck_28_2 k_o0) k_o0 rfl)).trans ((FrX.g hE57_10 (ck_28_2 k_o0) rfl).trans ((up_o (kx.ne (ck_28_2 k_o0) (ck_28_3 k_o0) rfl)).trans up_same)))).trans (by (first | (clear p_ri hmb hszs k3 k4 i57_1_10; omega) | (clear p_ri hmb hszs k3 k4; omega) | (clear p_ri hmb hszs k3 i57_1_10; omega) | (clear p_ri hmb hszs k4 i57_1_10; omega) | (clear p_ri hmb k3 k4 i57_1_10; omega) | (clear p_ri hszs k3 k4 i57_1_10; omega) | (clear hmb hszs k3 k4 i57_1_10; omega) | (clear p_ri hmb hszs k3; omega) | (clear hmb p_ri; omega) | omega))) (fun j hj => ((up_o (kx.ne (ck_28_2 k_o0) k_o0 rfl)).trans ((up_o (kx.ne (ck_28_2 k_o0) k_o0 rfl)).trans ((FrX.g hE57_10 (ck_28_2 k_o0) rfl).trans ((up_o (kx.ne (ck_28_2 k_o0) (ck_28_3 k_o0) rfl)).trans ((up_k hj).trans ((up_o (kx.ne (ck_28_2 k_o0) (ck_28_1 k_o0) rfl)).trans rfl))))))) | (exfalso; (first | (clear p_ri hmb hszs k3 k4 i57_1_10; omega) | (clear p_ri hmb hszs k3 k4; omega) | (clear p_ri hmb hszs k3 i57_1_10; omega) | (clear p_ri hmb hszs k4 i57_1_10; omega) | (clear p_ri hmb k3 k4 i57_1_10; omega) | (clear p_ri hszs k3 k4 i57_1_10; omega) | (clear hmb hszs k3 k4 i57_1_10; omega) | (clear p_ri hmb hszs k3; omega) | (clear hmb p_ri; omega) | omega))) (by first | exact (XFz.fr iv283 (show FrX ([(28, 6), (28, 7)], []) _ _ from (FrX.s (FrX.s FrX.rf k_o0 rfl) k_o0 rfl)) rfl) | (exfalso; (first | (clear p_ri hmb hszs k3 k4 i57_1_10; omega) | (clear p_ri hmb hszs k3 k4; omega) | (clear p_ri hmb hszs k3 i57_1_10; omega) | (clear p_ri hmb hszs k4 i57_1_10; omega) | (clear p_ri hmb k3 k4 i57_1_10; omega) | (clear p_ri hszs k3 k4 i57_1_10; omega) | (clear hmb hszs k3 k4 i57_1_10; omega) | (clear p_ri hmb hszs k3; omega) | (clear hmb p_ri; omega) | omega))))
          · first | (revert r_i57_1_10; intro r_i57_1_10) | have r_i57_1_10 := (i57_1_10.resolve_right (by (clear p_ri hmb hszs k3 k4 i57_1_10; omega))) | have r_i57_1_10 := (i57_1_10.resolve_left (by (clear p_ri hmb hszs k3 k4 i57_1_10; omega))) | skip
            first | (revert r_hszs; intro r_hszs) | have r_hszs := (hszs.resolve_right (by (clear p_ri hmb hszs k3 k4 i57_1_10; omega))) | have r_hszs := (hszs.resolve_left (by (clear p_ri hmb hszs k3 k4 i57_1_10; omega))) | skip
            first | (revert r_p_ri; intro r_p_ri) | have r_p_ri := (p_ri.resolve_right (by (clear p_ri hmb hszs k3 k4 i57_1_10; omega))) | have r_p_ri := (p_ri.resolve_left (by (clear p_ri hmb hszs k3 k4 i57_1_10; omega))) | skip
            refine g_iload_n dX9_addColumn_88 rfl ?_
            refine g_goto (tgt := 98) dX9_addColumn_89 (by decide) ?_
            refine x_p28_7 k_o0 pfX9_43 dX9_addColumn_98 ?_
            have hB290 := by_28_7 (z := rc1) hB57_10 k_o0 ⟨by (first | (clear p_ri hmb hszs k3 k4 i57_1_10; omega) | omega), by (first | (clear p_ri hmb hszs k3 k4 i57_1_10; omega) | omega)⟩
            have kt291 : KT (tbX o0) P (up H57_10 o0 7 rc1) := KT.w w57_q0_10 (Or.inl rfl)
            refine g_aload_n dX9_addColumn_101 rfl ?_
            refine g_dup dX9_addColumn_102 rfl ?_
            refine x_g28_6 (z := (P o0 6)) k_o0 ffX9_39 dX9_addColumn_103 ((up_k (by decide)).trans ((FrX.g hE57_10 k_o0 rfl).trans ((up_o (kx.ne k_o0 (ck_28_3 k_o0) rfl)).trans ((up_o (kx.ne k_o0 (ck_28_2 k_o0) rfl)).trans ((up_o (kx.ne k_o0 (ck_28_1 k_o0) rfl)).trans rfl))))) ?_
            refine g_iconst dX9_addColumn_106 ?_
            refine g_iadd dX9_addColumn_107 ?_
            refine x_p28_6 k_o0 pfX9_39 dX9_addColumn_108 ?_
            have hB292 := by_28_6 (z := ((P o0 6) + 1)) hB290 k_o0 ⟨by have q0 := bx_28_6 (o := o0) hB k_o0; (first | (clear p_ri hmb hszs k3 k4 i57_1_10; omega) | omega), by have q0 := bx_28_6 (o := o0) hB k_o0; (first | (clear p_ri hmb hszs k3 k4 i57_1_10; omega) | omega)⟩
            have kt293 : KT (tbX o0) P (up (up H57_10 o0 7 rc1) o0 6 ((P o0 6) + 1)) := KT.w kt291 (Or.inl rfl)
            exact g_retV dX9_addColumn_111 rfl (hQ _ hB292 (FrX.s (FrX.s (FrX.c (FrX.s (FrX.s (FrX.s FrX.rf (ck_28_1 k_o0) rfl) (ck_28_2 k_o0) rfl) (ck_28_3 k_o0) rfl) hE57_10 rfl) k_o0 rfl) k_o0 rfl) (by first | exact z1.col up_same ((((up_k (by decide)).trans up_same)).trans (by first | (rw [hm9]; congr 1 <;> (first | (clear p_ri hmb hszs k3 k4 i57_1_10; omega) | (clear p_ri hmb hszs k3 k4; omega) | (clear p_ri hmb hszs k3 i57_1_10; omega) | (clear p_ri hmb hszs k4 i57_1_10; omega) | (clear p_ri hmb k3 k4 i57_1_10; omega) | (clear p_ri hszs k3 k4 i57_1_10; omega) | (clear hmb hszs k3 k4 i57_1_10; omega) | (clear p_ri hmb hszs k3; omega) | (clear hmb p_ri; omega) | omega)) | (rw [show i = 1 by (first | (clear p_ri hmb hszs k3 k4 i57_1_10; omega) | (clear p_ri hmb hszs k3 k4; omega) | (clear p_ri hmb hszs k3 i57_1_10; omega) | (clear p_ri hmb hszs k4 i57_1_10; omega) | (clear p_ri hmb k3 k4 i57_1_10; omega) | (clear p_ri hszs k3 k4 i57_1_10; omega) | (clear hmb hszs k3 k4 i57_1_10; omega) | (clear p_ri hmb hszs k3; omega) | (clear hmb p_ri; omega) | omega)]; (first | (clear p_ri hmb hszs k3 k4 i57_1_10; omega) | (clear p_ri hmb hszs k3 k4; omega) | (clear p_ri hmb hszs k3 i57_1_10; omega) | (clear p_ri hmb hszs k4 i57_1_10; omega) | (clear p_ri hmb k3 k4 i57_1_10; omega) | (clear p_ri hszs k3 k4 i57_1_10; omega) | (clear hmb hszs k3 k4 i57_1_10; omega) | (clear p_ri hmb hszs k3; omega) | (clear hmb p_ri; omega) | omega)))) ((up_k (by decide)).trans ((up_k (by decide)).trans ((FrX.g hE57_10 k_o0 rfl).trans ((up_o (kx.ne k_o0 (ck_28_3 k_o0) rfl)).trans ((up_o (kx.ne k_o0 (ck_28_2 k_o0) rfl)).trans ((up_o (kx.ne k_o0 (ck_28_1 k_o0) rfl)).trans rfl)))))) ((up_k (by decide)).trans ((up_k (by decide)).trans ((FrX.g hE57_10 k_o0 rfl).trans ((up_o (kx.ne k_o0 (ck_28_3 k_o0) rfl)).trans ((up_o (kx.ne k_o0 (ck_28_2 k_o0) rfl)).trans ((up_o (kx.ne k_o0 (ck_28_1 k_o0) rfl)).trans rfl)))))) ((up_k (by decide)).trans ((up_k (by decide)).trans ((FrX.g hE57_10 k_o0 rfl).trans ((up_o (kx.ne k_o0 (ck_28_3 k_o0) rfl)).trans ((up_o (kx.ne k_o0 (ck_28_2 k_o0) rfl)).trans ((up_o (kx.ne k_o0 (ck_28_1 k_o0) rfl)).trans rfl)))))) ((up_o (kx.ne (ck_28_1 k_o0) k_o0 rfl)).trans ((up_o (kx.ne (ck_28_1 k_o0) k_o0 rfl)).trans ((FrX.g hE57_10 (ck_28_1 k_o0) rfl).trans ((up_o (kx.ne (ck_28_1 k_o0) (ck_28_3 k_o0) rfl)).trans ((up_o (kx.ne (ck_28_1 k_o0) (ck_28_2 k_o0) rfl)).trans up_same))))) (fun j hj => ((up_o (kx.ne (ck_28_1 k_o0) k_o0 rfl)).trans ((up_o (kx.ne (ck_28_1 k_o0) k_o0 rfl)).trans ((FrX.g hE57_10 (ck_28_1 k_o0) rfl).trans ((up_o (kx.ne (ck_28_1 k_o0) (ck_28_3 k_o0) rfl)).trans ((up_o (kx.ne (ck_28_1 k_o0) (ck_28_2 k_o0) rfl)).trans ((up_k hj).trans rfl))))))) (fun j => ((up_o (kx.ne (ck_28_4 k_o0) k_o0 rfl)).trans ((up_o (kx.ne (ck_28_4 k_o0) k_o0 rfl)).trans ((FrX.g hE57_10 (ck_28_4 k_o0) rfl).trans ((up_o (kx.ne (ck_28_4 k_o0) (ck_28_3 k_o0) rfl)).trans ((up_o (kx.ne (ck_28_4 k_o0) (ck_28_2 k_o0) rfl)).trans ((up_o (kx.ne (ck_28_4 k_o0) (ck_28_1 k_o0) rfl)).trans rfl))))))) | (exfalso; (first | (clear p_ri hmb hszs k3 k4 i57_1_10; omega) | (clear p_ri hmb hszs k3 k4; omega) | (clear p_ri hmb hszs k3 i57_1_10; omega) | (clear p_ri hmb hszs k4 i57_1_10; omega) | (clear p_ri hmb k3 k4 i57_1_10; omega) | (clear p_ri hszs k3 k4 i57_1_10; omega) | (clear hmb hszs k3 k4 i57_1_10; omega) | (clear p_ri hmb hszs k3; omega) | (clear hmb p_ri; omega) | omega))) (kt293) (by first | exact z2.col hmb.1 (((up_o (kx.ne (ck_28_2 k_o0) k_o0 rfl)).trans ((up_o (kx.ne (ck_28_2 k_o0) k_o0 rfl)).trans ((FrX.g hE57_10 (ck_28_2 k_o0) rfl).trans ((up_o (kx.ne (ck_28_2 k_o0) (ck_28_3 k_o0) rfl)).trans up_same)))).trans (by (first | (clear p_ri hmb hszs k3 k4 i57_1_10; omega) | (clear p_ri hmb hszs k3 k4; omega) | (clear p_ri hmb hszs k3 i57_1_10; omega) | (clear p_ri hmb hszs k4 i57_1_10; omega) | (clear p_ri hmb k3 k4 i57_1_10; omega) | (clear p_ri hszs k3 k4 i57_1_10; omega) | (clear hmb hszs k3 k4 i57_1_10; omega) | (clear p_ri hmb hszs k3; omega) | (clear hmb p_ri; omega) | omega))) (fun j hj => ((up_o (kx.ne (ck_28_2 k_o0) k_o0 rfl)).trans ((up_o (kx.ne (ck_28_2 k_o0) k_o0 rfl)).trans ((FrX.g hE57_10 (ck_28_2 k_o0) rfl).trans ((up_o (kx.ne (ck_28_2 k_o0) (ck_28_3 k_o0) rfl)).trans ((up_k hj).trans ((up_o (kx.ne (ck_28_2 k_o0) (ck_28_1 k_o0) rfl)).trans rfl))))))) | (exfalso; (first | (clear p_ri hmb hszs k3 k4 i57_1_10; omega) | (clear p_ri hmb hszs k3 k4; omega) | (clear p_ri hmb hszs k3 i57_1_10; omega) | (clear p_ri hmb hszs k4 i57_1_10; omega) | (clear p_ri hmb k3 k4 i57_1_10; omega) | (clear p_ri hszs k3 k4 i57_1_10; omega) | (clear hmb hszs k3 k4 i57_1_10; omega) | (clear p_ri hmb hszs k3; omega) | (clear hmb p_ri; omega) | omega))) (by first | exact (XFz.fr iv283 (show FrX ([(28, 6), (28, 7)], []) _ _ from (FrX.s (FrX.s FrX.rf k_o0 rfl) k_o0 rfl)) rfl) | (exfalso; (first | (clear p_ri hmb hszs k3 k4 i57_1_10; omega) | (clear p_ri hmb hszs k3 k4; omega) | (clear p_ri hmb hszs k3 i57_1_10; omega) | (clear p_ri hmb hszs k4 i57_1_10; omega) | (clear p_ri hmb k3 k4 i57_1_10; omega) | (clear p_ri hszs k3 k4 i57_1_10; omega) | (clear hmb hszs k3 k4 i57_1_10; omega) | (clear p_ri hmb hszs k3; omega) | (clear hmb p_ri; omega) | omega))))
        · first | (revert r_i57_1_10; intro r_i57_1_10) | have r_i57_1_10 := (i57_1_10.resolve_right (by (clear p_ri hmb hszs k3 k4 i57_1_10; omega))) | have r_i57_1_10 := (i57_1_10.resolve_left (by (clear p_ri hmb hszs k3 k4 i57_1_10; omega))) | skip
          first | (revert r_hszs; intro r_hszs) | have r_hszs := (hszs.resolve_right (by (clear p_ri hmb hszs k3 k4 i57_1_10; omega))) | have r_hszs := (hszs.resolve_left (by (clear p_ri hmb hszs k3 k4 i57_1_10; omega))) | skip
          first | (revert r_p_ri; intro r_p_ri) | have r_p_ri := (p_ri.resolve_right (by (clear p_ri hmb hszs k3 k4 i57_1_10; omega))) | have r_p_ri := (p_ri.resolve_left (by (clear p_ri hmb hszs k3 k4 i57_1_10; omega))) | skip
          refine g_aload_n dX9_addColumn_62 rfl ?_
          refine x_g28_5 (n := (crX o0 5)) k_o0 ffX9_33 dX9_addColumn_63 rfl ?_
          refine g_aload_n dX9_addColumn_66 rfl ?_
          refine x_g28_6 (z := (P o0 6)) k_o0 ffX9_39 dX9_addColumn_67 ((FrX.g hE57_10 k_o0 rfl).trans ((up_o (kx.ne k_o0 (ck_28_3 k_o0) rfl)).trans ((up_o (kx.ne k_o0 (ck_28_2 k_o0) rfl)).trans ((up_o (kx.ne k_o0 (ck_28_1 k_o0) rfl)).trans rfl)))) ?_
          refine x_l43 (n := (crX (crX o0 5) (P o0 6).toNat)) (ck_28_5 k_o0) dX9_addColumn_70 ⟨by have q0 := bx_28_6 (o := o0) hB k_o0; (first | (clear p_ri hmb hszs k3 k4 i57_1_10; omega) | omega), by have q0 := bx_28_6 (o := o0) hB k_o0; (first | (clear p_ri hmb hszs k3 k4 i57_1_10; omega) | omega)⟩ rfl ?_
          have kk294 := (ce_43 (j := (P o0 6).toNat) (ck_28_5 k_o0) (by have q0 := bx_28_6 (o := o0) hB k_o0; (first | (clear p_ri hmb hszs k3 k4 i57_1_10; omega) | (clear p_ri hmb hszs k3 k4; omega) | (clear p_ri hmb hszs k3 i57_1_10; omega) | (clear p_ri hmb hszs k4 i57_1_10; omega) | (clear p_ri hmb k3 k4 i57_1_10; omega) | (clear p_ri hszs k3 k4 i57_1_10; omega) | (clear hmb hszs k3 k4 i57_1_10; omega) | (clear p_ri hmb hszs k3; omega) | (clear hmb p_ri; omega) | omega)))
          refine g_iload_n dX9_addColumn_71 rfl ?_
          refine g_iconst dX9_addColumn_72 ?_
          refine x_s44 kk294 dX9_addColumn_73 ⟨by (first | (clear p_ri hmb hszs k3 k4 i57_1_10; omega) | omega), by (first | (clear p_ri hmb hszs k3 k4 i57_1_10; omega) | omega)⟩ ?_
          have hB295 := by_44 (z := 0) (k := x57_3_10) hB57_10 kk294 (by decide)
          have kt296 : KT (tbX o0) P (up H57_10 (crX (crX o0 5) (P o0 6).toNat) x57_3_10 0) := KT.w w57_q0_10 (TB.c (TB.c (Or.inl rfl) (k_o0).1 (by decide)) ((ck_28_5 k_o0)).1 (by (first | (clear p_ri hmb hszs k3 k4 i57_1_10; omega) | (clear p_ri hmb hszs k3 k4; omega) | (clear p_ri hmb hszs k3 i57_1_10; omega) | (clear p_ri hmb hszs k4 i57_1_10; omega) | (clear p_ri hmb k3 k4 i57_1_10; omega) | (clear p_ri hszs k3 k4 i57_1_10; omega) | (clear hmb hszs k3 k4 i57_1_10; omega) | (clear p_ri hmb hszs k3; omega) | (clear hmb p_ri; omega) | omega)))
          refine g_iinc (l1 := [(3, vI (x57_3_10 + 1)), (0, vR o0), (2, vI rc1)]) dX9_addColumn_74 rfl (by decide) rfl ?_
          refine g_goto (tgt := 57) dX9_addColumn_77 (by decide) ?_
          refine g_forget (l1 := [(0, vR o0), (2, vI rc1), (3, vI (x57_3_10 + 1))]) (by intro q hq; simp only [List.mem_cons, List.not_mem_nil, or_false] at hq ⊢; rcases hq with rfl | rfl | rfl <;> simp) ?_
          exact ih57_10 (x57_3_10 + 1) ⟨by (first | (clear p_ri hmb hszs k3 k4 i57_1_10; omega) | omega), by (first | (clear p_ri hmb hszs k3 k4 i57_1_10; omega) | omega)⟩ _ hB295 (FrX.s (FrX.c FrX.rf hE57_10 rfl) kk294 rfl) (by first | exact ZRx.step i57_0_10 | exact ZRx.start (fun i hi v => hNONE)) (by (first | (clear p_ri hmb hszs k3 k4 i57_1_10; omega) | (clear p_ri hmb hszs k3 k4; omega) | (clear p_ri hmb hszs k3 i57_1_10; omega) | (clear p_ri hmb hszs k4 i57_1_10; omega) | (clear p_ri hmb k3 k4 i57_1_10; omega) | (clear p_ri hszs k3 k4 i57_1_10; omega) | (clear hmb hszs k3 k4 i57_1_10; omega) | (clear p_ri hmb hszs k3; omega) | (clear hmb p_ri; omega) | omega)) kt296 (by (first | (clear p_ri hmb hszs k3 k4 i57_1_10; omega) | (clear p_ri hmb hszs k3 k4; omega) | (clear p_ri hmb hszs k3 i57_1_10; omega) | (clear p_ri hmb hszs k4 i57_1_10; omega) | (clear p_ri hmb k3 k4 i57_1_10; omega) | (clear p_ri hszs k3 k4 i57_1_10; omega) | (clear hmb hszs k3 k4 i57_1_10; omega) | (clear p_ri hmb hszs k3; omega) | (clear hmb p_ri; omega) | omega))
      refine g_forget (l1 := [(0, vR o0), (2, vI rc1), (3, vI 0)]) (by intro q hq; simp only [List.mem_cons, List.not_mem_nil, or_false] at hq ⊢; rcases hq with rfl | rfl | rfl <;> simp) ?_
      exact L57_10 _ 0 (by decide) _ hB9 FrX.rf (by first | exact ZRx.step i57_0_10 | exact ZRx.start (fun i hi v => ((up_o (kx.ne hi (ck_28_3 k_o0) rfl)).trans ((up_o (kx.ne hi (ck_28_2 k_o0) rfl)).trans ((up_o (kx.ne hi (ck_28_1 k_o0) rfl)).trans rfl))))) (by (first | (clear p_ri hmb hszs k3 k4; omega) | (clear p_ri hmb hszs k3; omega) | (clear p_ri hmb hszs k4; omega) | (clear p_ri hmb k3 k4; omega) | (clear p_ri hszs k3 k4; omega) | (clear hmb hszs k3 k4; omega) | (clear p_ri hmb hszs; omega) | (clear p_ri; omega) | omega)) kt10 (Nat.lt_succ_self _)
    · first | (revert r_hszs; intro r_hszs) | have r_hszs := (hszs.resolve_right (by (clear p_ri hmb hszs k3 k4; omega))) | have r_hszs := (hszs.resolve_left (by (clear p_ri hmb hszs k3 k4; omega))) | skip
      first | (revert r_p_ri; intro r_p_ri) | have r_p_ri := (p_ri.resolve_right (by (clear p_ri hmb hszs k3 k4; omega))) | have r_p_ri := (p_ri.resolve_left (by (clear p_ri hmb hszs k3 k4; omega))) | skip
      exfalso
      have ha2 := p_aw.2.1 a1
      rcases hszs with h | h
      · first | (revert r_p_ri; intro r_p_ri) | have r_p_ri := (p_ri.resolve_right (by (clear p_ri hmb k3 k4; omega))) | have r_p_ri := (p_ri.resolve_left (by (clear p_ri hmb k3 k4; omega))) | skip
        (first | (clear p_ri hmb k3 k4; omega) | (clear p_ri hmb k3; omega) | (clear p_ri hmb k4; omega) | (clear p_ri k3 k4; omega) | (clear hmb k3 k4; omega) | (clear p_ri hmb; omega) | omega)
      · first | (revert r_p_ri; intro r_p_ri) | have r_p_ri := (p_ri.resolve_right (by (clear p_ri hmb k3 k4; omega))) | have r_p_ri := (p_ri.resolve_left (by (clear p_ri hmb k3 k4; omega))) | skip
        have ha3 := ha2 (by (first | (clear p_ri hmb k3 k4; omega) | (clear p_ri hmb k3; omega) | (clear p_ri hmb k4; omega) | (clear p_ri k3 k4; omega) | (clear hmb k3 k4; omega) | (clear p_ri hmb; omega) | omega)) (by (first | (clear p_ri hmb k3 k4; omega) | (clear p_ri hmb k3; omega) | (clear p_ri hmb k4; omega) | (clear p_ri k3 k4; omega) | (clear hmb k3 k4; omega) | (clear p_ri hmb; omega) | omega)); (first | (clear p_ri hmb k3 k4; omega) | (clear p_ri hmb k3; omega) | (clear p_ri hmb k4; omega) | (clear p_ri k3 k4; omega) | (clear hmb k3 k4; omega) | (clear p_ri hmb; omega) | omega)
/-! What the class answers: X6_isNewName. -/
set_option maxRecDepth 100000 in
set_option maxHeartbeats 4000000 in
theorem f_X6_isNewName (G : GT) (P : PH) (T : TT) (K : PH) (p : Int) (o : Nat) (k_o : kx o 28) (hB : BdX P) (p_aw : AW K) (z0 : XS T p P) (z1 : XK K (crX o 0) P) (z2 : RT o P) (Q : Option PV → PH → Prop) (hQ : ∀ (r : Int) (_ : 0 ≤ r ∧ r ≤ 1) (P1 : PH) (_ : BdX P1) (_ : FrX ([(45, 3), (45, 4)], []) P P1) (_ : (r = 1 ∧ (fre T K p).1 = 0 ∧ P1 110 3 = P 110 3 ∧ P1 110 4 = P 110 4 ∧ tK T p = 1) ∨ (r = 0 ∧ (fre T K p).1 ≠ 0 ∧ P1 110 3 = (fre T K p).1 ∧ P1 110 4 = (fre T K p).2)), Q (some (vI r)) P1) : Ct WSX G 2 iX6_isNewName [vR 110] P Q := by
  refine Ct.of (by decide) (l0 := [(0, vR 110)]) rfl (Nat.le_of_ble_eq_true rfl) ?_
  have hb := z0.b
  have hfr := fre_s T K p
  refine g_aload_n dX6_isNewName_0 rfl ?_
  refine x_g45_0 (n := 111) (⟨by decide, rfl⟩ : kx 110 45) ffX6_12 dX6_isNewName_1 rfl ?_
  refine g_vI (av := []) (o := 111) (st := []) (f_X7_isName G P T p  hB (z0) _ (fun rc1 hc1 gc1_f => ⟨rc1, rfl, ?_⟩)) cf_X7_isName t_736 rfl (show kx 111 46 from (⟨by decide, rfl⟩ : kx 111 46)).1 ((show kx 111 46 from (⟨by decide, rfl⟩ : kx 111 46)).sh rfl) rfl rfl (Nat.le_of_ble_eq_true rfl) (by decide) rfl dX6_isNewName_4
  refine g_if_ne (tgt := 15) dX6_isNewName_7 (by decide) ⟨by (clear hb hfr gc1_f; omega), by (clear hb hfr gc1_f; omega)⟩ (fun k2 => ?_) (fun k2 => ?_)
  · have k2n : 1 ≤ rc1 := by (clear hb hfr gc1_f; omega)
    clear k2
    have r_gc1_f := (gc1_f.resolve_right (by (clear hb hfr gc1_f; omega)))
    skip
    have hv := (z0.tok (by (clear hb hfr gc1_f; omega))).2
    refine g_aload_n dX6_isNewName_15 rfl ?_
    refine x_g45_2 (n := o) (⟨by decide, rfl⟩ : kx 110 45) ffX6_27 dX6_isNewName_16 z2 ?_
    refine x_g28_0 (n := (crX o 0)) k_o ffX6_108 dX6_isNewName_19 rfl ?_
    refine g_astore_n (l1 := [(1, vR (crX o 0)), (0, vR 110)]) dX6_isNewName_22 (by decide) rfl ?_
    refine g_aload_n dX6_isNewName_23 rfl ?_
    refine g_aload_n dX6_isNewName_24 rfl ?_
    refine x_g45_0 (n := 111) (⟨by decide, rfl⟩ : kx 110 45) ffX6_12 dX6_isNewName_25 rfl ?_
    refine x_g46_7 (z := (P 111 7)) (⟨by decide, rfl⟩ : kx 111 46) ffX6_95 dX6_isNewName_28 rfl ?_
    have f3 := bx_46_7 (o := 111) hB (⟨by decide, rfl⟩ : kx 111 46)
    refine g_vI (av := [vI (P 111 7)]) (o := (crX o 0)) (st := []) (f_X3_kindNamed G P K (crX o 0) (P 111 7) (ck_28_0 k_o) ⟨by have q0 := bx_46_7 (o := 111) hB (⟨by decide, rfl⟩ : kx 111 46); (clear hb hfr gc1_f; omega), by have q0 := bx_46_7 (o := 111) hB (⟨by decide, rfl⟩ : kx 111 46); (clear hb hfr gc1_f; omega)⟩ hB (z1) _ (fun rc4 hc4 gc4_fx => ⟨rc4, rfl, ?_⟩)) cf_X3_kindNamed t_740 rfl (show kx (crX o 0) 29 from (ck_28_0 k_o)).1 ((show kx (crX o 0) 29 from (ck_28_0 k_o)).sh rfl) rfl rfl (Nat.le_of_ble_eq_true rfl) (by decide) rfl dX6_isNewName_31
    have hkn : rc4 = kNm K (tV T p) := by rw [← hv]; exact gc4_fx
    refine g_iconst dX6_isNewName_34 ?_
    refine g_icmp_ne (tgt := 53) dX6_isNewName_35 (by decide) ⟨by (clear hb hfr gc1_f; omega), by (clear hb hfr gc1_f; omega)⟩ (by decide) (fun k5 => ?_) (fun k5 => ?_)
    · have k5n : 0 ≤ rc4 := by (clear hb hfr gc1_f; omega)
      clear k5
      skip
      have r_hfr := ((hfr.resolve_left (by (clear hb hfr gc1_f; omega))).resolve_right (by (clear hb hfr gc1_f; omega)))
      refine g_aload_n dX6_isNewName_53 rfl ?_
      refine g_iconst dX6_isNewName_54 ?_
      refine g_aload_n dX6_isNewName_55 rfl ?_
      refine x_g45_0 (n := 111) (⟨by decide, rfl⟩ : kx 110 45) ffX6_12 dX6_isNewName_56 rfl ?_
      refine x_g46_5 (z := (P 111 5)) (⟨by decide, rfl⟩ : kx 111 46) ffX6_72 dX6_isNewName_59 rfl ?_
      have f6 := bx_46_5 (o := 111) hB (⟨by decide, rfl⟩ : kx 111 46)
      refine g_vI (av := [vI 2, vI (P 111 5)]) (o := 110) (st := []) (f_X6_fail G P 2 (P 111 5) (by decide) ⟨by have q0 := bx_46_5 (o := 111) hB (⟨by decide, rfl⟩ : kx 111 46); (clear hb hfr gc1_f; omega), by have q0 := bx_46_5 (o := 111) hB (⟨by decide, rfl⟩ : kx 111 46); (clear hb hfr gc1_f; omega)⟩ hB  _ (fun rc7 hc7 Pc7 hBc7 hFc7 gc7_f => ⟨rc7, rfl, ?_⟩)) cf_X6_fail t_727 rfl (show kx 110 45 from (⟨by decide, rfl⟩ : kx 110 45)).1 ((show kx 110 45 from (⟨by decide, rfl⟩ : kx 110 45)).sh rfl) rfl rfl (Nat.le_of_ble_eq_true rfl) (by decide) rfl dX6_isNewName_62
      exact g_retZ dX6_isNewName_65 rfl (by (clear hb hfr gc1_f; omega)) (hQ rc7 ⟨by (clear hb hfr gc1_f; omega), by (clear hb hfr gc1_f; omega)⟩ _ hBc7 (FrX.c FrX.rf hFc7 rfl) (by have q0 := bx_45_3 (o := 110) hBc7 (⟨by decide, rfl⟩ : kx 110 45); have q1 := bx_45_4 (o := 110) hBc7 (⟨by decide, rfl⟩ : kx 110 45); (clear hfr gc1_f; omega)))
    · skip
      skip
      refine g_aload_n dX6_isNewName_38 rfl ?_
      refine g_aload_n dX6_isNewName_39 rfl ?_
      refine x_g45_0 (n := 111) (⟨by decide, rfl⟩ : kx 110 45) ffX6_12 dX6_isNewName_40 rfl ?_
      refine x_g46_7 (z := (P 111 7)) (⟨by decide, rfl⟩ : kx 111 46) ffX6_95 dX6_isNewName_43 rfl ?_
      refine g_vI (av := [vI (P 111 7)]) (o := (crX o 0)) (st := []) (f_X3_conNamed G P K (crX o 0) (P 111 7) (ck_28_0 k_o) ⟨by have q0 := bx_46_7 (o := 111) hB (⟨by decide, rfl⟩ : kx 111 46); (clear hb hfr gc1_f k5; omega), by have q0 := bx_46_7 (o := 111) hB (⟨by decide, rfl⟩ : kx 111 46); (clear hb hfr gc1_f k5; omega)⟩ hB (z1) _ (fun rc8 hc8 gc8_fx => ⟨rc8, rfl, ?_⟩)) cf_X3_conNamed t_744 rfl (show kx (crX o 0) 29 from (ck_28_0 k_o)).1 ((show kx (crX o 0) 29 from (ck_28_0 k_o)).sh rfl) rfl rfl (Nat.le_of_ble_eq_true rfl) (by decide) rfl dX6_isNewName_46
      have hcn : rc8 = cNm K (tV T p) := by rw [← hv]; exact gc8_fx
      refine g_iconst dX6_isNewName_49 ?_
      refine g_icmp_eq (tgt := 66) dX6_isNewName_50 (by decide) ⟨by (clear hb hfr gc1_f k5; omega), by (clear hb hfr gc1_f k5; omega)⟩ (by decide) (fun k9 => ?_) (fun k9 => ?_)
      · skip
        skip
        refine g_iconst dX6_isNewName_66 ?_
        exact g_retZ dX6_isNewName_67 rfl (by decide) (hQ 1 (by decide) _ hB FrX.rf (by have q0 := bx_45_3 (o := 110) hB (⟨by decide, rfl⟩ : kx 110 45); have q1 := bx_45_4 (o := 110) hB (⟨by decide, rfl⟩ : kx 110 45); (clear hb; omega)))
      · have k9n : 0 ≤ rc8 := by (clear hb hfr gc1_f k5; omega)
        clear k9
        skip
        have r_hfr := ((hfr.resolve_left (by (clear hb hfr gc1_f k5; omega))).resolve_right (by (clear hb hfr gc1_f k5; omega)))
        refine g_aload_n dX6_isNewName_53 rfl ?_
        refine g_iconst dX6_isNewName_54 ?_
        refine g_aload_n dX6_isNewName_55 rfl ?_
        refine x_g45_0 (n := 111) (⟨by decide, rfl⟩ : kx 110 45) ffX6_12 dX6_isNewName_56 rfl ?_
        refine x_g46_5 (z := (P 111 5)) (⟨by decide, rfl⟩ : kx 111 46) ffX6_72 dX6_isNewName_59 rfl ?_
        have f10 := bx_46_5 (o := 111) hB (⟨by decide, rfl⟩ : kx 111 46)
        refine g_vI (av := [vI 2, vI (P 111 5)]) (o := 110) (st := []) (f_X6_fail G P 2 (P 111 5) (by decide) ⟨by have q0 := bx_46_5 (o := 111) hB (⟨by decide, rfl⟩ : kx 111 46); (clear hb hfr gc1_f k5; omega), by have q0 := bx_46_5 (o := 111) hB (⟨by decide, rfl⟩ : kx 111 46); (clear hb hfr gc1_f k5; omega)⟩ hB  _ (fun rc11 hc11 Pc11 hBc11 hFc11 gc11_f => ⟨rc11, rfl, ?_⟩)) cf_X6_fail t_727 rfl (show kx 110 45 from (⟨by decide, rfl⟩ : kx 110 45)).1 ((show kx 110 45 from (⟨by decide, rfl⟩ : kx 110 45)).sh rfl) rfl rfl (Nat.le_of_ble_eq_true rfl) (by decide) rfl dX6_isNewName_62
        exact g_retZ dX6_isNewName_65 rfl (by (clear hb hfr gc1_f k5; omega)) (hQ rc11 ⟨by (clear hb hfr gc1_f k5; omega), by (clear hb hfr gc1_f k5; omega)⟩ _ hBc11 (FrX.c FrX.rf hFc11 rfl) (by have q0 := bx_45_3 (o := 110) hBc11 (⟨by decide, rfl⟩ : kx 110 45); have q1 := bx_45_4 (o := 110) hBc11 (⟨by decide, rfl⟩ : kx 110 45); (clear hfr gc1_f k5; omega)))
  · skip
    skip
    refine g_aload_n dX6_isNewName_10 rfl ?_
    refine g_vI (av := []) (o := 110) (st := []) (f_X6_failHere G P T p  hB (z0) _ (fun rc12 hc12 Pc12 hBc12 hFc12 gc12_f => ⟨rc12, rfl, ?_⟩)) cf_X6_failHere t_723 rfl (show kx 110 45 from (⟨by decide, rfl⟩ : kx 110 45)).1 ((show kx 110 45 from (⟨by decide, rfl⟩ : kx 110 45)).sh rfl) rfl rfl (Nat.le_of_ble_eq_true rfl) (by decide) rfl dX6_isNewName_11
    exact g_retZ dX6_isNewName_14 rfl (by (clear hb hfr gc1_f k2; omega)) (hQ rc12 ⟨by (clear hb hfr gc1_f k2; omega), by (clear hb hfr gc1_f k2; omega)⟩ _ hBc12 (FrX.c FrX.rf hFc12 rfl) (by have q0 := bx_45_3 (o := 110) hBc12 (⟨by decide, rfl⟩ : kx 110 45); have q1 := bx_45_4 (o := 110) hBc12 (⟨by decide, rfl⟩ : kx 110 45); (omega)))
/-! What the class answers: X6_readKind. -/
set_option maxRecDepth 100000 in
set_option maxHeartbeats 4000000 in
theorem f_X6_readKind (G : GT) (P : PH) (T : TT) (K : PH) (M : PH) (p : Int) (o : Nat) (k_o : kx o 28) (hB : BdX P) (p_aw : AW K) (p_k0 : tO T p = 0) (v_TX : TX P) (v_OWN : OWN P) (z0 : XT T P) (z1 : XS T p P) (z2 : XK K (crX o 0) P) (z3 : XM M o P) (z4 : RT o P) (Q : Option PV → PH → Prop) (hQ : ∀ (r : Int) (_ : 0 ≤ r ∧ r ≤ 1) (P1 : PH) (_ : BdX P1) (_ : FrX ([(29, 9), (45, 3), (45, 4), (46, 3), (46, 4), (46, 5), (46, 6), (46, 7), (46, 8)], [30, 31, 32, 33]) P P1) (_ : (r = 1 ∧ (sKi T K M p).1 = 0 ∧ P1 110 3 = P 110 3 ∧ P1 110 4 = P 110 4) ∨ (r = 0 ∧ (sKi T K M p).1 ≠ 0 ∧ P1 110 3 = (sKi T K M p).1 ∧ P1 110 4 = (sKi T K M p).2)) (_ : CP (sKi T K M p).1 (XS T (sKi T K M p).2) P1) (_ : CP (sKi T K M p).1 (XK (kNew K (tV T (tE T p))) (crX o 0)) P1) (_ : KT (tbX o) P P1), Q (some (vI r)) P1) : Ct WSX G 3 iX6_readKind [vR 110] P Q := by
  refine Ct.of (by decide) (l0 := [(0, vR 110)]) rfl (Nat.le_of_ble_eq_true rfl) ?_
  have kt0 : KT (tbX o) P P := KT.rf
  have hk1 : tK T p = 1 := by have q := tO_r T p; omega
  have hb := z1.b
  have hsk := sKi_s T K M p
  have hmb := z3.b
  have hkb := z2.b
  have hk0 := p_aw.1
  have hfr := fre_s T K (tE T p)
  have hfh := fh_ok (T := T) (p := p) (by (clear hb hsk hmb hkb hfr; omega))
  refine g_aload_n dX6_readKind_0 rfl ?_
  refine x_g45_2 (n := o) (⟨by decide, rfl⟩ : kx 110 45) ffX6_27 dX6_readKind_1 z4 ?_
  refine x_g28_6 (z := (P o 6)) k_o ffX6_79 dX6_readKind_4 rfl ?_
  have f1 := bx_28_6 (o := o) hB k_o
  refine g_if_le (tgt := 15) dX6_readKind_7 (by decide) ⟨by have q0 := bx_28_6 (o := o) hB k_o; (clear hb hsk hmb hkb hfr; omega), by have q0 := bx_28_6 (o := o) hB k_o; (clear hb hsk hmb hkb hfr; omega)⟩ (fun k2 => ?_) (fun k2 => ?_)
  · skip
    skip
    refine g_aload_n dX6_readKind_15 rfl ?_
    refine x_g45_2 (n := o) (⟨by decide, rfl⟩ : kx 110 45) ffX6_27 dX6_readKind_16 z4 ?_
    refine x_g28_0 (n := (crX o 0)) k_o ffX6_108 dX6_readKind_19 rfl ?_
    refine x_g29_9 (z := (P (crX o 0) 9)) (ck_28_0 k_o) ffX6_112 dX6_readKind_22 rfl ?_
    refine g_iconst dX6_readKind_25 ?_
    have f3 := bx_29_9 (o := (crX o 0)) hB (ck_28_0 k_o)
    refine g_icmp_lt (tgt := 43) dX6_readKind_26 (by decide) ⟨by have q0 := bx_29_9 (o := (crX o 0)) hB (ck_28_0 k_o); (clear hb hsk hmb hkb hfr k2; omega), by have q0 := bx_29_9 (o := (crX o 0)) hB (ck_28_0 k_o); (clear hb hsk hmb hkb hfr k2; omega)⟩ (by decide) (fun k4 => ?_) (fun k4 => ?_)
    · skip
      skip
      refine g_aload_n dX6_readKind_43 rfl ?_
      refine x_g45_0 (n := 111) (⟨by decide, rfl⟩ : kx 110 45) ffX6_12 dX6_readKind_44 rfl ?_
      refine g_vV (av := []) (o := 111) (st := []) (f_X7_step G P T (tE T p)  hB ((z1.stp (by (clear hb hsk hmb hkb hfr k2 k4; omega))).1) ((z1.stp (by (clear hb hsk hmb hkb hfr k2 k4; omega))).2) v_TX v_OWN (z0) _ (fun Pc5 hBc5 hFc5 ec5_0 => ⟨rfl, ?_⟩)) cf_X7_step t_731 rfl (show kx 111 46 from (⟨by decide, rfl⟩ : kx 111 46)).1 ((show kx 111 46 from (⟨by decide, rfl⟩ : kx 111 46)).sh rfl) rfl rfl (Nat.le_of_ble_eq_true rfl) (by decide) rfl dX6_readKind_47
      refine g_aload_n dX6_readKind_50 rfl ?_
      refine g_vI (av := []) (o := 110) (st := []) (f_X6_isNewName G Pc5 T K (tE T p) o k_o  hBc5 p_aw (ec5_0) ((XK.fr (F := ([(46, 3), (46, 4), (46, 5), (46, 6), (46, 7), (46, 8)], [])) z2 (FrX.c FrX.rf hFc5 rfl) rfl)) ((RT.fr (F := ([(46, 3), (46, 4), (46, 5), (46, 6), (46, 7), (46, 8)], [])) z4 (FrX.c FrX.rf hFc5 rfl) rfl)) _ (fun rc6 hc6 Pc6 hBc6 hFc6 gc6_n => ⟨rc6, rfl, ?_⟩)) cf_X6_isNewName t_732 rfl (show kx 110 45 from (⟨by decide, rfl⟩ : kx 110 45)).1 ((show kx 110 45 from (⟨by decide, rfl⟩ : kx 110 45)).sh rfl) rfl rfl (Nat.le_of_ble_eq_true rfl) (by decide) rfl dX6_readKind_51
      have zq7 : Pc5 110 3 = (P 110 3) := ((FrX.g hFc5 (⟨by decide, rfl⟩ : kx 110 45) rfl).trans rfl)
      have zq8 : Pc5 110 4 = (P 110 4) := ((FrX.g hFc5 (⟨by decide, rfl⟩ : kx 110 45) rfl).trans rfl)
      refine g_if_ne (tgt := 59) dX6_readKind_54 (by decide) ⟨by (clear hb hsk hmb hkb hfr k2 k4 gc6_n; omega), by (clear hb hsk hmb hkb hfr k2 k4 gc6_n; omega)⟩ (fun k9 => ?_) (fun k9 => ?_)
      · have k9n : 1 ≤ rc6 := by (clear hb hsk hmb hkb hfr k2 k4 gc6_n; omega)
        clear k9
        have r_gc6_n := (gc6_n.resolve_right (by (clear hb hsk hmb hkb hfr k2 k4 gc6_n; omega)))
        have r_hfr := (hfr.resolve_right (by (clear hb hsk hmb hkb hfr k2 k4 gc6_n; omega)))
        skip
        refine g_aload_n dX6_readKind_59 rfl ?_
        refine x_g45_2 (n := o) (⟨by decide, rfl⟩ : kx 110 45) ffX6_27 dX6_readKind_60 (RT.fr (F := ([(45, 3), (45, 4), (46, 3), (46, 4), (46, 5), (46, 6), (46, 7), (46, 8)], [])) z4 (FrX.c (FrX.c FrX.rf hFc5 rfl) hFc6 rfl) rfl) ?_
        refine x_g28_0 (n := (crX o 0)) k_o ffX6_108 dX6_readKind_63 rfl ?_
        have hv9 : (Pc5 111 7) = tV T (tE T p) := (((FrX.g hFc6 (⟨by decide, rfl⟩ : kx 111 46) rfl).trans rfl)).symm.trans ((XS.fr (F := ([(45, 3), (45, 4)], [])) ec5_0 (FrX.c FrX.rf hFc6 rfl) rfl).tok (by (clear hb hsk hmb hkb hfr k2 k4 gc6_n; omega))).2
        refine g_aload_n dX6_readKind_66 rfl ?_
        refine x_g45_0 (n := 111) (⟨by decide, rfl⟩ : kx 110 45) ffX6_12 dX6_readKind_67 rfl ?_
        refine x_g46_7 (z := (Pc5 111 7)) (⟨by decide, rfl⟩ : kx 111 46) ffX6_95 dX6_readKind_70 ((FrX.g hFc6 (⟨by decide, rfl⟩ : kx 111 46) rfl).trans rfl) ?_
        have f10 := bx_46_7 (o := 111) hBc5 (⟨by decide, rfl⟩ : kx 111 46)
        refine g_vV (av := [vI (Pc5 111 7)]) (o := (crX o 0)) (st := []) (f_X3_addKind G Pc6 K (crX o 0) (Pc5 111 7) (ck_28_0 k_o) ⟨by have q0 := bx_46_7 (o := 111) hBc5 (⟨by decide, rfl⟩ : kx 111 46); (clear hb hsk hmb hkb hfr k2 k4 gc6_n; omega), by have q0 := bx_46_7 (o := 111) hBc5 (⟨by decide, rfl⟩ : kx 111 46); (clear hb hsk hmb hkb hfr k2 k4 gc6_n; omega)⟩ hBc6 (by have q0 := bx_46_7 (o := 111) hBc5 (⟨by decide, rfl⟩ : kx 111 46); (omega)) ((XK.fr (F := ([(45, 3), (45, 4), (46, 3), (46, 4), (46, 5), (46, 6), (46, 7), (46, 8)], [])) z2 (FrX.c (FrX.c FrX.rf hFc5 rfl) hFc6 rfl) rfl)) _ (fun Pc11 hBc11 hFc11 ec11_0 ec11_1 => ⟨rfl, ?_⟩)) cf_X3_addKind t_748 rfl (show kx (crX o 0) 29 from (ck_28_0 k_o)).1 ((show kx (crX o 0) 29 from (ck_28_0 k_o)).sh rfl) rfl rfl (Nat.le_of_ble_eq_true rfl) (by decide) rfl dX6_readKind_73
        have kt12 : KT (tbX o) P Pc11 := KT.t (KT.fr (F := ([(45, 3), (45, 4), (46, 3), (46, 4), (46, 5), (46, 6), (46, 7), (46, 8)], [])) kt0 (FrX.c (FrX.c FrX.rf hFc5 rfl) hFc6 rfl) rfl) (KT.e ec11_1 (tb28_0 k_o))
        have iv13 : XK (kNew K (tV T (tE T p))) (crX o 0) Pc11 := by rw [← hv9]; exact ec11_0
        refine g_aload_n dX6_readKind_76 rfl ?_
        refine x_g45_0 (n := 111) (⟨by decide, rfl⟩ : kx 110 45) ffX6_12 dX6_readKind_77 rfl ?_
        refine g_vV (av := []) (o := 111) (st := []) (f_X7_step G Pc11 T (tE T (tE T p))  hBc11 (((XS.fr (F := ([(29, 9), (45, 3), (45, 4)], [30, 31, 32, 33])) ec5_0 (FrX.c (FrX.c FrX.rf hFc6 rfl) hFc11 rfl) rfl).stp (by (clear hb hsk hmb hkb hfr k2 k4 gc6_n; omega))).1) (((XS.fr (F := ([(29, 9), (45, 3), (45, 4)], [30, 31, 32, 33])) ec5_0 (FrX.c (FrX.c FrX.rf hFc6 rfl) hFc11 rfl) rfl).stp (by (clear hb hsk hmb hkb hfr k2 k4 gc6_n; omega))).2) (TX.fr (F := ([(29, 9), (45, 3), (45, 4), (46, 3), (46, 4), (46, 5), (46, 6), (46, 7), (46, 8)], [30, 31, 32, 33])) v_TX (FrX.c (FrX.c (FrX.c FrX.rf hFc5 rfl) hFc6 rfl) hFc11 rfl) rfl) (OWN.fr (F := ([(29, 9), (45, 3), (45, 4), (46, 3), (46, 4), (46, 5), (46, 6), (46, 7), (46, 8)], [30, 31, 32, 33])) v_OWN (FrX.c (FrX.c (FrX.c FrX.rf hFc5 rfl) hFc6 rfl) hFc11 rfl) rfl) ((XT.fr (F := ([(29, 9), (45, 3), (45, 4), (46, 3), (46, 4), (46, 5), (46, 6), (46, 7), (46, 8)], [30, 31, 32, 33])) z0 (FrX.c (FrX.c (FrX.c FrX.rf hFc5 rfl) hFc6 rfl) hFc11 rfl) rfl)) _ (fun Pc14 hBc14 hFc14 ec14_0 => ⟨rfl, ?_⟩)) cf_X7_step t_731 rfl (show kx 111 46 from (⟨by decide, rfl⟩ : kx 111 46)).1 ((show kx 111 46 from (⟨by decide, rfl⟩ : kx 111 46)).sh rfl) rfl rfl (Nat.le_of_ble_eq_true rfl) (by decide) rfl dX6_readKind_80
        refine g_iconst dX6_readKind_83 ?_
        exact g_retZ dX6_readKind_84 rfl (by decide) (hQ 1 (by decide) _ hBc14 (FrX.c (FrX.c (FrX.c (FrX.c FrX.rf hFc5 rfl) hFc6 rfl) hFc11 rfl) hFc14 rfl) (by have q0 := (((FrX.g hFc14 (⟨by decide, rfl⟩ : kx 110 45) rfl).trans ((FrX.g hFc11 (⟨by decide, rfl⟩ : kx 110 45) rfl).trans rfl)) : Pc14 110 3 = (Pc6 110 3)); have q1 := bx_45_3 (o := 110) hBc6 (⟨by decide, rfl⟩ : kx 110 45); have q2 := (((FrX.g hFc14 (⟨by decide, rfl⟩ : kx 110 45) rfl).trans ((FrX.g hFc11 (⟨by decide, rfl⟩ : kx 110 45) rfl).trans rfl)) : Pc14 110 4 = (Pc6 110 4)); have q3 := bx_45_4 (o := 110) hBc6 (⟨by decide, rfl⟩ : kx 110 45); (omega)) ((fun h0 => by first | exact (by first | (rw [show (sKi T K M p).2 = (tE T (tE T p)) by (clear hb hmb hkb hfr k2 k4 gc6_n; omega)]; exact ec14_0)) | (exfalso; (first | (clear hb hsk hmb hkb hfr k2 k4 gc6_n; omega) | (clear hb hsk hmb hkb hfr k2 k4; omega) | (clear hb hsk hmb hkb hfr k2 gc6_n; omega) | (clear hb hsk hmb hkb hfr k4 gc6_n; omega) | (clear hb hsk hmb hkb k2 k4 gc6_n; omega) | (clear hb hsk hmb hfr k2 k4 gc6_n; omega) | (clear hb hsk hkb hfr k2 k4 gc6_n; omega) | (clear hb hmb hkb hfr k2 k4 gc6_n; omega) | (clear hsk hmb hkb hfr k2 k4 gc6_n; omega) | (clear hb hsk hmb hkb hfr k2; omega) | (clear hkb hmb hsk hb; omega) | omega)))) ((fun h0 => by first | exact (XK.fr (F := ([(46, 3), (46, 4), (46, 5), (46, 6), (46, 7), (46, 8)], [])) iv13 (FrX.c FrX.rf hFc14 rfl) rfl) | (exfalso; (first | (clear hb hsk hmb hkb hfr k2 k4 gc6_n; omega) | (clear hb hsk hmb hkb hfr k2 k4; omega) | (clear hb hsk hmb hkb hfr k2 gc6_n; omega) | (clear hb hsk hmb hkb hfr k4 gc6_n; omega) | (clear hb hsk hmb hkb k2 k4 gc6_n; omega) | (clear hb hsk hmb hfr k2 k4 gc6_n; omega) | (clear hb hsk hkb hfr k2 k4 gc6_n; omega) | (clear hb hmb hkb hfr k2 k4 gc6_n; omega) | (clear hsk hmb hkb hfr k2 k4 gc6_n; omega) | (clear hb hsk hmb hkb hfr k2; omega) | (clear hkb hmb hsk hb; omega) | omega)))) ((KT.fr (F := ([(46, 3), (46, 4), (46, 5), (46, 6), (46, 7), (46, 8)], [])) kt12 (FrX.c FrX.rf hFc14 rfl) rfl)))
      · skip
        skip
        skip
        refine g_iconst dX6_readKind_57 ?_
        exact g_retZ dX6_readKind_58 rfl (by decide) (hQ 0 (by decide) _ hBc6 (FrX.c (FrX.c FrX.rf hFc5 rfl) hFc6 rfl) (by have q0 := bx_45_3 (o := 110) hBc6 (⟨by decide, rfl⟩ : kx 110 45); have q1 := bx_45_4 (o := 110) hBc6 (⟨by decide, rfl⟩ : kx 110 45); (omega)) ((fun h0 => by first | exact (by first | (rw [show (sKi T K M p).2 = (tE T p) by (omega)]; exact (XS.fr (F := ([(45, 3), (45, 4)], [])) ec5_0 (FrX.c FrX.rf hFc6 rfl) rfl))) | (exfalso; (first | (clear hb hsk hmb hkb hfr k2 k4 gc6_n k9; omega) | (clear hb hsk hmb hkb hfr k2 k4 gc6_n; omega) | (clear hb hsk hmb hkb hfr k2 k4 k9; omega) | (clear hb hsk hmb hkb hfr k2 gc6_n k9; omega) | (clear hb hsk hmb hkb hfr k4 gc6_n k9; omega) | (clear hb hsk hmb hkb k2 k4 gc6_n k9; omega) | (clear hb hsk hmb hfr k2 k4 gc6_n k9; omega) | (clear hb hsk hkb hfr k2 k4 gc6_n k9; omega) | (clear hb hmb hkb hfr k2 k4 gc6_n k9; omega) | (clear hb hsk hmb hkb hfr k2 k4; omega) | (clear hfr hkb hmb hsk hb; omega) | omega)))) ((fun h0 => by first | exact hNONE | (exfalso; (omega)))) ((KT.fr (F := ([(45, 3), (45, 4), (46, 3), (46, 4), (46, 5), (46, 6), (46, 7), (46, 8)], [])) kt0 (FrX.c (FrX.c FrX.rf hFc5 rfl) hFc6 rfl) rfl)))
    · skip
      skip
      refine g_aload_n dX6_readKind_29 rfl ?_
      refine g_bipush dX6_readKind_30 (by decide) ?_
      refine g_aload_n dX6_readKind_32 rfl ?_
      refine x_g45_0 (n := 111) (⟨by decide, rfl⟩ : kx 110 45) ffX6_12 dX6_readKind_33 rfl ?_
      refine x_g46_5 (z := (P 111 5)) (⟨by decide, rfl⟩ : kx 111 46) ffX6_72 dX6_readKind_36 rfl ?_
      have f15 := bx_46_5 (o := 111) hB (⟨by decide, rfl⟩ : kx 111 46)
      refine g_vI (av := [vI 6, vI (P 111 5)]) (o := 110) (st := []) (f_X6_fail G P 6 (P 111 5) (by decide) ⟨by have q0 := bx_46_5 (o := 111) hB (⟨by decide, rfl⟩ : kx 111 46); (clear hb hsk hmb hkb hfr k2 k4; omega), by have q0 := bx_46_5 (o := 111) hB (⟨by decide, rfl⟩ : kx 111 46); (clear hb hsk hmb hkb hfr k2 k4; omega)⟩ hB  _ (fun rc16 hc16 Pc16 hBc16 hFc16 gc16_f => ⟨rc16, rfl, ?_⟩)) cf_X6_fail t_727 rfl (show kx 110 45 from (⟨by decide, rfl⟩ : kx 110 45)).1 ((show kx 110 45 from (⟨by decide, rfl⟩ : kx 110 45)).sh rfl) rfl rfl (Nat.le_of_ble_eq_true rfl) (by decide) rfl dX6_readKind_39
      exact g_retZ dX6_readKind_42 rfl (by (clear hb hsk hmb hkb hfr k2 k4; omega)) (hQ rc16 ⟨by (clear hb hsk hmb hkb hfr k2 k4; omega), by (clear hb hsk hmb hkb hfr k2 k4; omega)⟩ _ hBc16 (FrX.c FrX.rf hFc16 rfl) (by have q0 := bx_45_3 (o := 110) hBc16 (⟨by decide, rfl⟩ : kx 110 45); have q1 := bx_45_4 (o := 110) hBc16 (⟨by decide, rfl⟩ : kx 110 45); (omega)) ((fun h0 => by first | exact (by first | (rw [show (sKi T K M p).2 = p by (omega)]; exact (XS.fr (F := ([(45, 3), (45, 4)], [])) z1 (FrX.c FrX.rf hFc16 rfl) rfl))) | (exfalso; (first | (clear hb hsk hmb hkb hfr k2 k4; omega) | (clear hb hsk hmb hkb hfr k2; omega) | (clear hb hsk hmb hkb hfr k4; omega) | (clear hb hsk hmb hkb k2 k4; omega) | (clear hb hsk hmb hfr k2 k4; omega) | (clear hb hsk hkb hfr k2 k4; omega) | (clear hb hmb hkb hfr k2 k4; omega) | (clear hsk hmb hkb hfr k2 k4; omega) | (clear hb hsk hmb hkb hfr; omega) | (clear hmb hsk hb; omega) | omega)))) ((fun h0 => by first | exact hNONE | (exfalso; (omega)))) ((KT.fr (F := ([(45, 3), (45, 4)], [])) kt0 (FrX.c FrX.rf hFc16 rfl) rfl)))
  · skip
    skip
    refine g_aload_n dX6_readKind_10 rfl ?_
    refine g_vI (av := []) (o := 110) (st := []) (f_X6_failHere G P T p  hB (z1) _ (fun rc17 hc17 Pc17 hBc17 hFc17 gc17_f => ⟨rc17, rfl, ?_⟩)) cf_X6_failHere t_723 rfl (show kx 110 45 from (⟨by decide, rfl⟩ : kx 110 45)).1 ((show kx 110 45 from (⟨by decide, rfl⟩ : kx 110 45)).sh rfl) rfl rfl (Nat.le_of_ble_eq_true rfl) (by decide) rfl dX6_readKind_11
    exact g_retZ dX6_readKind_14 rfl (by (clear hb hsk hmb hkb hfr k2; omega)) (hQ rc17 ⟨by (clear hb hsk hmb hkb hfr k2; omega), by (clear hb hsk hmb hkb hfr k2; omega)⟩ _ hBc17 (FrX.c FrX.rf hFc17 rfl) (by have q0 := bx_45_3 (o := 110) hBc17 (⟨by decide, rfl⟩ : kx 110 45); have q1 := bx_45_4 (o := 110) hBc17 (⟨by decide, rfl⟩ : kx 110 45); (omega)) ((fun h0 => by first | exact (by first | (rw [show (sKi T K M p).2 = p by (omega)]; exact (XS.fr (F := ([(45, 3), (45, 4)], [])) z1 (FrX.c FrX.rf hFc17 rfl) rfl))) | (exfalso; (first | (clear hb hsk hmb hkb hfr k2; omega) | (clear hb hsk hmb hkb hfr; omega) | (clear hb hsk hmb hkb k2; omega) | (clear hb hsk hmb hfr k2; omega) | (clear hb hsk hkb hfr k2; omega) | (clear hb hmb hkb hfr k2; omega) | (clear hsk hmb hkb hfr k2; omega) | (clear hb hsk hmb hkb; omega) | (clear hsk hb; omega) | omega)))) ((fun h0 => by first | exact hNONE | (exfalso; (omega)))) ((KT.fr (F := ([(45, 3), (45, 4)], [])) kt0 (FrX.c FrX.rf hFc17 rfl) rfl)))
/-! What the class answers: X6_isKindWord. -/
set_option maxRecDepth 100000 in
set_option maxHeartbeats 4000000 in
theorem f_X6_isKindWord (G : GT) (P : PH) (T : TT) (p : Int) (hB : BdX P) (z0 : XS T p P) (Q : Option PV → PH → Prop) (hQ : ∀ (r : Int) (_ : 0 ≤ r ∧ r ≤ 1) (_ : (r = 1 ∧ tK T p = 1 ∧ (tO T p = -1 ∨ tO T p = 7)) ∨ (r = 0 ∧ (tK T p ≠ 1 ∨ (tO T p ≠ -1 ∧ tO T p ≠ 7)))), Q (some (vI r)) P) : Ct WSX G 2 iX6_isKindWord [vR 110] P Q := by
  refine Ct.of (by decide) (l0 := [(0, vR 110)]) rfl (Nat.le_of_ble_eq_true rfl) ?_
  have hb := z0.b
  have hor := tO_r T p
  refine g_aload_n dX6_isKindWord_0 rfl ?_
  refine x_g45_0 (n := 111) (⟨by decide, rfl⟩ : kx 110 45) ffX6_12 dX6_isKindWord_1 rfl ?_
  refine g_vI (av := []) (o := 111) (st := []) (f_X7_isName G P T p  hB (z0) _ (fun rc1 hc1 gc1_f => ⟨rc1, rfl, ?_⟩)) cf_X7_isName t_736 rfl (show kx 111 46 from (⟨by decide, rfl⟩ : kx 111 46)).1 ((show kx 111 46 from (⟨by decide, rfl⟩ : kx 111 46)).sh rfl) rfl rfl (Nat.le_of_ble_eq_true rfl) (by decide) rfl dX6_isKindWord_4
  refine g_if_ne (tgt := 22) dX6_isKindWord_7 (by decide) ⟨by (clear hb hor gc1_f; omega), by (clear hb hor gc1_f; omega)⟩ (fun k2 => ?_) (fun k2 => ?_)
  · have k2n : 1 ≤ rc1 := by (clear hb hor gc1_f; omega)
    clear k2
    have r_gc1_f := (gc1_f.resolve_right (by (clear hb hor gc1_f; omega)))
    refine g_iconst dX6_isKindWord_22 ?_
    refine g_goto (tgt := 27) dX6_isKindWord_23 (by decide) ?_
    exact g_retZ dX6_isKindWord_27 rfl (by decide) (hQ 1 (by decide) (by (clear hb hor gc1_f; omega)))
  · skip
    refine g_aload_n dX6_isKindWord_10 rfl ?_
    refine x_g45_0 (n := 111) (⟨by decide, rfl⟩ : kx 110 45) ffX6_12 dX6_isKindWord_11 rfl ?_
    refine x_g46_8 (z := (P 111 8)) (⟨by decide, rfl⟩ : kx 111 46) ffX6_43 dX6_isKindWord_14 rfl ?_
    refine g_bipush dX6_isKindWord_17 (by decide) ?_
    have f3 := bx_46_8 (o := 111) hB (⟨by decide, rfl⟩ : kx 111 46)
    refine g_icmp_ne (tgt := 26) dX6_isKindWord_19 (by decide) ⟨by have q0 := bx_46_8 (o := 111) hB (⟨by decide, rfl⟩ : kx 111 46); (clear hb hor gc1_f k2; omega), by have q0 := bx_46_8 (o := 111) hB (⟨by decide, rfl⟩ : kx 111 46); (clear hb hor gc1_f k2; omega)⟩ (by decide) (fun k4 => ?_) (fun k4 => ?_)
    · skip
      refine g_iconst dX6_isKindWord_26 ?_
      exact g_retZ dX6_isKindWord_27 rfl (by decide) (hQ 0 (by decide) (by (omega)))
    · skip
      refine g_iconst dX6_isKindWord_22 ?_
      refine g_goto (tgt := 27) dX6_isKindWord_23 (by decide) ?_
      exact g_retZ dX6_isKindWord_27 rfl (by decide) (hQ 1 (by decide) (by (omega)))
/-! What the class answers: X6_kindHere. -/
set_option maxRecDepth 100000 in
set_option maxHeartbeats 4000000 in
theorem f_X6_kindHere (G : GT) (P : PH) (T : TT) (K : PH) (p : Int) (o : Nat) (k_o : kx o 28) (hB : BdX P) (p_kw : tK T p = 1 ∧ (tO T p = -1 ∨ tO T p = 7)) (z0 : XS T p P) (z1 : XK K (crX o 0) P) (z2 : RT o P) (Q : Option PV → PH → Prop) (hQ : ∀ (r : Int) (_ : (-1) ≤ r ∧ r ≤ 3) (_ : r = kHe T K p), Q (some (vI r)) P) : Ct WSX G 2 iX6_kindHere [vR 110] P Q := by
  refine Ct.of (by decide) (l0 := [(0, vR 110)]) rfl (Nat.le_of_ble_eq_true rfl) ?_
  have hb := z0.b
  have hks := kHe_s T K p
  have hv := (z0.tok (by (clear hb hks; omega))).2
  refine g_aload_n dX6_kindHere_0 rfl ?_
  refine x_g45_0 (n := 111) (⟨by decide, rfl⟩ : kx 110 45) ffX6_12 dX6_kindHere_1 rfl ?_
  refine x_g46_8 (z := (P 111 8)) (⟨by decide, rfl⟩ : kx 111 46) ffX6_43 dX6_kindHere_4 rfl ?_
  refine g_bipush dX6_kindHere_7 (by decide) ?_
  have f1 := bx_46_8 (o := 111) hB (⟨by decide, rfl⟩ : kx 111 46)
  refine g_icmp_ne (tgt := 16) dX6_kindHere_9 (by decide) ⟨by have q0 := bx_46_8 (o := 111) hB (⟨by decide, rfl⟩ : kx 111 46); (clear p_kw hb hks; omega), by have q0 := bx_46_8 (o := 111) hB (⟨by decide, rfl⟩ : kx 111 46); (clear p_kw hb hks; omega)⟩ (by decide) (fun k2 => ?_) (fun k2 => ?_)
  · skip
    refine g_aload_n dX6_kindHere_16 rfl ?_
    refine x_g45_2 (n := o) (⟨by decide, rfl⟩ : kx 110 45) ffX6_27 dX6_kindHere_17 z2 ?_
    refine x_g28_0 (n := (crX o 0)) k_o ffX6_108 dX6_kindHere_20 rfl ?_
    refine g_aload_n dX6_kindHere_23 rfl ?_
    refine x_g45_0 (n := 111) (⟨by decide, rfl⟩ : kx 110 45) ffX6_12 dX6_kindHere_24 rfl ?_
    refine x_g46_7 (z := (P 111 7)) (⟨by decide, rfl⟩ : kx 111 46) ffX6_95 dX6_kindHere_27 rfl ?_
    have f3 := bx_46_7 (o := 111) hB (⟨by decide, rfl⟩ : kx 111 46)
    refine g_vI (av := [vI (P 111 7)]) (o := (crX o 0)) (st := []) (f_X3_kindNamed G P K (crX o 0) (P 111 7) (ck_28_0 k_o) ⟨by have q0 := bx_46_7 (o := 111) hB (⟨by decide, rfl⟩ : kx 111 46); (clear p_kw hb hks k2; omega), by have q0 := bx_46_7 (o := 111) hB (⟨by decide, rfl⟩ : kx 111 46); (clear p_kw hb hks k2; omega)⟩ hB (z1) _ (fun rc4 hc4 gc4_fx => ⟨rc4, rfl, ?_⟩)) cf_X3_kindNamed t_740 rfl (show kx (crX o 0) 29 from (ck_28_0 k_o)).1 ((show kx (crX o 0) 29 from (ck_28_0 k_o)).sh rfl) rfl rfl (Nat.le_of_ble_eq_true rfl) (by decide) rfl dX6_kindHere_30
    have hkn : rc4 = kNm K (tV T p) := by rw [← hv]; exact gc4_fx
    exact g_retI dX6_kindHere_33 rfl (hQ rc4 ⟨by (clear p_kw hb hks k2; omega), by (clear p_kw hb hks k2; omega)⟩ (by (omega)))
  · skip
    refine g_iconst dX6_kindHere_12 ?_
    refine g_goto (tgt := 33) dX6_kindHere_13 (by decide) ?_
    exact g_retI dX6_kindHere_33 rfl (hQ (-1) (by decide) (by (omega)))
/-! What the class answers: X6_isKindHere. -/
set_option maxRecDepth 100000 in
set_option maxHeartbeats 4000000 in
theorem f_X6_isKindHere (G : GT) (P : PH) (T : TT) (K : PH) (p : Int) (o : Nat) (k_o : kx o 28) (a1 : Int) (h_a1 : (-2147483648) ≤ a1 ∧ a1 ≤ 2147483647) (hB : BdX P) (p_aw : AW K) (p_kw : tK T p = 1 ∧ (tO T p = -1 ∨ tO T p = 7)) (z0 : XS T p P) (z1 : XK K (crX o 0) P) (z2 : RT o P) (Q : Option PV → PH → Prop) (hQ : ∀ (r : Int) (_ : 0 ≤ r ∧ r ≤ 1) (_ : (r = 1 ∧ (tO T p = 7 ∨ (kHe T K p ≠ -1 ∧ kHe T K p ≠ a1 ∧ 1 ≤ K 3 (kHe T K p)))) ∨ (r = 0 ∧ tO T p = -1 ∧ (kHe T K p = -1 ∨ kHe T K p = a1 ∨ K 3 (kHe T K p) ≤ 0))), Q (some (vI r)) P) : Ct WSX G 3 iX6_isKindHere [vR 110, vI a1] P Q := by
  refine Ct.of (by decide) (l0 := [(0, vR 110), (1, vI a1)]) rfl (Nat.le_of_ble_eq_true rfl) ?_
  have hb := z0.b
  have hkb := kHe_b (T := T) p_aw p
  refine g_aload_n dX6_isKindHere_0 rfl ?_
  refine x_g45_0 (n := 111) (⟨by decide, rfl⟩ : kx 110 45) ffX6_12 dX6_isKindHere_1 rfl ?_
  refine x_g46_8 (z := (P 111 8)) (⟨by decide, rfl⟩ : kx 111 46) ffX6_43 dX6_isKindHere_4 rfl ?_
  refine g_bipush dX6_isKindHere_7 (by decide) ?_
  have f1 := bx_46_8 (o := 111) hB (⟨by decide, rfl⟩ : kx 111 46)
  refine g_icmp_ne (tgt := 14) dX6_isKindHere_9 (by decide) ⟨by have q0 := bx_46_8 (o := 111) hB (⟨by decide, rfl⟩ : kx 111 46); (clear p_kw hb; omega), by have q0 := bx_46_8 (o := 111) hB (⟨by decide, rfl⟩ : kx 111 46); (clear p_kw hb; omega)⟩ (by decide) (fun k2 => ?_) (fun k2 => ?_)
  · refine g_aload_n dX6_isKindHere_14 rfl ?_
    refine g_vI (av := []) (o := 110) (st := []) (f_X6_kindHere G P T K p o k_o  hB (by (clear hb k2; omega)) (z0) (z1) (z2) _ (fun rc3 hc3 gc3_k => ⟨rc3, rfl, ?_⟩)) cf_X6_kindHere t_772 rfl (show kx 110 45 from (⟨by decide, rfl⟩ : kx 110 45)).1 ((show kx 110 45 from (⟨by decide, rfl⟩ : kx 110 45)).sh rfl) rfl rfl (Nat.le_of_ble_eq_true rfl) (by decide) rfl dX6_isKindHere_15
    refine g_istore_n (l1 := [(2, vI rc3), (0, vR 110), (1, vI a1)]) dX6_isKindHere_18 (by decide) rfl ?_
    refine g_iload_n dX6_isKindHere_19 rfl ?_
    refine g_iconst dX6_isKindHere_20 ?_
    refine g_icmp_eq (tgt := 47) dX6_isKindHere_21 (by decide) ⟨by (clear p_kw hb k2; omega), by (clear p_kw hb k2; omega)⟩ (by decide) (fun k4 => ?_) (fun k4 => ?_)
    · refine g_iconst dX6_isKindHere_47 ?_
      exact g_retZ dX6_isKindHere_48 rfl (by decide) (hQ 0 (by decide) (by (omega)))
    · have k4n : 0 ≤ rc3 := by (clear p_kw hb k2; omega)
      clear k4
      refine g_iload_n dX6_isKindHere_24 rfl ?_
      refine g_iload_n dX6_isKindHere_25 rfl ?_
      refine g_icmp_eq (tgt := 47) dX6_isKindHere_26 (by decide) ⟨by (clear p_kw hb k2; omega), by (clear p_kw hb k2; omega)⟩ ⟨by (clear p_kw hb k2; omega), by (clear p_kw hb k2; omega)⟩ (fun k5 => ?_) (fun k5 => ?_)
      · refine g_iconst dX6_isKindHere_47 ?_
        exact g_retZ dX6_isKindHere_48 rfl (by decide) (hQ 0 (by decide) (by (omega)))
      · refine g_aload_n dX6_isKindHere_29 rfl ?_
        refine x_g45_2 (n := o) (⟨by decide, rfl⟩ : kx 110 45) ffX6_27 dX6_isKindHere_30 z2 ?_
        refine x_g28_0 (n := (crX o 0)) k_o ffX6_108 dX6_isKindHere_33 rfl ?_
        refine g_iload_n dX6_isKindHere_36 rfl ?_
        refine g_vI (av := [vI rc3]) (o := (crX o 0)) (st := []) (f_X3_consOf G P K (crX o 0) rc3 (ck_28_0 k_o) ⟨by (clear p_kw hb k2 k5; omega), by (clear p_kw hb k2 k5; omega)⟩ hB (z1) _ (fun rc6 hc6 gc6_c => ⟨rc6, rfl, ?_⟩)) cf_X3_consOf t_756 rfl (show kx (crX o 0) 29 from (ck_28_0 k_o)).1 ((show kx (crX o 0) 29 from (ck_28_0 k_o)).sh rfl) rfl rfl (Nat.le_of_ble_eq_true rfl) (by decide) rfl dX6_isKindHere_37
        have hc9 := gc6_c
        rw [show rc3 = kHe T K p by (clear p_kw hb k2 k5 gc6_c hc9; omega)] at hc9
        clear gc6_c
        refine g_if_le (tgt := 47) dX6_isKindHere_40 (by decide) ⟨by (clear p_kw hb k2 k5 hc9; omega), by (clear p_kw hb k2 k5 hc9; omega)⟩ (fun k7 => ?_) (fun k7 => ?_)
        · have r_hc9 := (hc9.resolve_right (by (clear p_kw hb k2 k5 hc9 k7; omega)))
          refine g_iconst dX6_isKindHere_47 ?_
          exact g_retZ dX6_isKindHere_48 rfl (by decide) (hQ 0 (by decide) (by (omega)))
        · have r_hc9 := (hc9.resolve_right (by (clear p_kw hb k2 k5 hc9 k7; omega)))
          refine g_iconst dX6_isKindHere_43 ?_
          refine g_goto (tgt := 48) dX6_isKindHere_44 (by decide) ?_
          exact g_retZ dX6_isKindHere_48 rfl (by decide) (hQ 1 (by decide) (by (clear hb p_kw; omega)))
  · refine g_iconst dX6_isKindHere_12 ?_
    exact g_retZ dX6_isKindHere_13 rfl (by decide) (hQ 1 (by decide) (by (clear p_kw; omega)))
end
end
