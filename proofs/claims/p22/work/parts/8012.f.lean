/-! What the reference answers: X12_see. -/
set_option maxRecDepth 100000 in
set_option maxHeartbeats 4000000 in
theorem f_X12_see (G : GT) (P : PH) (T : TT) (A : PH) (M : PH) (hB : BdM P) (z0 : CM T P) (z1 : AM A P) (z2 : MH M P) (z3 : MR M P) (Q : Option PV → PH → Prop) (hQ : ∀ (r : Int) (_ : (-2147483648) ≤ r ∧ r ≤ 2147483647) (P1 : PH) (_ : BdM P1) (_ : FrM ([1, 92], [28, 59, 60]) P P1) (_ : P1 0 1 = 0) (_ : (r = -1 ∧ ¬ seOk T M A) ∨ (r = T.2 / 3 ∧ seOk T M A)) (_ : AM (aSee T M A) P1), Q (some (vI r)) P1) : Ct WSM G 2 iX12_see [vR 0] P Q := by
  refine Ct.of (by decide) (l0 := [(0, vR 0)]) rfl (Nat.le_of_ble_eq_true rfl) ?_
  have hb := z1.b
  have ht := z0.1
  have hTv := z0.2
  have hmh := z2
  unfold MH at hmh
  have hmr := z3
  unfold MR at hmr
  have q44 := b0_44 hB
  have q1t := b0_1 hB
  refine g_aload_n dX12_see_0 rfl ?_
  refine m_g1 (z := (P 0 1)) rfl dX12_see_1 rfl ?_
  refine g_istore_n (l1 := [(1, vI (P 0 1)), (0, vR 0)]) dX12_see_4 (by decide) rfl ?_
  refine g_aload_n dX12_see_5 rfl ?_
  refine g_iconst dX12_see_6 ?_
  refine m_p1 rfl dX12_see_7 ?_
  have hB1 := bs_1 (z := 0) hB (by decide)
  refine g_aload_n dX12_see_10 rfl ?_
  refine m_g44 (z := (P 0 44)) rfl dX12_see_11 ((up_k (by decide)).trans rfl) ?_
  have f2 := b0_44 hB
  have J38_920 : ∀ (y38_0_920 : Int) (h_y38_0_920 : 0 ≤ y38_0_920 ∧ y38_0_920 ≤ 1) (i38_0_920 : (y38_0_920 = 1 ∧ 0 < M 0 0 ∧ 0 < T.2 ∧ T.2 % 3 = 0 ∧ T.2 ≤ 48) ∨ (y38_0_920 = 0 ∧ (M 0 0 ≤ 0 ∨ T.2 ≤ 0 ∨ T.2 % 3 ≠ 0 ∨ 48 < T.2))), Go WSM G 2 iX12_see 38 [(0, vR 0), (1, vI (P 0 1))] [vI y38_0_920] (up P 0 1 0) Q := by
    intro y38_0_920 h_y38_0_920 i38_0_920
    have hs0 : SEI T M A 0 y38_0_920 := SEI.st i38_0_920
    refine g_istore_n (l1 := [(2, vI y38_0_920), (0, vR 0), (1, vI (P 0 1))]) dX12_see_38 (by decide) rfl ?_
    refine g_iconst dX12_see_39 ?_
    refine g_istore_n (l1 := [(3, vI 0), (2, vI y38_0_920), (0, vR 0), (1, vI (P 0 1))]) dX12_see_40 (by decide) rfl ?_
    have L41_921 : ∀ (n41_921 : Nat) (x41_3_921 : Int) (h_x41_3_921 : 0 ≤ x41_3_921 ∧ x41_3_921 ≤ 1603) (x41_2_921 : Int) (h_x41_2_921 : 0 ≤ x41_2_921 ∧ x41_2_921 ≤ 1) (i41_0_921 : x41_2_921 = 0 ∨ (P 0 1) ≤ 48) (i41_1_921 : SEI T M A x41_3_921 x41_2_921) (i41_2_921 : x41_3_921 % 3 = 0) (hm41_921 : (1604 - x41_3_921 : Int).toNat < n41_921), Go WSM G 2 iX12_see 41 [(0, vR 0), (1, vI (P 0 1)), (2, vI x41_2_921), (3, vI x41_3_921)] [] (up P 0 1 0) Q := by
      intro n41_921
      induction n41_921 with
      | zero => intro x41_3_921 h_x41_3_921 x41_2_921 h_x41_2_921 i41_0_921 i41_1_921 i41_2_921 hm41_921; exact absurd hm41_921 (Nat.not_lt_zero _)
      | succ n41_921 ih41_921 =>
      intro x41_3_921 h_x41_3_921 x41_2_921 h_x41_2_921 i41_0_921 i41_1_921 i41_2_921 hm41_921
      refine g_iload_n dX12_see_41 rfl ?_
      refine g_iload_n dX12_see_42 rfl ?_
      have f1615 := b0_1 hB
      refine g_icmp_ge (tgt := 118) dX12_see_43 (by decide) ⟨by (clear hmh hmr i38_0_920 i41_0_921; omega), by (clear hmh hmr i38_0_920 i41_0_921; omega)⟩ ⟨by have q0 := b0_1 hB; (clear hmh hmr i38_0_920 i41_0_921; omega), by have q0 := b0_1 hB; (clear hmh hmr i38_0_920 i41_0_921; omega)⟩ (fun k1616 => ?_) (fun k1616 => ?_)
      · skip
        skip
        refine g_iload_n dX12_see_118 rfl ?_
        refine g_if_ne (tgt := 128) dX12_see_119 (by decide) ⟨by (clear hmh hmr i38_0_920 i41_0_921; omega), by (clear hmh hmr i38_0_920 i41_0_921; omega)⟩ (fun k1617 => ?_) (fun k1617 => ?_)
        · have k1617n : 1 ≤ x41_2_921 := by (clear hmh hmr i38_0_920 i41_0_921; omega)
          clear k1617
          have r_i41_0_921 := (i41_0_921.resolve_left (by (clear hmh hmr i38_0_920 i41_0_921; omega)))
          skip
          refine g_aload_n dX12_see_128 rfl ?_
          have hse := ((i41_1_921).on (by (clear hmh hmr i38_0_920 i41_0_921; omega))).end (by (clear hmh hmr i38_0_920 i41_0_921; omega))
          refine g_iload_n dX12_see_129 rfl ?_
          refine g_iconst dX12_see_130 ?_
          refine g_idiv dX12_see_131 ⟨(by decide), by decide⟩ ?_
          refine g_nm (fun b1618 e_b1618 => ?_)
          have h_b1618 := idiv_p (x := (P 0 1)) (y := 3) ⟨by have q0 := b0_1 hB; (clear hmh hmr i38_0_920 i41_0_921; omega), by have q0 := b0_1 hB; (clear hmh hmr i38_0_920 i41_0_921; omega)⟩ ⟨by (clear hmh hmr i38_0_920 i41_0_921; omega), by (clear hmh hmr i38_0_920 i41_0_921; omega)⟩
          rw [← e_b1618] at h_b1618
          have f_b1618_0 := b0_1 hB
          refine m_p92 rfl dX12_see_132 ?_
          have hB1619 := bs_92 (z := b1618) hB1 ⟨by (clear hmh hmr i38_0_920 i41_0_921; omega), by (clear hmh hmr i38_0_920 i41_0_921; omega)⟩
          refine g_iconst dX12_see_135 ?_
          refine g_istore_n (l1 := [(3, vI 0), (0, vR 0), (1, vI (P 0 1)), (2, vI x41_2_921)]) dX12_see_136 (by decide) rfl ?_
          have L137_1619 : ∀ (n137_1619 : Nat) (x137_3_1619 : Int) (h_x137_3_1619 : 0 ≤ x137_3_1619 ∧ x137_3_1619 ≤ 533) (H137_1619 : PH) (hB137_1619 : BdM H137_1619) (hE137_1619 : FrM ([], [59, 60]) (up (up P 0 1 0) 0 92 b1618) H137_1619) (hm137_1619 : ((534 - x137_3_1619) : Int).toNat < n137_1619), Go WSM G 2 iX12_see 137 [(0, vR 0), (3, vI x137_3_1619)] [] H137_1619 Q := by
            intro n137_1619
            induction n137_1619 with
            | zero => intro x137_3_1619 h_x137_3_1619 H137_1619 hB137_1619 hE137_1619 hm137_1619; exact absurd hm137_1619 (Nat.not_lt_zero _)
            | succ n137_1619 ih137_1619 =>
            intro x137_3_1619 h_x137_3_1619 H137_1619 hB137_1619 hE137_1619 hm137_1619
            refine g_iload_n dX12_see_137 rfl ?_
            refine g_aload_n dX12_see_138 rfl ?_
            refine m_g92 (z := b1618) rfl dX12_see_139 ((hE137_1619.1 92 rfl).trans up_same) ?_
            refine g_icmp_ge (tgt := 215) dX12_see_142 (by decide) ⟨by (clear hmh hmr i38_0_920 i41_0_921; omega), by (clear hmh hmr i38_0_920 i41_0_921; omega)⟩ ⟨by (clear hmh hmr i38_0_920 i41_0_921; omega), by (clear hmh hmr i38_0_920 i41_0_921; omega)⟩ (fun k1797 => ?_) (fun k1797 => ?_)
            · skip
              skip
              refine g_aload_n dX12_see_215 rfl ?_
              refine m_g92 (z := b1618) rfl dX12_see_216 ((hE137_1619.1 92 rfl).trans up_same) ?_
              exact g_retI dX12_see_219 rfl (hQ b1618 ⟨by (clear hmh hmr i38_0_920 i41_0_921; omega), by (clear hmh hmr i38_0_920 i41_0_921; omega)⟩ _ hB137_1619 (FrM.c (FrM.s (FrM.s FrM.rf rfl) rfl) hE137_1619 rfl) (by have q0 := (((hE137_1619.1 1 rfl).trans ((up_k (by decide)).trans up_same)) : H137_1619 0 1 = 0); (clear hmh hmr i38_0_920 i41_0_921; omega)) (Or.inr ⟨by have q := (((hE137_1619.1 92 rfl).trans up_same) : H137_1619 0 92 = b1618); (clear hmh hmr i38_0_920 i41_0_921; omega), hse⟩) (by rw [aSee_y hse]; exact z1.se (F := ([1, 92], [59, 60])) (by have q := (((hE137_1619.1 92 rfl).trans up_same) : H137_1619 0 92 = b1618); (clear hmh hmr i38_0_920 i41_0_921; omega)) (FrM.c (FrM.s (FrM.s FrM.rf rfl) rfl) hE137_1619 rfl) rfl))
            · skip
              skip
              refine g_aload_n dX12_see_145 rfl ?_
              refine m_g93 rfl dX12_see_146 ?_
              refine g_iload_n dX12_see_149 rfl ?_
              refine g_aload_n dX12_see_150 rfl ?_
              refine m_g0 rfl dX12_see_151 ?_
              refine g_iconst dX12_see_154 ?_
              refine g_iload_n dX12_see_155 rfl ?_
              refine g_imul dX12_see_156 ?_
              refine m_l1 (z := (P 1 (3 * x137_3_1619))) dX12_see_157 ⟨by (clear hmh hmr i38_0_920 i41_0_921; omega), by (clear hmh hmr i38_0_920 i41_0_921; omega)⟩ ((congrFun (hE137_1619.2 1 rfl rfl) _).trans ((up_o (by decide)).trans ((up_o (by decide)).trans rfl))) ?_
              refine g_bipush dX12_see_158 (by decide) ?_
              refine g_ishl dX12_see_160 ?_
              refine g_nm (fun b1798 e_b1798 => ?_)
              have h_b1798 : (ishl (P 1 (3 * x137_3_1619)) 8) = (P 1 (3 * x137_3_1619)) * 256 := ishl_c 8 (by decide) (x := (P 1 (3 * x137_3_1619))) (show IR ((P 1 (3 * x137_3_1619)) * 256) from ⟨by have q0 := bl_1 (k := (3 * x137_3_1619)) hB; (clear hmh hmr i38_0_920 i41_0_921; omega), by have q0 := bl_1 (k := (3 * x137_3_1619)) hB; (clear hmh hmr i38_0_920 i41_0_921; omega)⟩)
              rw [← e_b1798] at h_b1798
              have f_b1798_0 := bl_1 (k := (3 * x137_3_1619)) hB
              refine g_aload_n dX12_see_161 rfl ?_
              refine m_g0 rfl dX12_see_162 ?_
              refine g_iconst dX12_see_165 ?_
              refine g_iload_n dX12_see_166 rfl ?_
              refine g_imul dX12_see_167 ?_
              refine g_iconst dX12_see_168 ?_
              refine g_iadd dX12_see_169 ?_
              refine m_l1 (z := (P 1 ((3 * x137_3_1619) + 1))) dX12_see_170 ⟨by (clear hmh hmr i38_0_920 i41_0_921; omega), by (clear hmh hmr i38_0_920 i41_0_921; omega)⟩ ((congrFun (hE137_1619.2 1 rfl rfl) _).trans ((up_o (by decide)).trans ((up_o (by decide)).trans rfl))) ?_
              refine g_ior dX12_see_171 ?_
              refine g_nm (fun b1799 e_b1799 => ?_)
              have h_b1799 : 0 ≤ (ior b1798 (P 1 ((3 * x137_3_1619) + 1))) ∧ (ior b1798 (P 1 ((3 * x137_3_1619) + 1))) < 65536 := ior_b 16 (by decide) (x := b1798) (y := (P 1 ((3 * x137_3_1619) + 1))) (show 0 ≤ b1798 ∧ b1798 < 65536 from ⟨by (clear hmh hmr i38_0_920 i41_0_921; omega), by (clear hmh hmr i38_0_920 i41_0_921; omega)⟩) (show 0 ≤ (P 1 ((3 * x137_3_1619) + 1)) ∧ (P 1 ((3 * x137_3_1619) + 1)) < 65536 from ⟨by have q0 := bl_1 (k := ((3 * x137_3_1619) + 1)) hB; (clear hmh hmr i38_0_920 i41_0_921; omega), by have q0 := bl_1 (k := ((3 * x137_3_1619) + 1)) hB; (clear hmh hmr i38_0_920 i41_0_921; omega)⟩)
              rw [← e_b1799] at h_b1799
              refine m_s59 dX12_see_172 ⟨by (clear hmh hmr i38_0_920 i41_0_921; omega), by (clear hmh hmr i38_0_920 i41_0_921; omega)⟩ ?_
              have hB1800 := ba_59 (z := b1799) (k := x137_3_1619) hB137_1619 ⟨by (clear hmh hmr i38_0_920 i41_0_921; omega), by (clear hmh hmr i38_0_920 i41_0_921; omega)⟩
              refine g_aload_n dX12_see_173 rfl ?_
              refine m_g94 rfl dX12_see_174 ?_
              refine g_iload_n dX12_see_177 rfl ?_
              refine g_aload_n dX12_see_178 rfl ?_
              refine m_g0 rfl dX12_see_179 ?_
              refine g_iconst dX12_see_182 ?_
              refine g_iload_n dX12_see_183 rfl ?_
              refine g_imul dX12_see_184 ?_
              refine g_iconst dX12_see_185 ?_
              refine g_iadd dX12_see_186 ?_
              refine m_l1 (z := (P 1 ((3 * x137_3_1619) + 2))) dX12_see_187 ⟨by (clear hmh hmr i38_0_920 i41_0_921; omega), by (clear hmh hmr i38_0_920 i41_0_921; omega)⟩ ((up_o (by decide)).trans ((congrFun (hE137_1619.2 1 rfl rfl) _).trans ((up_o (by decide)).trans ((up_o (by decide)).trans rfl)))) ?_
              refine g_sipush dX12_see_188 (by decide) ?_
              have f1801 := bl_1 (k := ((3 * x137_3_1619) + 2)) hB
              refine g_icmp_ne (tgt := 198) dX12_see_191 (by decide) ⟨by have q0 := bl_1 (k := ((3 * x137_3_1619) + 2)) hB; (clear hmh hmr i38_0_920 i41_0_921; omega), by have q0 := bl_1 (k := ((3 * x137_3_1619) + 2)) hB; (clear hmh hmr i38_0_920 i41_0_921; omega)⟩ (by decide) (fun k1802 => ?_) (fun k1802 => ?_)
              · have k1802n : (P 1 ((3 * x137_3_1619) + 2)) ≤ 254 := by have q0 := bl_1 (k := ((3 * x137_3_1619) + 2)) hB; (clear hmh hmr i38_0_920 i41_0_921; omega)
                clear k1802
                skip
                skip
                refine g_aload_n dX12_see_198 rfl ?_
                refine m_g0 rfl dX12_see_199 ?_
                refine g_iconst dX12_see_202 ?_
                refine g_iload_n dX12_see_203 rfl ?_
                refine g_imul dX12_see_204 ?_
                refine g_iconst dX12_see_205 ?_
                refine g_iadd dX12_see_206 ?_
                refine m_l1 (z := (P 1 ((3 * x137_3_1619) + 2))) dX12_see_207 ⟨by (clear hmh hmr i38_0_920 i41_0_921; omega), by (clear hmh hmr i38_0_920 i41_0_921; omega)⟩ ((up_o (by decide)).trans ((congrFun (hE137_1619.2 1 rfl rfl) _).trans ((up_o (by decide)).trans ((up_o (by decide)).trans rfl)))) ?_
                refine m_s60 dX12_see_208 ⟨by (clear hmh hmr i38_0_920 i41_0_921; omega), by (clear hmh hmr i38_0_920 i41_0_921; omega)⟩ ?_
                have hB1803 := ba_60 (z := (P 1 ((3 * x137_3_1619) + 2))) (k := x137_3_1619) hB1800 ⟨by have q0 := bl_1 (k := ((3 * x137_3_1619) + 2)) hB; (clear hmh hmr i38_0_920 i41_0_921; omega), by have q0 := bl_1 (k := ((3 * x137_3_1619) + 2)) hB; (clear hmh hmr i38_0_920 i41_0_921; omega)⟩
                refine g_iinc (l1 := [(3, vI (x137_3_1619 + 1)), (0, vR 0)]) dX12_see_209 rfl (by decide) rfl ?_
                refine g_goto (tgt := 137) dX12_see_212 (by decide) ?_
                refine g_forget (l1 := [(0, vR 0), (3, vI (x137_3_1619 + 1))]) (by intro q hq; simp only [List.mem_cons, List.not_mem_nil, or_false] at hq ⊢; rcases hq with rfl | rfl <;> simp) ?_
                exact ih137_1619 (x137_3_1619 + 1) ⟨by (clear hmh hmr i38_0_920 i41_0_921; omega), by (clear hmh hmr i38_0_920 i41_0_921; omega)⟩ _ hB1803 (FrM.a (FrM.a (FrM.c FrM.rf hE137_1619 rfl) rfl rfl) rfl rfl) (by (clear hmh hmr i38_0_920 i41_0_921; omega))
              · skip
                skip
                refine g_iconst dX12_see_194 ?_
                refine g_goto (tgt := 208) dX12_see_195 (by decide) ?_
                refine m_s60 dX12_see_208 ⟨by (clear hmh hmr i38_0_920 i41_0_921; omega), by (clear hmh hmr i38_0_920 i41_0_921; omega)⟩ ?_
                have hB1804 := ba_60 (z := (-1)) (k := x137_3_1619) hB1800 (by decide)
                refine g_iinc (l1 := [(3, vI (x137_3_1619 + 1)), (0, vR 0)]) dX12_see_209 rfl (by decide) rfl ?_
                refine g_goto (tgt := 137) dX12_see_212 (by decide) ?_
                refine g_forget (l1 := [(0, vR 0), (3, vI (x137_3_1619 + 1))]) (by intro q hq; simp only [List.mem_cons, List.not_mem_nil, or_false] at hq ⊢; rcases hq with rfl | rfl <;> simp) ?_
                exact ih137_1619 (x137_3_1619 + 1) ⟨by (clear hmh hmr i38_0_920 i41_0_921; omega), by (clear hmh hmr i38_0_920 i41_0_921; omega)⟩ _ hB1804 (FrM.a (FrM.a (FrM.c FrM.rf hE137_1619 rfl) rfl rfl) rfl rfl) (by (clear hmh hmr i38_0_920 i41_0_921; omega))
          refine g_forget (l1 := [(0, vR 0), (3, vI 0)]) (by intro q hq; simp only [List.mem_cons, List.not_mem_nil, or_false] at hq ⊢; rcases hq with rfl | rfl <;> simp) ?_
          exact L137_1619 _ 0 (by decide) _ hB1619 FrM.rf (Nat.lt_succ_self _)
        · skip
          skip
          refine g_aload_n dX12_see_122 rfl ?_
          have hno := (i41_1_921).off (by (clear hmh hmr i38_0_920 i41_0_921; omega))
          refine g_iconst dX12_see_123 ?_
          refine g_vI (av := [vI 5]) (o := 0) (st := []) (m_X12_refuses G (up P 0 1 0) 5 (by decide) hB1  _ (fun rc1805 hc1805 Pc1805 hBc1805 hFc1805 => ⟨rc1805, rfl, ?_⟩)) cf_X12_refuses t_1667 rfl (by decide) rfl rfl rfl (Nat.le_of_ble_eq_true rfl) (by decide) rfl dX12_see_124
          exact g_retI dX12_see_127 rfl (hQ rc1805 ⟨by (clear hmh hmr i38_0_920 i41_0_921; omega), by (clear hmh hmr i38_0_920 i41_0_921; omega)⟩ _ hBc1805 (FrM.c (FrM.s FrM.rf rfl) hFc1805 rfl) (by have q0 := (((hFc1805.1 1 rfl).trans up_same) : Pc1805 0 1 = 0); (clear hmh hmr i38_0_920 i41_0_921; omega)) (Or.inl ⟨by (clear hmh hmr i38_0_920 i41_0_921; omega), hno⟩) (by rw [aSee_n hno]; exact (AM.fr (F := ([1], [28])) z1 (FrM.c (FrM.s FrM.rf rfl) hFc1805 rfl) rfl)))
      · skip
        skip
        refine g_iload_n dX12_see_46 rfl ?_
        refine g_if_eq (tgt := 118) dX12_see_47 (by decide) ⟨by (clear hmh hmr i38_0_920 i41_0_921; omega), by (clear hmh hmr i38_0_920 i41_0_921; omega)⟩ (fun k1806 => ?_) (fun k1806 => ?_)
        · skip
          skip
          refine g_iload_n dX12_see_118 rfl ?_
          refine g_if_ne (tgt := 128) dX12_see_119 (by decide) ⟨by (clear hmh hmr i38_0_920 i41_0_921; omega), by (clear hmh hmr i38_0_920 i41_0_921; omega)⟩ (fun k1807 => by exfalso; (clear hmh hmr i38_0_920 i41_0_921; omega)) (fun k1807 => ?_)
          skip
          skip
          refine g_aload_n dX12_see_122 rfl ?_
          have hno := (i41_1_921).off (by (clear hmh hmr i38_0_920 i41_0_921; omega))
          refine g_iconst dX12_see_123 ?_
          refine g_vI (av := [vI 5]) (o := 0) (st := []) (m_X12_refuses G (up P 0 1 0) 5 (by decide) hB1  _ (fun rc1808 hc1808 Pc1808 hBc1808 hFc1808 => ⟨rc1808, rfl, ?_⟩)) cf_X12_refuses t_1667 rfl (by decide) rfl rfl rfl (Nat.le_of_ble_eq_true rfl) (by decide) rfl dX12_see_124
          exact g_retI dX12_see_127 rfl (hQ rc1808 ⟨by (clear hmh hmr i38_0_920 i41_0_921; omega), by (clear hmh hmr i38_0_920 i41_0_921; omega)⟩ _ hBc1808 (FrM.c (FrM.s FrM.rf rfl) hFc1808 rfl) (by have q0 := (((hFc1808.1 1 rfl).trans up_same) : Pc1808 0 1 = 0); (clear hmh hmr i38_0_920 i41_0_921; omega)) (Or.inl ⟨by (clear hmh hmr i38_0_920 i41_0_921; omega), hno⟩) (by rw [aSee_n hno]; exact (AM.fr (F := ([1], [28])) z1 (FrM.c (FrM.s FrM.rf rfl) hFc1808 rfl) rfl)))
        · have k1806n : 1 ≤ x41_2_921 := by (clear hmh hmr i38_0_920 i41_0_921; omega)
          clear k1806
          have r_i41_0_921 := (i41_0_921.resolve_left (by (clear hmh hmr i38_0_920 i41_0_921; omega)))
          skip
          refine g_aload_n dX12_see_50 rfl ?_
          have hse1 := (i41_1_921).on (by (clear hmh hmr i38_0_920 i41_0_921; omega))
          have hsh := hse1.hd
          unfold sHd at hsh
          have hmr9 : P 0 52 = M 0 1 := by (clear hmh i38_0_920 i41_0_921; omega)
          have e0 := hTv x41_3_921 (by (clear hmh hmr i38_0_920 i41_0_921; omega)) (by (clear hmh hmr i38_0_920 i41_0_921; omega))
          have e1 := hTv (x41_3_921 + 1) (by (clear hmh hmr i38_0_920 i41_0_921; omega)) (by (clear hmh hmr i38_0_920 i41_0_921; omega))
          have e2 := hTv (x41_3_921 + 2) (by (clear hmh hmr i38_0_920 i41_0_921; omega)) (by (clear hmh hmr i38_0_920 i41_0_921; omega))
          have qb0 := bl_1 (k := x41_3_921) hB
          have qb1 := bl_1 (k := x41_3_921 + 1) hB
          have hl39 : x41_3_921 < T.2 := by (clear hmh hmr i38_0_920 i41_0_921; omega)
          refine m_g0 rfl dX12_see_51 ?_
          refine g_iload_n dX12_see_54 rfl ?_
          refine m_l1 (z := (P 1 x41_3_921)) dX12_see_55 ⟨by (clear hmh hmr i38_0_920 i41_0_921; omega), by (clear hmh hmr i38_0_920 i41_0_921; omega)⟩ ((up_o (by decide)).trans rfl) ?_
          refine g_bipush dX12_see_56 (by decide) ?_
          refine g_ishl dX12_see_58 ?_
          refine g_nm (fun b1809 e_b1809 => ?_)
          have h_b1809 : (ishl (P 1 x41_3_921) 8) = (P 1 x41_3_921) * 256 := ishl_c 8 (by decide) (x := (P 1 x41_3_921)) (show IR ((P 1 x41_3_921) * 256) from ⟨by have q0 := bl_1 (k := x41_3_921) hB; (clear hmh hmr i38_0_920 i41_0_921; omega), by have q0 := bl_1 (k := x41_3_921) hB; (clear hmh hmr i38_0_920 i41_0_921; omega)⟩)
          rw [← e_b1809] at h_b1809
          have f_b1809_0 := bl_1 (k := x41_3_921) hB
          refine g_aload_n dX12_see_59 rfl ?_
          refine m_g0 rfl dX12_see_60 ?_
          refine g_iload_n dX12_see_63 rfl ?_
          refine g_iconst dX12_see_64 ?_
          refine g_iadd dX12_see_65 ?_
          refine m_l1 (z := (P 1 (x41_3_921 + 1))) dX12_see_66 ⟨by (clear hmh hmr i38_0_920 i41_0_921; omega), by (clear hmh hmr i38_0_920 i41_0_921; omega)⟩ ((up_o (by decide)).trans rfl) ?_
          refine g_ior dX12_see_67 ?_
          refine g_nm (fun b1810 e_b1810 => ?_)
          have h_b1810 : 0 ≤ (ior b1809 (P 1 (x41_3_921 + 1))) ∧ (ior b1809 (P 1 (x41_3_921 + 1))) < 65536 := ior_b 16 (by decide) (x := b1809) (y := (P 1 (x41_3_921 + 1))) (show 0 ≤ b1809 ∧ b1809 < 65536 from ⟨by (clear hmh hmr i38_0_920 i41_0_921; omega), by (clear hmh hmr i38_0_920 i41_0_921; omega)⟩) (show 0 ≤ (P 1 (x41_3_921 + 1)) ∧ (P 1 (x41_3_921 + 1)) < 65536 from ⟨by have q0 := bl_1 (k := (x41_3_921 + 1)) hB; (clear hmh hmr i38_0_920 i41_0_921; omega), by have q0 := bl_1 (k := (x41_3_921 + 1)) hB; (clear hmh hmr i38_0_920 i41_0_921; omega)⟩)
          rw [← e_b1810] at h_b1810
          have hz := ior_hl8 (x := P 1 (x41_3_921 + 1)) (y := P 1 x41_3_921) ⟨by (clear hmh hmr i38_0_920 i41_0_921; omega), by (clear hmh hmr i38_0_920 i41_0_921; omega)⟩ (by (clear hmh hmr i38_0_920 i41_0_921; omega)) (by (clear hmh hmr i38_0_920 i41_0_921; omega))
          have e9 : b1810 = 256 * T.1 x41_3_921 + T.1 (x41_3_921 + 1) := by rw [e_b1810, h_b1809, hz]; (clear hmh hmr i38_0_920 i41_0_921; omega)
          refine g_aload_n dX12_see_68 rfl ?_
          refine m_g52 (z := (P 0 52)) rfl dX12_see_69 ((up_k (by decide)).trans rfl) ?_
          have f1811 := b0_52 hB
          have J111_1821 : ∀ (y111_0_1821 : Int) (h_y111_0_1821 : 0 ≤ y111_0_1821 ∧ y111_0_1821 ≤ 1) (i111_0_1821 : (y111_0_1821 = 1 ∧ 256 * T.1 x41_3_921 + T.1 (x41_3_921 + 1) < M 0 1 ∧ (T.1 (x41_3_921 + 2) = 255 ∨ T.1 (x41_3_921 + 2) < A 0 0)) ∨ (y111_0_1821 = 0 ∧ (M 0 1 ≤ 256 * T.1 x41_3_921 + T.1 (x41_3_921 + 1) ∨ (T.1 (x41_3_921 + 2) ≠ 255 ∧ A 0 0 ≤ T.1 (x41_3_921 + 2))))), Go WSM G 2 iX12_see 111 [(0, vR 0), (1, vI (P 0 1)), (3, vI x41_3_921)] [vI y111_0_1821] (up P 0 1 0) Q := by
            intro y111_0_1821 h_y111_0_1821 i111_0_1821
            refine g_istore_n (l1 := [(2, vI y111_0_1821), (0, vR 0), (1, vI (P 0 1)), (3, vI x41_3_921)]) dX12_see_111 (by decide) rfl ?_
            have hsei9 := hse1.nx (by (clear hmh hmr i38_0_920 i41_0_921 i111_0_1821; omega)) (by (clear hmh hmr i38_0_920 i41_0_921 i111_0_1821; omega)) hl39 i111_0_1821
            refine g_iinc (l1 := [(3, vI (x41_3_921 + 3)), (2, vI y111_0_1821), (0, vR 0), (1, vI (P 0 1))]) dX12_see_112 rfl (by decide) rfl ?_
            refine g_goto (tgt := 41) dX12_see_115 (by decide) ?_
            refine g_forget (l1 := [(0, vR 0), (1, vI (P 0 1)), (2, vI y111_0_1821), (3, vI (x41_3_921 + 3))]) (by intro q hq; simp only [List.mem_cons, List.not_mem_nil, or_false] at hq ⊢; rcases hq with rfl | rfl | rfl | rfl <;> simp) ?_
            exact ih41_921 (x41_3_921 + 3) ⟨by have q0 := b0_1 hB; (clear hmh hmr i38_0_920 i41_0_921 i111_0_1821; omega), by have q0 := b0_1 hB; (clear hmh hmr i38_0_920 i41_0_921 i111_0_1821; omega)⟩ y111_0_1821 ⟨by have q0 := b0_1 hB; (clear hmh hmr i38_0_920 i41_0_921 i111_0_1821; omega), by have q0 := b0_1 hB; (clear hmh hmr i38_0_920 i41_0_921 i111_0_1821; omega)⟩ (by (clear hmh hmr i38_0_920 i41_0_921 i111_0_1821; omega)) (by first | exact hsei9 | exact hs0) (by (clear hmh hmr i38_0_920 i41_0_921 i111_0_1821; omega)) (by (clear hmh hmr i38_0_920 i41_0_921 i111_0_1821; omega))
          have J110_1822 : ∀ (i110_0_1822 : M 0 1 ≤ 256 * T.1 x41_3_921 + T.1 (x41_3_921 + 1) ∨ (T.1 (x41_3_921 + 2) ≠ 255 ∧ A 0 0 ≤ T.1 (x41_3_921 + 2))), Go WSM G 2 iX12_see 110 [(0, vR 0), (1, vI (P 0 1)), (3, vI x41_3_921)] [] (up P 0 1 0) Q := by
            intro i110_0_1822
            refine g_iconst dX12_see_110 ?_
            refine g_forget (l1 := [(0, vR 0), (1, vI (P 0 1)), (3, vI x41_3_921)]) (by intro q hq; simp only [List.mem_cons, List.not_mem_nil, or_false] at hq ⊢; rcases hq with rfl | rfl | rfl <;> simp) ?_
            exact J111_1821 0 (by decide) (by (clear hmh hmr i38_0_920 i41_0_921; omega))
          refine g_icmp_ge (tgt := 110) dX12_see_72 (by decide) ⟨by (clear hmh hmr i38_0_920 i41_0_921; omega), by (clear hmh hmr i38_0_920 i41_0_921; omega)⟩ ⟨by have q0 := b0_52 hB; (clear hmh hmr i38_0_920 i41_0_921; omega), by have q0 := b0_52 hB; (clear hmh hmr i38_0_920 i41_0_921; omega)⟩ (fun k1824 => ?_) (fun k1824 => ?_)
          · skip
            have r_i38_0_920 := (i38_0_920.resolve_right (by (clear hmh hmr i38_0_920 i41_0_921; omega)))
            refine g_forget (l1 := [(0, vR 0), (1, vI (P 0 1)), (3, vI x41_3_921)]) (by intro q hq; simp only [List.mem_cons, List.not_mem_nil, or_false] at hq ⊢; rcases hq with rfl | rfl | rfl <;> simp) ?_
            exact J110_1822 (by (clear hmh hmr i38_0_920 i41_0_921; omega))
          · skip
            have r_i38_0_920 := (i38_0_920.resolve_right (by (clear hmh hmr i38_0_920 i41_0_921; omega)))
            refine g_aload_n dX12_see_75 rfl ?_
            refine m_g0 rfl dX12_see_76 ?_
            refine g_iload_n dX12_see_79 rfl ?_
            refine g_iconst dX12_see_80 ?_
            refine g_iadd dX12_see_81 ?_
            refine m_l1 (z := (P 1 (x41_3_921 + 2))) dX12_see_82 ⟨by (clear hmh hmr i38_0_920 i41_0_921; omega), by (clear hmh hmr i38_0_920 i41_0_921; omega)⟩ ((up_o (by decide)).trans rfl) ?_
            refine g_sipush dX12_see_83 (by decide) ?_
            have f1825 := bl_1 (k := (x41_3_921 + 2)) hB
            have J106_1828 : ∀ (i106_0_1828 : 256 * T.1 x41_3_921 + T.1 (x41_3_921 + 1) < M 0 1 ∧ (T.1 (x41_3_921 + 2) = 255 ∨ T.1 (x41_3_921 + 2) < A 0 0)), Go WSM G 2 iX12_see 106 [(0, vR 0), (1, vI (P 0 1)), (3, vI x41_3_921)] [] (up P 0 1 0) Q := by
              intro i106_0_1828
              refine g_iconst dX12_see_106 ?_
              refine g_goto (tgt := 111) dX12_see_107 (by decide) ?_
              refine g_forget (l1 := [(0, vR 0), (1, vI (P 0 1)), (3, vI x41_3_921)]) (by intro q hq; simp only [List.mem_cons, List.not_mem_nil, or_false] at hq ⊢; rcases hq with rfl | rfl | rfl <;> simp) ?_
              exact J111_1821 1 (by decide) (by (clear hmh hmr i38_0_920 i41_0_921; omega))
            refine g_icmp_eq (tgt := 106) dX12_see_86 (by decide) ⟨by have q0 := bl_1 (k := (x41_3_921 + 2)) hB; (clear hmh hmr i38_0_920 i41_0_921; omega), by have q0 := bl_1 (k := (x41_3_921 + 2)) hB; (clear hmh hmr i38_0_920 i41_0_921; omega)⟩ (by decide) (fun k1830 => ?_) (fun k1830 => ?_)
            · skip
              skip
              refine g_forget (l1 := [(0, vR 0), (1, vI (P 0 1)), (3, vI x41_3_921)]) (by intro q hq; simp only [List.mem_cons, List.not_mem_nil, or_false] at hq ⊢; rcases hq with rfl | rfl | rfl <;> simp) ?_
              exact J106_1828 (by (clear hmh hmr i38_0_920 i41_0_921; omega))
            · have k1830n : (P 1 (x41_3_921 + 2)) ≤ 254 := by have q0 := bl_1 (k := (x41_3_921 + 2)) hB; (clear hmh hmr i38_0_920 i41_0_921; omega)
              clear k1830
              skip
              skip
              refine g_aload_n dX12_see_89 rfl ?_
              refine m_g0 rfl dX12_see_90 ?_
              refine g_iload_n dX12_see_93 rfl ?_
              refine g_iconst dX12_see_94 ?_
              refine g_iadd dX12_see_95 ?_
              refine m_l1 (z := (P 1 (x41_3_921 + 2))) dX12_see_96 ⟨by (clear hmh hmr i38_0_920 i41_0_921; omega), by (clear hmh hmr i38_0_920 i41_0_921; omega)⟩ ((up_o (by decide)).trans rfl) ?_
              refine g_aload_n dX12_see_97 rfl ?_
              refine m_g53 rfl dX12_see_98 ?_
              refine g_iconst dX12_see_101 ?_
              refine m_l35 (z := (P 35 0)) dX12_see_102 (by decide) ((up_o (by decide)).trans rfl) ?_
              have f1831 := bl_35 (k := 0) hB
              refine g_icmp_ge (tgt := 110) dX12_see_103 (by decide) ⟨by have q0 := bl_1 (k := (x41_3_921 + 2)) hB; (clear hmh hmr i38_0_920 i41_0_921; omega), by have q0 := bl_1 (k := (x41_3_921 + 2)) hB; (clear hmh hmr i38_0_920 i41_0_921; omega)⟩ ⟨by have q0 := bl_35 (k := 0) hB; (clear hmh hmr i38_0_920 i41_0_921; omega), by have q0 := bl_35 (k := 0) hB; (clear hmh hmr i38_0_920 i41_0_921; omega)⟩ (fun k1832 => ?_) (fun k1832 => ?_)
              · skip
                skip
                refine g_forget (l1 := [(0, vR 0), (1, vI (P 0 1)), (3, vI x41_3_921)]) (by intro q hq; simp only [List.mem_cons, List.not_mem_nil, or_false] at hq ⊢; rcases hq with rfl | rfl | rfl <;> simp) ?_
                exact J110_1822 (by (clear hmh hmr i38_0_920 i41_0_921; omega))
              · skip
                skip
                refine g_forget (l1 := [(0, vR 0), (1, vI (P 0 1)), (3, vI x41_3_921)]) (by intro q hq; simp only [List.mem_cons, List.not_mem_nil, or_false] at hq ⊢; rcases hq with rfl | rfl | rfl <;> simp) ?_
                exact J106_1828 (by (clear hmh hmr i38_0_920 i41_0_921; omega))
    refine g_forget (l1 := [(0, vR 0), (1, vI (P 0 1)), (2, vI y38_0_920), (3, vI 0)]) (by intro q hq; simp only [List.mem_cons, List.not_mem_nil, or_false] at hq ⊢; rcases hq with rfl | rfl | rfl | rfl <;> simp) ?_
    exact L41_921 _ 0 (by decide) y38_0_920 ⟨by have q0 := b0_1 hB; (clear hmh hmr i38_0_920; omega), by have q0 := b0_1 hB; (clear hmh hmr i38_0_920; omega)⟩ (by (clear hmh hmr; omega)) (by first | exact hsei9 | exact hs0) (by (clear hmh hmr i38_0_920; omega)) (Nat.lt_succ_self _)
  have J37_1832 : ∀ (i37_0_1832 : M 0 0 ≤ 0 ∨ T.2 ≤ 0 ∨ T.2 % 3 ≠ 0 ∨ 48 < T.2), Go WSM G 2 iX12_see 37 [(0, vR 0), (1, vI (P 0 1))] [] (up P 0 1 0) Q := by
    intro i37_0_1832
    refine g_iconst dX12_see_37 ?_
    refine g_forget (l1 := [(0, vR 0), (1, vI (P 0 1))]) (by intro q hq; simp only [List.mem_cons, List.not_mem_nil, or_false] at hq ⊢; rcases hq with rfl | rfl <;> simp) ?_
    exact J38_920 0 (by decide) (by (clear hmh hmr; omega))
  refine g_if_eq (tgt := 37) dX12_see_14 (by decide) ⟨by have q0 := b0_44 hB; (clear hmh hmr; omega), by have q0 := b0_44 hB; (clear hmh hmr; omega)⟩ (fun k1834 => ?_) (fun k1834 => ?_)
  · refine g_forget (l1 := [(0, vR 0), (1, vI (P 0 1))]) (by intro q hq; simp only [List.mem_cons, List.not_mem_nil, or_false] at hq ⊢; rcases hq with rfl | rfl <;> simp) ?_
    exact J37_1832 (by (clear hmr; omega))
  · have k1834n : 1 ≤ (P 0 44) := by have q0 := b0_44 hB; (clear hmh hmr; omega)
    clear k1834
    refine g_iload_n dX12_see_17 rfl ?_
    have f1835 := b0_1 hB
    refine g_if_le (tgt := 37) dX12_see_18 (by decide) ⟨by have q0 := b0_1 hB; (clear hmh hmr; omega), by have q0 := b0_1 hB; (clear hmh hmr; omega)⟩ (fun k1836 => ?_) (fun k1836 => ?_)
    · refine g_forget (l1 := [(0, vR 0), (1, vI (P 0 1))]) (by intro q hq; simp only [List.mem_cons, List.not_mem_nil, or_false] at hq ⊢; rcases hq with rfl | rfl <;> simp) ?_
      exact J37_1832 (by (clear hmh hmr; omega))
    · refine g_iload_n dX12_see_21 rfl ?_
      refine g_iconst dX12_see_22 ?_
      refine g_irem dX12_see_23 ⟨(by decide), by decide⟩ ?_
      refine g_nm (fun b1837 e_b1837 => ?_)
      have h_b1837 := irem_b (x := (P 0 1)) (y := 3) ⟨by have q0 := b0_1 hB; (clear hmh hmr; omega), by have q0 := b0_1 hB; (clear hmh hmr; omega)⟩ ⟨by (clear hmh hmr; omega), by (clear hmh hmr; omega)⟩
      rw [← e_b1837] at h_b1837
      have f_b1837_0 := b0_1 hB
      have hz := e_b1837
      rw [irem_p ⟨by (clear hmh hmr; omega), by (clear hmh hmr; omega)⟩ ⟨by decide, by decide⟩] at hz
      refine g_if_ne (tgt := 37) dX12_see_24 (by decide) ⟨by (clear hmh hmr; omega), by (clear hmh hmr; omega)⟩ (fun k1838 => ?_) (fun k1838 => ?_)
      · have k1838n : 1 ≤ b1837 := by (clear hmh hmr; omega)
        clear k1838
        refine g_forget (l1 := [(0, vR 0), (1, vI (P 0 1))]) (by intro q hq; simp only [List.mem_cons, List.not_mem_nil, or_false] at hq ⊢; rcases hq with rfl | rfl <;> simp) ?_
        exact J37_1832 (by (clear hmh hmr; omega))
      · refine g_iload_n dX12_see_27 rfl ?_
        refine g_bipush dX12_see_28 (by decide) ?_
        refine g_icmp_gt (tgt := 37) dX12_see_30 (by decide) ⟨by have q0 := b0_1 hB; (clear hmh hmr; omega), by have q0 := b0_1 hB; (clear hmh hmr; omega)⟩ (by decide) (fun k1839 => ?_) (fun k1839 => ?_)
        · refine g_forget (l1 := [(0, vR 0), (1, vI (P 0 1))]) (by intro q hq; simp only [List.mem_cons, List.not_mem_nil, or_false] at hq ⊢; rcases hq with rfl | rfl <;> simp) ?_
          exact J37_1832 (by (clear hmh hmr; omega))
        · refine g_iconst dX12_see_33 ?_
          refine g_goto (tgt := 38) dX12_see_34 (by decide) ?_
          refine g_forget (l1 := [(0, vR 0), (1, vI (P 0 1))]) (by intro q hq; simp only [List.mem_cons, List.not_mem_nil, or_false] at hq ⊢; rcases hq with rfl | rfl <;> simp) ?_
          exact J38_920 1 (by decide) (by (clear hmr; omega))
/-! What the reference answers: X12_seed. -/
set_option maxRecDepth 100000 in
set_option maxHeartbeats 4000000 in
theorem f_X12_seed (G : GT) (P : PH) (A : PH) (a1 : Int) (h_a1 : (-2147483648) ≤ a1 ∧ a1 ≤ 2147483647) (hB : BdM P) (z0 : AM A P) (Q : Option PV → PH → Prop) (hQ : ∀ (r : Int) (_ : 0 ≤ r ∧ r ≤ 1) (P1 : PH) (_ : BdM P1) (_ : FrM ([61], [28]) P P1) (_ : (a1 < 0 ∧ r = 0) ∨ (0 ≤ a1 ∧ r = 1)) (_ : AM (aSeed A a1) P1), Q (some (vI r)) P1) : Ct WSM G 2 iX12_seed [vR 0, vI a1] P Q := by
  refine Ct.of (by decide) (l0 := [(0, vR 0), (1, vI a1)]) rfl (Nat.le_of_ble_eq_true rfl) ?_
  refine g_iload_n dX12_seed_0 rfl ?_
  refine g_if_ge (tgt := 18) dX12_seed_1 (by decide) ⟨by omega, by omega⟩ (fun k1 => ?_) (fun k1 => ?_)
  · refine g_aload_n dX12_seed_18 rfl ?_
    refine g_iload_n dX12_seed_19 rfl ?_
    refine g_i2l dX12_seed_20 ⟨by omega, by omega⟩ ?_
    refine m_p61 rfl dX12_seed_21 ?_
    have hB2 := bs_61 (z := a1) hB ⟨by omega, by omega⟩
    refine g_iconst dX12_seed_24 ?_
    exact g_retZ dX12_seed_25 rfl (by decide) (hQ 1 (by decide) _ hB2 (FrM.s FrM.rf rfl) (by omega) (by rw [aSeed_y (by omega)]; exact z0.sd up_same (FrM.s FrM.rf rfl)))
  · refine g_aload_n dX12_seed_4 rfl ?_
    refine g_iconst dX12_seed_5 ?_
    refine g_vI (av := [vI 5]) (o := 0) (st := []) (m_X12_refuses G P 5 (by decide) hB  _ (fun rc3 hc3 Pc3 hBc3 hFc3 => ⟨rc3, rfl, ?_⟩)) cf_X12_refuses t_1667 rfl (by decide) rfl rfl rfl (Nat.le_of_ble_eq_true rfl) (by decide) rfl dX12_seed_6
    refine g_if_lt (tgt := 16) dX12_seed_9 (by decide) ⟨by omega, by omega⟩ (fun k4 => ?_) (fun k4 => by exfalso; omega)
    refine g_iconst dX12_seed_16 ?_
    exact g_retZ dX12_seed_17 rfl (by decide) (hQ 0 (by decide) _ hBc3 (FrM.c FrM.rf hFc3 rfl) (by (clear k4; omega)) (by rw [aSeed_n (by (clear k4; omega))]; exact (AM.fr (F := ([], [28])) z0 (FrM.c FrM.rf hFc3 rfl) rfl)))
/-! What the reference answers: X12_slot. -/
set_option maxRecDepth 100000 in
set_option maxHeartbeats 4000000 in
theorem f_X12_slot (G : GT) (P : PH) (a1 : Int) (h_a1 : 0 ≤ a1 ∧ a1 ≤ 20) (hB : BdM P) (Q : Option PV → PH → Prop) (hQ : ∀ (r : Int) (_ : 2 ≤ r ∧ r ≤ 21) (_ : r = 2 + (P 0 59 + a1) % 20), Q (some (vI r)) P) : Ct WSM G 1 iX12_slot [vR 0, vI a1] P Q := by
  refine Ct.of (by decide) (l0 := [(0, vR 0), (1, vI a1)]) rfl (Nat.le_of_ble_eq_true rfl) ?_
  refine g_iconst dX12_slot_0 ?_
  refine g_aload_n dX12_slot_1 rfl ?_
  refine m_g59 (z := (P 0 59)) rfl dX12_slot_2 rfl ?_
  refine g_iload_n dX12_slot_5 rfl ?_
  refine g_iadd dX12_slot_6 ?_
  refine g_bipush dX12_slot_7 (by decide) ?_
  refine g_irem dX12_slot_9 ⟨(by decide), by decide⟩ ?_
  refine g_nm (fun b1 e_b1 => ?_)
  have h_b1 := irem_b (x := ((P 0 59) + a1)) (y := 20) ⟨by have q0 := b0_59 hB; omega, by have q0 := b0_59 hB; omega⟩ ⟨by omega, by omega⟩
  rw [← e_b1] at h_b1
  have f_b1_0 := b0_59 hB
  have q59 := b0_59 hB
  have hz := e_b1
  rw [irem_p ⟨by omega, by omega⟩ ⟨by decide, by decide⟩] at hz
  refine g_iadd dX12_slot_10 ?_
  exact g_retI dX12_slot_11 rfl (hQ (2 + b1) ⟨by omega, by omega⟩ (by have q0 := b0_59 hB; omega))
/-! What the reference answers: X12_keeps. -/
set_option maxRecDepth 100000 in
set_option maxHeartbeats 4000000 in
theorem f_X12_keeps (G : GT) (P : PH) (A : PH) (k : Int) (hB : BdM P) (p_wa : WA k A) (z0 : AM A P) (Q : Option PV → PH → Prop) (hQ : ∀ (P1 : PH) (_ : BdM P1) (_ : FrM ([59, 60], [35, 36, 37, 38, 39, 40]) P P1) (_ : P1 35 0 = P 35 0) (_ : AM (aPush A) P1), Q none P1) : Ct WSM G 2 iX12_keeps [vR 0] P Q := by
  refine Ct.of (by decide) (l0 := [(0, vR 0)]) rfl (Nat.le_of_ble_eq_true rfl) ?_
  have hb := z0.b
  have hw4 := p_wa.2.1
  have q59 := b0_59 hB
  refine g_aload_n dX12_keeps_0 rfl ?_
  refine m_g60 (z := (P 0 60)) rfl dX12_keeps_1 rfl ?_
  refine g_bipush dX12_keeps_4 (by decide) ?_
  have f1 := b0_60 hB
  refine g_icmp_ne (tgt := 32) dX12_keeps_6 (by decide) ⟨by have q0 := b0_60 hB; (clear hb; omega), by have q0 := b0_60 hB; (clear hb; omega)⟩ (by decide) (fun k2 => ?_) (fun k2 => ?_)
  · have k2n : (P 0 60) ≤ 19 := by have q0 := b0_60 hB; (clear hb; omega)
    clear k2
    refine g_aload_n dX12_keeps_32 rfl ?_
    refine g_aload_n dX12_keeps_33 rfl ?_
    refine g_aload_n dX12_keeps_34 rfl ?_
    refine m_g60 (z := (P 0 60)) rfl dX12_keeps_35 rfl ?_
    refine g_vI (av := [vI (P 0 60)]) (o := 0) (st := [vR 0]) (f_X12_slot G P (P 0 60) ⟨by have q0 := b0_60 hB; (clear hb; omega), by have q0 := b0_60 hB; (clear hb; omega)⟩ hB  _ (fun rc3 hc3 gc3_s => ⟨rc3, rfl, ?_⟩)) cf_X12_slot t_1855 rfl (by decide) rfl rfl rfl (Nat.le_of_ble_eq_true rfl) (by decide) rfl dX12_keeps_38
    refine g_iconst dX12_keeps_41 ?_
    have r35 : ∀ j, P 35 j = P 35 j := fun j => rfl
    have r36 : ∀ j, P 36 j = P 36 j := fun j => rfl
    have r37 : ∀ j, P 37 j = P 37 j := fun j => rfl
    have r38 : ∀ j, P 38 j = P 38 j := fun j => rfl
    have r39 : ∀ j, P 39 j = P 39 j := fun j => rfl
    refine g_vV (av := [vI rc3, vI 0]) (o := 0) (st := []) (f_X12_copies G P rc3 0 ⟨by (clear hb; omega), by (clear hb; omega)⟩ (by decide) hB (by (clear hb; omega)) _ (fun Pc4 hBc4 hFc4 gc4_o gc4_cy => ⟨rfl, ?_⟩)) cf_X12_copies t_1859 rfl (by decide) rfl rfl rfl (Nat.le_of_ble_eq_true rfl) (by decide) rfl dX12_keeps_42
    have hcy := CY.row gc4_cy r35 r36 r37 r38 r39
    refine g_aload_n dX12_keeps_45 rfl ?_
    refine g_dup dX12_keeps_46 rfl ?_
    refine m_g60 (z := (P 0 60)) rfl dX12_keeps_47 ((hFc4.1 60 rfl).trans rfl) ?_
    refine g_iconst dX12_keeps_50 ?_
    refine g_iadd dX12_keeps_51 ?_
    refine m_p60 rfl dX12_keeps_52 ?_
    have hB5 := bs_60 (z := ((P 0 60) + 1)) hBc4 ⟨by have q0 := b0_60 hB; (clear hb gc4_o; omega), by have q0 := b0_60 hB; (clear hb gc4_o; omega)⟩
    exact g_retV dX12_keeps_55 rfl (hQ _ hB5 (FrM.s (FrM.c FrM.rf hFc4 rfl) rfl) (by have q0 := (((up_o (by decide)).trans rfl) : (up Pc4 0 60 ((P 0 60) + 1)) 35 0 = (Pc4 35 0)); have q1 := bl_35 (k := 0) hBc4; (clear hb; omega)) (AM.push z0 p_wa q59 hcy.r0 (by have h59 := (((up_k (by decide)).trans ((hFc4.1 59 rfl).trans rfl)) : (up Pc4 0 60 ((P 0 60) + 1)) 0 59 = (P 0 59)); have h60 := (up_same : (up Pc4 0 60 ((P 0 60) + 1)) 0 60 = ((P 0 60) + 1)); (clear gc4_o; omega)) ((up_k (by decide)).trans ((hFc4.1 61 rfl).trans rfl)) ((up_k (by decide)).trans ((hFc4.1 92 rfl).trans rfl))))
  · refine g_aload_n dX12_keeps_9 rfl ?_
    refine g_aload_n dX12_keeps_10 rfl ?_
    refine m_g59 (z := (P 0 59)) rfl dX12_keeps_11 rfl ?_
    refine g_iconst dX12_keeps_14 ?_
    refine g_iadd dX12_keeps_15 ?_
    refine g_bipush dX12_keeps_16 (by decide) ?_
    refine g_irem dX12_keeps_18 ⟨(by decide), by decide⟩ ?_
    refine g_nm (fun b6 e_b6 => ?_)
    have h_b6 := irem_b (x := ((P 0 59) + 1)) (y := 20) ⟨by have q0 := b0_59 hB; (clear hb k2; omega), by have q0 := b0_59 hB; (clear hb k2; omega)⟩ ⟨by (clear hb k2; omega), by (clear hb k2; omega)⟩
    rw [← e_b6] at h_b6
    have f_b6_0 := b0_59 hB
    have hz := e_b6
    rw [irem_p ⟨by (clear hb k2; omega), by (clear hb k2; omega)⟩ ⟨by decide, by decide⟩] at hz
    refine m_p59 rfl dX12_keeps_19 ?_
    have hB7 := bs_59 (z := b6) hB ⟨by (clear hb k2; omega), by (clear hb k2; omega)⟩
    refine g_aload_n dX12_keeps_22 rfl ?_
    refine g_dup dX12_keeps_23 rfl ?_
    refine m_g60 (z := (P 0 60)) rfl dX12_keeps_24 ((up_k (by decide)).trans rfl) ?_
    refine g_iconst dX12_keeps_27 ?_
    refine g_isub dX12_keeps_28 ?_
    refine m_p60 rfl dX12_keeps_29 ?_
    have hB8 := bs_60 (z := ((P 0 60) - 1)) hB7 ⟨by have q0 := b0_60 hB; (omega), by have q0 := b0_60 hB; (clear hb k2; omega)⟩
    refine g_aload_n dX12_keeps_32 rfl ?_
    refine g_aload_n dX12_keeps_33 rfl ?_
    refine g_aload_n dX12_keeps_34 rfl ?_
    refine m_g60 (z := ((P 0 60) - 1)) rfl dX12_keeps_35 up_same ?_
    refine g_vI (av := [vI ((P 0 60) - 1)]) (o := 0) (st := [vR 0]) (f_X12_slot G (up (up P 0 59 b6) 0 60 ((P 0 60) - 1)) ((P 0 60) - 1) ⟨by have q0 := b0_60 hB; (omega), by have q0 := b0_60 hB; (clear hb k2; omega)⟩ hB8  _ (fun rc9 hc9 gc9_s => ⟨rc9, rfl, ?_⟩)) cf_X12_slot t_1855 rfl (by decide) rfl rfl rfl (Nat.le_of_ble_eq_true rfl) (by decide) rfl dX12_keeps_38
    have z10 : (up (up P 0 59 b6) 0 60 ((P 0 60) - 1)) 0 59 = b6 := ((up_k (by decide)).trans up_same)
    refine g_iconst dX12_keeps_41 ?_
    have r35 : ∀ j, (up (up P 0 59 b6) 0 60 ((P 0 60) - 1)) 35 j = P 35 j := fun j => ((up_o (by decide)).trans ((up_o (by decide)).trans rfl))
    have r36 : ∀ j, (up (up P 0 59 b6) 0 60 ((P 0 60) - 1)) 36 j = P 36 j := fun j => ((up_o (by decide)).trans ((up_o (by decide)).trans rfl))
    have r37 : ∀ j, (up (up P 0 59 b6) 0 60 ((P 0 60) - 1)) 37 j = P 37 j := fun j => ((up_o (by decide)).trans ((up_o (by decide)).trans rfl))
    have r38 : ∀ j, (up (up P 0 59 b6) 0 60 ((P 0 60) - 1)) 38 j = P 38 j := fun j => ((up_o (by decide)).trans ((up_o (by decide)).trans rfl))
    have r39 : ∀ j, (up (up P 0 59 b6) 0 60 ((P 0 60) - 1)) 39 j = P 39 j := fun j => ((up_o (by decide)).trans ((up_o (by decide)).trans rfl))
    refine g_vV (av := [vI rc9, vI 0]) (o := 0) (st := []) (f_X12_copies G (up (up P 0 59 b6) 0 60 ((P 0 60) - 1)) rc9 0 ⟨by (clear hb k2; omega), by (clear hb k2; omega)⟩ (by decide) hB8 (by (clear hb k2; omega)) _ (fun Pc11 hBc11 hFc11 gc11_o gc11_cy => ⟨rfl, ?_⟩)) cf_X12_copies t_1859 rfl (by decide) rfl rfl rfl (Nat.le_of_ble_eq_true rfl) (by decide) rfl dX12_keeps_42
    have z12 : (up (up P 0 59 b6) 0 60 ((P 0 60) - 1)) 35 0 = (P 35 0) := ((up_o (by decide)).trans ((up_o (by decide)).trans rfl))
    have hcy := CY.row gc11_cy r35 r36 r37 r38 r39
    refine g_aload_n dX12_keeps_45 rfl ?_
    refine g_dup dX12_keeps_46 rfl ?_
    refine m_g60 (z := ((P 0 60) - 1)) rfl dX12_keeps_47 ((hFc11.1 60 rfl).trans up_same) ?_
    refine g_iconst dX12_keeps_50 ?_
    refine g_iadd dX12_keeps_51 ?_
    refine m_p60 rfl dX12_keeps_52 ?_
    have hB13 := bs_60 (z := (((P 0 60) - 1) + 1)) hBc11 ⟨by have q0 := b0_60 hB; (clear hb k2 gc11_o; omega), by have q0 := b0_60 hB; (clear hb k2 gc11_o; omega)⟩
    exact g_retV dX12_keeps_55 rfl (hQ _ hB13 (FrM.s (FrM.c (FrM.s (FrM.s FrM.rf rfl) rfl) hFc11 rfl) rfl) (by have q0 := (((up_o (by decide)).trans rfl) : (up Pc11 0 60 (((P 0 60) - 1) + 1)) 35 0 = (Pc11 35 0)); have q1 := bl_35 (k := 0) hBc11; (clear hb k2; omega)) (AM.push z0 p_wa q59 hcy.r0 (by have h59 := (((up_k (by decide)).trans ((hFc11.1 59 rfl).trans ((up_k (by decide)).trans up_same))) : (up Pc11 0 60 (((P 0 60) - 1) + 1)) 0 59 = b6); have h60 := (up_same : (up Pc11 0 60 (((P 0 60) - 1) + 1)) 0 60 = (((P 0 60) - 1) + 1)); (omega)) ((up_k (by decide)).trans ((hFc11.1 61 rfl).trans ((up_k (by decide)).trans ((up_k (by decide)).trans rfl)))) ((up_k (by decide)).trans ((hFc11.1 92 rfl).trans ((up_k (by decide)).trans ((up_k (by decide)).trans rfl))))))
/-! What the reference answers: X12_chance. -/
set_option maxRecDepth 100000 in
set_option maxHeartbeats 4000000 in
theorem f_X12_chance (G : GT) (P : PH) (A : PH) (k : Int) (M : PH) (a1 : Int) (h_a1 : (-2147483648) ≤ a1 ∧ a1 ≤ 2147483647) (hB : BdM P) (p_st : P 0 74 ≤ 199999900) (p_wa : WA k A) (v_okC : okC P) (v_okR : okR P) (v_MVw : MVw P) (v_RE : RE P) (z0 : AM A P) (z1 : MH M P) (z2 : MR M P) (Q : Option PV → PH → Prop) (hQ : ∀ (r : Int) (_ : (-2147483648) ≤ r ∧ r ≤ 2147483647) (P1 : PH) (_ : BdM P1) (_ : FrM ([59, 60, 61, 62, 66, 74, 76, 78], [28, 35, 36, 37, 38, 39, 40, 41, 42, 43, 44, 49, 50]) P P1) (_ : P1 0 74 ≤ P 0 74 + 40) (_ : MVw P1) (_ : RE P1) (_ : AM (aCha A M a1) P1), Q (some (vI r)) P1) : Ct WSM G 6 iX12_chance [vR 0, vI a1] P Q := by
  refine Ct.of (by decide) (l0 := [(0, vR 0), (1, vI a1)]) rfl (Nat.le_of_ble_eq_true rfl) ?_
  have hmh := z1
  unfold MH at hmh
  refine g_aload_n dX12_chance_0 rfl ?_
  refine m_g44 (z := (P 0 44)) rfl dX12_chance_1 rfl ?_
  have f1 := b0_44 hB
  refine g_if_eq (tgt := 17) dX12_chance_4 (by decide) ⟨by have q0 := b0_44 hB; (first | (clear hmh; omega) | omega), by have q0 := b0_44 hB; (first | (clear hmh; omega) | omega)⟩ (fun k2 => ?_) (fun k2 => ?_)
  · refine g_aload_n dX12_chance_17 rfl ?_
    refine g_iconst dX12_chance_18 ?_
    refine g_vI (av := [vI 2]) (o := 0) (st := []) (m_X12_refuses G P 2 (by decide) hB  _ (fun rc3 hc3 Pc3 hBc3 hFc3 => ⟨rc3, rfl, ?_⟩)) cf_X12_refuses t_1667 rfl (by decide) rfl rfl rfl (Nat.le_of_ble_eq_true rfl) (by decide) rfl dX12_chance_19
    exact g_retI dX12_chance_22 rfl (hQ rc3 ⟨by (first | (clear hmh k2; omega) | omega), by (first | (clear hmh k2; omega) | omega)⟩ _ hBc3 (FrM.c FrM.rf hFc3 rfl) (by have q0 := (((hFc3.1 74 rfl).trans rfl) : Pc3 0 74 = (P 0 74)); have q1 := b0_74 hB; (first | (clear hmh k2; omega) | (clear hmh; omega) | (clear k2; omega) | omega)) (MVw.fr (F := ([], [28])) v_MVw (FrM.c FrM.rf hFc3 rfl) rfl) (RE.fr (F := ([], [28])) v_RE (FrM.c FrM.rf hFc3 rfl) rfl) (by rw [aCha_n (by (first | (clear hmh k2; omega) | (clear hmh; omega) | (clear k2; omega) | omega))]; exact (AM.fr (F := ([], [28])) z0 (FrM.c FrM.rf hFc3 rfl) rfl)))
  · have k2n : 1 ≤ (P 0 44) := by have q0 := b0_44 hB; (first | (clear hmh k2; omega) | (clear hmh; omega) | (clear k2; omega) | omega)
    clear k2
    refine g_iload_n dX12_chance_7 rfl ?_
    refine g_iconst dX12_chance_8 ?_
    refine g_bipush dX12_chance_9 (by decide) ?_
    refine g_sI (av := [vI a1, vI 1, vI 40]) (st := []) (m_X12_is G P a1 1 40 ⟨by (first | (clear hmh; omega) | omega), by (first | (clear hmh; omega) | omega)⟩ (by decide) (by decide) hB  _ (fun rc4 hc4 gc4_is => ⟨rc4, rfl, ?_⟩)) cf_X12_is t_1800 rfl (Nat.le_of_ble_eq_true rfl) (by decide) rfl dX12_chance_11
    refine g_if_ne (tgt := 23) dX12_chance_14 (by decide) ⟨by (first | (clear hmh gc4_is; omega) | omega), by (first | (clear hmh gc4_is; omega) | omega)⟩ (fun k5 => ?_) (fun k5 => ?_)
    · have k5n : 1 ≤ rc4 := by (first | (clear hmh gc4_is k5; omega) | (clear hmh gc4_is; omega) | (clear hmh k5; omega) | (clear gc4_is k5; omega) | (clear hmh; omega) | omega)
      clear k5
      first | (revert r_gc4_is; intro r_gc4_is) | have r_gc4_is := (gc4_is.resolve_right (by (clear hmh gc4_is; omega))) | have r_gc4_is := (gc4_is.resolve_left (by (clear hmh gc4_is; omega))) | skip
      refine g_aload_n dX12_chance_23 rfl ?_
      refine g_vV (av := []) (o := 0) (st := []) (f_X12_keeps G P (A) (k)  hB p_wa (z0) _ (fun Pc6 hBc6 hFc6 gc6_o ec6_0 => ⟨rfl, ?_⟩)) cf_X12_keeps t_2132 rfl (by decide) rfl rfl rfl (Nat.le_of_ble_eq_true rfl) (by decide) rfl dX12_chance_24
      refine g_iconst dX12_chance_27 ?_
      refine g_istore_n (l1 := [(2, vI 0), (0, vR 0), (1, vI a1)]) dX12_chance_28 (by decide) rfl ?_
      have ho := v_okR
      unfold okR at ho
      refine g_iconst dX12_chance_29 ?_
      refine g_istore_n (l1 := [(3, vI 0), (2, vI 0), (0, vR 0), (1, vI a1)]) dX12_chance_30 (by decide) rfl ?_
      have L31_6 : ∀ (n31_6 : Nat) (x31_3_6 : Int) (h_x31_3_6 : 0 ≤ x31_3_6 ∧ x31_3_6 ≤ 40) (x31_2_6 : Int) (h_x31_2_6 : (-2147483648) ≤ x31_2_6 ∧ x31_2_6 ≤ 2147483647) (H31_6 : PH) (hB31_6 : BdM H31_6) (hE31_6 : FrM ([61, 62, 66, 74, 76, 78], [39, 40, 41, 42, 43, 44, 49, 50]) Pc6 H31_6) (i31_0_6 : H31_6 0 74 ≤ P 0 74 + x31_3_6) (i31_1_6 : AM (aDrs (x31_3_6).toNat (aPush A)) H31_6) (i31_2_6 : x31_3_6 ≤ a1) (w31_RE_6 : RE H31_6) (w31_MVw_6 : MVw H31_6) (hm31_6 : ((41 - x31_3_6) : Int).toNat < n31_6), Go WSM G 6 iX12_chance 31 [(0, vR 0), (1, vI a1), (2, vI x31_2_6), (3, vI x31_3_6)] [] H31_6 Q := by
        intro n31_6
        induction n31_6 with
        | zero => intro x31_3_6 h_x31_3_6 x31_2_6 h_x31_2_6 H31_6 hB31_6 hE31_6 i31_0_6 i31_1_6 i31_2_6 w31_RE_6 w31_MVw_6 hm31_6; exact absurd hm31_6 (Nat.not_lt_zero _)
        | succ n31_6 ih31_6 =>
        intro x31_3_6 h_x31_3_6 x31_2_6 h_x31_2_6 H31_6 hB31_6 hE31_6 i31_0_6 i31_1_6 i31_2_6 w31_RE_6 w31_MVw_6 hm31_6
        refine g_iload_n dX12_chance_31 rfl ?_
        refine g_iload_n dX12_chance_32 rfl ?_
        refine g_icmp_ge (tgt := 66) dX12_chance_33 (by decide) ⟨by (first | (clear hmh gc4_is ho; omega) | omega), by (first | (clear hmh gc4_is ho; omega) | omega)⟩ ⟨by (first | (clear hmh gc4_is ho; omega) | omega), by (first | (clear hmh gc4_is ho; omega) | omega)⟩ (fun k173 => ?_) (fun k173 => ?_)
        · first | (revert r_gc4_is; intro r_gc4_is) | have r_gc4_is := (gc4_is.resolve_right (by (clear hmh gc4_is ho k173; omega))) | have r_gc4_is := (gc4_is.resolve_left (by (clear hmh gc4_is ho k173; omega))) | skip
          refine g_iload_n dX12_chance_66 rfl ?_
          exact g_retI dX12_chance_67 rfl (hQ x31_2_6 ⟨by (first | (clear hmh gc4_is ho k173; omega) | omega), by (first | (clear hmh gc4_is ho k173; omega) | omega)⟩ _ hB31_6 (FrM.c (FrM.c FrM.rf hFc6 rfl) hE31_6 rfl) (by have q0 := b0_74 hB31_6; (first | (clear hmh gc4_is ho k173; omega) | (clear hmh gc4_is ho; omega) | (clear hmh gc4_is k173; omega) | (clear hmh ho k173; omega) | (clear gc4_is ho k173; omega) | (clear hmh gc4_is; omega) | omega)) w31_MVw_6 w31_RE_6 (by rw [aCha_y ⟨by (first | (clear hmh gc4_is ho k173; omega) | (clear hmh gc4_is ho; omega) | (clear hmh gc4_is k173; omega) | (clear hmh ho k173; omega) | (clear gc4_is ho k173; omega) | (clear hmh gc4_is; omega) | omega), by (first | (clear hmh gc4_is ho k173; omega) | (clear hmh gc4_is ho; omega) | (clear hmh gc4_is k173; omega) | (clear hmh ho k173; omega) | (clear gc4_is ho k173; omega) | (clear hmh gc4_is; omega) | omega), by (first | (clear hmh gc4_is ho k173; omega) | (clear hmh gc4_is ho; omega) | (clear hmh gc4_is k173; omega) | (clear hmh ho k173; omega) | (clear gc4_is ho k173; omega) | (clear hmh gc4_is; omega) | omega)⟩, show a1 = x31_3_6 by (first | (clear hmh gc4_is ho k173; omega) | (clear hmh gc4_is ho; omega) | (clear hmh gc4_is k173; omega) | (clear hmh ho k173; omega) | (clear gc4_is ho k173; omega) | (clear hmh gc4_is; omega) | omega)]; exact i31_1_6))
        · first | (revert r_gc4_is; intro r_gc4_is) | have r_gc4_is := (gc4_is.resolve_right (by (clear hmh gc4_is ho k173; omega))) | have r_gc4_is := (gc4_is.resolve_left (by (clear hmh gc4_is ho k173; omega))) | skip
          have iv174 : AM (aDrs (x31_3_6).toNat (aPush A)) H31_6 := i31_1_6
          refine g_iload_n dX12_chance_36 rfl ?_
          refine g_aload_n dX12_chance_37 rfl ?_
          refine g_aload_n dX12_chance_38 rfl ?_
          refine g_aload_n dX12_chance_39 rfl ?_
          refine m_g52 (z := (P 0 52)) rfl dX12_chance_40 ((hE31_6.1 52 rfl).trans ((hFc6.1 52 rfl).trans rfl)) ?_
          have f175 := b0_52 hB
          refine g_vI (av := [vI (P 0 52)]) (o := 0) (st := [vR 0, vI x31_2_6]) (f_X12_draw G H31_6 (aDrs (x31_3_6).toNat (aPush A)) (P 0 52) ⟨by have q0 := b0_52 hB; (first | (clear hmh gc4_is ho k173; omega) | omega), by have q0 := b0_52 hB; (first | (clear hmh gc4_is ho k173; omega) | omega)⟩ hB31_6 (iv174) _ (fun rc176 hc176 Pc176 hBc176 hFc176 gc176_d gc176_d2 ec176_0 => ⟨rc176, rfl, ?_⟩)) cf_X12_draw t_2144 rfl (by decide) rfl rfl rfl (Nat.le_of_ble_eq_true rfl) (by decide) rfl dX12_chance_43
          refine g_vI (av := [vI rc176]) (o := 0) (st := [vI x31_2_6]) (f_X12_runs G Pc176 (up (aDrs (x31_3_6).toNat (aPush A)) 0 5 (drw ((aDrs (x31_3_6).toNat (aPush A)) 0 5))) rc176 ⟨by (first | (clear hmh gc4_is ho k173; omega) | omega), by (first | (clear hmh gc4_is ho k173; omega) | omega)⟩ hBc176 (by have q0 := (((hFc176.1 74 rfl).trans rfl) : Pc176 0 74 = (H31_6 0 74)); have q1 := b0_74 hB31_6; (first | (clear hmh gc4_is ho k173; omega) | (clear hmh gc4_is ho; omega) | (clear hmh gc4_is k173; omega) | (clear hmh ho k173; omega) | (clear gc4_is ho k173; omega) | (clear hmh gc4_is; omega) | omega)) (okC.fr (F := ([59, 60, 61, 62, 66, 74, 76, 78], [35, 36, 37, 38, 39, 40, 41, 42, 43, 44, 49, 50])) v_okC (FrM.c (FrM.c (FrM.c FrM.rf hFc6 rfl) hE31_6 rfl) hFc176 rfl) rfl) (MVw.fr (F := ([61], [])) w31_MVw_6 (FrM.c FrM.rf hFc176 rfl) rfl) (RE.fr (F := ([61], [])) w31_RE_6 (FrM.c FrM.rf hFc176 rfl) rfl) (ec176_0) _ (fun rc177 hc177 Pc177 hBc177 hFc177 gc177_st vc177_MVw vc177_RE ec177_0 => ⟨rc177, rfl, ?_⟩)) cf_X12_runs t_2136 rfl (by decide) rfl rfl rfl (Nat.le_of_ble_eq_true rfl) (by decide) rfl dX12_chance_46
          have z178 : Pc176 0 74 = (H31_6 0 74) := ((hFc176.1 74 rfl).trans rfl)
          have hch9 : AM (aDrs (x31_3_6 + 1).toNat (aPush A)) Pc177 := by
            rw [show (x31_3_6 + 1).toNat = (x31_3_6).toNat + 1 by (first | (clear hmh gc4_is ho k173; omega) | (clear hmh gc4_is ho; omega) | (clear hmh gc4_is k173; omega) | (clear hmh ho k173; omega) | (clear gc4_is ho k173; omega) | (clear hmh gc4_is; omega) | omega)]
            have q := ec177_0
            rw [up_k (by decide)] at q
            exact q
          refine g_iconst dX12_chance_49 ?_
          refine g_icmp_ne (tgt := 57) dX12_chance_50 (by decide) ⟨by (first | (clear hmh gc4_is ho k173; omega) | omega), by (first | (clear hmh gc4_is ho k173; omega) | omega)⟩ (by decide) (fun k179 => ?_) (fun k179 => ?_)
          · have k179n : 0 ≤ rc177 := by (first | (clear hmh gc4_is ho k173 k179; omega) | (clear hmh gc4_is ho k173; omega) | (clear hmh gc4_is ho k179; omega) | (clear hmh gc4_is k173 k179; omega) | (clear hmh ho k173 k179; omega) | (clear gc4_is ho k173 k179; omega) | (clear hmh gc4_is ho; omega) | (clear hmh; omega) | omega)
            clear k179
            first | (revert r_gc4_is; intro r_gc4_is) | have r_gc4_is := (gc4_is.resolve_right (by (clear hmh gc4_is ho k173; omega))) | have r_gc4_is := (gc4_is.resolve_left (by (clear hmh gc4_is ho k173; omega))) | skip
            refine g_iconst dX12_chance_57 ?_
            refine g_iadd dX12_chance_58 ?_
            refine g_istore_n (l1 := [(2, vI (x31_2_6 + 0)), (0, vR 0), (1, vI a1), (3, vI x31_3_6)]) dX12_chance_59 (by decide) rfl ?_
            refine g_iinc (l1 := [(3, vI (x31_3_6 + 1)), (2, vI (x31_2_6 + 0)), (0, vR 0), (1, vI a1)]) dX12_chance_60 rfl (by decide) rfl ?_
            refine g_goto (tgt := 31) dX12_chance_63 (by decide) ?_
            refine g_forget (l1 := [(0, vR 0), (1, vI a1), (2, vI (x31_2_6 + 0)), (3, vI (x31_3_6 + 1))]) (by intro q hq; simp only [List.mem_cons, List.not_mem_nil, or_false] at hq ⊢; rcases hq with rfl | rfl | rfl | rfl <;> simp) ?_
            exact ih31_6 (x31_3_6 + 1) ⟨by (first | (clear hmh gc4_is ho k173; omega) | omega), by (first | (clear hmh gc4_is ho k173; omega) | omega)⟩ (x31_2_6 + 0) ⟨by (first | (clear hmh gc4_is ho k173; omega) | omega), by (first | (clear hmh gc4_is ho k173; omega) | omega)⟩ _ hBc177 (FrM.c (FrM.c (FrM.c FrM.rf hE31_6 rfl) hFc176 rfl) hFc177 rfl) (by have q0 := b0_74 hBc177; (first | (clear hmh gc4_is ho k173; omega) | (clear hmh gc4_is ho; omega) | (clear hmh gc4_is k173; omega) | (clear hmh ho k173; omega) | (clear gc4_is ho k173; omega) | (clear hmh gc4_is; omega) | omega)) (by first | exact hch9 | exact (by first | (rw [show (aPush A) = (up (up (aDrs (x31_3_6).toNat (aPush A)) 0 5 (drw ((aDrs (x31_3_6).toNat (aPush A)) 0 5))) 0 3 ((up (aDrs (x31_3_6).toNat (aPush A)) 0 5 (drw ((aDrs (x31_3_6).toNat (aPush A)) 0 5))) 0 3 + 1)) by (first | (clear hmh gc4_is ho k173; omega) | (clear hmh gc4_is ho; omega) | (clear hmh gc4_is k173; omega) | (clear hmh ho k173; omega) | (clear gc4_is ho k173; omega) | (clear hmh gc4_is; omega) | omega)]; exact ec177_0))) (by (first | (clear hmh gc4_is ho k173; omega) | (clear hmh gc4_is ho; omega) | (clear hmh gc4_is k173; omega) | (clear hmh ho k173; omega) | (clear gc4_is ho k173; omega) | (clear hmh gc4_is; omega) | omega)) vc177_RE vc177_MVw (by (first | (clear hmh gc4_is ho k173; omega) | (clear hmh gc4_is ho; omega) | (clear hmh gc4_is k173; omega) | (clear hmh ho k173; omega) | (clear gc4_is ho k173; omega) | (clear hmh gc4_is; omega) | omega))
          · first | (revert r_gc4_is; intro r_gc4_is) | have r_gc4_is := (gc4_is.resolve_right (by (clear hmh gc4_is ho k173 k179; omega))) | have r_gc4_is := (gc4_is.resolve_left (by (clear hmh gc4_is ho k173 k179; omega))) | skip
            refine g_iconst dX12_chance_53 ?_
            refine g_goto (tgt := 58) dX12_chance_54 (by decide) ?_
            refine g_iadd dX12_chance_58 ?_
            refine g_norm (fun r180 h_r180 e_r180 => ?_)
            refine g_istore_n (l1 := [(2, vI r180), (0, vR 0), (1, vI a1), (3, vI x31_3_6)]) dX12_chance_59 (by decide) rfl ?_
            refine g_iinc (l1 := [(3, vI (x31_3_6 + 1)), (2, vI r180), (0, vR 0), (1, vI a1)]) dX12_chance_60 rfl (by decide) rfl ?_
            refine g_goto (tgt := 31) dX12_chance_63 (by decide) ?_
            refine g_forget (l1 := [(0, vR 0), (1, vI a1), (2, vI r180), (3, vI (x31_3_6 + 1))]) (by intro q hq; simp only [List.mem_cons, List.not_mem_nil, or_false] at hq ⊢; rcases hq with rfl | rfl | rfl | rfl <;> simp) ?_
            exact ih31_6 (x31_3_6 + 1) ⟨by (first | (clear hmh gc4_is ho k173 k179; omega) | omega), by (first | (clear hmh gc4_is ho k173 k179; omega) | omega)⟩ r180 ⟨by (first | (clear hmh gc4_is ho k173 k179; omega) | omega), by (first | (clear hmh gc4_is ho k173 k179; omega) | omega)⟩ _ hBc177 (FrM.c (FrM.c (FrM.c FrM.rf hE31_6 rfl) hFc176 rfl) hFc177 rfl) (by have q0 := b0_74 hBc177; (first | (clear hmh gc4_is ho k173 k179; omega) | (clear hmh gc4_is ho k173; omega) | (clear hmh gc4_is ho k179; omega) | (clear hmh gc4_is k173 k179; omega) | (clear hmh ho k173 k179; omega) | (clear gc4_is ho k173 k179; omega) | (clear hmh gc4_is ho; omega) | (clear hmh; omega) | omega)) (by first | exact hch9 | exact (by first | (rw [show (aPush A) = (up (up (aDrs (x31_3_6).toNat (aPush A)) 0 5 (drw ((aDrs (x31_3_6).toNat (aPush A)) 0 5))) 0 3 ((up (aDrs (x31_3_6).toNat (aPush A)) 0 5 (drw ((aDrs (x31_3_6).toNat (aPush A)) 0 5))) 0 3 + 1)) by (first | (clear hmh gc4_is ho k173 k179; omega) | (clear hmh gc4_is ho k173; omega) | (clear hmh gc4_is ho k179; omega) | (clear hmh gc4_is k173 k179; omega) | (clear hmh ho k173 k179; omega) | (clear gc4_is ho k173 k179; omega) | (clear hmh gc4_is ho; omega) | (clear hmh; omega) | omega)]; exact ec177_0))) (by (first | (clear hmh gc4_is ho k173 k179; omega) | (clear hmh gc4_is ho k173; omega) | (clear hmh gc4_is ho k179; omega) | (clear hmh gc4_is k173 k179; omega) | (clear hmh ho k173 k179; omega) | (clear gc4_is ho k173 k179; omega) | (clear hmh gc4_is ho; omega) | (clear hmh; omega) | omega)) vc177_RE vc177_MVw (by (first | (clear hmh gc4_is ho k173 k179; omega) | (clear hmh gc4_is ho k173; omega) | (clear hmh gc4_is ho k179; omega) | (clear hmh gc4_is k173 k179; omega) | (clear hmh ho k173 k179; omega) | (clear gc4_is ho k173 k179; omega) | (clear hmh gc4_is ho; omega) | (clear hmh; omega) | omega))
      refine g_forget (l1 := [(0, vR 0), (1, vI a1), (2, vI 0), (3, vI 0)]) (by intro q hq; simp only [List.mem_cons, List.not_mem_nil, or_false] at hq ⊢; rcases hq with rfl | rfl | rfl | rfl <;> simp) ?_
      exact L31_6 _ 0 (by decide) 0 (by decide) _ hBc6 FrM.rf (by have q0 := (((hFc6.1 74 rfl).trans rfl) : Pc6 0 74 = (P 0 74)); have q1 := b0_74 hB; (first | (clear hmh gc4_is ho; omega) | (clear hmh gc4_is; omega) | (clear hmh ho; omega) | (clear gc4_is ho; omega) | (clear hmh; omega) | omega)) (by first | exact hch9 | exact ec6_0) (by (first | (clear hmh gc4_is ho; omega) | (clear hmh gc4_is; omega) | (clear hmh ho; omega) | (clear gc4_is ho; omega) | (clear hmh; omega) | omega)) (RE.fr (F := ([59, 60], [35, 36, 37, 38, 39, 40])) v_RE (FrM.c FrM.rf hFc6 rfl) rfl) (MVw.fr (F := ([59, 60], [35, 36, 37, 38, 39, 40])) v_MVw (FrM.c FrM.rf hFc6 rfl) rfl) (Nat.lt_succ_self _)
    · first | (revert r_gc4_is; intro r_gc4_is) | have r_gc4_is := (gc4_is.resolve_right (by (clear hmh gc4_is k5; omega))) | have r_gc4_is := (gc4_is.resolve_left (by (clear hmh gc4_is k5; omega))) | skip
      refine g_aload_n dX12_chance_17 rfl ?_
      refine g_iconst dX12_chance_18 ?_
      refine g_vI (av := [vI 2]) (o := 0) (st := []) (m_X12_refuses G P 2 (by decide) hB  _ (fun rc181 hc181 Pc181 hBc181 hFc181 => ⟨rc181, rfl, ?_⟩)) cf_X12_refuses t_1667 rfl (by decide) rfl rfl rfl (Nat.le_of_ble_eq_true rfl) (by decide) rfl dX12_chance_19
      exact g_retI dX12_chance_22 rfl (hQ rc181 ⟨by (first | (clear hmh gc4_is k5; omega) | omega), by (first | (clear hmh gc4_is k5; omega) | omega)⟩ _ hBc181 (FrM.c FrM.rf hFc181 rfl) (by have q0 := (((hFc181.1 74 rfl).trans rfl) : Pc181 0 74 = (P 0 74)); have q1 := b0_74 hB; (first | (clear hmh gc4_is k5; omega) | (clear hmh gc4_is; omega) | (clear hmh k5; omega) | (clear gc4_is k5; omega) | (clear hmh; omega) | omega)) (MVw.fr (F := ([], [28])) v_MVw (FrM.c FrM.rf hFc181 rfl) rfl) (RE.fr (F := ([], [28])) v_RE (FrM.c FrM.rf hFc181 rfl) rfl) (by rw [aCha_n (by (first | (clear hmh gc4_is k5; omega) | (clear hmh gc4_is; omega) | (clear hmh k5; omega) | (clear gc4_is k5; omega) | (clear hmh; omega) | omega))]; exact (AM.fr (F := ([], [28])) z0 (FrM.c FrM.rf hFc181 rfl) rfl)))
/-! What the reference answers: X12_choose. -/
set_option maxRecDepth 100000 in
set_option maxHeartbeats 4000000 in
theorem f_X12_choose (G : GT) (P : PH) (A : PH) (k : Int) (M : PH) (a1 : Int) (h_a1 : (-2147483648) ≤ a1 ∧ a1 ≤ 2147483647) (hB : BdM P) (p_wa : WA k A) (z0 : AM A P) (z1 : MH M P) (Q : Option PV → PH → Prop) (hQ : ∀ (r : Int) (_ : 0 ≤ r ∧ r ≤ 1) (P1 : PH) (_ : BdM P1) (_ : FrM ([59, 60], [28, 35, 36, 37, 38, 39, 40]) P P1) (_ : (r = 0 ∧ (M 0 0 ≤ 0 ∨ a1 < 0 ∨ 3 < a1 ∨ A 0 2 = a1)) ∨ (r = 1 ∧ 0 < M 0 0 ∧ 0 ≤ a1 ∧ a1 ≤ 3 ∧ A 0 2 ≠ a1)) (_ : AM (aRule A M a1) P1), Q (some (vI r)) P1) : Ct WSM G 3 iX12_choose [vR 0, vI a1] P Q := by
  refine Ct.of (by decide) (l0 := [(0, vR 0), (1, vI a1)]) rfl (Nat.le_of_ble_eq_true rfl) ?_
  have hb := z0.b
  have q59 := b0_59 hB
  have hw1 := p_wa.1
  have hmh := z1
  unfold MH at hmh
  refine g_aload_n dX12_choose_0 rfl ?_
  refine m_g44 (z := (P 0 44)) rfl dX12_choose_1 rfl ?_
  have f1 := b0_44 hB
  refine g_if_eq (tgt := 26) dX12_choose_4 (by decide) ⟨by have q0 := b0_44 hB; (clear hb hmh; omega), by have q0 := b0_44 hB; (clear hb hmh; omega)⟩ (fun k2 => ?_) (fun k2 => ?_)
  · refine g_aload_n dX12_choose_26 rfl ?_
    refine g_iconst dX12_choose_27 ?_
    refine g_vI (av := [vI 3]) (o := 0) (st := []) (m_X12_refuses G P 3 (by decide) hB  _ (fun rc3 hc3 Pc3 hBc3 hFc3 => ⟨rc3, rfl, ?_⟩)) cf_X12_refuses t_1667 rfl (by decide) rfl rfl rfl (Nat.le_of_ble_eq_true rfl) (by decide) rfl dX12_choose_28
    refine g_if_lt (tgt := 38) dX12_choose_31 (by decide) ⟨by (clear hb hmh k2; omega), by (clear hb hmh k2; omega)⟩ (fun k4 => ?_) (fun k4 => by exfalso; (clear hb hmh k2; omega))
    refine g_iconst dX12_choose_38 ?_
    exact g_retZ dX12_choose_39 rfl (by decide) (hQ 0 (by decide) _ hBc3 (FrM.c FrM.rf hFc3 rfl) (by (omega)) (by rw [aRule_n (by (omega))]; exact (AM.fr (F := ([], [28])) z0 (FrM.c FrM.rf hFc3 rfl) rfl)))
  · have k2n : 1 ≤ (P 0 44) := by have q0 := b0_44 hB; (clear hb hmh; omega)
    clear k2
    refine g_iload_n dX12_choose_7 rfl ?_
    refine g_iconst dX12_choose_8 ?_
    refine g_iconst dX12_choose_9 ?_
    refine g_sI (av := [vI a1, vI 0, vI 3]) (st := []) (m_X12_is G P a1 0 3 ⟨by (clear hb hmh; omega), by (clear hb hmh; omega)⟩ (by decide) (by decide) hB  _ (fun rc5 hc5 gc5_is => ⟨rc5, rfl, ?_⟩)) cf_X12_is t_1800 rfl (Nat.le_of_ble_eq_true rfl) (by decide) rfl dX12_choose_10
    refine g_if_eq (tgt := 26) dX12_choose_13 (by decide) ⟨by (clear hb hmh gc5_is; omega), by (clear hb hmh gc5_is; omega)⟩ (fun k6 => ?_) (fun k6 => ?_)
    · skip
      refine g_aload_n dX12_choose_26 rfl ?_
      refine g_iconst dX12_choose_27 ?_
      refine g_vI (av := [vI 3]) (o := 0) (st := []) (m_X12_refuses G P 3 (by decide) hB  _ (fun rc7 hc7 Pc7 hBc7 hFc7 => ⟨rc7, rfl, ?_⟩)) cf_X12_refuses t_1667 rfl (by decide) rfl rfl rfl (Nat.le_of_ble_eq_true rfl) (by decide) rfl dX12_choose_28
      refine g_if_lt (tgt := 38) dX12_choose_31 (by decide) ⟨by (clear hb hmh gc5_is k6; omega), by (clear hb hmh gc5_is k6; omega)⟩ (fun k8 => ?_) (fun k8 => by exfalso; (clear hb hmh gc5_is k6; omega))
      skip
      refine g_iconst dX12_choose_38 ?_
      exact g_retZ dX12_choose_39 rfl (by decide) (hQ 0 (by decide) _ hBc7 (FrM.c FrM.rf hFc7 rfl) (by (clear hb; omega)) (by rw [aRule_n (by (clear hb; omega))]; exact (AM.fr (F := ([], [28])) z0 (FrM.c FrM.rf hFc7 rfl) rfl)))
    · have k6n : 1 ≤ rc5 := by (clear hb hmh gc5_is; omega)
      clear k6
      have r_gc5_is := (gc5_is.resolve_right (by (clear hb hmh gc5_is; omega)))
      refine g_aload_n dX12_choose_16 rfl ?_
      refine m_g56 rfl dX12_choose_17 ?_
      refine g_iconst dX12_choose_20 ?_
      refine m_l38 (z := (P 38 0)) dX12_choose_21 (by decide) rfl ?_
      refine g_iload_n dX12_choose_22 rfl ?_
      have f9 := bl_38 (k := 0) hB
      refine g_icmp_ne (tgt := 40) dX12_choose_23 (by decide) ⟨by have q0 := bl_38 (k := 0) hB; (clear hb hmh gc5_is; omega), by have q0 := bl_38 (k := 0) hB; (clear hb hmh gc5_is; omega)⟩ ⟨by (clear hb hmh gc5_is; omega), by (clear hb hmh gc5_is; omega)⟩ (fun k10 => ?_) (fun k10 => ?_)
      · skip
        refine g_aload_n dX12_choose_40 rfl ?_
        refine g_vV (av := []) (o := 0) (st := []) (f_X12_keeps G P (A) (k)  hB p_wa (z0) _ (fun Pc11 hBc11 hFc11 gc11_o ec11_0 => ⟨rfl, ?_⟩)) cf_X12_keeps t_2132 rfl (by decide) rfl rfl rfl (Nat.le_of_ble_eq_true rfl) (by decide) rfl dX12_choose_41
        have hpu := ec11_0
        have hbk := hBc11
        refine g_aload_n dX12_choose_44 rfl ?_
        refine m_g56 rfl dX12_choose_45 ?_
        refine g_iconst dX12_choose_48 ?_
        refine g_iload_n dX12_choose_49 rfl ?_
        refine m_s38 dX12_choose_50 (by decide) ?_
        have hB12 := ba_38 (z := a1) (k := 0) hBc11 ⟨by (clear hb hmh gc5_is k10; omega), by (clear hb hmh gc5_is k10; omega)⟩
        refine g_iconst dX12_choose_51 ?_
        exact g_retZ dX12_choose_52 rfl (by decide) (hQ 1 (by decide) _ hB12 (FrM.a (FrM.c FrM.rf hFc11 rfl) rfl rfl) (by (omega)) (by rw [aRule_y ⟨by (clear hb gc5_is k10; omega), by (clear hb hmh gc5_is k10; omega), by (clear hb hmh gc5_is k10; omega), by (omega)⟩]; exact AM.ru hpu p_wa (b0_59 hbk) up_same (fun j hj => up_k hj) (FrM.a FrM.rf rfl rfl)))
      · skip
        refine g_aload_n dX12_choose_26 rfl ?_
        refine g_iconst dX12_choose_27 ?_
        refine g_vI (av := [vI 3]) (o := 0) (st := []) (m_X12_refuses G P 3 (by decide) hB  _ (fun rc13 hc13 Pc13 hBc13 hFc13 => ⟨rc13, rfl, ?_⟩)) cf_X12_refuses t_1667 rfl (by decide) rfl rfl rfl (Nat.le_of_ble_eq_true rfl) (by decide) rfl dX12_choose_28
        refine g_if_lt (tgt := 38) dX12_choose_31 (by decide) ⟨by (clear hb hmh gc5_is k10; omega), by (clear hb hmh gc5_is k10; omega)⟩ (fun k14 => ?_) (fun k14 => by exfalso; (clear hb hmh gc5_is k10; omega))
        skip
        refine g_iconst dX12_choose_38 ?_
        exact g_retZ dX12_choose_39 rfl (by decide) (hQ 0 (by decide) _ hBc13 (FrM.c FrM.rf hFc13 rfl) (by (omega)) (by rw [aRule_n (by (omega))]; exact (AM.fr (F := ([], [28])) z0 (FrM.c FrM.rf hFc13 rfl) rfl)))
/-! What the reference answers: X12_drop. -/
set_option maxRecDepth 100000 in
set_option maxHeartbeats 4000000 in
theorem f_X12_drop (G : GT) (P : PH) (A : PH) (k : Int) (a1 : Int) (h_a1 : (-2147483648) ≤ a1 ∧ a1 ≤ 2147483647) (hB : BdM P) (p_im : P 0 44 = 1 ∨ A 0 0 ≤ 0) (p_wa : WA k A) (z0 : AM A P) (Q : Option PV → PH → Prop) (hQ : ∀ (r : Int) (_ : 0 ≤ r ∧ r ≤ 1) (P1 : PH) (_ : BdM P1) (_ : FrM ([59, 60], [28, 35, 36, 37, 38, 39, 40]) P P1) (_ : (r = 1 ∧ 0 ≤ a1 ∧ a1 < A 0 0) ∨ (r = 0 ∧ (a1 < 0 ∨ A 0 0 ≤ a1))) (_ : AM (aDrop A a1) P1), Q (some (vI r)) P1) : Ct WSM G 3 iX12_drop [vR 0, vI a1] P Q := by
  refine Ct.of (by decide) (l0 := [(0, vR 0), (1, vI a1)]) rfl (Nat.le_of_ble_eq_true rfl) ?_
  have hb := z0.b
  have q59 := b0_59 hB
  have hw1 := p_wa.1
  refine g_aload_n dX12_drop_0 rfl ?_
  refine g_iload_n dX12_drop_1 rfl ?_
  refine g_vI (av := [vI a1]) (o := 0) (st := []) (f_X12_isPlace G P (A) a1 ⟨by (first | (clear p_im hb; omega) | omega), by (first | (clear p_im hb; omega) | omega)⟩ hB (by have q0 := b0_44 hB; (first | (clear p_im hb; omega) | (clear p_im; omega) | (clear hb; omega) | omega)) (z0) _ (fun rc1 hc1 gc1_p gc1_f => ⟨rc1, rfl, ?_⟩)) cf_X12_isPlace t_1883 rfl (by decide) rfl rfl rfl (Nat.le_of_ble_eq_true rfl) (by decide) rfl dX12_drop_2
  have f2 := b0_44 hB
  have f3 := bl_35 (k := 0) hB
  refine g_if_ne (tgt := 22) dX12_drop_5 (by decide) ⟨by (first | (clear p_im hb gc1_p gc1_f; omega) | omega), by (first | (clear p_im hb gc1_p gc1_f; omega) | omega)⟩ (fun k4 => ?_) (fun k4 => ?_)
  · have k4n : 1 ≤ rc1 := by (first | (clear p_im hb gc1_p gc1_f k4; omega) | (clear p_im hb gc1_p gc1_f; omega) | (clear p_im hb gc1_p k4; omega) | (clear p_im hb gc1_f k4; omega) | (clear p_im gc1_p gc1_f k4; omega) | (clear hb gc1_p gc1_f k4; omega) | (clear p_im hb gc1_p; omega) | (clear p_im; omega) | omega)
    clear k4
    first | (revert r_gc1_f; intro r_gc1_f) | have r_gc1_f := (gc1_f.resolve_right (by (clear p_im hb gc1_p gc1_f; omega))) | have r_gc1_f := (gc1_f.resolve_left (by (clear p_im hb gc1_p gc1_f; omega))) | skip
    first | (revert r_gc1_p; intro r_gc1_p) | have r_gc1_p := (gc1_p.resolve_right (by (clear p_im hb gc1_p gc1_f; omega))) | have r_gc1_p := (gc1_p.resolve_left (by (clear p_im hb gc1_p gc1_f; omega))) | skip
    first | (revert r_p_im; intro r_p_im) | have r_p_im := (p_im.resolve_right (by (clear p_im hb gc1_p gc1_f; omega))) | have r_p_im := (p_im.resolve_left (by (clear p_im hb gc1_p gc1_f; omega))) | skip
    refine g_aload_n dX12_drop_22 rfl ?_
    refine g_vV (av := []) (o := 0) (st := []) (f_X12_keeps G P (A) (k)  hB p_wa (z0) _ (fun Pc5 hBc5 hFc5 gc5_o ec5_0 => ⟨rfl, ?_⟩)) cf_X12_keeps t_2132 rfl (by decide) rfl rfl rfl (Nat.le_of_ble_eq_true rfl) (by decide) rfl dX12_drop_23
    have hpu := ec5_0
    have hbk := hBc5
    obtain ⟨Z, hZ⟩ : ∃ Z : PH, Pc5 = Z := ⟨_, rfl⟩
    have hbz := hpu.b
    refine g_iload_n dX12_drop_26 rfl ?_
    refine g_istore_n (l1 := [(2, vI a1), (0, vR 0), (1, vI a1)]) dX12_drop_27 (by decide) rfl ?_
    have L28_5 : ∀ (n28_5 : Nat) (x28_2_5 : Int) (h_x28_2_5 : 0 ≤ x28_2_5 ∧ x28_2_5 ≤ 11) (H28_5 : PH) (hB28_5 : BdM H28_5) (hE28_5 : FrM ([], [36]) Pc5 H28_5) (i28_0_5 : ∀ q : Int, q < x28_2_5 → H28_5 36 q = if q < a1 then Z 36 q else Z 36 (q + 1)) (i28_1_5 : ∀ q : Int, x28_2_5 ≤ q → H28_5 36 q = Z 36 q) (i28_2_5 : a1 ≤ x28_2_5) (hm28_5 : ((12 - x28_2_5) : Int).toNat < n28_5), Go WSM G 3 iX12_drop 28 [(0, vR 0), (2, vI x28_2_5)] [] H28_5 Q := by
      intro n28_5
      induction n28_5 with
      | zero => intro x28_2_5 h_x28_2_5 H28_5 hB28_5 hE28_5 i28_0_5 i28_1_5 i28_2_5 hm28_5; exact absurd hm28_5 (Nat.not_lt_zero _)
      | succ n28_5 ih28_5 =>
      intro x28_2_5 h_x28_2_5 H28_5 hB28_5 hE28_5 i28_0_5 i28_1_5 i28_2_5 hm28_5
      refine g_iload_n dX12_drop_28 rfl ?_
      refine g_iconst dX12_drop_29 ?_
      refine g_iadd dX12_drop_30 ?_
      refine g_aload_n dX12_drop_31 rfl ?_
      refine m_g53 rfl dX12_drop_32 ?_
      refine g_iconst dX12_drop_35 ?_
      refine m_l35 (z := (Pc5 35 0)) dX12_drop_36 (by decide) ((congrFun (hE28_5.2 35 rfl rfl) _).trans rfl) ?_
      have f23 := bl_35 (k := 0) hBc5
      refine g_icmp_ge (tgt := 60) dX12_drop_37 (by decide) ⟨by (first | (clear p_im hb gc1_p gc1_f hbz; omega) | omega), by (first | (clear p_im hb gc1_p gc1_f hbz; omega) | omega)⟩ ⟨by have q0 := bl_35 (k := 0) hBc5; (first | (clear p_im hb gc1_p gc1_f hbz; omega) | omega), by have q0 := bl_35 (k := 0) hBc5; (first | (clear p_im hb gc1_p gc1_f hbz; omega) | omega)⟩ (fun k24 => ?_) (fun k24 => ?_)
      · first | (revert r_gc1_f; intro r_gc1_f) | have r_gc1_f := (gc1_f.resolve_right (by (clear p_im hb gc1_p gc1_f hbz; omega))) | have r_gc1_f := (gc1_f.resolve_left (by (clear p_im hb gc1_p gc1_f hbz; omega))) | skip
        first | (revert r_gc1_p; intro r_gc1_p) | have r_gc1_p := (gc1_p.resolve_right (by (clear p_im hb gc1_p gc1_f hbz; omega))) | have r_gc1_p := (gc1_p.resolve_left (by (clear p_im hb gc1_p gc1_f hbz; omega))) | skip
        first | (revert r_p_im; intro r_p_im) | have r_p_im := (p_im.resolve_right (by (clear p_im hb gc1_p gc1_f hbz; omega))) | have r_p_im := (p_im.resolve_left (by (clear p_im hb gc1_p gc1_f hbz; omega))) | skip
        refine g_aload_n dX12_drop_60 rfl ?_
        refine m_g53 rfl dX12_drop_61 ?_
        refine g_iconst dX12_drop_64 ?_
        refine g_dup2 dX12_drop_65 rfl rfl ?_
        refine m_l35 (z := (Pc5 35 0)) dX12_drop_66 (by decide) ((congrFun (hE28_5.2 35 rfl rfl) _).trans rfl) ?_
        refine g_iconst dX12_drop_67 ?_
        refine g_isub dX12_drop_68 ?_
        refine m_s35 dX12_drop_69 (by decide) ?_
        have hB25 := ba_35 (z := ((Pc5 35 0) - 1)) (k := 0) hB28_5 ⟨by have q0 := bl_35 (k := 0) hBc5; (first | (clear p_im hb gc1_p gc1_f hbz; omega) | omega), by have q0 := bl_35 (k := 0) hBc5; (first | (clear p_im hb gc1_p gc1_f hbz; omega) | omega)⟩
        refine g_iconst dX12_drop_70 ?_
        exact g_retZ dX12_drop_71 rfl (by decide) (hQ 1 (by decide) _ hB25 (FrM.a (FrM.c (FrM.c FrM.rf hFc5 rfl) hE28_5 rfl) rfl rfl) (by (first | (clear p_im hb gc1_p gc1_f hbz; omega) | (clear p_im hb gc1_p gc1_f; omega) | (clear p_im hb gc1_p hbz; omega) | (clear p_im hb gc1_f hbz; omega) | (clear p_im gc1_p gc1_f hbz; omega) | (clear hb gc1_p gc1_f hbz; omega) | (clear p_im hb gc1_p; omega) | (clear p_im; omega) | omega)) (by subst hZ; exact AM.dr hpu p_wa (b0_59 hbk) ⟨by (first | (clear p_im hb gc1_p gc1_f hbz; omega) | (clear p_im hb gc1_p gc1_f; omega) | (clear p_im hb gc1_p hbz; omega) | (clear p_im hb gc1_f hbz; omega) | (clear p_im gc1_p gc1_f hbz; omega) | (clear hb gc1_p gc1_f hbz; omega) | (clear p_im hb gc1_p; omega) | (clear p_im; omega) | omega), by (first | (clear p_im hb gc1_p gc1_f hbz; omega) | (clear p_im hb gc1_p gc1_f; omega) | (clear p_im hb gc1_p hbz; omega) | (clear p_im hb gc1_f hbz; omega) | (clear p_im gc1_p gc1_f hbz; omega) | (clear hb gc1_p gc1_f hbz; omega) | (clear p_im hb gc1_p; omega) | (clear p_im; omega) | omega)⟩ up_same (fun j hj => ((up_k hj).trans ((congrFun (hE28_5.2 35 rfl rfl) _).trans rfl))) (fun q hq => Eq.trans (up_o (by decide)) ((i28_0_5 q (by (first | (clear p_im hb gc1_p gc1_f hbz; omega) | (clear p_im hb gc1_p gc1_f; omega) | (clear p_im hb gc1_p hbz; omega) | (clear p_im hb gc1_f hbz; omega) | (clear p_im gc1_p gc1_f hbz; omega) | (clear hb gc1_p gc1_f hbz; omega) | (clear p_im hb gc1_p; omega) | (clear p_im; omega) | omega))).trans (if_pos hq))) (fun q q0 q1 => Eq.trans (up_o (by decide)) ((i28_0_5 q (by have q9 := (((congrFun (hE28_5.2 35 rfl rfl) _).trans rfl) : H28_5 35 0 = (Pc5 35 0)); (first | (clear p_im hb gc1_p gc1_f hbz; omega) | (clear p_im hb gc1_p gc1_f; omega) | (clear p_im hb gc1_p hbz; omega) | (clear p_im hb gc1_f hbz; omega) | (clear p_im gc1_p gc1_f hbz; omega) | (clear hb gc1_p gc1_f hbz; omega) | (clear p_im hb gc1_p; omega) | (clear p_im; omega) | omega))).trans (if_neg (by (first | (clear p_im hb gc1_p gc1_f hbz; omega) | (clear p_im hb gc1_p gc1_f; omega) | (clear p_im hb gc1_p hbz; omega) | (clear p_im hb gc1_f hbz; omega) | (clear p_im gc1_p gc1_f hbz; omega) | (clear hb gc1_p gc1_f hbz; omega) | (clear p_im hb gc1_p; omega) | (clear p_im; omega) | omega))))) (fun j hj => Eq.trans (up_o (by decide)) (i28_1_5 j (by (first | (clear p_im hb gc1_p gc1_f hbz; omega) | (clear p_im hb gc1_p gc1_f; omega) | (clear p_im hb gc1_p hbz; omega) | (clear p_im hb gc1_f hbz; omega) | (clear p_im gc1_p gc1_f hbz; omega) | (clear hb gc1_p gc1_f hbz; omega) | (clear p_im hb gc1_p; omega) | (clear p_im; omega) | omega)))) (show FrM ([], [35, 36]) _ _ from (FrM.a (FrM.c FrM.rf hE28_5 rfl) rfl rfl))))
      · first | (revert r_gc1_f; intro r_gc1_f) | have r_gc1_f := (gc1_f.resolve_right (by (clear p_im hb gc1_p gc1_f hbz; omega))) | have r_gc1_f := (gc1_f.resolve_left (by (clear p_im hb gc1_p gc1_f hbz; omega))) | skip
        first | (revert r_gc1_p; intro r_gc1_p) | have r_gc1_p := (gc1_p.resolve_right (by (clear p_im hb gc1_p gc1_f hbz; omega))) | have r_gc1_p := (gc1_p.resolve_left (by (clear p_im hb gc1_p gc1_f hbz; omega))) | skip
        first | (revert r_p_im; intro r_p_im) | have r_p_im := (p_im.resolve_right (by (clear p_im hb gc1_p gc1_f hbz; omega))) | have r_p_im := (p_im.resolve_left (by (clear p_im hb gc1_p gc1_f hbz; omega))) | skip
        refine g_aload_n dX12_drop_40 rfl ?_
        refine m_g54 rfl dX12_drop_41 ?_
        refine g_iload_n dX12_drop_44 rfl ?_
        refine g_aload_n dX12_drop_45 rfl ?_
        refine m_g54 rfl dX12_drop_46 ?_
        refine g_iload_n dX12_drop_49 rfl ?_
        refine g_iconst dX12_drop_50 ?_
        refine g_iadd dX12_drop_51 ?_
        refine m_l36 (z := (H28_5 36 (x28_2_5 + 1))) dX12_drop_52 ⟨by (first | (clear p_im hb gc1_p gc1_f hbz; omega) | omega), by (first | (clear p_im hb gc1_p gc1_f hbz; omega) | omega)⟩ rfl ?_
        refine m_s36 dX12_drop_53 ⟨by (first | (clear p_im hb gc1_p gc1_f hbz; omega) | omega), by (first | (clear p_im hb gc1_p gc1_f hbz; omega) | omega)⟩ ?_
        have hB26 := ba_36 (z := (H28_5 36 (x28_2_5 + 1))) (k := x28_2_5) hB28_5 ⟨by have q0 := bl_36 (k := (x28_2_5 + 1)) hB28_5; (first | (clear p_im hb gc1_p gc1_f hbz; omega) | omega), by have q0 := bl_36 (k := (x28_2_5 + 1)) hB28_5; (first | (clear p_im hb gc1_p gc1_f hbz; omega) | omega)⟩
        have hC9 : ∀ q : Int, q < x28_2_5 + 1 → (up H28_5 36 x28_2_5 (H28_5 36 (x28_2_5 + 1))) 36 q = if q < a1 then Z 36 q else Z 36 (q + 1) := by
          intro q q1
          by_cases e : q = x28_2_5
          · rw [e, if_neg (by (first | (clear p_im hb gc1_p gc1_f hbz; omega) | (clear p_im hb gc1_p gc1_f; omega) | (clear p_im hb gc1_p hbz; omega) | (clear p_im hb gc1_f hbz; omega) | (clear p_im gc1_p gc1_f hbz; omega) | (clear hb gc1_p gc1_f hbz; omega) | (clear p_im hb gc1_p; omega) | (clear p_im; omega) | omega))]; exact Eq.trans up_same (i28_1_5 _ (by (first | (clear p_im hb gc1_p gc1_f hbz; omega) | (clear p_im hb gc1_p gc1_f; omega) | (clear p_im hb gc1_p hbz; omega) | (clear p_im hb gc1_f hbz; omega) | (clear p_im gc1_p gc1_f hbz; omega) | (clear hb gc1_p gc1_f hbz; omega) | (clear p_im hb gc1_p; omega) | (clear p_im; omega) | omega)))
          · have hj : q ≠ x28_2_5 := by (first | (clear p_im hb gc1_p gc1_f hbz; omega) | (clear p_im hb gc1_p gc1_f; omega) | (clear p_im hb gc1_p hbz; omega) | (clear p_im hb gc1_f hbz; omega) | (clear p_im gc1_p gc1_f hbz; omega) | (clear hb gc1_p gc1_f hbz; omega) | (clear p_im hb gc1_p; omega) | (clear p_im; omega) | omega)
            exact Eq.trans ((up_k hj).trans rfl) (i28_0_5 q (by (first | (clear p_im hb gc1_p gc1_f hbz hj; omega) | (clear p_im hb gc1_p gc1_f hbz; omega) | (clear p_im hb gc1_p gc1_f hj; omega) | (clear p_im hb gc1_p hbz hj; omega) | (clear p_im hb gc1_f hbz hj; omega) | (clear p_im gc1_p gc1_f hbz hj; omega) | (clear hb gc1_p gc1_f hbz hj; omega) | (clear p_im hb gc1_p gc1_f; omega) | (clear hb p_im; omega) | omega)))
        have hD9 : ∀ q : Int, x28_2_5 + 1 ≤ q → (up H28_5 36 x28_2_5 (H28_5 36 (x28_2_5 + 1))) 36 q = Z 36 q := by
          intro q q1
          have hj : q ≠ x28_2_5 := by (first | (clear p_im hb gc1_p gc1_f hbz; omega) | (clear p_im hb gc1_p gc1_f; omega) | (clear p_im hb gc1_p hbz; omega) | (clear p_im hb gc1_f hbz; omega) | (clear p_im gc1_p gc1_f hbz; omega) | (clear hb gc1_p gc1_f hbz; omega) | (clear p_im hb gc1_p; omega) | (clear p_im; omega) | omega)
          exact Eq.trans ((up_k hj).trans rfl) (i28_1_5 q (by (first | (clear p_im hb gc1_p gc1_f hbz hj; omega) | (clear p_im hb gc1_p gc1_f hbz; omega) | (clear p_im hb gc1_p gc1_f hj; omega) | (clear p_im hb gc1_p hbz hj; omega) | (clear p_im hb gc1_f hbz hj; omega) | (clear p_im gc1_p gc1_f hbz hj; omega) | (clear hb gc1_p gc1_f hbz hj; omega) | (clear p_im hb gc1_p gc1_f; omega) | (clear hb p_im; omega) | omega)))
        refine g_iinc (l1 := [(2, vI (x28_2_5 + 1)), (0, vR 0)]) dX12_drop_54 rfl (by decide) rfl ?_
        refine g_goto (tgt := 28) dX12_drop_57 (by decide) ?_
        refine g_forget (l1 := [(0, vR 0), (2, vI (x28_2_5 + 1))]) (by intro q hq; simp only [List.mem_cons, List.not_mem_nil, or_false] at hq ⊢; rcases hq with rfl | rfl <;> simp) ?_
        exact ih28_5 (x28_2_5 + 1) ⟨by (first | (clear p_im hb gc1_p gc1_f hbz; omega) | omega), by (first | (clear p_im hb gc1_p gc1_f hbz; omega) | omega)⟩ _ hB26 (FrM.a (FrM.c FrM.rf hE28_5 rfl) rfl rfl) (by first | exact hC9 | (intro q q1; rw [if_pos q1, hZ])) (by first | exact hD9 | (intro q q1; rw [hZ])) (by (first | (clear p_im hb gc1_p gc1_f hbz; omega) | (clear p_im hb gc1_p gc1_f; omega) | (clear p_im hb gc1_p hbz; omega) | (clear p_im hb gc1_f hbz; omega) | (clear p_im gc1_p gc1_f hbz; omega) | (clear hb gc1_p gc1_f hbz; omega) | (clear p_im hb gc1_p; omega) | (clear p_im; omega) | omega)) (by (first | (clear p_im hb gc1_p gc1_f hbz; omega) | (clear p_im hb gc1_p gc1_f; omega) | (clear p_im hb gc1_p hbz; omega) | (clear p_im hb gc1_f hbz; omega) | (clear p_im gc1_p gc1_f hbz; omega) | (clear hb gc1_p gc1_f hbz; omega) | (clear p_im hb gc1_p; omega) | (clear p_im; omega) | omega))
    refine g_forget (l1 := [(0, vR 0), (2, vI a1)]) (by intro q hq; simp only [List.mem_cons, List.not_mem_nil, or_false] at hq ⊢; rcases hq with rfl | rfl <;> simp) ?_
    exact L28_5 _ a1 ⟨by (first | (clear p_im hb gc1_p gc1_f hbz; omega) | omega), by (first | (clear p_im hb gc1_p gc1_f hbz; omega) | omega)⟩ _ hBc5 FrM.rf (by first | exact hC9 | (intro q q1; rw [if_pos q1, hZ])) (by first | exact hD9 | (intro q q1; rw [hZ])) (by (first | (clear p_im hb gc1_p gc1_f hbz; omega) | (clear p_im hb gc1_p gc1_f; omega) | (clear p_im hb gc1_p hbz; omega) | (clear p_im hb gc1_f hbz; omega) | (clear p_im gc1_p gc1_f hbz; omega) | (clear hb gc1_p gc1_f hbz; omega) | (clear p_im hb gc1_p; omega) | (clear p_im; omega) | omega)) (Nat.lt_succ_self _)
  · first | (revert r_gc1_f; intro r_gc1_f) | have r_gc1_f := (gc1_f.resolve_right (by (clear p_im hb gc1_p gc1_f k4; omega))) | have r_gc1_f := (gc1_f.resolve_left (by (clear p_im hb gc1_p gc1_f k4; omega))) | skip
    first | (revert r_gc1_p; intro r_gc1_p) | have r_gc1_p := (gc1_p.resolve_right (by (clear p_im hb gc1_p gc1_f k4; omega))) | have r_gc1_p := (gc1_p.resolve_left (by (clear p_im hb gc1_p gc1_f k4; omega))) | skip
    first | (revert r_p_im; intro r_p_im) | have r_p_im := (p_im.resolve_right (by (clear p_im hb gc1_p gc1_f k4; omega))) | have r_p_im := (p_im.resolve_left (by (clear p_im hb gc1_p gc1_f k4; omega))) | skip
    refine g_aload_n dX12_drop_8 rfl ?_
    refine g_iconst dX12_drop_9 ?_
    refine g_vI (av := [vI 3]) (o := 0) (st := []) (m_X12_refuses G P 3 (by decide) hB  _ (fun rc27 hc27 Pc27 hBc27 hFc27 => ⟨rc27, rfl, ?_⟩)) cf_X12_refuses t_1667 rfl (by decide) rfl rfl rfl (Nat.le_of_ble_eq_true rfl) (by decide) rfl dX12_drop_10
    refine g_if_lt (tgt := 20) dX12_drop_13 (by decide) ⟨by (first | (clear p_im hb gc1_p gc1_f k4; omega) | omega), by (first | (clear p_im hb gc1_p gc1_f k4; omega) | omega)⟩ (fun k28 => ?_) (fun k28 => by exfalso; (first | (clear p_im hb gc1_p gc1_f k4; omega) | (clear p_im hb gc1_p gc1_f; omega) | (clear p_im hb gc1_p k4; omega) | (clear p_im hb gc1_f k4; omega) | (clear p_im gc1_p gc1_f k4; omega) | (clear hb gc1_p gc1_f k4; omega) | (clear p_im hb gc1_p; omega) | (clear p_im; omega) | omega))
    first | (revert r_gc1_f; intro r_gc1_f) | have r_gc1_f := (gc1_f.resolve_right (by (clear p_im hb gc1_p gc1_f k4; omega))) | have r_gc1_f := (gc1_f.resolve_left (by (clear p_im hb gc1_p gc1_f k4; omega))) | skip
    first | (revert r_gc1_p; intro r_gc1_p) | have r_gc1_p := (gc1_p.resolve_right (by (clear p_im hb gc1_p gc1_f k4; omega))) | have r_gc1_p := (gc1_p.resolve_left (by (clear p_im hb gc1_p gc1_f k4; omega))) | skip
    first | (revert r_p_im; intro r_p_im) | have r_p_im := (p_im.resolve_right (by (clear p_im hb gc1_p gc1_f k4; omega))) | have r_p_im := (p_im.resolve_left (by (clear p_im hb gc1_p gc1_f k4; omega))) | skip
    refine g_iconst dX12_drop_20 ?_
    exact g_retZ dX12_drop_21 rfl (by decide) (hQ 0 (by decide) _ hBc27 (FrM.c FrM.rf hFc27 rfl) (by (first | (clear p_im hb gc1_p gc1_f k4; omega) | (clear p_im hb gc1_p gc1_f; omega) | (clear p_im hb gc1_p k4; omega) | (clear p_im hb gc1_f k4; omega) | (clear p_im gc1_p gc1_f k4; omega) | (clear hb gc1_p gc1_f k4; omega) | (clear p_im hb gc1_p; omega) | (clear p_im; omega) | omega)) (by rw [aDrop_n (by (first | (clear p_im hb gc1_p gc1_f k4; omega) | (clear p_im hb gc1_p gc1_f; omega) | (clear p_im hb gc1_p k4; omega) | (clear p_im hb gc1_f k4; omega) | (clear p_im gc1_p gc1_f k4; omega) | (clear hb gc1_p gc1_f k4; omega) | (clear p_im hb gc1_p; omega) | (clear p_im; omega) | omega))]; exact (AM.fr (F := ([], [28])) z0 (FrM.c FrM.rf hFc27 rfl) rfl)))
/-! What the reference answers: X12_run. -/
set_option maxRecDepth 100000 in
set_option maxHeartbeats 4000000 in
theorem f_X12_run (G : GT) (P : PH) (A : PH) (k : Int) (M : PH) (a1 : Int) (h_a1 : (-2147483648) ≤ a1 ∧ a1 ≤ 2147483647) (hB : BdM P) (p_st : P 0 74 ≤ 199999999) (p_wa : WA k A) (v_okC : okC P) (v_MVw : MVw P) (v_RE : RE P) (z0 : AM A P) (z1 : MH M P) (z2 : MR M P) (Q : Option PV → PH → Prop) (hQ : ∀ (r : Int) (_ : (-2147483648) ≤ r ∧ r ≤ 2147483647) (P1 : PH) (_ : BdM P1) (_ : FrM ([59, 60, 62, 66, 74, 76, 78], [28, 35, 36, 37, 38, 39, 40, 41, 42, 43, 44, 49, 50]) P P1) (_ : P1 0 74 ≤ P 0 74 + 1) (_ : MVw P1) (_ : RE P1) (_ : AM (aRun A M a1) P1), Q (some (vI r)) P1) : Ct WSM G 6 iX12_run [vR 0, vI a1] P Q := by
  refine Ct.of (by decide) (l0 := [(0, vR 0), (1, vI a1)]) rfl (Nat.le_of_ble_eq_true rfl) ?_
  have hp3 := aPush_0 A 3 (by decide)
  refine g_aload_n dX12_run_0 rfl ?_
  refine g_iload_n dX12_run_1 rfl ?_
  refine g_vI (av := [vI a1]) (o := 0) (st := []) (f_X12_isRow G P (M) a1 ⟨by omega, by omega⟩ hB (z1) (z2) _ (fun rc1 hc1 gc1_p gc1_f => ⟨rc1, rfl, ?_⟩)) cf_X12_isRow t_1946 rfl (by decide) rfl rfl rfl (Nat.le_of_ble_eq_true rfl) (by decide) rfl dX12_run_2
  have f2 := b0_44 hB
  have f3 := b0_52 hB
  refine g_if_ne (tgt := 14) dX12_run_5 (by decide) ⟨by (first | (clear gc1_p gc1_f; omega) | omega), by (first | (clear gc1_p gc1_f; omega) | omega)⟩ (fun k4 => ?_) (fun k4 => ?_)
  · have k4n : 1 ≤ rc1 := by (first | (clear gc1_p gc1_f k4; omega) | (clear gc1_p gc1_f; omega) | (clear gc1_p k4; omega) | (clear gc1_f k4; omega) | (clear gc1_p; omega) | omega)
    clear k4
    first | (revert r_gc1_f; intro r_gc1_f) | have r_gc1_f := (gc1_f.resolve_right (by (clear gc1_p gc1_f; omega))) | have r_gc1_f := (gc1_f.resolve_left (by (clear gc1_p gc1_f; omega))) | skip
    first | (revert r_gc1_p; intro r_gc1_p) | have r_gc1_p := (gc1_p.resolve_right (by (clear gc1_p gc1_f; omega))) | have r_gc1_p := (gc1_p.resolve_left (by (clear gc1_p gc1_f; omega))) | skip
    refine g_aload_n dX12_run_14 rfl ?_
    refine g_vV (av := []) (o := 0) (st := []) (f_X12_keeps G P (A) (k)  hB p_wa (z0) _ (fun Pc5 hBc5 hFc5 gc5_o ec5_0 => ⟨rfl, ?_⟩)) cf_X12_keeps t_2132 rfl (by decide) rfl rfl rfl (Nat.le_of_ble_eq_true rfl) (by decide) rfl dX12_run_15
    refine g_aload_n dX12_run_18 rfl ?_
    refine g_iload_n dX12_run_19 rfl ?_
    refine g_vI (av := [vI a1]) (o := 0) (st := []) (f_X12_runs G Pc5 (aPush A) a1 ⟨by (first | (clear gc1_p gc1_f; omega) | omega), by (first | (clear gc1_p gc1_f; omega) | omega)⟩ hBc5 (by have q0 := (((hFc5.1 74 rfl).trans rfl) : Pc5 0 74 = (P 0 74)); have q1 := b0_74 hB; (first | (clear gc1_p gc1_f; omega) | (clear gc1_p; omega) | (clear gc1_f; omega) | omega)) (okC.fr (F := ([59, 60], [35, 36, 37, 38, 39, 40])) v_okC (FrM.c FrM.rf hFc5 rfl) rfl) (MVw.fr (F := ([59, 60], [35, 36, 37, 38, 39, 40])) v_MVw (FrM.c FrM.rf hFc5 rfl) rfl) (RE.fr (F := ([59, 60], [35, 36, 37, 38, 39, 40])) v_RE (FrM.c FrM.rf hFc5 rfl) rfl) (ec5_0) _ (fun rc6 hc6 Pc6 hBc6 hFc6 gc6_st vc6_MVw vc6_RE ec6_0 => ⟨rc6, rfl, ?_⟩)) cf_X12_runs t_2136 rfl (by decide) rfl rfl rfl (Nat.le_of_ble_eq_true rfl) (by decide) rfl dX12_run_20
    have z7 : Pc5 0 74 = (P 0 74) := ((hFc5.1 74 rfl).trans rfl)
    exact g_retI dX12_run_23 rfl (hQ rc6 ⟨by (first | (clear gc1_p gc1_f; omega) | omega), by (first | (clear gc1_p gc1_f; omega) | omega)⟩ _ hBc6 (FrM.c (FrM.c FrM.rf hFc5 rfl) hFc6 rfl) (by have q0 := b0_74 hBc6; (first | (clear gc1_p gc1_f; omega) | (clear gc1_p; omega) | (clear gc1_f; omega) | omega)) vc6_MVw vc6_RE (by rw [aRun_y ⟨by (first | (clear gc1_p gc1_f; omega) | (clear gc1_p; omega) | (clear gc1_f; omega) | omega), by (first | (clear gc1_p gc1_f; omega) | (clear gc1_p; omega) | (clear gc1_f; omega) | omega), by (first | (clear gc1_p gc1_f; omega) | (clear gc1_p; omega) | (clear gc1_f; omega) | omega)⟩, ← hp3]; exact ec6_0))
  · first | (revert r_gc1_f; intro r_gc1_f) | have r_gc1_f := (gc1_f.resolve_right (by (clear gc1_p gc1_f k4; omega))) | have r_gc1_f := (gc1_f.resolve_left (by (clear gc1_p gc1_f k4; omega))) | skip
    first | (revert r_gc1_p; intro r_gc1_p) | have r_gc1_p := (gc1_p.resolve_right (by (clear gc1_p gc1_f k4; omega))) | have r_gc1_p := (gc1_p.resolve_left (by (clear gc1_p gc1_f k4; omega))) | skip
    refine g_aload_n dX12_run_8 rfl ?_
    refine g_iconst dX12_run_9 ?_
    refine g_vI (av := [vI 2]) (o := 0) (st := []) (m_X12_refuses G P 2 (by decide) hB  _ (fun rc8 hc8 Pc8 hBc8 hFc8 => ⟨rc8, rfl, ?_⟩)) cf_X12_refuses t_1667 rfl (by decide) rfl rfl rfl (Nat.le_of_ble_eq_true rfl) (by decide) rfl dX12_run_10
    exact g_retI dX12_run_13 rfl (hQ rc8 ⟨by (first | (clear gc1_p gc1_f k4; omega) | omega), by (first | (clear gc1_p gc1_f k4; omega) | omega)⟩ _ hBc8 (FrM.c FrM.rf hFc8 rfl) (by have q0 := (((hFc8.1 74 rfl).trans rfl) : Pc8 0 74 = (P 0 74)); have q1 := b0_74 hB; (first | (clear gc1_p gc1_f k4; omega) | (clear gc1_p gc1_f; omega) | (clear gc1_p k4; omega) | (clear gc1_f k4; omega) | (clear gc1_p; omega) | omega)) (MVw.fr (F := ([], [28])) v_MVw (FrM.c FrM.rf hFc8 rfl) rfl) (RE.fr (F := ([], [28])) v_RE (FrM.c FrM.rf hFc8 rfl) rfl) (by rw [aRun_n (by (first | (clear gc1_p gc1_f k4; omega) | (clear gc1_p gc1_f; omega) | (clear gc1_p k4; omega) | (clear gc1_f k4; omega) | (clear gc1_p; omega) | omega))]; exact (AM.fr (F := ([], [28])) z0 (FrM.c FrM.rf hFc8 rfl) rfl)))
/-! What the reference answers: X12_swap. -/
set_option maxRecDepth 100000 in
set_option maxHeartbeats 4000000 in
theorem f_X12_swap (G : GT) (P : PH) (A : PH) (k : Int) (a1 : Int) (a2 : Int) (h_a1 : (-2147483648) ≤ a1 ∧ a1 ≤ 2147483647) (h_a2 : (-2147483648) ≤ a2 ∧ a2 ≤ 2147483647) (hB : BdM P) (p_im : P 0 44 = 1 ∨ A 0 0 ≤ 0) (p_wa : WA k A) (z0 : AM A P) (Q : Option PV → PH → Prop) (hQ : ∀ (r : Int) (_ : 0 ≤ r ∧ r ≤ 1) (P1 : PH) (_ : BdM P1) (_ : FrM ([59, 60], [28, 35, 36, 37, 38, 39, 40]) P P1) (_ : (r = 1 ∧ 0 ≤ a1 ∧ a1 < A 0 0 ∧ 0 ≤ a2 ∧ a2 < A 0 0 ∧ a1 ≠ a2) ∨ (r = 0 ∧ (a1 < 0 ∨ A 0 0 ≤ a1 ∨ a2 < 0 ∨ A 0 0 ≤ a2 ∨ a1 = a2))) (_ : AM (aSwap A a1 a2) P1), Q (some (vI r)) P1) : Ct WSM G 3 iX12_swap [vR 0, vI a1, vI a2] P Q := by
  refine Ct.of (by decide) (l0 := [(0, vR 0), (1, vI a1), (2, vI a2)]) rfl (Nat.le_of_ble_eq_true rfl) ?_
  have hb := z0.b
  have q59 := b0_59 hB
  have hw1 := p_wa.1
  refine g_aload_n dX12_swap_0 rfl ?_
  refine g_iload_n dX12_swap_1 rfl ?_
  refine g_vI (av := [vI a1]) (o := 0) (st := []) (f_X12_isPlace G P (A) a1 ⟨by (clear p_im hb; omega), by (clear p_im hb; omega)⟩ hB (by have q0 := b0_44 hB; (clear hb; omega)) (z0) _ (fun rc1 hc1 gc1_p gc1_f => ⟨rc1, rfl, ?_⟩)) cf_X12_isPlace t_1883 rfl (by decide) rfl rfl rfl (Nat.le_of_ble_eq_true rfl) (by decide) rfl dX12_swap_2
  have f2 := b0_44 hB
  have f3 := bl_35 (k := 0) hB
  refine g_if_eq (tgt := 21) dX12_swap_5 (by decide) ⟨by (clear p_im hb gc1_p gc1_f; omega), by (clear p_im hb gc1_p gc1_f; omega)⟩ (fun k4 => ?_) (fun k4 => ?_)
  · skip
    skip
    skip
    refine g_aload_n dX12_swap_21 rfl ?_
    refine g_iconst dX12_swap_22 ?_
    refine g_vI (av := [vI 3]) (o := 0) (st := []) (m_X12_refuses G P 3 (by decide) hB  _ (fun rc5 hc5 Pc5 hBc5 hFc5 => ⟨rc5, rfl, ?_⟩)) cf_X12_refuses t_1667 rfl (by decide) rfl rfl rfl (Nat.le_of_ble_eq_true rfl) (by decide) rfl dX12_swap_23
    refine g_if_lt (tgt := 33) dX12_swap_26 (by decide) ⟨by (clear p_im hb gc1_p gc1_f k4; omega), by (clear p_im hb gc1_p gc1_f k4; omega)⟩ (fun k6 => ?_) (fun k6 => by exfalso; (clear p_im hb gc1_p gc1_f k4; omega))
    skip
    skip
    skip
    refine g_iconst dX12_swap_33 ?_
    exact g_retZ dX12_swap_34 rfl (by decide) (hQ 0 (by decide) _ hBc5 (FrM.c FrM.rf hFc5 rfl) (by (clear hb p_im; omega)) (by rw [aSwap_n (by (clear hb p_im; omega))]; exact (AM.fr (F := ([], [28])) z0 (FrM.c FrM.rf hFc5 rfl) rfl)))
  · have k4n : 1 ≤ rc1 := by (clear p_im hb gc1_p gc1_f; omega)
    clear k4
    have r_gc1_f := (gc1_f.resolve_right (by (clear p_im hb gc1_p gc1_f; omega)))
    have r_gc1_p := (gc1_p.resolve_left (by (clear p_im hb gc1_p gc1_f; omega)))
    have r_p_im := (p_im.resolve_right (by (clear p_im hb gc1_p gc1_f; omega)))
    refine g_aload_n dX12_swap_8 rfl ?_
    refine g_iload_n dX12_swap_9 rfl ?_
    refine g_vI (av := [vI a2]) (o := 0) (st := []) (f_X12_isPlace G P (A) a2 ⟨by (clear p_im hb gc1_p gc1_f; omega), by (clear p_im hb gc1_p gc1_f; omega)⟩ hB (by have q0 := b0_44 hB; (clear p_im hb gc1_p gc1_f; omega)) (z0) _ (fun rc7 hc7 gc7_p gc7_f => ⟨rc7, rfl, ?_⟩)) cf_X12_isPlace t_1883 rfl (by decide) rfl rfl rfl (Nat.le_of_ble_eq_true rfl) (by decide) rfl dX12_swap_10
    refine g_if_eq (tgt := 21) dX12_swap_13 (by decide) ⟨by (clear p_im hb gc1_p gc1_f gc7_p gc7_f; omega), by (clear p_im hb gc1_p gc1_f gc7_p gc7_f; omega)⟩ (fun k8 => ?_) (fun k8 => ?_)
    · skip
      skip
      skip
      skip
      skip
      refine g_aload_n dX12_swap_21 rfl ?_
      refine g_iconst dX12_swap_22 ?_
      refine g_vI (av := [vI 3]) (o := 0) (st := []) (m_X12_refuses G P 3 (by decide) hB  _ (fun rc9 hc9 Pc9 hBc9 hFc9 => ⟨rc9, rfl, ?_⟩)) cf_X12_refuses t_1667 rfl (by decide) rfl rfl rfl (Nat.le_of_ble_eq_true rfl) (by decide) rfl dX12_swap_23
      refine g_if_lt (tgt := 33) dX12_swap_26 (by decide) ⟨by (clear p_im hb gc1_p gc1_f gc7_p gc7_f k8; omega), by (clear p_im hb gc1_p gc1_f gc7_p gc7_f k8; omega)⟩ (fun k10 => ?_) (fun k10 => by exfalso; (clear p_im hb gc1_p gc1_f gc7_p gc7_f k8; omega))
      skip
      skip
      skip
      skip
      skip
      refine g_iconst dX12_swap_33 ?_
      exact g_retZ dX12_swap_34 rfl (by decide) (hQ 0 (by decide) _ hBc9 (FrM.c FrM.rf hFc9 rfl) (by (clear gc1_f gc1_p hb p_im; omega)) (by rw [aSwap_n (by (clear gc1_f gc1_p hb p_im; omega))]; exact (AM.fr (F := ([], [28])) z0 (FrM.c FrM.rf hFc9 rfl) rfl)))
    · have k8n : 1 ≤ rc7 := by (clear p_im hb gc1_p gc1_f gc7_p gc7_f; omega)
      clear k8
      have r_gc7_f := (gc7_f.resolve_right (by (clear p_im hb gc1_p gc1_f gc7_p gc7_f; omega)))
      have r_gc7_p := (gc7_p.resolve_left (by (clear p_im hb gc1_p gc1_f gc7_p gc7_f; omega)))
      skip
      skip
      skip
      refine g_iload_n dX12_swap_16 rfl ?_
      refine g_iload_n dX12_swap_17 rfl ?_
      refine g_icmp_ne (tgt := 35) dX12_swap_18 (by decide) ⟨by (clear p_im hb gc1_p gc1_f gc7_p gc7_f; omega), by (clear p_im hb gc1_p gc1_f gc7_p gc7_f; omega)⟩ ⟨by (clear p_im hb gc1_p gc1_f gc7_p gc7_f; omega), by (clear p_im hb gc1_p gc1_f gc7_p gc7_f; omega)⟩ (fun k11 => ?_) (fun k11 => ?_)
      · skip
        skip
        skip
        skip
        skip
        refine g_aload_n dX12_swap_35 rfl ?_
        refine g_vV (av := []) (o := 0) (st := []) (f_X12_keeps G P (A) (k)  hB p_wa (z0) _ (fun Pc12 hBc12 hFc12 gc12_o ec12_0 => ⟨rfl, ?_⟩)) cf_X12_keeps t_2132 rfl (by decide) rfl rfl rfl (Nat.le_of_ble_eq_true rfl) (by decide) rfl dX12_swap_36
        refine g_aload_n dX12_swap_39 rfl ?_
        refine g_iconst dX12_swap_40 ?_
        refine g_iload_n dX12_swap_41 rfl ?_
        refine g_iload_n dX12_swap_42 rfl ?_
        have hpu := ec12_0
        have hbk := hBc12
        refine g_vV (av := [vI 0, vI a1, vI a2]) (o := 0) (st := []) (f_X12_exchanges G Pc12 0 a1 a2 (by decide) ⟨by (clear p_im hb gc1_p gc1_f gc7_p gc7_f k11; omega), by (clear p_im hb gc1_p gc1_f gc7_p gc7_f k11; omega)⟩ ⟨by (clear p_im hb gc1_p gc1_f gc7_p gc7_f k11; omega), by (clear p_im hb gc1_p gc1_f gc7_p gc7_f k11; omega)⟩ hBc12  _ (fun Pc13 hBc13 hFc13 gc13_x1 gc13_x2 gc13_xo => ⟨rfl, ?_⟩)) cf_X12_exchanges t_2103 rfl (by decide) rfl rfl rfl (Nat.le_of_ble_eq_true rfl) (by decide) rfl dX12_swap_43
        have hsw9 := AM.sw hpu p_wa (b0_59 hbk) ⟨⟨by (clear p_im hb gc1_p gc1_f gc7_p gc7_f k11; omega), by (clear p_im hb gc1_p gc1_f gc7_p gc7_f k11; omega)⟩, ⟨by (clear p_im hb gc1_p gc1_f gc7_p gc7_f k11; omega), by (clear p_im hb gc1_p gc1_f gc7_p gc7_f k11; omega)⟩, by (clear p_im hb gc1_p gc1_f gc7_p gc7_f; omega)⟩ gc13_x1 gc13_x2 gc13_xo hFc13
        refine g_iconst dX12_swap_46 ?_
        exact g_retZ dX12_swap_47 rfl (by decide) (hQ 1 (by decide) _ hBc13 (FrM.c (FrM.c FrM.rf hFc12 rfl) hFc13 rfl) (by (clear p_im hb gc1_p gc1_f gc7_p gc7_f; omega)) (hsw9))
      · skip
        skip
        skip
        skip
        skip
        refine g_aload_n dX12_swap_21 rfl ?_
        refine g_iconst dX12_swap_22 ?_
        refine g_vI (av := [vI 3]) (o := 0) (st := []) (m_X12_refuses G P 3 (by decide) hB  _ (fun rc14 hc14 Pc14 hBc14 hFc14 => ⟨rc14, rfl, ?_⟩)) cf_X12_refuses t_1667 rfl (by decide) rfl rfl rfl (Nat.le_of_ble_eq_true rfl) (by decide) rfl dX12_swap_23
        refine g_if_lt (tgt := 33) dX12_swap_26 (by decide) ⟨by (clear p_im hb gc1_p gc1_f gc7_p gc7_f k11; omega), by (clear p_im hb gc1_p gc1_f gc7_p gc7_f k11; omega)⟩ (fun k15 => ?_) (fun k15 => by exfalso; (clear p_im hb gc1_p gc1_f gc7_p gc7_f k11; omega))
        skip
        skip
        skip
        skip
        skip
        refine g_iconst dX12_swap_33 ?_
        exact g_retZ dX12_swap_34 rfl (by decide) (hQ 0 (by decide) _ hBc14 (FrM.c FrM.rf hFc14 rfl) (by (clear p_im hb gc1_p gc1_f gc7_p gc7_f k15; omega)) (by rw [aSwap_n (by (clear p_im hb gc1_p gc1_f gc7_p gc7_f k15; omega))]; exact (AM.fr (F := ([], [28])) z0 (FrM.c FrM.rf hFc14 rfl) rfl)))
/-! What the reference answers: X12_turn. -/
set_option maxRecDepth 100000 in
set_option maxHeartbeats 4000000 in
theorem f_X12_turn (G : GT) (P : PH) (A : PH) (k : Int) (M : PH) (a1 : Int) (h_a1 : (-2147483648) ≤ a1 ∧ a1 ≤ 2147483647) (hB : BdM P) (p_wa : WA k A) (z0 : AM A P) (z1 : MH M P) (Q : Option PV → PH → Prop) (hQ : ∀ (r : Int) (_ : (-2147483648) ≤ r ∧ r ≤ 2147483647) (P1 : PH) (_ : BdM P1) (_ : FrM ([59, 60], [28, 35, 36, 37, 38, 39, 40]) P P1) (_ : (r = -1 ∧ (M 0 0 ≤ 0 ∨ a1 < 0 ∨ 7 < a1)) ∨ (r = iand (ishr (ixor (A 0 1) (ishl 1 a1)) a1) 1 ∧ 0 < M 0 0 ∧ 0 ≤ a1 ∧ a1 ≤ 7)) (_ : AM (aTurn A M a1) P1), Q (some (vI r)) P1) : Ct WSM G 3 iX12_turn [vR 0, vI a1] P Q := by
  refine Ct.of (by decide) (l0 := [(0, vR 0), (1, vI a1)]) rfl (Nat.le_of_ble_eq_true rfl) ?_
  have hb := z0.b
  have q59 := b0_59 hB
  have hw1 := p_wa.1
  have hmh := z1
  unfold MH at hmh
  refine g_aload_n dX12_turn_0 rfl ?_
  refine m_g44 (z := (P 0 44)) rfl dX12_turn_1 rfl ?_
  have f1 := b0_44 hB
  refine g_if_eq (tgt := 17) dX12_turn_4 (by decide) ⟨by have q0 := b0_44 hB; (clear hb hmh; omega), by have q0 := b0_44 hB; (clear hb hmh; omega)⟩ (fun k2 => ?_) (fun k2 => ?_)
  · refine g_aload_n dX12_turn_17 rfl ?_
    refine g_iconst dX12_turn_18 ?_
    refine g_vI (av := [vI 3]) (o := 0) (st := []) (m_X12_refuses G P 3 (by decide) hB  _ (fun rc3 hc3 Pc3 hBc3 hFc3 => ⟨rc3, rfl, ?_⟩)) cf_X12_refuses t_1667 rfl (by decide) rfl rfl rfl (Nat.le_of_ble_eq_true rfl) (by decide) rfl dX12_turn_19
    exact g_retI dX12_turn_22 rfl (hQ rc3 ⟨by (clear hb hmh k2; omega), by (clear hb hmh k2; omega)⟩ _ hBc3 (FrM.c FrM.rf hFc3 rfl) (by (clear hb; omega)) (by rw [aTurn_n (by (clear hb; omega))]; exact (AM.fr (F := ([], [28])) z0 (FrM.c FrM.rf hFc3 rfl) rfl)))
  · have k2n : 1 ≤ (P 0 44) := by have q0 := b0_44 hB; (clear hb hmh; omega)
    clear k2
    refine g_iload_n dX12_turn_7 rfl ?_
    refine g_iconst dX12_turn_8 ?_
    refine g_bipush dX12_turn_9 (by decide) ?_
    refine g_sI (av := [vI a1, vI 0, vI 7]) (st := []) (m_X12_is G P a1 0 7 ⟨by (clear hb hmh; omega), by (clear hb hmh; omega)⟩ (by decide) (by decide) hB  _ (fun rc4 hc4 gc4_is => ⟨rc4, rfl, ?_⟩)) cf_X12_is t_1800 rfl (Nat.le_of_ble_eq_true rfl) (by decide) rfl dX12_turn_11
    refine g_if_ne (tgt := 23) dX12_turn_14 (by decide) ⟨by (clear hb hmh gc4_is; omega), by (clear hb hmh gc4_is; omega)⟩ (fun k5 => ?_) (fun k5 => ?_)
    · have k5n : 1 ≤ rc4 := by (clear hb hmh gc4_is; omega)
      clear k5
      have r_gc4_is := (gc4_is.resolve_right (by (clear hb hmh gc4_is; omega)))
      refine g_aload_n dX12_turn_23 rfl ?_
      refine g_vV (av := []) (o := 0) (st := []) (f_X12_keeps G P (A) (k)  hB p_wa (z0) _ (fun Pc6 hBc6 hFc6 gc6_o ec6_0 => ⟨rfl, ?_⟩)) cf_X12_keeps t_2132 rfl (by decide) rfl rfl rfl (Nat.le_of_ble_eq_true rfl) (by decide) rfl dX12_turn_24
      have hpu := ec6_0
      have hbk := hBc6
      have hvk := hpu.b.2.1.trans (aPush_0 A 1 (by decide))
      refine g_aload_n dX12_turn_27 rfl ?_
      refine m_g55 rfl dX12_turn_28 ?_
      refine g_iconst dX12_turn_31 ?_
      refine g_dup2 dX12_turn_32 rfl rfl ?_
      refine m_l37 (z := (Pc6 37 0)) dX12_turn_33 (by decide) rfl ?_
      refine g_iconst dX12_turn_34 ?_
      refine g_iload_n dX12_turn_35 rfl ?_
      refine g_ishl dX12_turn_36 ?_
      refine g_nm (fun b7 e_b7 => ?_)
      have h_b7 : 1 ≤ (ishl 1 a1) ∧ (ishl 1 a1) ≤ 128 := (ishl1 7 (by decide) (y := a1) ⟨by (clear hb hmh gc4_is; omega), by (clear hb hmh gc4_is; omega)⟩).2
      rw [← e_b7] at h_b7
      refine g_ixor dX12_turn_37 ?_
      refine g_nm (fun b8 e_b8 => ?_)
      have h_b8 : 0 ≤ (ixor (Pc6 37 0) b7) ∧ (ixor (Pc6 37 0) b7) < 256 := ixor_b 8 (by decide) (x := (Pc6 37 0)) (y := b7) (show 0 ≤ (Pc6 37 0) ∧ (Pc6 37 0) < 256 from ⟨by have q0 := bl_37 (k := 0) hBc6; (clear hb hmh gc4_is; omega), by have q0 := bl_37 (k := 0) hBc6; (clear hb hmh gc4_is; omega)⟩) (show 0 ≤ b7 ∧ b7 < 256 from ⟨by (clear hb hmh gc4_is; omega), by (clear hb hmh gc4_is; omega)⟩)
      rw [← e_b8] at h_b8
      have hc9 : b8 = ixor (A 0 1) (ishl 1 a1) := by rw [e_b8, e_b7, hvk]
      refine m_s37 dX12_turn_38 (by decide) ?_
      have hB9 := ba_37 (z := b8) (k := 0) hBc6 ⟨by (clear hb hmh gc4_is; omega), by (clear hb hmh gc4_is; omega)⟩
      refine g_aload_n dX12_turn_39 rfl ?_
      refine m_g55 rfl dX12_turn_40 ?_
      refine g_iconst dX12_turn_43 ?_
      refine m_l37 (z := b8) dX12_turn_44 (by decide) up_same ?_
      refine g_iload_n dX12_turn_45 rfl ?_
      refine g_ishr dX12_turn_46 ?_
      refine g_nm (fun b10 e_b10 => ?_)
      have h_b10 := ishr_ir b8 a1
      rw [← e_b10] at h_b10
      refine g_iconst dX12_turn_47 ?_
      refine g_iand dX12_turn_48 ?_
      refine g_nm (fun b11 e_b11 => ?_)
      have h_b11 := iand_r (x := b10) (y := 1) ⟨by (clear hb hmh gc4_is; omega), by (clear hb hmh gc4_is; omega)⟩
      rw [← e_b11] at h_b11
      have hr9 : b11 = iand (ishr (ixor (A 0 1) (ishl 1 a1)) a1) 1 := by rw [e_b11, e_b10, hc9]
      exact g_retI dX12_turn_49 rfl (hQ b11 ⟨by (clear hb hmh gc4_is; omega), by (clear hb hmh gc4_is; omega)⟩ _ hB9 (FrM.a (FrM.c FrM.rf hFc6 rfl) rfl rfl) (by (clear hb gc4_is; omega)) (by rw [aTurn_y ⟨by (clear hb gc4_is; omega), by (clear hb hmh gc4_is; omega), by (clear hb hmh gc4_is; omega)⟩]; exact AM.on hpu p_wa (b0_59 hbk) (Eq.trans up_same hc9) (fun j hj => up_k hj) (FrM.a FrM.rf rfl rfl)))
    · skip
      refine g_aload_n dX12_turn_17 rfl ?_
      refine g_iconst dX12_turn_18 ?_
      refine g_vI (av := [vI 3]) (o := 0) (st := []) (m_X12_refuses G P 3 (by decide) hB  _ (fun rc12 hc12 Pc12 hBc12 hFc12 => ⟨rc12, rfl, ?_⟩)) cf_X12_refuses t_1667 rfl (by decide) rfl rfl rfl (Nat.le_of_ble_eq_true rfl) (by decide) rfl dX12_turn_19
      exact g_retI dX12_turn_22 rfl (hQ rc12 ⟨by (clear hb hmh gc4_is k5; omega), by (clear hb hmh gc4_is k5; omega)⟩ _ hBc12 (FrM.c FrM.rf hFc12 rfl) (by (clear hb hmh; omega)) (by rw [aTurn_n (by (clear hb hmh; omega))]; exact (AM.fr (F := ([], [28])) z0 (FrM.c FrM.rf hFc12 rfl) rfl)))
/-! What the reference answers: X12_undo. -/
set_option maxRecDepth 100000 in
set_option maxHeartbeats 4000000 in
theorem f_X12_undo (G : GT) (P : PH) (A : PH) (k : Int) (hB : BdM P) (p_wa : WA k A) (z0 : AM A P) (Q : Option PV → PH → Prop) (hQ : ∀ (r : Int) (_ : 0 ≤ r ∧ r ≤ 1) (P1 : PH) (_ : BdM P1) (_ : FrM ([60], [28, 35, 36, 37, 38, 39, 40]) P P1) (_ : (A 0 4 ≤ 0 ∧ r = 0) ∨ (0 < A 0 4 ∧ r = 1)) (_ : AM (aUndo A) P1), Q (some (vI r)) P1) : Ct WSM G 2 iX12_undo [vR 0] P Q := by
  refine Ct.of (by decide) (l0 := [(0, vR 0)]) rfl (Nat.le_of_ble_eq_true rfl) ?_
  have hb := z0.b
  have hw4 := p_wa.2.1
  have q59 := b0_59 hB
  refine g_aload_n dX12_undo_0 rfl ?_
  refine m_g60 (z := (P 0 60)) rfl dX12_undo_1 rfl ?_
  have f1 := b0_60 hB
  refine g_if_ne (tgt := 21) dX12_undo_4 (by decide) ⟨by have q0 := b0_60 hB; (clear hb; omega), by have q0 := b0_60 hB; (clear hb; omega)⟩ (fun k2 => ?_) (fun k2 => ?_)
  · have k2n : 1 ≤ (P 0 60) := by have q0 := b0_60 hB; (clear hb; omega)
    clear k2
    refine g_aload_n dX12_undo_21 rfl ?_
    refine g_dup dX12_undo_22 rfl ?_
    refine m_g60 (z := (P 0 60)) rfl dX12_undo_23 rfl ?_
    refine g_iconst dX12_undo_26 ?_
    refine g_isub dX12_undo_27 ?_
    refine m_p60 rfl dX12_undo_28 ?_
    have hB3 := bs_60 (z := ((P 0 60) - 1)) hB ⟨by have q0 := b0_60 hB; (clear hb; omega), by have q0 := b0_60 hB; (clear hb; omega)⟩
    refine g_aload_n dX12_undo_31 rfl ?_
    refine g_iconst dX12_undo_32 ?_
    refine g_aload_n dX12_undo_33 rfl ?_
    refine g_aload_n dX12_undo_34 rfl ?_
    refine m_g60 (z := ((P 0 60) - 1)) rfl dX12_undo_35 up_same ?_
    refine g_vI (av := [vI ((P 0 60) - 1)]) (o := 0) (st := [vI 0, vR 0]) (f_X12_slot G (up P 0 60 ((P 0 60) - 1)) ((P 0 60) - 1) ⟨by have q0 := b0_60 hB; (clear hb; omega), by have q0 := b0_60 hB; (clear hb; omega)⟩ hB3  _ (fun rc4 hc4 gc4_s => ⟨rc4, rfl, ?_⟩)) cf_X12_slot t_1855 rfl (by decide) rfl rfl rfl (Nat.le_of_ble_eq_true rfl) (by decide) rfl dX12_undo_38
    have z5 : (up P 0 60 ((P 0 60) - 1)) 0 59 = (P 0 59) := ((up_k (by decide)).trans rfl)
    have r35 : ∀ j, (up P 0 60 ((P 0 60) - 1)) 35 j = P 35 j := fun j => ((up_o (by decide)).trans rfl)
    have r36 : ∀ j, (up P 0 60 ((P 0 60) - 1)) 36 j = P 36 j := fun j => ((up_o (by decide)).trans rfl)
    have r37 : ∀ j, (up P 0 60 ((P 0 60) - 1)) 37 j = P 37 j := fun j => ((up_o (by decide)).trans rfl)
    have r38 : ∀ j, (up P 0 60 ((P 0 60) - 1)) 38 j = P 38 j := fun j => ((up_o (by decide)).trans rfl)
    have r39 : ∀ j, (up P 0 60 ((P 0 60) - 1)) 39 j = P 39 j := fun j => ((up_o (by decide)).trans rfl)
    refine g_vV (av := [vI 0, vI rc4]) (o := 0) (st := []) (f_X12_copies G (up P 0 60 ((P 0 60) - 1)) 0 rc4 (by decide) ⟨by (clear hb; omega), by (clear hb; omega)⟩ hB3 (by (clear hb; omega)) _ (fun Pc6 hBc6 hFc6 gc6_o gc6_cy => ⟨rfl, ?_⟩)) cf_X12_copies t_1859 rfl (by decide) rfl rfl rfl (Nat.le_of_ble_eq_true rfl) (by decide) rfl dX12_undo_41
    have z7 : (up P 0 60 ((P 0 60) - 1)) 35 0 = (P 35 0) := ((up_o (by decide)).trans rfl)
    have hcy := CY.row gc6_cy r35 r36 r37 r38 r39
    refine g_iconst dX12_undo_44 ?_
    exact g_retZ dX12_undo_45 rfl (by decide) (hQ 1 (by decide) _ hBc6 (FrM.c (FrM.s FrM.rf rfl) hFc6 rfl) (by (clear gc6_o; omega)) (by rw [aUndo_y (by (clear gc6_o; omega))]; exact AM.pop z0 p_wa (by (clear gc6_o; omega)) q59 (by have h59 := (((up_k (by decide)).trans rfl) : (up P 0 60 ((P 0 60) - 1)) 0 59 = (P 0 59)); rw [show 2 + (P 0 59 + (A 0 4 - 1)) % 20 = rc4 by (clear gc6_o; omega)]; exact hcy) ((hFc6.1 59 rfl).trans ((up_k (by decide)).trans rfl)) (by have h60 := (((hFc6.1 60 rfl).trans up_same) : Pc6 0 60 = ((P 0 60) - 1)); (clear gc6_o; omega)) ((hFc6.1 61 rfl).trans ((up_k (by decide)).trans rfl)) ((hFc6.1 92 rfl).trans ((up_k (by decide)).trans rfl))))
  · refine g_aload_n dX12_undo_7 rfl ?_
    refine g_iconst dX12_undo_8 ?_
    refine g_vI (av := [vI 4]) (o := 0) (st := []) (m_X12_refuses G P 4 (by decide) hB  _ (fun rc8 hc8 Pc8 hBc8 hFc8 => ⟨rc8, rfl, ?_⟩)) cf_X12_refuses t_1667 rfl (by decide) rfl rfl rfl (Nat.le_of_ble_eq_true rfl) (by decide) rfl dX12_undo_9
    refine g_if_lt (tgt := 19) dX12_undo_12 (by decide) ⟨by (clear hb k2; omega), by (clear hb k2; omega)⟩ (fun k9 => ?_) (fun k9 => by exfalso; (clear hb k2; omega))
    refine g_iconst dX12_undo_19 ?_
    exact g_retZ dX12_undo_20 rfl (by decide) (hQ 0 (by decide) _ hBc8 (FrM.c FrM.rf hFc8 rfl) (by (omega)) (by rw [aUndo_n (by (omega))]; exact (AM.fr (F := ([], [28])) z0 (FrM.c FrM.rf hFc8 rfl) rfl)))
/-! What the reference answers: X12_values. -/
set_option maxRecDepth 100000 in
set_option maxHeartbeats 4000000 in
theorem f_X12_values (G : GT) (P : PH) (K : PH) (M : PH) (a1 : Int) (h_a1 : (-2147483648) ≤ a1 ∧ a1 ≤ 2147483647) (hB : BdM P) (p_aw : AW K) (z0 : MKB K P) (z1 : MH M P) (Q : Option PV → PH → Prop) (hQ : ∀ (r : Int) (_ : (-1) ≤ r ∧ r ≤ 2006) (_ : r = vls K M a1), Q (some (vI r)) P) : Ct WSM G 2 iX12_values [vR 0, vI a1] P Q := by
  refine Ct.of (by decide) (l0 := [(0, vR 0), (1, vI a1)]) rfl (Nat.le_of_ble_eq_true rfl) ?_
  have hb := z0.b
  have haw := p_aw.1
  have hmh := z1
  unfold MH at hmh
  have hvs := vls_s K M a1
  have hsz := sz_s K a1
  have hk : 0 ≤ a1 → a1 < K 0 0 → P 3 (4 * P 0 13 + a1) = K 2 a1 := fun h h1 => (z0.k h h1).2.1
  refine g_aload_n dX12_values_0 rfl ?_
  refine m_g44 (z := (P 0 44)) rfl dX12_values_1 rfl ?_
  have f1 := b0_44 hB
  refine g_if_eq (tgt := 26) dX12_values_4 (by decide) ⟨by have q0 := b0_44 hB; (clear hb hmh hvs hsz hk; omega), by have q0 := b0_44 hB; (clear hb hmh hvs hsz hk; omega)⟩ (fun k2 => ?_) (fun k2 => ?_)
  · skip
    skip
    refine g_iconst dX12_values_26 ?_
    exact g_retI dX12_values_27 rfl (hQ (-1) (by decide) (by (omega)))
  · have k2n : 1 ≤ (P 0 44) := by have q0 := b0_44 hB; (clear hb hmh hvs hsz hk; omega)
    clear k2
    skip
    skip
    refine g_iload_n dX12_values_7 rfl ?_
    refine g_iconst dX12_values_8 ?_
    refine g_aload_n dX12_values_9 rfl ?_
    refine m_g14 rfl dX12_values_10 ?_
    refine g_aload_n dX12_values_13 rfl ?_
    refine m_g13 (z := (P 0 13)) rfl dX12_values_14 rfl ?_
    refine m_l2 (z := (P 2 (P 0 13))) dX12_values_17 ⟨by have q0 := b0_13 hB; (clear hb hmh hvs hsz hk; omega), by have q0 := b0_13 hB; (clear hb hmh hvs hsz hk; omega)⟩ rfl ?_
    refine g_iconst dX12_values_18 ?_
    refine g_isub dX12_values_19 ?_
    have f3 := bl_2 (k := (P 0 13)) hB
    refine g_sI (av := [vI a1, vI (-1), vI ((P 2 (P 0 13)) - 1)]) (st := []) (m_X12_is G P a1 (-1) ((P 2 (P 0 13)) - 1) ⟨by (clear hb hmh hvs hsz hk; omega), by (clear hb hmh hvs hsz hk; omega)⟩ (by decide) ⟨by have q0 := bl_2 (k := (P 0 13)) hB; (clear hb hmh hvs hsz hk; omega), by have q0 := bl_2 (k := (P 0 13)) hB; (clear hb hmh hvs hsz hk; omega)⟩ hB  _ (fun rc4 hc4 gc4_is => ⟨rc4, rfl, ?_⟩)) cf_X12_is t_1800 rfl (Nat.le_of_ble_eq_true rfl) (by decide) rfl dX12_values_20
    refine g_if_ne (tgt := 28) dX12_values_23 (by decide) ⟨by (clear hb hmh hvs hsz hk gc4_is; omega), by (clear hb hmh hvs hsz hk gc4_is; omega)⟩ (fun k5 => ?_) (fun k5 => ?_)
    · have k5n : 1 ≤ rc4 := by (clear hb hmh hvs hsz hk gc4_is; omega)
      clear k5
      have r_gc4_is := (gc4_is.resolve_right (by (clear hb hmh hvs hsz hk gc4_is; omega)))
      skip
      skip
      refine g_iload_n dX12_values_28 rfl ?_
      refine g_iconst dX12_values_29 ?_
      refine g_icmp_ne (tgt := 38) dX12_values_30 (by decide) ⟨by (clear hb hmh hvs hsz hk gc4_is; omega), by (clear hb hmh hvs hsz hk gc4_is; omega)⟩ (by decide) (fun k6 => ?_) (fun k6 => ?_)
      · have k6n : 0 ≤ a1 := by (clear hb hmh hvs hsz hk gc4_is; omega)
        clear k6
        skip
        have r_hsz := (hsz.resolve_left (by (clear hb hmh hvs hsz hk gc4_is; omega)))
        skip
        refine g_aload_n dX12_values_38 rfl ?_
        refine m_g15 rfl dX12_values_39 ?_
        refine g_iconst dX12_values_42 ?_
        refine g_aload_n dX12_values_43 rfl ?_
        refine m_g13 (z := (P 0 13)) rfl dX12_values_44 rfl ?_
        refine g_imul dX12_values_47 ?_
        refine g_iload_n dX12_values_48 rfl ?_
        refine g_iadd dX12_values_49 ?_
        refine m_l3 (z := (P 3 ((4 * (P 0 13)) + a1))) dX12_values_50 ⟨by have q0 := b0_13 hB; (clear hb hmh hvs hsz hk gc4_is; omega), by have q0 := b0_13 hB; (clear hb hmh hvs hsz hk gc4_is; omega)⟩ rfl ?_
        exact g_retI dX12_values_51 rfl (hQ (P 3 ((4 * (P 0 13)) + a1)) ⟨by have q0 := bl_3 (k := ((4 * (P 0 13)) + a1)) hB; (clear hb hmh hvs hsz hk gc4_is; omega), by have q0 := bl_3 (k := ((4 * (P 0 13)) + a1)) hB; (clear hb hmh hvs hsz hk gc4_is; omega)⟩ (by have q0 := bl_3 (k := ((4 * (P 0 13)) + a1)) hB; (omega)))
      · skip
        skip
        skip
        refine g_bipush dX12_values_33 (by decide) ?_
        refine g_goto (tgt := 51) dX12_values_35 (by decide) ?_
        exact g_retI dX12_values_51 rfl (hQ 20 (by decide) (by (omega)))
    · skip
      skip
      skip
      refine g_iconst dX12_values_26 ?_
      exact g_retI dX12_values_27 rfl (hQ (-1) (by decide) (by (omega)))
