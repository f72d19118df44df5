/-! Contracts of the reference: m2. -/
set_option maxRecDepth 100000 in
set_option maxHeartbeats 4000000 in
theorem m_X12_ahead (G : GT) (P : PH) (hB : BdM P) (Q : Option PV → PH → Prop) (hQ : ∀ (P1 : PH) (_ : BdM P1) (_ : FrM ([3, 4, 5, 6, 7, 12], []) P P1) (_ : (P1 0 3 = 0 ∨ P1 0 4 + 1 ≤ P1 0 5) ∧ P1 0 4 ≤ P1 0 5) (_ : P 0 5 ≤ P1 0 4), Q none P1) : Ct WSM G 2 iX12_ahead [vR 0] P Q := by
  refine Ct.of (by decide) (l0 := [(0, vR 0)]) rfl (Nat.le_of_ble_eq_true rfl) ?_
  refine g_aload_n dX12_ahead_0 rfl ?_
  refine m_g5 (z := (P 0 5)) rfl dX12_ahead_1 rfl ?_
  refine g_istore_n (l1 := [(1, vI (P 0 5)), (0, vR 0)]) dX12_ahead_4 (by decide) rfl ?_
  have L5_0 : ∀ (n5_0 : Nat) (x5_1_0 : Int) (h_x5_1_0 : 0 ≤ x5_1_0 ∧ x5_1_0 ≤ 1600) (i5_0_0 : P 0 5 ≤ x5_1_0) (hm5_0 : ((1601 - x5_1_0)).toNat < n5_0), Go WSM G 2 iX12_ahead 5 [(0, vR 0), (1, vI x5_1_0)] [] P Q := by
    intro n5_0
    induction n5_0 with
    | zero => intro x5_1_0 h_x5_1_0 i5_0_0 hm5_0; exact absurd hm5_0 (Nat.not_lt_zero _)
    | succ n5_0 ih5_0 =>
    intro x5_1_0 h_x5_1_0 i5_0_0 hm5_0
    refine g_iload_n dX12_ahead_5 rfl ?_
    refine g_aload_n dX12_ahead_6 rfl ?_
    refine m_g2 (z := (P 0 2)) rfl dX12_ahead_7 rfl ?_
    have f60275 := b0_2 hB
    have J41_67808 : ∀ (i41_0_67808 : P 0 5 ≤ x5_1_0), Go WSM G 2 iX12_ahead 41 [(0, vR 0), (1, vI x5_1_0)] [] P Q := by
      intro i41_0_67808
      refine g_aload_n dX12_ahead_41 rfl ?_
      refine g_iload_n dX12_ahead_42 rfl ?_
      refine m_p4 rfl dX12_ahead_43 ?_
      have hB67810 := bs_4 (z := x5_1_0) hB ⟨by omega, by omega⟩
      refine g_aload_n dX12_ahead_46 rfl ?_
      refine g_iload_n dX12_ahead_47 rfl ?_
      refine m_p5 rfl dX12_ahead_48 ?_
      have hB67811 := bs_5 (z := x5_1_0) hB67810 ⟨by omega, by omega⟩
      refine g_aload_n dX12_ahead_51 rfl ?_
      refine g_iconst dX12_ahead_52 ?_
      refine m_p3 rfl dX12_ahead_53 ?_
      have hB67812 := bs_3 (z := 0) hB67811 (by decide)
      refine g_aload_n dX12_ahead_56 rfl ?_
      refine g_iconst dX12_ahead_57 ?_
      refine m_p12 rfl dX12_ahead_58 ?_
      have hB67813 := bs_12 (z := (-1)) hB67812 (by decide)
      refine g_iload_n dX12_ahead_61 rfl ?_
      refine g_aload_n dX12_ahead_62 rfl ?_
      refine m_g2 (z := (P 0 2)) rfl dX12_ahead_63 ((up_k (by decide)).trans ((up_k (by decide)).trans ((up_k (by decide)).trans ((up_k (by decide)).trans rfl)))) ?_
      refine g_icmp_lt (tgt := 70) dX12_ahead_66 (by decide) ⟨by omega, by omega⟩ ⟨by have q0 := b0_2 hB; omega, by have q0 := b0_2 hB; omega⟩ (fun k67814 => ?_) (fun k67814 => ?_)
      · refine g_aload_n dX12_ahead_70 rfl ?_
        refine m_g0 rfl dX12_ahead_71 ?_
        refine g_iload_n dX12_ahead_74 rfl ?_
        refine m_l1 (z := (P 1 x5_1_0)) dX12_ahead_75 ⟨by omega, by omega⟩ ((up_o (by decide)).trans ((up_o (by decide)).trans ((up_o (by decide)).trans ((up_o (by decide)).trans rfl)))) ?_
        refine g_sI (av := [vI (P 1 x5_1_0)]) (st := []) (m_X12_isLetter G (up (up (up (up P 0 4 x5_1_0) 0 5 x5_1_0) 0 3 0) 0 12 (-1)) (P 1 x5_1_0) ⟨by have q0 := bl_1 (k := x5_1_0) hB; omega, by have q0 := bl_1 (k := x5_1_0) hB; omega⟩ hB67813  _ (fun rc67815 hc67815 gc67815_i => ⟨rc67815, rfl, ?_⟩)) cf_X12_isLetter t_1687 rfl (Nat.le_of_ble_eq_true rfl) (by decide) rfl dX12_ahead_76
        refine g_istore_n (l1 := [(2, vI rc67815), (0, vR 0), (1, vI x5_1_0)]) dX12_ahead_79 (by decide) rfl ?_
        refine g_aload_n dX12_ahead_80 rfl ?_
        refine m_g0 rfl dX12_ahead_81 ?_
        refine g_iload_n dX12_ahead_84 rfl ?_
        refine m_l1 (z := (P 1 x5_1_0)) dX12_ahead_85 ⟨by omega, by omega⟩ ((up_o (by decide)).trans ((up_o (by decide)).trans ((up_o (by decide)).trans ((up_o (by decide)).trans rfl)))) ?_
        refine g_sI (av := [vI (P 1 x5_1_0)]) (st := []) (m_X12_isDigit G (up (up (up (up P 0 4 x5_1_0) 0 5 x5_1_0) 0 3 0) 0 12 (-1)) (P 1 x5_1_0) ⟨by have q0 := bl_1 (k := x5_1_0) hB; omega, by have q0 := bl_1 (k := x5_1_0) hB; omega⟩ hB67813  _ (fun rc67816 hc67816 gc67816_i => ⟨rc67816, rfl, ?_⟩)) cf_X12_isDigit t_1690 rfl (Nat.le_of_ble_eq_true rfl) (by decide) rfl dX12_ahead_86
        refine g_istore_n (l1 := [(3, vI rc67816), (2, vI rc67815), (0, vR 0), (1, vI x5_1_0)]) dX12_ahead_89 (by decide) rfl ?_
        refine g_iload_n dX12_ahead_90 rfl ?_
        have J135_71575 : ∀ (H135_71575 : PH) (hB135_71575 : BdM H135_71575) (hE135_71575 : FrM ([12], []) (up (up (up (up P 0 4 x5_1_0) 0 5 x5_1_0) 0 3 0) 0 12 (-1)) H135_71575), Go WSM G 2 iX12_ahead 135 [(0, vR 0), (1, vI x5_1_0), (2, vI rc67815), (3, vI rc67816)] [] H135_71575 Q := by
          intro H135_71575 hB135_71575 hE135_71575
          refine g_aload_n dX12_ahead_135 rfl ?_
          refine g_iconst dX12_ahead_136 ?_
          refine m_p6 rfl dX12_ahead_137 ?_
          have hB71577 := bs_6 (z := 0) hB135_71575 (by decide)
          refine g_aload_n dX12_ahead_140 rfl ?_
          refine g_lconst (z := 0) dX12_ahead_141 (by decide) ?_
          refine m_p7 rfl dX12_ahead_142 ?_
          have hB71578 := bs_7 (z := 0) hB71577 (by decide)
          refine g_aload_n dX12_ahead_145 rfl ?_
          refine g_iconst dX12_ahead_146 ?_
          refine m_p3 rfl dX12_ahead_147 ?_
          have hB71579 := bs_3 (z := 3) hB71578 (by decide)
          refine g_aload_n dX12_ahead_150 rfl ?_
          refine g_iload_n dX12_ahead_151 rfl ?_
          refine g_iconst dX12_ahead_152 ?_
          refine g_iadd dX12_ahead_153 ?_
          refine m_p5 rfl dX12_ahead_154 ?_
          have hB71580 := bs_5 (z := (x5_1_0 + 1)) hB71579 ⟨by omega, by omega⟩
          refine g_iload_n dX12_ahead_157 rfl ?_
          have J176_73450 : ∀ (i176_0_73450 : rc67815 ≠ 0 ∨ rc67816 ≠ 0), Go WSM G 2 iX12_ahead 176 [(0, vR 0), (1, vI x5_1_0), (2, vI rc67815), (3, vI rc67816)] [] (up (up (up (up H135_71575 0 6 0) 0 7 0) 0 3 3) 0 5 (x5_1_0 + 1)) Q := by
            intro i176_0_73450
            refine g_aload_n dX12_ahead_176 rfl ?_
            refine g_iload_n dX12_ahead_177 rfl ?_
            refine g_if_eq (tgt := 185) dX12_ahead_178 (by decide) ⟨by omega, by omega⟩ (fun k73452 => ?_) (fun k73452 => ?_)
            · refine g_iconst dX12_ahead_185 ?_
              refine m_p3 rfl dX12_ahead_186 ?_
              have hB73453 := bs_3 (z := 2) hB71580 (by decide)
              refine g_iload_n dX12_ahead_189 rfl ?_
              refine g_if_eq (tgt := 198) dX12_ahead_190 (by decide) ⟨by omega, by omega⟩ (fun k73454 => ?_) (fun k73454 => by exfalso; omega)
              refine g_iconst dX12_ahead_198 ?_
              refine g_istore (l1 := [(4, vI 4), (0, vR 0), (1, vI x5_1_0), (2, vI rc67815), (3, vI rc67816)]) dX12_ahead_199 (by decide) rfl ?_
              refine g_iconst dX12_ahead_201 ?_
              refine g_istore (l1 := [(5, vI 0), (4, vI 4), (0, vR 0), (1, vI x5_1_0), (2, vI rc67815), (3, vI rc67816)]) dX12_ahead_202 (by decide) rfl ?_
              have L204_73454 : ∀ (n204_73454 : Nat) (x204_5_73454 : Int) (h_x204_5_73454 : 0 ≤ x204_5_73454 ∧ x204_5_73454 ≤ 1600) (x204_1_73454 : Int) (h_x204_1_73454 : 0 ≤ x204_1_73454 ∧ x204_1_73454 ≤ 1600) (H204_73454 : PH) (hB204_73454 : BdM H204_73454) (hE204_73454 : FrM ([6, 12], []) (up (up (up (up (up H135_71575 0 6 0) 0 7 0) 0 3 3) 0 5 (x5_1_0 + 1)) 0 3 2) H204_73454) (i204_0_73454 : x5_1_0 ≤ x204_1_73454) (i204_1_73454 : x204_5_73454 ≤ x204_1_73454) (hm204_73454 : ((1601 - x204_5_73454)).toNat < n204_73454), Go WSM G 2 iX12_ahead 204 [(0, vR 0), (1, vI x204_1_73454), (2, vI rc67815), (3, vI rc67816), (4, vI 4), (5, vI x204_5_73454)] [] H204_73454 Q := by
                intro n204_73454
                induction n204_73454 with
                | zero => intro x204_5_73454 h_x204_5_73454 x204_1_73454 h_x204_1_73454 H204_73454 hB204_73454 hE204_73454 i204_0_73454 i204_1_73454 hm204_73454; exact absurd hm204_73454 (Nat.not_lt_zero _)
                | succ n204_73454 ih204_73454 =>
                intro x204_5_73454 h_x204_5_73454 x204_1_73454 h_x204_1_73454 H204_73454 hB204_73454 hE204_73454 i204_0_73454 i204_1_73454 hm204_73454
                refine g_iload_n dX12_ahead_204 rfl ?_
                refine g_aload_n dX12_ahead_205 rfl ?_
                refine m_g2 (z := (P 0 2)) rfl dX12_ahead_206 ((hE204_73454.1 2 rfl).trans ((up_k (by decide)).trans ((up_k (by decide)).trans ((up_k (by decide)).trans ((up_k (by decide)).trans ((up_k (by decide)).trans ((hE135_71575.1 2 rfl).trans ((up_k (by decide)).trans ((up_k (by decide)).trans ((up_k (by decide)).trans ((up_k (by decide)).trans rfl))))))))))) ?_
                refine g_icmp_ge (tgt := 334) dX12_ahead_209 (by decide) ⟨by omega, by omega⟩ ⟨by have q0 := b0_2 hB; omega, by have q0 := b0_2 hB; omega⟩ (fun k74161 => ?_) (fun k74161 => ?_)
                · have hne : x204_1_73454 ≠ x5_1_0 := by intro e; subst e; omega
                  refine g_aload_n dX12_ahead_334 rfl ?_
                  refine g_iload_n dX12_ahead_335 rfl ?_
                  refine m_p5 rfl dX12_ahead_336 ?_
                  have hB74162 := bs_5 (z := x204_1_73454) hB204_73454 ⟨by omega, by omega⟩
                  exact g_retV dX12_ahead_339 rfl (hQ _ hB74162 (FrM.s (FrM.c (FrM.s (FrM.s (FrM.s (FrM.s (FrM.s (FrM.c (FrM.s (FrM.s (FrM.s (FrM.s FrM.rf rfl) rfl) rfl) rfl) hE135_71575 rfl) rfl) rfl) rfl) rfl) rfl) hE204_73454 rfl) rfl) (by have q0 := (((up_k (by decide)).trans ((hE204_73454.1 3 rfl).trans up_same)) : (up H204_73454 0 5 x204_1_73454) 0 3 = 2); have q1 := (((up_k (by decide)).trans ((hE204_73454.1 4 rfl).trans ((up_k (by decide)).trans ((up_k (by decide)).trans ((up_k (by decide)).trans ((up_k (by decide)).trans ((up_k (by decide)).trans ((hE135_71575.1 4 rfl).trans ((up_k (by decide)).trans ((up_k (by decide)).trans ((up_k (by decide)).trans up_same))))))))))) : (up H204_73454 0 5 x204_1_73454) 0 4 = x5_1_0); have q2 := (up_same : (up H204_73454 0 5 x204_1_73454) 0 5 = x204_1_73454); omega) (by have q0 := (up_same : (up H204_73454 0 5 x204_1_73454) 0 5 = x204_1_73454); have q1 := (((up_k (by decide)).trans ((hE204_73454.1 4 rfl).trans ((up_k (by decide)).trans ((up_k (by decide)).trans ((up_k (by decide)).trans ((up_k (by decide)).trans ((up_k (by decide)).trans ((hE135_71575.1 4 rfl).trans ((up_k (by decide)).trans ((up_k (by decide)).trans ((up_k (by decide)).trans up_same))))))))))) : (up H204_73454 0 5 x204_1_73454) 0 4 = x5_1_0); omega))
                · refine g_iload_n dX12_ahead_212 rfl ?_
                  have J243_74237 : ∀ (_ : True), Go WSM G 2 iX12_ahead 243 [(0, vR 0), (1, vI x204_1_73454), (2, vI rc67815), (3, vI rc67816), (4, vI 4), (5, vI x204_5_73454)] [] H204_73454 Q := by
                    intro _
                    refine g_iload dX12_ahead_243 rfl ?_
                    refine g_iload dX12_ahead_245 rfl ?_
                    have J263_74273 : ∀ (H263_74273 : PH) (hB263_74273 : BdM H263_74273) (hE263_74273 : FrM ([12], []) H204_73454 H263_74273), Go WSM G 2 iX12_ahead 263 [(0, vR 0), (1, vI x204_1_73454), (2, vI rc67815), (3, vI rc67816), (4, vI 4), (5, vI x204_5_73454)] [] H263_74273 Q := by
                      intro H263_74273 hB263_74273 hE263_74273
                      refine g_iload dX12_ahead_263 rfl ?_
                      refine g_iload dX12_ahead_265 rfl ?_
                      have J293_74289 : ∀ (_ : True), Go WSM G 2 iX12_ahead 293 [(0, vR 0), (1, vI x204_1_73454), (2, vI rc67815), (3, vI rc67816), (4, vI 4), (5, vI x204_5_73454)] [] H263_74273 Q := by
                        intro _
                        refine g_iload dX12_ahead_293 rfl ?_
                        refine g_iload dX12_ahead_295 rfl ?_
                        have J325_74296 : ∀ (H325_74296 : PH) (hB325_74296 : BdM H325_74296) (hE325_74296 : FrM ([6], []) H263_74273 H325_74296), Go WSM G 2 iX12_ahead 325 [(0, vR 0), (1, vI x204_1_73454), (2, vI rc67815), (3, vI rc67816), (4, vI 4), (5, vI x204_5_73454)] [] H325_74296 Q := by
                          intro H325_74296 hB325_74296 hE325_74296
                          refine g_iinc (l1 := [(5, vI (x204_5_73454 + 1)), (0, vR 0), (1, vI x204_1_73454), (2, vI rc67815), (3, vI rc67816), (4, vI 4)]) dX12_ahead_325 rfl (by decide) rfl ?_
                          refine g_iinc (l1 := [(1, vI (x204_1_73454 + 1)), (5, vI (x204_5_73454 + 1)), (0, vR 0), (2, vI rc67815), (3, vI rc67816), (4, vI 4)]) dX12_ahead_328 rfl (by decide) rfl ?_
                          refine g_goto (tgt := 204) dX12_ahead_331 (by decide) ?_
                          refine g_forget (l1 := [(0, vR 0), (1, vI (x204_1_73454 + 1)), (2, vI rc67815), (3, vI rc67816), (4, vI 4), (5, vI (x204_5_73454 + 1))]) (by intro q hq; simp only [List.mem_cons, List.not_mem_nil, or_false] at hq ⊢; rcases hq with rfl | rfl | rfl | rfl | rfl | rfl <;> simp) ?_
                          exact ih204_73454 (x204_5_73454 + 1) ⟨by have q0 := b0_2 hB; omega, by have q0 := b0_2 hB; omega⟩ (x204_1_73454 + 1) ⟨by have q0 := b0_2 hB; omega, by have q0 := b0_2 hB; omega⟩ _ hB325_74296 (FrM.c (FrM.c (FrM.c FrM.rf hE204_73454 rfl) hE263_74273 rfl) hE325_74296 rfl) (by omega) (by omega) (by omega)
                        refine g_icmp_ge (tgt := 325) dX12_ahead_297 (by decide) ⟨by omega, by omega⟩ (by decide) (fun k74298 => ?_) (fun k74298 => ?_)
                        · refine g_forget (l1 := [(0, vR 0), (1, vI x204_1_73454), (2, vI rc67815), (3, vI rc67816), (4, vI 4), (5, vI x204_5_73454)]) (by intro q hq; simp only [List.mem_cons, List.not_mem_nil, or_false] at hq ⊢; rcases hq with rfl | rfl | rfl | rfl | rfl | rfl <;> simp) ?_
                          exact J325_74296 _ hB263_74273 FrM.rf
                        · refine g_iload_n dX12_ahead_300 rfl ?_
                          refine g_if_eq (tgt := 325) dX12_ahead_301 (by decide) ⟨by omega, by omega⟩ (fun k74299 => ?_) (fun k74299 => ?_)
                          · refine g_forget (l1 := [(0, vR 0), (1, vI x204_1_73454), (2, vI rc67815), (3, vI rc67816), (4, vI 4), (5, vI x204_5_73454)]) (by intro q hq; simp only [List.mem_cons, List.not_mem_nil, or_false] at hq ⊢; rcases hq with rfl | rfl | rfl | rfl | rfl | rfl <;> simp) ?_
                            exact J325_74296 _ hB263_74273 FrM.rf
                          · refine g_aload_n dX12_ahead_304 rfl ?_
                            refine g_bipush dX12_ahead_305 (by decide) ?_
                            refine g_aload_n dX12_ahead_307 rfl ?_
                            refine m_g6 (z := (H204_73454 0 6)) rfl dX12_ahead_308 ((hE263_74273.1 6 rfl).trans rfl) ?_
                            refine g_imul dX12_ahead_311 ?_
                            refine g_norm (fun r74300 h_r74300 e_r74300 => ?_)
                            refine g_aload_n dX12_ahead_312 rfl ?_
                            refine m_g0 rfl dX12_ahead_313 ?_
                            refine g_iload_n dX12_ahead_316 rfl ?_
                            refine m_l1 (z := (P 1 x204_1_73454)) dX12_ahead_317 ⟨by omega, by omega⟩ ((congrFun (hE263_74273.2 1 rfl rfl) _).trans ((congrFun (hE204_73454.2 1 rfl rfl) _).trans ((up_o (by decide)).trans ((up_o (by decide)).trans ((up_o (by decide)).trans ((up_o (by decide)).trans ((up_o (by decide)).trans ((congrFun (hE135_71575.2 1 rfl rfl) _).trans ((up_o (by decide)).trans ((up_o (by decide)).trans ((up_o (by decide)).trans ((up_o (by decide)).trans rfl)))))))))))) ?_
                            refine g_iadd dX12_ahead_318 ?_
                            refine g_norm (fun r74301 h_r74301 e_r74301 => ?_)
                            refine g_bipush dX12_ahead_319 (by decide) ?_
                            refine g_isub dX12_ahead_321 ?_
                            refine g_norm (fun r74302 h_r74302 e_r74302 => ?_)
                            refine m_p6 rfl dX12_ahead_322 ?_
                            have hB74303 := bs_6 (z := r74302) hB263_74273 ⟨by omega, by omega⟩
                            refine g_forget (l1 := [(0, vR 0), (1, vI x204_1_73454), (2, vI rc67815), (3, vI rc67816), (4, vI 4), (5, vI x204_5_73454)]) (by intro q hq; simp only [List.mem_cons, List.not_mem_nil, or_false] at hq ⊢; rcases hq with rfl | rfl | rfl | rfl | rfl | rfl <;> simp) ?_
                            exact J325_74296 _ hB74303 (FrM.s FrM.rf rfl)
                      refine g_icmp_ge (tgt := 293) dX12_ahead_267 (by decide) ⟨by omega, by omega⟩ (by decide) (fun k74304 => ?_) (fun k74304 => ?_)
                      · refine g_forget (l1 := [(0, vR 0), (1, vI x204_1_73454), (2, vI rc67815), (3, vI rc67816), (4, vI 4), (5, vI x204_5_73454)]) (by intro q hq; simp only [List.mem_cons, List.not_mem_nil, or_false] at hq ⊢; rcases hq with rfl | rfl | rfl | rfl | rfl | rfl <;> simp) ?_
                        exact J293_74289 trivial
                      · refine g_iload_n dX12_ahead_270 rfl ?_
                        refine g_if_eq (tgt := 293) dX12_ahead_271 (by decide) ⟨by omega, by omega⟩ (fun k74305 => ?_) (fun k74305 => by exfalso; omega)
                        refine g_forget (l1 := [(0, vR 0), (1, vI x204_1_73454), (2, vI rc67815), (3, vI rc67816), (4, vI 4), (5, vI x204_5_73454)]) (by intro q hq; simp only [List.mem_cons, List.not_mem_nil, or_false] at hq ⊢; rcases hq with rfl | rfl | rfl | rfl | rfl | rfl <;> simp) ?_
                        exact J293_74289 trivial
                    refine g_icmp_ne (tgt := 263) dX12_ahead_247 (by decide) ⟨by omega, by omega⟩ (by decide) (fun k74306 => ?_) (fun k74306 => ?_)
                    · refine g_forget (l1 := [(0, vR 0), (1, vI x204_1_73454), (2, vI rc67815), (3, vI rc67816), (4, vI 4), (5, vI x204_5_73454)]) (by intro q hq; simp only [List.mem_cons, List.not_mem_nil, or_false] at hq ⊢; rcases hq with rfl | rfl | rfl | rfl | rfl | rfl <;> simp) ?_
                      exact J263_74273 _ hB204_73454 FrM.rf
                    · refine g_aload_n dX12_ahead_250 rfl ?_
                      refine m_g12 (z := (H204_73454 0 12)) rfl dX12_ahead_251 rfl ?_
                      refine g_iconst dX12_ahead_254 ?_
                      have f74307 := b0_12 hB204_73454
                      refine g_icmp_ne (tgt := 263) dX12_ahead_255 (by decide) ⟨by have q0 := b0_12 hB204_73454; omega, by have q0 := b0_12 hB204_73454; omega⟩ (by decide) (fun k74308 => ?_) (fun k74308 => ?_)
                      · refine g_forget (l1 := [(0, vR 0), (1, vI x204_1_73454), (2, vI rc67815), (3, vI rc67816), (4, vI 4), (5, vI x204_5_73454)]) (by intro q hq; simp only [List.mem_cons, List.not_mem_nil, or_false] at hq ⊢; rcases hq with rfl | rfl | rfl | rfl | rfl | rfl <;> simp) ?_
                        exact J263_74273 _ hB204_73454 FrM.rf
                      · refine g_aload_n dX12_ahead_258 rfl ?_
                        refine g_iload_n dX12_ahead_259 rfl ?_
                        refine m_p12 rfl dX12_ahead_260 ?_
                        have hB74309 := bs_12 (z := x204_1_73454) hB204_73454 ⟨by omega, by omega⟩
                        refine g_forget (l1 := [(0, vR 0), (1, vI x204_1_73454), (2, vI rc67815), (3, vI rc67816), (4, vI 4), (5, vI x204_5_73454)]) (by intro q hq; simp only [List.mem_cons, List.not_mem_nil, or_false] at hq ⊢; rcases hq with rfl | rfl | rfl | rfl | rfl | rfl <;> simp) ?_
                        exact J263_74273 _ hB74309 (FrM.s FrM.rf rfl)
                  refine g_if_eq (tgt := 231) dX12_ahead_213 (by decide) ⟨by omega, by omega⟩ (fun k74310 => ?_) (fun k74310 => by exfalso; omega)
                  refine g_aload_n dX12_ahead_231 rfl ?_
                  refine m_g0 rfl dX12_ahead_232 ?_
                  refine g_iload_n dX12_ahead_235 rfl ?_
                  refine m_l1 (z := (P 1 x204_1_73454)) dX12_ahead_236 ⟨by omega, by omega⟩ ((congrFun (hE204_73454.2 1 rfl rfl) _).trans ((up_o (by decide)).trans ((up_o (by decide)).trans ((up_o (by decide)).trans ((up_o (by decide)).trans ((up_o (by decide)).trans ((congrFun (hE135_71575.2 1 rfl rfl) _).trans ((up_o (by decide)).trans ((up_o (by decide)).trans ((up_o (by decide)).trans ((up_o (by decide)).trans rfl))))))))))) ?_
                  refine g_sI (av := [vI (P 1 x204_1_73454)]) (st := []) (m_X12_isDigit G H204_73454 (P 1 x204_1_73454) ⟨by have q0 := bl_1 (k := x204_1_73454) hB; omega, by have q0 := bl_1 (k := x204_1_73454) hB; omega⟩ hB204_73454  _ (fun rc74311 hc74311 gc74311_i => ⟨rc74311, rfl, ?_⟩)) cf_X12_isDigit t_1690 rfl (Nat.le_of_ble_eq_true rfl) (by decide) rfl dX12_ahead_237
                  refine g_if_eq (tgt := 334) dX12_ahead_240 (by decide) ⟨by omega, by omega⟩ (fun k74312 => ?_) (fun k74312 => ?_)
                  · have hne : x204_1_73454 ≠ x5_1_0 := by intro e; subst e; omega
                    refine g_aload_n dX12_ahead_334 rfl ?_
                    refine g_iload_n dX12_ahead_335 rfl ?_
                    refine m_p5 rfl dX12_ahead_336 ?_
                    have hB74313 := bs_5 (z := x204_1_73454) hB204_73454 ⟨by omega, by omega⟩
                    exact g_retV dX12_ahead_339 rfl (hQ _ hB74313 (FrM.s (FrM.c (FrM.s (FrM.s (FrM.s (FrM.s (FrM.s (FrM.c (FrM.s (FrM.s (FrM.s (FrM.s FrM.rf rfl) rfl) rfl) rfl) hE135_71575 rfl) rfl) rfl) rfl) rfl) rfl) hE204_73454 rfl) rfl) (by have q0 := (((up_k (by decide)).trans ((hE204_73454.1 3 rfl).trans up_same)) : (up H204_73454 0 5 x204_1_73454) 0 3 = 2); have q1 := (((up_k (by decide)).trans ((hE204_73454.1 4 rfl).trans ((up_k (by decide)).trans ((up_k (by decide)).trans ((up_k (by decide)).trans ((up_k (by decide)).trans ((up_k (by decide)).trans ((hE135_71575.1 4 rfl).trans ((up_k (by decide)).trans ((up_k (by decide)).trans ((up_k (by decide)).trans up_same))))))))))) : (up H204_73454 0 5 x204_1_73454) 0 4 = x5_1_0); have q2 := (up_same : (up H204_73454 0 5 x204_1_73454) 0 5 = x204_1_73454); omega) (by have q0 := (up_same : (up H204_73454 0 5 x204_1_73454) 0 5 = x204_1_73454); have q1 := (((up_k (by decide)).trans ((hE204_73454.1 4 rfl).trans ((up_k (by decide)).trans ((up_k (by decide)).trans ((up_k (by decide)).trans ((up_k (by decide)).trans ((up_k (by decide)).trans ((hE135_71575.1 4 rfl).trans ((up_k (by decide)).trans ((up_k (by decide)).trans ((up_k (by decide)).trans up_same))))))))))) : (up H204_73454 0 5 x204_1_73454) 0 4 = x5_1_0); omega))
                  · refine g_forget (l1 := [(0, vR 0), (1, vI x204_1_73454), (2, vI rc67815), (3, vI rc67816), (4, vI 4), (5, vI x204_5_73454)]) (by intro q hq; simp only [List.mem_cons, List.not_mem_nil, or_false] at hq ⊢; rcases hq with rfl | rfl | rfl | rfl | rfl | rfl <;> simp) ?_
                    exact J243_74237 trivial
              refine g_forget (l1 := [(0, vR 0), (1, vI x5_1_0), (2, vI rc67815), (3, vI rc67816), (4, vI 4), (5, vI 0)]) (by intro q hq; simp only [List.mem_cons, List.not_mem_nil, or_false] at hq ⊢; rcases hq with rfl | rfl | rfl | rfl | rfl | rfl <;> simp) ?_
              exact L204_73454 _ 0 (by decide) x5_1_0 ⟨by have q0 := b0_2 hB; omega, by have q0 := b0_2 hB; omega⟩ _ hB73453 FrM.rf (by omega) (by omega) (Nat.lt_succ_self _)
            · refine g_iconst dX12_ahead_181 ?_
              refine g_goto (tgt := 186) dX12_ahead_182 (by decide) ?_
              refine m_p3 rfl dX12_ahead_186 ?_
              have hB74314 := bs_3 (z := 1) hB71580 (by decide)
              refine g_iload_n dX12_ahead_189 rfl ?_
              refine g_if_eq (tgt := 198) dX12_ahead_190 (by decide) ⟨by omega, by omega⟩ (fun k74315 => by exfalso; omega) (fun k74315 => ?_)
              refine g_bipush dX12_ahead_193 (by decide) ?_
              refine g_goto (tgt := 199) dX12_ahead_195 (by decide) ?_
              refine g_istore (l1 := [(4, vI 6), (0, vR 0), (1, vI x5_1_0), (2, vI rc67815), (3, vI rc67816)]) dX12_ahead_199 (by decide) rfl ?_
              refine g_iconst dX12_ahead_201 ?_
              refine g_istore (l1 := [(5, vI 0), (4, vI 6), (0, vR 0), (1, vI x5_1_0), (2, vI rc67815), (3, vI rc67816)]) dX12_ahead_202 (by decide) rfl ?_
              have L204_74315 : ∀ (n204_74315 : Nat) (x204_5_74315 : Int) (h_x204_5_74315 : 0 ≤ x204_5_74315 ∧ x204_5_74315 ≤ 1600) (x204_1_74315 : Int) (h_x204_1_74315 : 0 ≤ x204_1_74315 ∧ x204_1_74315 ≤ 1600) (H204_74315 : PH) (hB204_74315 : BdM H204_74315) (hE204_74315 : FrM ([6, 7, 12], []) (up (up (up (up (up H135_71575 0 6 0) 0 7 0) 0 3 3) 0 5 (x5_1_0 + 1)) 0 3 1) H204_74315) (i204_0_74315 : x5_1_0 ≤ x204_1_74315) (i204_1_74315 : x204_5_74315 ≤ x204_1_74315) (hm204_74315 : ((1601 - x204_5_74315)).toNat < n204_74315), Go WSM G 2 iX12_ahead 204 [(0, vR 0), (1, vI x204_1_74315), (2, vI rc67815), (3, vI rc67816), (4, vI 6), (5, vI x204_5_74315)] [] H204_74315 Q := by
                intro n204_74315
                induction n204_74315 with
                | zero => intro x204_5_74315 h_x204_5_74315 x204_1_74315 h_x204_1_74315 H204_74315 hB204_74315 hE204_74315 i204_0_74315 i204_1_74315 hm204_74315; exact absurd hm204_74315 (Nat.not_lt_zero _)
                | succ n204_74315 ih204_74315 =>
                intro x204_5_74315 h_x204_5_74315 x204_1_74315 h_x204_1_74315 H204_74315 hB204_74315 hE204_74315 i204_0_74315 i204_1_74315 hm204_74315
                refine g_iload_n dX12_ahead_204 rfl ?_
                refine g_aload_n dX12_ahead_205 rfl ?_
                refine m_g2 (z := (P 0 2)) rfl dX12_ahead_206 ((hE204_74315.1 2 rfl).trans ((up_k (by decide)).trans ((up_k (by decide)).trans ((up_k (by decide)).trans ((up_k (by decide)).trans ((up_k (by decide)).trans ((hE135_71575.1 2 rfl).trans ((up_k (by decide)).trans ((up_k (by decide)).trans ((up_k (by decide)).trans ((up_k (by decide)).trans rfl))))))))))) ?_
                refine g_icmp_ge (tgt := 334) dX12_ahead_209 (by decide) ⟨by omega, by omega⟩ ⟨by have q0 := b0_2 hB; omega, by have q0 := b0_2 hB; omega⟩ (fun k75142 => ?_) (fun k75142 => ?_)
                · have hne : x204_1_74315 ≠ x5_1_0 := by intro e; subst e; omega
                  refine g_aload_n dX12_ahead_334 rfl ?_
                  refine g_iload_n dX12_ahead_335 rfl ?_
                  refine m_p5 rfl dX12_ahead_336 ?_
                  have hB75143 := bs_5 (z := x204_1_74315) hB204_74315 ⟨by omega, by omega⟩
                  exact g_retV dX12_ahead_339 rfl (hQ _ hB75143 (FrM.s (FrM.c (FrM.s (FrM.s (FrM.s (FrM.s (FrM.s (FrM.c (FrM.s (FrM.s (FrM.s (FrM.s FrM.rf rfl) rfl) rfl) rfl) hE135_71575 rfl) rfl) rfl) rfl) rfl) rfl) hE204_74315 rfl) rfl) (by have q0 := (((up_k (by decide)).trans ((hE204_74315.1 3 rfl).trans up_same)) : (up H204_74315 0 5 x204_1_74315) 0 3 = 1); have q1 := (((up_k (by decide)).trans ((hE204_74315.1 4 rfl).trans ((up_k (by decide)).trans ((up_k (by decide)).trans ((up_k (by decide)).trans ((up_k (by decide)).trans ((up_k (by decide)).trans ((hE135_71575.1 4 rfl).trans ((up_k (by decide)).trans ((up_k (by decide)).trans ((up_k (by decide)).trans up_same))))))))))) : (up H204_74315 0 5 x204_1_74315) 0 4 = x5_1_0); have q2 := (up_same : (up H204_74315 0 5 x204_1_74315) 0 5 = x204_1_74315); omega) (by have q0 := (up_same : (up H204_74315 0 5 x204_1_74315) 0 5 = x204_1_74315); have q1 := (((up_k (by decide)).trans ((hE204_74315.1 4 rfl).trans ((up_k (by decide)).trans ((up_k (by decide)).trans ((up_k (by decide)).trans ((up_k (by decide)).trans ((up_k (by decide)).trans ((hE135_71575.1 4 rfl).trans ((up_k (by decide)).trans ((up_k (by decide)).trans ((up_k (by decide)).trans up_same))))))))))) : (up H204_74315 0 5 x204_1_74315) 0 4 = x5_1_0); omega))
                · refine g_iload_n dX12_ahead_212 rfl ?_
                  have J243_75230 : ∀ (_ : True), Go WSM G 2 iX12_ahead 243 [(0, vR 0), (1, vI x204_1_74315), (2, vI rc67815), (3, vI rc67816), (4, vI 6), (5, vI x204_5_74315)] [] H204_74315 Q := by
                    intro _
                    refine g_iload dX12_ahead_243 rfl ?_
                    refine g_iload dX12_ahead_245 rfl ?_
                    have J263_75272 : ∀ (H263_75272 : PH) (hB263_75272 : BdM H263_75272) (hE263_75272 : FrM ([12], []) H204_74315 H263_75272), Go WSM G 2 iX12_ahead 263 [(0, vR 0), (1, vI x204_1_74315), (2, vI rc67815), (3, vI rc67816), (4, vI 6), (5, vI x204_5_74315)] [] H263_75272 Q := by
                      intro H263_75272 hB263_75272 hE263_75272
                      refine g_iload dX12_ahead_263 rfl ?_
                      refine g_iload dX12_ahead_265 rfl ?_
                      have J293_75291 : ∀ (H293_75291 : PH) (hB293_75291 : BdM H293_75291) (hE293_75291 : FrM ([7], []) H263_75272 H293_75291), Go WSM G 2 iX12_ahead 293 [(0, vR 0), (1, vI x204_1_74315), (2, vI rc67815), (3, vI rc67816), (4, vI 6), (5, vI x204_5_74315)] [] H293_75291 Q := by
                        intro H293_75291 hB293_75291 hE293_75291
                        refine g_iload dX12_ahead_293 rfl ?_
                        refine g_iload dX12_ahead_295 rfl ?_
                        have J325_75298 : ∀ (H325_75298 : PH) (hB325_75298 : BdM H325_75298) (hE325_75298 : FrM ([6], []) H293_75291 H325_75298), Go WSM G 2 iX12_ahead 325 [(0, vR 0), (1, vI x204_1_74315), (2, vI rc67815), (3, vI rc67816), (4, vI 6), (5, vI x204_5_74315)] [] H325_75298 Q := by
                          intro H325_75298 hB325_75298 hE325_75298
                          refine g_iinc (l1 := [(5, vI (x204_5_74315 + 1)), (0, vR 0), (1, vI x204_1_74315), (2, vI rc67815), (3, vI rc67816), (4, vI 6)]) dX12_ahead_325 rfl (by decide) rfl ?_
                          refine g_iinc (l1 := [(1, vI (x204_1_74315 + 1)), (5, vI (x204_5_74315 + 1)), (0, vR 0), (2, vI rc67815), (3, vI rc67816), (4, vI 6)]) dX12_ahead_328 rfl (by decide) rfl ?_
                          refine g_goto (tgt := 204) dX12_ahead_331 (by decide) ?_
                          refine g_forget (l1 := [(0, vR 0), (1, vI (x204_1_74315 + 1)), (2, vI rc67815), (3, vI rc67816), (4, vI 6), (5, vI (x204_5_74315 + 1))]) (by intro q hq; simp only [List.mem_cons, List.not_mem_nil, or_false] at hq ⊢; rcases hq with rfl | rfl | rfl | rfl | rfl | rfl <;> simp) ?_
                          exact ih204_74315 (x204_5_74315 + 1) ⟨by have q0 := b0_2 hB; omega, by have q0 := b0_2 hB; omega⟩ (x204_1_74315 + 1) ⟨by have q0 := b0_2 hB; omega, by have q0 := b0_2 hB; omega⟩ _ hB325_75298 (FrM.c (FrM.c (FrM.c (FrM.c FrM.rf hE204_74315 rfl) hE263_75272 rfl) hE293_75291 rfl) hE325_75298 rfl) (by omega) (by omega) (by omega)
                        refine g_icmp_ge (tgt := 325) dX12_ahead_297 (by decide) ⟨by omega, by omega⟩ (by decide) (fun k75300 => ?_) (fun k75300 => ?_)
                        · refine g_forget (l1 := [(0, vR 0), (1, vI x204_1_74315), (2, vI rc67815), (3, vI rc67816), (4, vI 6), (5, vI x204_5_74315)]) (by intro q hq; simp only [List.mem_cons, List.not_mem_nil, or_false] at hq ⊢; rcases hq with rfl | rfl | rfl | rfl | rfl | rfl <;> simp) ?_
                          exact J325_75298 _ hB293_75291 FrM.rf
                        · refine g_iload_n dX12_ahead_300 rfl ?_
                          refine g_if_eq (tgt := 325) dX12_ahead_301 (by decide) ⟨by omega, by omega⟩ (fun k75301 => ?_) (fun k75301 => ?_)
                          · refine g_forget (l1 := [(0, vR 0), (1, vI x204_1_74315), (2, vI rc67815), (3, vI rc67816), (4, vI 6), (5, vI x204_5_74315)]) (by intro q hq; simp only [List.mem_cons, List.not_mem_nil, or_false] at hq ⊢; rcases hq with rfl | rfl | rfl | rfl | rfl | rfl <;> simp) ?_
                            exact J325_75298 _ hB293_75291 FrM.rf
                          · refine g_aload_n dX12_ahead_304 rfl ?_
                            refine g_bipush dX12_ahead_305 (by decide) ?_
                            refine g_aload_n dX12_ahead_307 rfl ?_
                            refine m_g6 (z := (H204_74315 0 6)) rfl dX12_ahead_308 ((hE293_75291.1 6 rfl).trans ((hE263_75272.1 6 rfl).trans rfl)) ?_
                            refine g_imul dX12_ahead_311 ?_
                            refine g_norm (fun r75302 h_r75302 e_r75302 => ?_)
                            refine g_aload_n dX12_ahead_312 rfl ?_
                            refine m_g0 rfl dX12_ahead_313 ?_
                            refine g_iload_n dX12_ahead_316 rfl ?_
                            refine m_l1 (z := (P 1 x204_1_74315)) dX12_ahead_317 ⟨by omega, by omega⟩ ((congrFun (hE293_75291.2 1 rfl rfl) _).trans ((congrFun (hE263_75272.2 1 rfl rfl) _).trans ((congrFun (hE204_74315.2 1 rfl rfl) _).trans ((up_o (by decide)).trans ((up_o (by decide)).trans ((up_o (by decide)).trans ((up_o (by decide)).trans ((up_o (by decide)).trans ((congrFun (hE135_71575.2 1 rfl rfl) _).trans ((up_o (by decide)).trans ((up_o (by decide)).trans ((up_o (by decide)).trans ((up_o (by decide)).trans rfl))))))))))))) ?_
                            refine g_iadd dX12_ahead_318 ?_
                            refine g_norm (fun r75303 h_r75303 e_r75303 => ?_)
                            refine g_bipush dX12_ahead_319 (by decide) ?_
                            refine g_isub dX12_ahead_321 ?_
                            refine g_norm (fun r75304 h_r75304 e_r75304 => ?_)
                            refine m_p6 rfl dX12_ahead_322 ?_
                            have hB75305 := bs_6 (z := r75304) hB293_75291 ⟨by omega, by omega⟩
                            refine g_forget (l1 := [(0, vR 0), (1, vI x204_1_74315), (2, vI rc67815), (3, vI rc67816), (4, vI 6), (5, vI x204_5_74315)]) (by intro q hq; simp only [List.mem_cons, List.not_mem_nil, or_false] at hq ⊢; rcases hq with rfl | rfl | rfl | rfl | rfl | rfl <;> simp) ?_
                            exact J325_75298 _ hB75305 (FrM.s FrM.rf rfl)
                      refine g_icmp_ge (tgt := 293) dX12_ahead_267 (by decide) ⟨by omega, by omega⟩ (by decide) (fun k75306 => ?_) (fun k75306 => ?_)
                      · refine g_forget (l1 := [(0, vR 0), (1, vI x204_1_74315), (2, vI rc67815), (3, vI rc67816), (4, vI 6), (5, vI x204_5_74315)]) (by intro q hq; simp only [List.mem_cons, List.not_mem_nil, or_false] at hq ⊢; rcases hq with rfl | rfl | rfl | rfl | rfl | rfl <;> simp) ?_
                        exact J293_75291 _ hB263_75272 FrM.rf
                      · refine g_iload_n dX12_ahead_270 rfl ?_
                        refine g_if_eq (tgt := 293) dX12_ahead_271 (by decide) ⟨by omega, by omega⟩ (fun k75307 => by exfalso; omega) (fun k75307 => ?_)
                        refine g_aload_n dX12_ahead_274 rfl ?_
                        refine g_aload_n dX12_ahead_275 rfl ?_
                        refine m_g7 (z := (H204_74315 0 7)) rfl dX12_ahead_276 ((hE263_75272.1 7 rfl).trans rfl) ?_
                        refine g_bipush dX12_ahead_279 (by decide) ?_
                        refine g_lshl dX12_ahead_281 ?_
                        refine g_nm (fun b75308 e_b75308 => ?_)
                        have h_b75308 := llshl_ir (H204_74315 0 7) 8
                        rw [← e_b75308] at h_b75308
                        refine g_aload_n dX12_ahead_282 rfl ?_
                        refine m_g0 rfl dX12_ahead_283 ?_
                        refine g_iload_n dX12_ahead_286 rfl ?_
                        refine m_l1 (z := (P 1 x204_1_74315)) dX12_ahead_287 ⟨by omega, by omega⟩ ((congrFun (hE263_75272.2 1 rfl rfl) _).trans ((congrFun (hE204_74315.2 1 rfl rfl) _).trans ((up_o (by decide)).trans ((up_o (by decide)).trans ((up_o (by decide)).trans ((up_o (by decide)).trans ((up_o (by decide)).trans ((congrFun (hE135_71575.2 1 rfl rfl) _).trans ((up_o (by decide)).trans ((up_o (by decide)).trans ((up_o (by decide)).trans ((up_o (by decide)).trans rfl)))))))))))) ?_
                        refine g_i2l dX12_ahead_288 ⟨by have q0 := bl_1 (k := x204_1_74315) hB; omega, by have q0 := bl_1 (k := x204_1_74315) hB; omega⟩ ?_
                        refine g_lor dX12_ahead_289 ?_
                        refine g_nm (fun b75309 e_b75309 => ?_)
                        have h_b75309 := llor_ir b75308 (P 1 x204_1_74315)
                        rw [← e_b75309] at h_b75309
                        refine m_p7 rfl dX12_ahead_290 ?_
                        have hB75310 := bs_7 (z := b75309) hB263_75272 ⟨by omega, by omega⟩
                        refine g_forget (l1 := [(0, vR 0), (1, vI x204_1_74315), (2, vI rc67815), (3, vI rc67816), (4, vI 6), (5, vI x204_5_74315)]) (by intro q hq; simp only [List.mem_cons, List.not_mem_nil, or_false] at hq ⊢; rcases hq with rfl | rfl | rfl | rfl | rfl | rfl <;> simp) ?_
                        exact J293_75291 _ hB75310 (FrM.s FrM.rf rfl)
                    refine g_icmp_ne (tgt := 263) dX12_ahead_247 (by decide) ⟨by omega, by omega⟩ (by decide) (fun k75311 => ?_) (fun k75311 => ?_)
                    · refine g_forget (l1 := [(0, vR 0), (1, vI x204_1_74315), (2, vI rc67815), (3, vI rc67816), (4, vI 6), (5, vI x204_5_74315)]) (by intro q hq; simp only [List.mem_cons, List.not_mem_nil, or_false] at hq ⊢; rcases hq with rfl | rfl | rfl | rfl | rfl | rfl <;> simp) ?_
                      exact J263_75272 _ hB204_74315 FrM.rf
                    · refine g_aload_n dX12_ahead_250 rfl ?_
                      refine m_g12 (z := (H204_74315 0 12)) rfl dX12_ahead_251 rfl ?_
                      refine g_iconst dX12_ahead_254 ?_
                      have f75312 := b0_12 hB204_74315
                      refine g_icmp_ne (tgt := 263) dX12_ahead_255 (by decide) ⟨by have q0 := b0_12 hB204_74315; omega, by have q0 := b0_12 hB204_74315; omega⟩ (by decide) (fun k75313 => ?_) (fun k75313 => ?_)
                      · refine g_forget (l1 := [(0, vR 0), (1, vI x204_1_74315), (2, vI rc67815), (3, vI rc67816), (4, vI 6), (5, vI x204_5_74315)]) (by intro q hq; simp only [List.mem_cons, List.not_mem_nil, or_false] at hq ⊢; rcases hq with rfl | rfl | rfl | rfl | rfl | rfl <;> simp) ?_
                        exact J263_75272 _ hB204_74315 FrM.rf
                      · refine g_aload_n dX12_ahead_258 rfl ?_
                        refine g_iload_n dX12_ahead_259 rfl ?_
                        refine m_p12 rfl dX12_ahead_260 ?_
                        have hB75314 := bs_12 (z := x204_1_74315) hB204_74315 ⟨by omega, by omega⟩
                        refine g_forget (l1 := [(0, vR 0), (1, vI x204_1_74315), (2, vI rc67815), (3, vI rc67816), (4, vI 6), (5, vI x204_5_74315)]) (by intro q hq; simp only [List.mem_cons, List.not_mem_nil, or_false] at hq ⊢; rcases hq with rfl | rfl | rfl | rfl | rfl | rfl <;> simp) ?_
                        exact J263_75272 _ hB75314 (FrM.s FrM.rf rfl)
                  refine g_if_eq (tgt := 231) dX12_ahead_213 (by decide) ⟨by omega, by omega⟩ (fun k75315 => by exfalso; omega) (fun k75315 => ?_)
                  refine g_aload_n dX12_ahead_216 rfl ?_
                  refine m_g0 rfl dX12_ahead_217 ?_
                  refine g_iload_n dX12_ahead_220 rfl ?_
                  refine m_l1 (z := (P 1 x204_1_74315)) dX12_ahead_221 ⟨by omega, by omega⟩ ((congrFun (hE204_74315.2 1 rfl rfl) _).trans ((up_o (by decide)).trans ((up_o (by decide)).trans ((up_o (by decide)).trans ((up_o (by decide)).trans ((up_o (by decide)).trans ((congrFun (hE135_71575.2 1 rfl rfl) _).trans ((up_o (by decide)).trans ((up_o (by decide)).trans ((up_o (by decide)).trans ((up_o (by decide)).trans rfl))))))))))) ?_
                  refine g_sI (av := [vI (P 1 x204_1_74315)]) (st := []) (m_X12_isLetter G H204_74315 (P 1 x204_1_74315) ⟨by have q0 := bl_1 (k := x204_1_74315) hB; omega, by have q0 := bl_1 (k := x204_1_74315) hB; omega⟩ hB204_74315  _ (fun rc75316 hc75316 gc75316_i => ⟨rc75316, rfl, ?_⟩)) cf_X12_isLetter t_1687 rfl (Nat.le_of_ble_eq_true rfl) (by decide) rfl dX12_ahead_222
                  refine g_if_eq (tgt := 334) dX12_ahead_225 (by decide) ⟨by omega, by omega⟩ (fun k75317 => ?_) (fun k75317 => ?_)
                  · have hne : x204_1_74315 ≠ x5_1_0 := by intro e; subst e; omega
                    refine g_aload_n dX12_ahead_334 rfl ?_
                    refine g_iload_n dX12_ahead_335 rfl ?_
                    refine m_p5 rfl dX12_ahead_336 ?_
                    have hB75318 := bs_5 (z := x204_1_74315) hB204_74315 ⟨by omega, by omega⟩
                    exact g_retV dX12_ahead_339 rfl (hQ _ hB75318 (FrM.s (FrM.c (FrM.s (FrM.s (FrM.s (FrM.s (FrM.s (FrM.c (FrM.s (FrM.s (FrM.s (FrM.s FrM.rf rfl) rfl) rfl) rfl) hE135_71575 rfl) rfl) rfl) rfl) rfl) rfl) hE204_74315 rfl) rfl) (by have q0 := (((up_k (by decide)).trans ((hE204_74315.1 3 rfl).trans up_same)) : (up H204_74315 0 5 x204_1_74315) 0 3 = 1); have q1 := (((up_k (by decide)).trans ((hE204_74315.1 4 rfl).trans ((up_k (by decide)).trans ((up_k (by decide)).trans ((up_k (by decide)).trans ((up_k (by decide)).trans ((up_k (by decide)).trans ((hE135_71575.1 4 rfl).trans ((up_k (by decide)).trans ((up_k (by decide)).trans ((up_k (by decide)).trans up_same))))))))))) : (up H204_74315 0 5 x204_1_74315) 0 4 = x5_1_0); have q2 := (up_same : (up H204_74315 0 5 x204_1_74315) 0 5 = x204_1_74315); omega) (by have q0 := (up_same : (up H204_74315 0 5 x204_1_74315) 0 5 = x204_1_74315); have q1 := (((up_k (by decide)).trans ((hE204_74315.1 4 rfl).trans ((up_k (by decide)).trans ((up_k (by decide)).trans ((up_k (by decide)).trans ((up_k (by decide)).trans ((up_k (by decide)).trans ((hE135_71575.1 4 rfl).trans ((up_k (by decide)).trans ((up_k (by decide)).trans ((up_k (by decide)).trans up_same))))))))))) : (up H204_74315 0 5 x204_1_74315) 0 4 = x5_1_0); omega))
                  · refine g_goto (tgt := 243) dX12_ahead_228 (by decide) ?_
                    refine g_forget (l1 := [(0, vR 0), (1, vI x204_1_74315), (2, vI rc67815), (3, vI rc67816), (4, vI 6), (5, vI x204_5_74315)]) (by intro q hq; simp only [List.mem_cons, List.not_mem_nil, or_false] at hq ⊢; rcases hq with rfl | rfl | rfl | rfl | rfl | rfl <;> simp) ?_
                    exact J243_75230 trivial
              refine g_forget (l1 := [(0, vR 0), (1, vI x5_1_0), (2, vI rc67815), (3, vI rc67816), (4, vI 6), (5, vI 0)]) (by intro q hq; simp only [List.mem_cons, List.not_mem_nil, or_false] at hq ⊢; rcases hq with rfl | rfl | rfl | rfl | rfl | rfl <;> simp) ?_
              exact L204_74315 _ 0 (by decide) x5_1_0 ⟨by have q0 := b0_2 hB; omega, by have q0 := b0_2 hB; omega⟩ _ hB74314 FrM.rf (by omega) (by omega) (Nat.lt_succ_self _)
          refine g_if_ne (tgt := 176) dX12_ahead_158 (by decide) ⟨by omega, by omega⟩ (fun k75319 => ?_) (fun k75319 => ?_)
          · refine g_forget (l1 := [(0, vR 0), (1, vI x5_1_0), (2, vI rc67815), (3, vI rc67816)]) (by intro q hq; simp only [List.mem_cons, List.not_mem_nil, or_false] at hq ⊢; rcases hq with rfl | rfl | rfl | rfl <;> simp) ?_
            exact J176_73450 (by omega)
          · refine g_iload_n dX12_ahead_161 rfl ?_
            refine g_if_ne (tgt := 176) dX12_ahead_162 (by decide) ⟨by omega, by omega⟩ (fun k75320 => ?_) (fun k75320 => ?_)
            · refine g_forget (l1 := [(0, vR 0), (1, vI x5_1_0), (2, vI rc67815), (3, vI rc67816)]) (by intro q hq; simp only [List.mem_cons, List.not_mem_nil, or_false] at hq ⊢; rcases hq with rfl | rfl | rfl | rfl <;> simp) ?_
              exact J176_73450 (by omega)
            · refine g_aload_n dX12_ahead_165 rfl ?_
              refine g_aload_n dX12_ahead_166 rfl ?_
              refine m_g0 rfl dX12_ahead_167 ?_
              refine g_iload_n dX12_ahead_170 rfl ?_
              refine m_l1 (z := (P 1 x5_1_0)) dX12_ahead_171 ⟨by omega, by omega⟩ ((up_o (by decide)).trans ((up_o (by decide)).trans ((up_o (by decide)).trans ((up_o (by decide)).trans ((congrFun (hE135_71575.2 1 rfl rfl) _).trans ((up_o (by decide)).trans ((up_o (by decide)).trans ((up_o (by decide)).trans ((up_o (by decide)).trans rfl))))))))) ?_
              refine m_p6 rfl dX12_ahead_172 ?_
              have hB75321 := bs_6 (z := (P 1 x5_1_0)) hB71580 ⟨by have q0 := bl_1 (k := x5_1_0) hB; omega, by have q0 := bl_1 (k := x5_1_0) hB; omega⟩
              exact g_retV dX12_ahead_175 rfl (hQ _ hB75321 (FrM.s (FrM.s (FrM.s (FrM.s (FrM.s (FrM.c (FrM.s (FrM.s (FrM.s (FrM.s FrM.rf rfl) rfl) rfl) rfl) hE135_71575 rfl) rfl) rfl) rfl) rfl) rfl) (by have q0 := (((up_k (by decide)).trans ((up_k (by decide)).trans up_same)) : (up (up (up (up (up H135_71575 0 6 0) 0 7 0) 0 3 3) 0 5 (x5_1_0 + 1)) 0 6 (P 1 x5_1_0)) 0 3 = 3); have q1 := (((up_k (by decide)).trans ((up_k (by decide)).trans ((up_k (by decide)).trans ((up_k (by decide)).trans ((up_k (by decide)).trans ((hE135_71575.1 4 rfl).trans ((up_k (by decide)).trans ((up_k (by decide)).trans ((up_k (by decide)).trans up_same))))))))) : (up (up (up (up (up H135_71575 0 6 0) 0 7 0) 0 3 3) 0 5 (x5_1_0 + 1)) 0 6 (P 1 x5_1_0)) 0 4 = x5_1_0); have q2 := (((up_k (by decide)).trans up_same) : (up (up (up (up (up H135_71575 0 6 0) 0 7 0) 0 3 3) 0 5 (x5_1_0 + 1)) 0 6 (P 1 x5_1_0)) 0 5 = (x5_1_0 + 1)); omega) (by have q0 := (((up_k (by decide)).trans up_same) : (up (up (up (up (up H135_71575 0 6 0) 0 7 0) 0 3 3) 0 5 (x5_1_0 + 1)) 0 6 (P 1 x5_1_0)) 0 5 = (x5_1_0 + 1)); have q1 := (((up_k (by decide)).trans ((up_k (by decide)).trans ((up_k (by decide)).trans ((up_k (by decide)).trans ((up_k (by decide)).trans ((hE135_71575.1 4 rfl).trans ((up_k (by decide)).trans ((up_k (by decide)).trans ((up_k (by decide)).trans up_same))))))))) : (up (up (up (up (up H135_71575 0 6 0) 0 7 0) 0 3 3) 0 5 (x5_1_0 + 1)) 0 6 (P 1 x5_1_0)) 0 4 = x5_1_0); omega))
        have J98_75321 : ∀ (_ : True), Go WSM G 2 iX12_ahead 98 [(0, vR 0), (1, vI x5_1_0), (2, vI rc67815), (3, vI rc67816)] [] (up (up (up (up P 0 4 x5_1_0) 0 5 x5_1_0) 0 3 0) 0 12 (-1)) Q := by
          intro _
          refine g_iload_n dX12_ahead_98 rfl ?_
          refine g_if_le (tgt := 135) dX12_ahead_99 (by decide) ⟨by omega, by omega⟩ (fun k75323 => ?_) (fun k75323 => ?_)
          · refine g_forget (l1 := [(0, vR 0), (1, vI x5_1_0), (2, vI rc67815), (3, vI rc67816)]) (by intro q hq; simp only [List.mem_cons, List.not_mem_nil, or_false] at hq ⊢; rcases hq with rfl | rfl | rfl | rfl <;> simp) ?_
            exact J135_71575 _ hB67813 FrM.rf
          · refine g_aload_n dX12_ahead_102 rfl ?_
            refine m_g0 rfl dX12_ahead_103 ?_
            refine g_iload_n dX12_ahead_106 rfl ?_
            refine g_iconst dX12_ahead_107 ?_
            refine g_isub dX12_ahead_108 ?_
            refine m_l1 (z := (P 1 (x5_1_0 - 1))) dX12_ahead_109 ⟨by omega, by omega⟩ ((up_o (by decide)).trans ((up_o (by decide)).trans ((up_o (by decide)).trans ((up_o (by decide)).trans rfl)))) ?_
            refine g_sI (av := [vI (P 1 (x5_1_0 - 1))]) (st := []) (m_X12_isLetter G (up (up (up (up P 0 4 x5_1_0) 0 5 x5_1_0) 0 3 0) 0 12 (-1)) (P 1 (x5_1_0 - 1)) ⟨by have q0 := bl_1 (k := (x5_1_0 - 1)) hB; omega, by have q0 := bl_1 (k := (x5_1_0 - 1)) hB; omega⟩ hB67813  _ (fun rc75324 hc75324 gc75324_i => ⟨rc75324, rfl, ?_⟩)) cf_X12_isLetter t_1687 rfl (Nat.le_of_ble_eq_true rfl) (by decide) rfl dX12_ahead_110
            have J130_75328 : ∀ (_ : True), Go WSM G 2 iX12_ahead 130 [(0, vR 0), (1, vI x5_1_0), (2, vI rc67815), (3, vI rc67816)] [] (up (up (up (up P 0 4 x5_1_0) 0 5 x5_1_0) 0 3 0) 0 12 (-1)) Q := by
              intro _
              refine g_aload_n dX12_ahead_130 rfl ?_
              refine g_iload_n dX12_ahead_131 rfl ?_
              refine m_p12 rfl dX12_ahead_132 ?_
              have hB75330 := bs_12 (z := x5_1_0) hB67813 ⟨by omega, by omega⟩
              refine g_forget (l1 := [(0, vR 0), (1, vI x5_1_0), (2, vI rc67815), (3, vI rc67816)]) (by intro q hq; simp only [List.mem_cons, List.not_mem_nil, or_false] at hq ⊢; rcases hq with rfl | rfl | rfl | rfl <;> simp) ?_
              exact J135_71575 _ hB75330 (FrM.s FrM.rf rfl)
            refine g_if_ne (tgt := 130) dX12_ahead_113 (by decide) ⟨by omega, by omega⟩ (fun k75331 => ?_) (fun k75331 => ?_)
            · refine g_forget (l1 := [(0, vR 0), (1, vI x5_1_0), (2, vI rc67815), (3, vI rc67816)]) (by intro q hq; simp only [List.mem_cons, List.not_mem_nil, or_false] at hq ⊢; rcases hq with rfl | rfl | rfl | rfl <;> simp) ?_
              exact J130_75328 trivial
            · refine g_aload_n dX12_ahead_116 rfl ?_
              refine m_g0 rfl dX12_ahead_117 ?_
              refine g_iload_n dX12_ahead_120 rfl ?_
              refine g_iconst dX12_ahead_121 ?_
              refine g_isub dX12_ahead_122 ?_
              refine m_l1 (z := (P 1 (x5_1_0 - 1))) dX12_ahead_123 ⟨by omega, by omega⟩ ((up_o (by decide)).trans ((up_o (by decide)).trans ((up_o (by decide)).trans ((up_o (by decide)).trans rfl)))) ?_
              refine g_sI (av := [vI (P 1 (x5_1_0 - 1))]) (st := []) (m_X12_isDigit G (up (up (up (up P 0 4 x5_1_0) 0 5 x5_1_0) 0 3 0) 0 12 (-1)) (P 1 (x5_1_0 - 1)) ⟨by have q0 := bl_1 (k := (x5_1_0 - 1)) hB; omega, by have q0 := bl_1 (k := (x5_1_0 - 1)) hB; omega⟩ hB67813  _ (fun rc75332 hc75332 gc75332_i => ⟨rc75332, rfl, ?_⟩)) cf_X12_isDigit t_1690 rfl (Nat.le_of_ble_eq_true rfl) (by decide) rfl dX12_ahead_124
              refine g_if_eq (tgt := 135) dX12_ahead_127 (by decide) ⟨by omega, by omega⟩ (fun k75333 => ?_) (fun k75333 => ?_)
              · refine g_forget (l1 := [(0, vR 0), (1, vI x5_1_0), (2, vI rc67815), (3, vI rc67816)]) (by intro q hq; simp only [List.mem_cons, List.not_mem_nil, or_false] at hq ⊢; rcases hq with rfl | rfl | rfl | rfl <;> simp) ?_
                exact J135_71575 _ hB67813 FrM.rf
              · refine g_forget (l1 := [(0, vR 0), (1, vI x5_1_0), (2, vI rc67815), (3, vI rc67816)]) (by intro q hq; simp only [List.mem_cons, List.not_mem_nil, or_false] at hq ⊢; rcases hq with rfl | rfl | rfl | rfl <;> simp) ?_
                exact J130_75328 trivial
        refine g_if_ne (tgt := 98) dX12_ahead_91 (by decide) ⟨by omega, by omega⟩ (fun k75334 => ?_) (fun k75334 => ?_)
        · refine g_forget (l1 := [(0, vR 0), (1, vI x5_1_0), (2, vI rc67815), (3, vI rc67816)]) (by intro q hq; simp only [List.mem_cons, List.not_mem_nil, or_false] at hq ⊢; rcases hq with rfl | rfl | rfl | rfl <;> simp) ?_
          exact J98_75321 trivial
        · refine g_iload_n dX12_ahead_94 rfl ?_
          refine g_if_eq (tgt := 135) dX12_ahead_95 (by decide) ⟨by omega, by omega⟩ (fun k75335 => ?_) (fun k75335 => ?_)
          · refine g_forget (l1 := [(0, vR 0), (1, vI x5_1_0), (2, vI rc67815), (3, vI rc67816)]) (by intro q hq; simp only [List.mem_cons, List.not_mem_nil, or_false] at hq ⊢; rcases hq with rfl | rfl | rfl | rfl <;> simp) ?_
            exact J135_71575 _ hB67813 FrM.rf
          · refine g_forget (l1 := [(0, vR 0), (1, vI x5_1_0), (2, vI rc67815), (3, vI rc67816)]) (by intro q hq; simp only [List.mem_cons, List.not_mem_nil, or_false] at hq ⊢; rcases hq with rfl | rfl | rfl | rfl <;> simp) ?_
            exact J98_75321 trivial
      · exact g_retV dX12_ahead_69 rfl (hQ _ hB67813 (FrM.s (FrM.s (FrM.s (FrM.s FrM.rf rfl) rfl) rfl) rfl) (by have q0 := (((up_k (by decide)).trans up_same) : (up (up (up (up P 0 4 x5_1_0) 0 5 x5_1_0) 0 3 0) 0 12 (-1)) 0 3 = 0); have q1 := (((up_k (by decide)).trans ((up_k (by decide)).trans ((up_k (by decide)).trans up_same))) : (up (up (up (up P 0 4 x5_1_0) 0 5 x5_1_0) 0 3 0) 0 12 (-1)) 0 4 = x5_1_0); have q2 := (((up_k (by decide)).trans ((up_k (by decide)).trans up_same)) : (up (up (up (up P 0 4 x5_1_0) 0 5 x5_1_0) 0 3 0) 0 12 (-1)) 0 5 = x5_1_0); omega) (by have q0 := (((up_k (by decide)).trans ((up_k (by decide)).trans up_same)) : (up (up (up (up P 0 4 x5_1_0) 0 5 x5_1_0) 0 3 0) 0 12 (-1)) 0 5 = x5_1_0); have q1 := (((up_k (by decide)).trans ((up_k (by decide)).trans ((up_k (by decide)).trans up_same))) : (up (up (up (up P 0 4 x5_1_0) 0 5 x5_1_0) 0 3 0) 0 12 (-1)) 0 4 = x5_1_0); omega))
    refine g_icmp_ge (tgt := 41) dX12_ahead_10 (by decide) ⟨by omega, by omega⟩ ⟨by have q0 := b0_2 hB; omega, by have q0 := b0_2 hB; omega⟩ (fun k75336 => ?_) (fun k75336 => ?_)
    · refine g_forget (l1 := [(0, vR 0), (1, vI x5_1_0)]) (by intro q hq; simp only [List.mem_cons, List.not_mem_nil, or_false] at hq ⊢; rcases hq with rfl | rfl <;> simp) ?_
      exact J41_67808 (by omega)
    · refine g_aload_n dX12_ahead_13 rfl ?_
      refine m_g0 rfl dX12_ahead_14 ?_
      refine g_iload_n dX12_ahead_17 rfl ?_
      refine m_l1 (z := (P 1 x5_1_0)) dX12_ahead_18 ⟨by omega, by omega⟩ rfl ?_
      refine g_bipush dX12_ahead_19 (by decide) ?_
      have f75337 := bl_1 (k := x5_1_0) hB
      have J35_75339 : ∀ (_ : True), Go WSM G 2 iX12_ahead 35 [(0, vR 0), (1, vI x5_1_0)] [] P Q := by
        intro _
        refine g_iinc (l1 := [(1, vI (x5_1_0 + 1)), (0, vR 0)]) dX12_ahead_35 rfl (by decide) rfl ?_
        refine g_goto (tgt := 5) dX12_ahead_38 (by decide) ?_
        refine g_forget (l1 := [(0, vR 0), (1, vI (x5_1_0 + 1))]) (by intro q hq; simp only [List.mem_cons, List.not_mem_nil, or_false] at hq ⊢; rcases hq with rfl | rfl <;> simp) ?_
        exact ih5_0 (x5_1_0 + 1) ⟨by omega, by omega⟩ (by omega) (by omega)
      refine g_icmp_eq (tgt := 35) dX12_ahead_21 (by decide) ⟨by have q0 := bl_1 (k := x5_1_0) hB; omega, by have q0 := bl_1 (k := x5_1_0) hB; omega⟩ (by decide) (fun k75341 => ?_) (fun k75341 => ?_)
      · refine g_forget (l1 := [(0, vR 0), (1, vI x5_1_0)]) (by intro q hq; simp only [List.mem_cons, List.not_mem_nil, or_false] at hq ⊢; rcases hq with rfl | rfl <;> simp) ?_
        exact J35_75339 trivial
      · refine g_aload_n dX12_ahead_24 rfl ?_
        refine m_g0 rfl dX12_ahead_25 ?_
        refine g_iload_n dX12_ahead_28 rfl ?_
        refine m_l1 (z := (P 1 x5_1_0)) dX12_ahead_29 ⟨by omega, by omega⟩ rfl ?_
        refine g_bipush dX12_ahead_30 (by decide) ?_
        refine g_icmp_ne (tgt := 41) dX12_ahead_32 (by decide) ⟨by have q0 := bl_1 (k := x5_1_0) hB; omega, by have q0 := bl_1 (k := x5_1_0) hB; omega⟩ (by decide) (fun k75342 => ?_) (fun k75342 => ?_)
        · refine g_forget (l1 := [(0, vR 0), (1, vI x5_1_0)]) (by intro q hq; simp only [List.mem_cons, List.not_mem_nil, or_false] at hq ⊢; rcases hq with rfl | rfl <;> simp) ?_
          exact J41_67808 (by omega)
        · refine g_forget (l1 := [(0, vR 0), (1, vI x5_1_0)]) (by intro q hq; simp only [List.mem_cons, List.not_mem_nil, or_false] at hq ⊢; rcases hq with rfl | rfl <;> simp) ?_
          exact J35_75339 trivial
  refine g_forget (l1 := [(0, vR 0), (1, vI (P 0 5))]) (by intro q hq; simp only [List.mem_cons, List.not_mem_nil, or_false] at hq ⊢; rcases hq with rfl | rfl <;> simp) ?_
  exact L5_0 _ (P 0 5) ⟨by have q0 := b0_5 hB; omega, by have q0 := b0_5 hB; omega⟩ (by have q0 := b0_5 hB; omega) (Nat.lt_succ_self _)
set_option maxRecDepth 100000 in
set_option maxHeartbeats 4000000 in
theorem m_X12_isWord (G : GT) (P : PH) (a1 : Int) (h_a1 : (-9223372036854775808) ≤ a1 ∧ a1 ≤ 9223372036854775807) (hB : BdM P) (Q : Option PV → PH → Prop) (hQ : ∀ (r : Int) (_ : 0 ≤ r ∧ r ≤ 1) (_ : r = 0 ∨ (P 0 3 = 1 ∧ P 0 7 = a1)), Q (some (vI r)) P) : Ct WSM G 1 iX12_isWord [vR 0, vL a1] P Q := by
  refine Ct.of (by decide) (l0 := [(0, vR 0), (1, vL a1)]) rfl (Nat.le_of_ble_eq_true rfl) ?_
  refine g_aload_n dX12_isWord_0 rfl ?_
  refine m_g3 (z := (P 0 3)) rfl dX12_isWord_1 rfl ?_
  refine g_iconst dX12_isWord_4 ?_
  have f1 := b0_3 hB
  refine g_icmp_ne (tgt := 21) dX12_isWord_5 (by decide) ⟨by have q0 := b0_3 hB; omega, by have q0 := b0_3 hB; omega⟩ (by decide) (fun k2 => ?_) (fun k2 => ?_)
  · refine g_iconst dX12_isWord_21 ?_
    exact g_retZ dX12_isWord_22 rfl (by decide) (hQ 0 (by decide) (by have q0 := b0_3 hB; have q1 := b0_7 hB; omega))
  · refine g_aload_n dX12_isWord_8 rfl ?_
    refine m_g7 (z := (P 0 7)) rfl dX12_isWord_9 rfl ?_
    refine g_lload_n dX12_isWord_12 rfl ?_
    refine g_lcmp dX12_isWord_13 ⟨by have q0 := b0_7 hB; omega, by have q0 := b0_7 hB; omega⟩ ⟨by omega, by omega⟩ ?_
    refine g_nm (fun b3 e_b3 => ?_)
    have h_b3 := lcmpv_b (P 0 7) a1
    have h0_b3 := lcmpv_0 (x := (P 0 7)) (y := a1)
    have h1_b3 := lcmpv_lt (x := (P 0 7)) (y := a1)
    have h2_b3 := lcmpv_gt (x := (P 0 7)) (y := a1)
    rw [← e_b3] at h_b3 h0_b3 h1_b3 h2_b3
    refine g_if_ne (tgt := 21) dX12_isWord_14 (by decide) ⟨by omega, by omega⟩ (fun k4 => ?_) (fun k4 => ?_)
    · refine g_iconst dX12_isWord_21 ?_
      exact g_retZ dX12_isWord_22 rfl (by decide) (hQ 0 (by decide) (by have q0 := b0_3 hB; have q1 := b0_7 hB; omega))
    · refine g_iconst dX12_isWord_17 ?_
      refine g_goto (tgt := 22) dX12_isWord_18 (by decide) ?_
      exact g_retZ dX12_isWord_22 rfl (by decide) (hQ 1 (by decide) (by have q0 := b0_3 hB; have q1 := b0_7 hB; omega))
set_option maxRecDepth 100000 in
set_option maxHeartbeats 4000000 in
theorem m_X12_isOwn (G : GT) (P : PH) (a1 : Int) (h_a1 : (-9223372036854775808) ≤ a1 ∧ a1 ≤ 9223372036854775807) (hB : BdM P) (Q : Option PV → PH → Prop) (hQ : ∀ (r : Int) (_ : 0 ≤ r ∧ r ≤ 1), Q (some (vI r)) P) : Ct WSM G 1 iX12_isOwn [vR 0, vL a1] P Q := by
  refine Ct.of (by decide) (l0 := [(0, vR 0), (1, vL a1)]) rfl (Nat.le_of_ble_eq_true rfl) ?_
  refine g_lload_n dX12_isOwn_0 rfl ?_
  refine g_ldc2 (z := 1802071652) dX12_isOwn_1 t_1705 (by decide) ?_
  refine g_lcmp dX12_isOwn_4 ⟨by omega, by omega⟩ (by decide) ?_
  refine g_nm (fun b1 e_b1 => ?_)
  have h_b1 := lcmpv_b a1 1802071652
  have h0_b1 := lcmpv_0 (x := a1) (y := 1802071652)
  have h1_b1 := lcmpv_lt (x := a1) (y := 1802071652)
  have h2_b1 := lcmpv_gt (x := a1) (y := 1802071652)
  rw [← e_b1] at h_b1 h0_b1 h1_b1 h2_b1
  refine g_if_eq (tgt := 40) dX12_isOwn_5 (by decide) ⟨by omega, by omega⟩ (fun k2 => ?_) (fun k2 => ?_)
  · refine g_iconst dX12_isOwn_40 ?_
    exact g_retZ dX12_isOwn_41 rfl (by decide) (hQ 1 (by decide) )
  · refine g_lload_n dX12_isOwn_8 rfl ?_
    refine g_ldc2 (z := 6516590) dX12_isOwn_9 t_1726 (by decide) ?_
    refine g_lcmp dX12_isOwn_12 ⟨by omega, by omega⟩ (by decide) ?_
    refine g_nm (fun b3 e_b3 => ?_)
    have h_b3 := lcmpv_b a1 6516590
    have h0_b3 := lcmpv_0 (x := a1) (y := 6516590)
    have h1_b3 := lcmpv_lt (x := a1) (y := 6516590)
    have h2_b3 := lcmpv_gt (x := a1) (y := 6516590)
    rw [← e_b3] at h_b3 h0_b3 h1_b3 h2_b3
    refine g_if_eq (tgt := 40) dX12_isOwn_13 (by decide) ⟨by omega, by omega⟩ (fun k4 => ?_) (fun k4 => ?_)
    · refine g_iconst dX12_isOwn_40 ?_
      exact g_retZ dX12_isOwn_41 rfl (by decide) (hQ 1 (by decide) )
    · refine g_lload_n dX12_isOwn_16 rfl ?_
      refine g_ldc2 (z := 469786452840) dX12_isOwn_17 t_1727 (by decide) ?_
      refine g_lcmp dX12_isOwn_20 ⟨by omega, by omega⟩ (by decide) ?_
      refine g_nm (fun b5 e_b5 => ?_)
      have h_b5 := lcmpv_b a1 469786452840
      have h0_b5 := lcmpv_0 (x := a1) (y := 469786452840)
      have h1_b5 := lcmpv_lt (x := a1) (y := 469786452840)
      have h2_b5 := lcmpv_gt (x := a1) (y := 469786452840)
      rw [← e_b5] at h_b5 h0_b5 h1_b5 h2_b5
      refine g_if_eq (tgt := 40) dX12_isOwn_21 (by decide) ⟨by omega, by omega⟩ (fun k6 => ?_) (fun k6 => ?_)
      · refine g_iconst dX12_isOwn_40 ?_
        exact g_retZ dX12_isOwn_41 rfl (by decide) (hQ 1 (by decide) )
      · refine g_lload_n dX12_isOwn_24 rfl ?_
        refine g_ldc2 (z := 6386285) dX12_isOwn_25 t_1728 (by decide) ?_
        refine g_lcmp dX12_isOwn_28 ⟨by omega, by omega⟩ (by decide) ?_
        refine g_nm (fun b7 e_b7 => ?_)
        have h_b7 := lcmpv_b a1 6386285
        have h0_b7 := lcmpv_0 (x := a1) (y := 6386285)
        have h1_b7 := lcmpv_lt (x := a1) (y := 6386285)
        have h2_b7 := lcmpv_gt (x := a1) (y := 6386285)
        rw [← e_b7] at h_b7 h0_b7 h1_b7 h2_b7
        refine g_if_eq (tgt := 40) dX12_isOwn_29 (by decide) ⟨by omega, by omega⟩ (fun k8 => ?_) (fun k8 => ?_)
        · refine g_iconst dX12_isOwn_40 ?_
          exact g_retZ dX12_isOwn_41 rfl (by decide) (hQ 1 (by decide) )
        · refine g_lload_n dX12_isOwn_32 rfl ?_
          refine g_ldc2 (z := 2003330414) dX12_isOwn_33 t_1729 (by decide) ?_
          refine g_lcmp dX12_isOwn_36 ⟨by omega, by omega⟩ (by decide) ?_
          refine g_nm (fun b9 e_b9 => ?_)
          have h_b9 := lcmpv_b a1 2003330414
          have h0_b9 := lcmpv_0 (x := a1) (y := 2003330414)
          have h1_b9 := lcmpv_lt (x := a1) (y := 2003330414)
          have h2_b9 := lcmpv_gt (x := a1) (y := 2003330414)
          rw [← e_b9] at h_b9 h0_b9 h1_b9 h2_b9
          refine g_if_ne (tgt := 42) dX12_isOwn_37 (by decide) ⟨by omega, by omega⟩ (fun k10 => ?_) (fun k10 => ?_)
          · refine g_lload_n dX12_isOwn_42 rfl ?_
            refine g_ldc2 (z := 1920298085) dX12_isOwn_43 t_1730 (by decide) ?_
            refine g_lcmp dX12_isOwn_46 ⟨by omega, by omega⟩ (by decide) ?_
            refine g_nm (fun b11 e_b11 => ?_)
            have h_b11 := lcmpv_b a1 1920298085
            have h0_b11 := lcmpv_0 (x := a1) (y := 1920298085)
            have h1_b11 := lcmpv_lt (x := a1) (y := 1920298085)
            have h2_b11 := lcmpv_gt (x := a1) (y := 1920298085)
            rw [← e_b11] at h_b11 h0_b11 h1_b11 h2_b11
            refine g_if_eq (tgt := 82) dX12_isOwn_47 (by decide) ⟨by omega, by omega⟩ (fun k12 => ?_) (fun k12 => ?_)
            · refine g_iconst dX12_isOwn_82 ?_
              exact g_retZ dX12_isOwn_83 rfl (by decide) (hQ 1 (by decide) )
            · refine g_lload_n dX12_isOwn_50 rfl ?_
              refine g_ldc2 (z := 108256335193460) dX12_isOwn_51 t_1731 (by decide) ?_
              refine g_lcmp dX12_isOwn_54 ⟨by omega, by omega⟩ (by decide) ?_
              refine g_nm (fun b13 e_b13 => ?_)
              have h_b13 := lcmpv_b a1 108256335193460
              have h0_b13 := lcmpv_0 (x := a1) (y := 108256335193460)
              have h1_b13 := lcmpv_lt (x := a1) (y := 108256335193460)
              have h2_b13 := lcmpv_gt (x := a1) (y := 108256335193460)
              rw [← e_b13] at h_b13 h0_b13 h1_b13 h2_b13
              refine g_if_eq (tgt := 82) dX12_isOwn_55 (by decide) ⟨by omega, by omega⟩ (fun k14 => ?_) (fun k14 => ?_)
              · refine g_iconst dX12_isOwn_82 ?_
                exact g_retZ dX12_isOwn_83 rfl (by decide) (hQ 1 (by decide) )
              · refine g_lload_n dX12_isOwn_58 rfl ?_
                refine g_ldc2 (z := 7239021) dX12_isOwn_59 t_1732 (by decide) ?_
                refine g_lcmp dX12_isOwn_62 ⟨by omega, by omega⟩ (by decide) ?_
                refine g_nm (fun b15 e_b15 => ?_)
                have h_b15 := lcmpv_b a1 7239021
                have h0_b15 := lcmpv_0 (x := a1) (y := 7239021)
                have h1_b15 := lcmpv_lt (x := a1) (y := 7239021)
                have h2_b15 := lcmpv_gt (x := a1) (y := 7239021)
                rw [← e_b15] at h_b15 h0_b15 h1_b15 h2_b15
                refine g_if_eq (tgt := 82) dX12_isOwn_63 (by decide) ⟨by omega, by omega⟩ (fun k16 => ?_) (fun k16 => ?_)
                · refine g_iconst dX12_isOwn_82 ?_
                  exact g_retZ dX12_isOwn_83 rfl (by decide) (hQ 1 (by decide) )
                · refine g_lload_n dX12_isOwn_66 rfl ?_
                  refine g_ldc2 (z := 6385273) dX12_isOwn_67 t_1733 (by decide) ?_
                  refine g_lcmp dX12_isOwn_70 ⟨by omega, by omega⟩ (by decide) ?_
                  refine g_nm (fun b17 e_b17 => ?_)
                  have h_b17 := lcmpv_b a1 6385273
                  have h0_b17 := lcmpv_0 (x := a1) (y := 6385273)
                  have h1_b17 := lcmpv_lt (x := a1) (y := 6385273)
                  have h2_b17 := lcmpv_gt (x := a1) (y := 6385273)
                  rw [← e_b17] at h_b17 h0_b17 h1_b17 h2_b17
                  refine g_if_eq (tgt := 82) dX12_isOwn_71 (by decide) ⟨by omega, by omega⟩ (fun k18 => ?_) (fun k18 => ?_)
                  · refine g_iconst dX12_isOwn_82 ?_
                    exact g_retZ dX12_isOwn_83 rfl (by decide) (hQ 1 (by decide) )
                  · refine g_lload_n dX12_isOwn_74 rfl ?_
                    refine g_ldc2 (z := 28530) dX12_isOwn_75 t_1734 (by decide) ?_
                    refine g_lcmp dX12_isOwn_78 ⟨by omega, by omega⟩ (by decide) ?_
                    refine g_nm (fun b19 e_b19 => ?_)
                    have h_b19 := lcmpv_b a1 28530
                    have h0_b19 := lcmpv_0 (x := a1) (y := 28530)
                    have h1_b19 := lcmpv_lt (x := a1) (y := 28530)
                    have h2_b19 := lcmpv_gt (x := a1) (y := 28530)
                    rw [← e_b19] at h_b19 h0_b19 h1_b19 h2_b19
                    refine g_if_ne (tgt := 84) dX12_isOwn_79 (by decide) ⟨by omega, by omega⟩ (fun k20 => ?_) (fun k20 => ?_)
                    · refine g_lload_n dX12_isOwn_84 rfl ?_
                      refine g_ldc2 (z := 29807) dX12_isOwn_85 t_1735 (by decide) ?_
                      refine g_lcmp dX12_isOwn_88 ⟨by omega, by omega⟩ (by decide) ?_
                      refine g_nm (fun b21 e_b21 => ?_)
                      have h_b21 := lcmpv_b a1 29807
                      have h0_b21 := lcmpv_0 (x := a1) (y := 29807)
                      have h1_b21 := lcmpv_lt (x := a1) (y := 29807)
                      have h2_b21 := lcmpv_gt (x := a1) (y := 29807)
                      rw [← e_b21] at h_b21 h0_b21 h1_b21 h2_b21
                      refine g_if_ne (tgt := 94) dX12_isOwn_89 (by decide) ⟨by omega, by omega⟩ (fun k22 => ?_) (fun k22 => ?_)
                      · refine g_iconst dX12_isOwn_94 ?_
                        exact g_retZ dX12_isOwn_95 rfl (by decide) (hQ 0 (by decide) )
                      · refine g_iconst dX12_isOwn_92 ?_
                        exact g_retZ dX12_isOwn_93 rfl (by decide) (hQ 1 (by decide) )
                    · refine g_iconst dX12_isOwn_82 ?_
                      exact g_retZ dX12_isOwn_83 rfl (by decide) (hQ 1 (by decide) )
          · refine g_iconst dX12_isOwn_40 ?_
            exact g_retZ dX12_isOwn_41 rfl (by decide) (hQ 1 (by decide) )
set_option maxRecDepth 100000 in
set_option maxHeartbeats 4000000 in
theorem m_X12_must (G : GT) (P : PH) (a1 : Int) (h_a1 : (-2147483648) ≤ a1 ∧ a1 ≤ 2147483647) (hB : BdM P) (p_lx : (P 0 3 = 0 ∨ P 0 4 + 1 ≤ P 0 5) ∧ P 0 4 ≤ P 0 5) (Q : Option PV → PH → Prop) (hQ : ∀ (P1 : PH) (_ : BdM P1) (_ : FrM ([3, 4, 5, 6, 7, 8, 9, 12], []) P P1) (_ : (P1 0 3 = 0 ∨ P1 0 4 + 1 ≤ P1 0 5) ∧ P1 0 4 ≤ P1 0 5) (_ : P 0 4 ≤ P1 0 4) (_ : P 0 8 ≤ 0 ∨ 0 < P1 0 8) (_ : 0 < P1 0 8 ∨ P 0 4 + 1 ≤ P1 0 4), Q none P1) : Ct WSM G 3 iX12_must [vR 0, vI a1] P Q := by
  refine Ct.of (by decide) (l0 := [(0, vR 0), (1, vI a1)]) rfl (Nat.le_of_ble_eq_true rfl) ?_
  refine g_aload_n dX12_must_0 rfl ?_
  refine g_vV (av := []) (o := 0) (st := []) (m_X12_lex G P  hB  _ (fun Pc1 hBc1 hFc1 gc1_pe => ⟨rfl, ?_⟩)) cf_X12_lex t_1697 rfl (by decide) rfl rfl rfl (Nat.le_of_ble_eq_true rfl) (by decide) rfl dX12_must_1
  refine g_aload_n dX12_must_4 rfl ?_
  refine g_iload_n dX12_must_5 rfl ?_
  refine g_vI (av := [vI a1]) (o := 0) (st := []) (m_X12_isSign G Pc1 a1 ⟨by omega, by omega⟩ hBc1  _ (fun rc2 hc2 gc2_s => ⟨rc2, rfl, ?_⟩)) cf_X12_isSign t_1772 rfl (by decide) rfl rfl rfl (Nat.le_of_ble_eq_true rfl) (by decide) rfl dX12_must_6
  have z3 : Pc1 0 3 = (P 0 3) := ((hFc1.1 3 rfl).trans rfl)
  have z4 : Pc1 0 6 = (P 0 6) := ((hFc1.1 6 rfl).trans rfl)
  refine g_if_ne (tgt := 21) dX12_must_9 (by decide) ⟨by omega, by omega⟩ (fun k5 => ?_) (fun k5 => ?_)
  · refine g_aload_n dX12_must_21 rfl ?_
    refine m_g8 (z := (Pc1 0 8)) rfl dX12_must_22 rfl ?_
    have f6 := b0_8 hBc1
    refine g_if_ne (tgt := 32) dX12_must_25 (by decide) ⟨by have q0 := b0_8 hBc1; omega, by have q0 := b0_8 hBc1; omega⟩ (fun k7 => ?_) (fun k7 => ?_)
    · exact g_retV dX12_must_32 rfl (hQ _ hBc1 (FrM.c FrM.rf hFc1 rfl) (by have q0 := (((hFc1.1 3 rfl).trans rfl) : Pc1 0 3 = (P 0 3)); have q1 := b0_3 hB; have q2 := (((hFc1.1 4 rfl).trans rfl) : Pc1 0 4 = (P 0 4)); have q3 := b0_4 hB; have q4 := (((hFc1.1 5 rfl).trans rfl) : Pc1 0 5 = (P 0 5)); have q5 := b0_5 hB; omega) (by have q0 := (((hFc1.1 4 rfl).trans rfl) : Pc1 0 4 = (P 0 4)); have q1 := b0_4 hB; omega) (by have q0 := b0_8 hBc1; omega) (by have q0 := b0_8 hBc1; have q1 := (((hFc1.1 4 rfl).trans rfl) : Pc1 0 4 = (P 0 4)); have q2 := b0_4 hB; omega))
    · refine g_aload_n dX12_must_28 rfl ?_
      refine g_vV (av := []) (o := 0) (st := []) (m_X12_ahead G Pc1  hBc1  _ (fun Pc8 hBc8 hFc8 gc8_lx gc8_nx => ⟨rfl, ?_⟩)) cf_X12_ahead t_1683 rfl (by decide) rfl rfl rfl (Nat.le_of_ble_eq_true rfl) (by decide) rfl dX12_must_29
      have z9 : Pc1 0 5 = (P 0 5) := ((hFc1.1 5 rfl).trans rfl)
      exact g_retV dX12_must_32 rfl (hQ _ hBc8 (FrM.c (FrM.c FrM.rf hFc1 rfl) hFc8 rfl) (by have q0 := b0_3 hBc8; have q1 := b0_4 hBc8; have q2 := b0_5 hBc8; omega) (by have q0 := b0_4 hBc8; omega) (by have q0 := (((hFc8.1 8 rfl).trans rfl) : Pc8 0 8 = (Pc1 0 8)); have q1 := b0_8 hBc1; omega) (by have q0 := (((hFc8.1 8 rfl).trans rfl) : Pc8 0 8 = (Pc1 0 8)); have q1 := b0_8 hBc1; have q2 := b0_4 hBc8; omega))
  · refine g_aload_n dX12_must_12 rfl ?_
    refine g_iconst dX12_must_13 ?_
    refine g_aload_n dX12_must_14 rfl ?_
    refine m_g4 (z := (P 0 4)) rfl dX12_must_15 ((hFc1.1 4 rfl).trans rfl) ?_
    refine g_vV (av := [vI 1, vI (P 0 4)]) (o := 0) (st := []) (m_X12_blame G Pc1 1 (P 0 4) (by decide) ⟨by have q0 := b0_4 hB; omega, by have q0 := b0_4 hB; omega⟩ hBc1  _ (fun Pc10 hBc10 hFc10 gc10_f gc10_pe => ⟨rfl, ?_⟩)) cf_X12_blame t_1701 rfl (by decide) rfl rfl rfl (Nat.le_of_ble_eq_true rfl) (by decide) rfl dX12_must_18
    refine g_aload_n dX12_must_21 rfl ?_
    refine m_g8 (z := (Pc10 0 8)) rfl dX12_must_22 rfl ?_
    have f11 := b0_8 hBc10
    refine g_if_ne (tgt := 32) dX12_must_25 (by decide) ⟨by have q0 := b0_8 hBc10; omega, by have q0 := b0_8 hBc10; omega⟩ (fun k12 => ?_) (fun k12 => ?_)
    · exact g_retV dX12_must_32 rfl (hQ _ hBc10 (FrM.c (FrM.c FrM.rf hFc1 rfl) hFc10 rfl) (by have q0 := (((hFc10.1 3 rfl).trans ((hFc1.1 3 rfl).trans rfl)) : Pc10 0 3 = (P 0 3)); have q1 := b0_3 hB; have q2 := (((hFc10.1 4 rfl).trans ((hFc1.1 4 rfl).trans rfl)) : Pc10 0 4 = (P 0 4)); have q3 := b0_4 hB; have q4 := (((hFc10.1 5 rfl).trans ((hFc1.1 5 rfl).trans rfl)) : Pc10 0 5 = (P 0 5)); have q5 := b0_5 hB; omega) (by have q0 := (((hFc10.1 4 rfl).trans ((hFc1.1 4 rfl).trans rfl)) : Pc10 0 4 = (P 0 4)); have q1 := b0_4 hB; omega) (by have q0 := b0_8 hBc10; omega) (by have q0 := b0_8 hBc10; have q1 := (((hFc10.1 4 rfl).trans ((hFc1.1 4 rfl).trans rfl)) : Pc10 0 4 = (P 0 4)); have q2 := b0_4 hB; omega))
    · refine g_aload_n dX12_must_28 rfl ?_
      refine g_vV (av := []) (o := 0) (st := []) (m_X12_ahead G Pc10  hBc10  _ (fun Pc13 hBc13 hFc13 gc13_lx gc13_nx => ⟨rfl, ?_⟩)) cf_X12_ahead t_1683 rfl (by decide) rfl rfl rfl (Nat.le_of_ble_eq_true rfl) (by decide) rfl dX12_must_29
      have z14 : Pc10 0 5 = (P 0 5) := ((hFc10.1 5 rfl).trans ((hFc1.1 5 rfl).trans rfl))
      exact g_retV dX12_must_32 rfl (hQ _ hBc13 (FrM.c (FrM.c (FrM.c FrM.rf hFc1 rfl) hFc10 rfl) hFc13 rfl) (by have q0 := b0_3 hBc13; have q1 := b0_4 hBc13; have q2 := b0_5 hBc13; omega) (by have q0 := b0_4 hBc13; omega) (by have q0 := (((hFc13.1 8 rfl).trans rfl) : Pc13 0 8 = (Pc10 0 8)); have q1 := b0_8 hBc10; omega) (by have q0 := (((hFc13.1 8 rfl).trans rfl) : Pc13 0 8 = (Pc10 0 8)); have q1 := b0_8 hBc10; have q2 := b0_4 hBc13; omega))
set_option maxRecDepth 100000 in
set_option maxHeartbeats 4000000 in
theorem m_X12_number (G : GT) (P : PH) (a1 : Int) (a2 : Int) (h_a1 : (-2147483648) ≤ a1 ∧ a1 ≤ 2147483647) (h_a2 : (-2147483648) ≤ a2 ∧ a2 ≤ 2147483647) (hB : BdM P) (p_lx : (P 0 3 = 0 ∨ P 0 4 + 1 ≤ P 0 5) ∧ P 0 4 ≤ P 0 5) (Q : Option PV → PH → Prop) (hQ : ∀ (r : Int) (_ : (-2147483648) ≤ r ∧ r ≤ 2147483647) (P1 : PH) (_ : BdM P1) (_ : FrM ([3, 4, 5, 6, 7, 8, 9, 12], []) P P1) (_ : (P1 0 3 = 0 ∨ P1 0 4 + 1 ≤ P1 0 5) ∧ P1 0 4 ≤ P1 0 5) (_ : P 0 4 ≤ P1 0 4) (_ : P 0 8 ≤ 0 ∨ 0 < P1 0 8) (_ : 0 < P1 0 8 ∨ (a1 ≤ r ∧ r ≤ a2 ∧ P 0 4 + 1 ≤ P1 0 4)), Q (some (vI r)) P1) : Ct WSM G 3 iX12_number [vR 0, vI a1, vI a2] P Q := by
  refine Ct.of (by decide) (l0 := [(0, vR 0), (1, vI a1), (2, vI a2)]) rfl (Nat.le_of_ble_eq_true rfl) ?_
  refine g_aload_n dX12_number_0 rfl ?_
  refine g_vV (av := []) (o := 0) (st := []) (m_X12_lex G P  hB  _ (fun Pc1 hBc1 hFc1 gc1_pe => ⟨rfl, ?_⟩)) cf_X12_lex t_1697 rfl (by decide) rfl rfl rfl (Nat.le_of_ble_eq_true rfl) (by decide) rfl dX12_number_1
  refine g_aload_n dX12_number_4 rfl ?_
  refine m_g8 (z := (Pc1 0 8)) rfl dX12_number_5 rfl ?_
  have f2 := b0_8 hBc1
  refine g_if_le (tgt := 13) dX12_number_8 (by decide) ⟨by have q0 := b0_8 hBc1; omega, by have q0 := b0_8 hBc1; omega⟩ (fun k3 => ?_) (fun k3 => ?_)
  · refine g_aload_n dX12_number_13 rfl ?_
    refine m_g3 (z := (P 0 3)) rfl dX12_number_14 ((hFc1.1 3 rfl).trans rfl) ?_
    refine g_iconst dX12_number_17 ?_
    have f4 := b0_3 hB
    refine g_icmp_eq (tgt := 30) dX12_number_18 (by decide) ⟨by have q0 := b0_3 hB; omega, by have q0 := b0_3 hB; omega⟩ (by decide) (fun k5 => ?_) (fun k5 => ?_)
    · refine g_aload_n dX12_number_30 rfl ?_
      refine m_g8 (z := (Pc1 0 8)) rfl dX12_number_31 rfl ?_
      refine g_if_ne (tgt := 58) dX12_number_34 (by decide) ⟨by have q0 := b0_8 hBc1; omega, by have q0 := b0_8 hBc1; omega⟩ (fun k6 => by exfalso; have q0 := b0_8 hBc1; omega) (fun k6 => ?_)
      refine g_aload_n dX12_number_37 rfl ?_
      refine m_g6 (z := (P 0 6)) rfl dX12_number_38 ((hFc1.1 6 rfl).trans rfl) ?_
      refine g_iload_n dX12_number_41 rfl ?_
      refine g_iload_n dX12_number_42 rfl ?_
      refine g_sI (av := [vI (P 0 6), vI a1, vI a2]) (st := []) (m_X12_is G Pc1 (P 0 6) a1 a2 ⟨by have q0 := b0_6 hB; omega, by have q0 := b0_6 hB; omega⟩ ⟨by omega, by omega⟩ ⟨by omega, by omega⟩ hBc1  _ (fun rc7 hc7 gc7_is => ⟨rc7, rfl, ?_⟩)) cf_X12_is t_1800 rfl (Nat.le_of_ble_eq_true rfl) (by decide) rfl dX12_number_43
      refine g_if_ne (tgt := 58) dX12_number_46 (by decide) ⟨by omega, by omega⟩ (fun k8 => ?_) (fun k8 => ?_)
      · refine g_aload_n dX12_number_58 rfl ?_
        refine m_g6 (z := (P 0 6)) rfl dX12_number_59 ((hFc1.1 6 rfl).trans rfl) ?_
        refine g_istore_n (l1 := [(3, vI (P 0 6)), (0, vR 0), (1, vI a1), (2, vI a2)]) dX12_number_62 (by decide) rfl ?_
        refine g_aload_n dX12_number_63 rfl ?_
        refine m_g8 (z := (Pc1 0 8)) rfl dX12_number_64 rfl ?_
        refine g_if_ne (tgt := 74) dX12_number_67 (by decide) ⟨by have q0 := b0_8 hBc1; omega, by have q0 := b0_8 hBc1; omega⟩ (fun k9 => by exfalso; have q0 := b0_8 hBc1; omega) (fun k9 => ?_)
        refine g_aload_n dX12_number_70 rfl ?_
        refine g_vV (av := []) (o := 0) (st := []) (m_X12_ahead G Pc1  hBc1  _ (fun Pc10 hBc10 hFc10 gc10_lx gc10_nx => ⟨rfl, ?_⟩)) cf_X12_ahead t_1683 rfl (by decide) rfl rfl rfl (Nat.le_of_ble_eq_true rfl) (by decide) rfl dX12_number_71
        have z11 : Pc1 0 5 = (P 0 5) := ((hFc1.1 5 rfl).trans rfl)
        refine g_iload_n dX12_number_74 rfl ?_
        exact g_retI dX12_number_75 rfl (hQ (P 0 6) ⟨by have q0 := b0_6 hB; omega, by have q0 := b0_6 hB; omega⟩ _ hBc10 (FrM.c (FrM.c FrM.rf hFc1 rfl) hFc10 rfl) (by have q0 := b0_6 hB; have q1 := b0_3 hBc10; have q2 := b0_4 hBc10; have q3 := b0_5 hBc10; omega) (by have q0 := b0_6 hB; have q1 := b0_4 hBc10; omega) (by have q0 := b0_6 hB; have q1 := (((hFc10.1 8 rfl).trans rfl) : Pc10 0 8 = (Pc1 0 8)); have q2 := b0_8 hBc1; omega) (by have q0 := b0_6 hB; have q1 := (((hFc10.1 8 rfl).trans rfl) : Pc10 0 8 = (Pc1 0 8)); have q2 := b0_8 hBc1; have q3 := b0_4 hBc10; omega))
      · refine g_aload_n dX12_number_49 rfl ?_
        refine g_iconst dX12_number_50 ?_
        refine g_aload_n dX12_number_51 rfl ?_
        refine m_g4 (z := (P 0 4)) rfl dX12_number_52 ((hFc1.1 4 rfl).trans rfl) ?_
        refine g_vV (av := [vI 4, vI (P 0 4)]) (o := 0) (st := []) (m_X12_blame G Pc1 4 (P 0 4) (by decide) ⟨by have q0 := b0_4 hB; omega, by have q0 := b0_4 hB; omega⟩ hBc1  _ (fun Pc12 hBc12 hFc12 gc12_f gc12_pe => ⟨rfl, ?_⟩)) cf_X12_blame t_1701 rfl (by decide) rfl rfl rfl (Nat.le_of_ble_eq_true rfl) (by decide) rfl dX12_number_55
        refine g_aload_n dX12_number_58 rfl ?_
        refine m_g6 (z := (P 0 6)) rfl dX12_number_59 ((hFc12.1 6 rfl).trans ((hFc1.1 6 rfl).trans rfl)) ?_
        refine g_istore_n (l1 := [(3, vI (P 0 6)), (0, vR 0), (1, vI a1), (2, vI a2)]) dX12_number_62 (by decide) rfl ?_
        refine g_aload_n dX12_number_63 rfl ?_
        refine m_g8 (z := (Pc12 0 8)) rfl dX12_number_64 rfl ?_
        have f13 := b0_8 hBc12
        refine g_if_ne (tgt := 74) dX12_number_67 (by decide) ⟨by have q0 := b0_8 hBc12; omega, by have q0 := b0_8 hBc12; omega⟩ (fun k14 => ?_) (fun k14 => ?_)
        · refine g_iload_n dX12_number_74 rfl ?_
          exact g_retI dX12_number_75 rfl (hQ (P 0 6) ⟨by have q0 := b0_6 hB; omega, by have q0 := b0_6 hB; omega⟩ _ hBc12 (FrM.c (FrM.c FrM.rf hFc1 rfl) hFc12 rfl) (by have q0 := b0_6 hB; have q1 := (((hFc12.1 3 rfl).trans ((hFc1.1 3 rfl).trans rfl)) : Pc12 0 3 = (P 0 3)); have q2 := b0_3 hB; have q3 := (((hFc12.1 4 rfl).trans ((hFc1.1 4 rfl).trans rfl)) : Pc12 0 4 = (P 0 4)); have q4 := b0_4 hB; have q5 := (((hFc12.1 5 rfl).trans ((hFc1.1 5 rfl).trans rfl)) : Pc12 0 5 = (P 0 5)); have q6 := b0_5 hB; omega) (by have q0 := b0_6 hB; have q1 := (((hFc12.1 4 rfl).trans ((hFc1.1 4 rfl).trans rfl)) : Pc12 0 4 = (P 0 4)); have q2 := b0_4 hB; omega) (by have q0 := b0_6 hB; have q1 := b0_8 hBc12; omega) (by have q0 := b0_6 hB; have q1 := b0_8 hBc12; have q2 := (((hFc12.1 4 rfl).trans ((hFc1.1 4 rfl).trans rfl)) : Pc12 0 4 = (P 0 4)); have q3 := b0_4 hB; omega))
        · refine g_aload_n dX12_number_70 rfl ?_
          refine g_vV (av := []) (o := 0) (st := []) (m_X12_ahead G Pc12  hBc12  _ (fun Pc15 hBc15 hFc15 gc15_lx gc15_nx => ⟨rfl, ?_⟩)) cf_X12_ahead t_1683 rfl (by decide) rfl rfl rfl (Nat.le_of_ble_eq_true rfl) (by decide) rfl dX12_number_71
          have z16 : Pc12 0 5 = (P 0 5) := ((hFc12.1 5 rfl).trans ((hFc1.1 5 rfl).trans rfl))
          refine g_iload_n dX12_number_74 rfl ?_
          exact g_retI dX12_number_75 rfl (hQ (P 0 6) ⟨by have q0 := b0_6 hB; omega, by have q0 := b0_6 hB; omega⟩ _ hBc15 (FrM.c (FrM.c (FrM.c FrM.rf hFc1 rfl) hFc12 rfl) hFc15 rfl) (by have q0 := b0_6 hB; have q1 := b0_3 hBc15; have q2 := b0_4 hBc15; have q3 := b0_5 hBc15; omega) (by have q0 := b0_6 hB; have q1 := b0_4 hBc15; omega) (by have q0 := b0_6 hB; have q1 := (((hFc15.1 8 rfl).trans rfl) : Pc15 0 8 = (Pc12 0 8)); have q2 := b0_8 hBc12; omega) (by have q0 := b0_6 hB; have q1 := (((hFc15.1 8 rfl).trans rfl) : Pc15 0 8 = (Pc12 0 8)); have q2 := b0_8 hBc12; have q3 := b0_4 hBc15; omega))
    · refine g_aload_n dX12_number_21 rfl ?_
      refine g_iconst dX12_number_22 ?_
      refine g_aload_n dX12_number_23 rfl ?_
      refine m_g4 (z := (P 0 4)) rfl dX12_number_24 ((hFc1.1 4 rfl).trans rfl) ?_
      refine g_vV (av := [vI 1, vI (P 0 4)]) (o := 0) (st := []) (m_X12_blame G Pc1 1 (P 0 4) (by decide) ⟨by have q0 := b0_4 hB; omega, by have q0 := b0_4 hB; omega⟩ hBc1  _ (fun Pc17 hBc17 hFc17 gc17_f gc17_pe => ⟨rfl, ?_⟩)) cf_X12_blame t_1701 rfl (by decide) rfl rfl rfl (Nat.le_of_ble_eq_true rfl) (by decide) rfl dX12_number_27
      refine g_aload_n dX12_number_30 rfl ?_
      refine m_g8 (z := (Pc17 0 8)) rfl dX12_number_31 rfl ?_
      have f18 := b0_8 hBc17
      refine g_if_ne (tgt := 58) dX12_number_34 (by decide) ⟨by have q0 := b0_8 hBc17; omega, by have q0 := b0_8 hBc17; omega⟩ (fun k19 => ?_) (fun k19 => ?_)
      · refine g_aload_n dX12_number_58 rfl ?_
        refine m_g6 (z := (P 0 6)) rfl dX12_number_59 ((hFc17.1 6 rfl).trans ((hFc1.1 6 rfl).trans rfl)) ?_
        refine g_istore_n (l1 := [(3, vI (P 0 6)), (0, vR 0), (1, vI a1), (2, vI a2)]) dX12_number_62 (by decide) rfl ?_
        refine g_aload_n dX12_number_63 rfl ?_
        refine m_g8 (z := (Pc17 0 8)) rfl dX12_number_64 rfl ?_
        refine g_if_ne (tgt := 74) dX12_number_67 (by decide) ⟨by have q0 := b0_8 hBc17; omega, by have q0 := b0_8 hBc17; omega⟩ (fun k20 => ?_) (fun k20 => by exfalso; have q0 := b0_8 hBc17; omega)
        refine g_iload_n dX12_number_74 rfl ?_
        exact g_retI dX12_number_75 rfl (hQ (P 0 6) ⟨by have q0 := b0_6 hB; omega, by have q0 := b0_6 hB; omega⟩ _ hBc17 (FrM.c (FrM.c FrM.rf hFc1 rfl) hFc17 rfl) (by have q0 := b0_6 hB; have q1 := (((hFc17.1 3 rfl).trans ((hFc1.1 3 rfl).trans rfl)) : Pc17 0 3 = (P 0 3)); have q2 := b0_3 hB; have q3 := (((hFc17.1 4 rfl).trans ((hFc1.1 4 rfl).trans rfl)) : Pc17 0 4 = (P 0 4)); have q4 := b0_4 hB; have q5 := (((hFc17.1 5 rfl).trans ((hFc1.1 5 rfl).trans rfl)) : Pc17 0 5 = (P 0 5)); have q6 := b0_5 hB; omega) (by have q0 := b0_6 hB; have q1 := (((hFc17.1 4 rfl).trans ((hFc1.1 4 rfl).trans rfl)) : Pc17 0 4 = (P 0 4)); have q2 := b0_4 hB; omega) (by have q0 := b0_6 hB; have q1 := b0_8 hBc17; omega) (by have q0 := b0_6 hB; have q1 := b0_8 hBc17; have q2 := (((hFc17.1 4 rfl).trans ((hFc1.1 4 rfl).trans rfl)) : Pc17 0 4 = (P 0 4)); have q3 := b0_4 hB; omega))
      · refine g_aload_n dX12_number_37 rfl ?_
        refine m_g6 (z := (P 0 6)) rfl dX12_number_38 ((hFc17.1 6 rfl).trans ((hFc1.1 6 rfl).trans rfl)) ?_
        refine g_iload_n dX12_number_41 rfl ?_
        refine g_iload_n dX12_number_42 rfl ?_
        refine g_sI (av := [vI (P 0 6), vI a1, vI a2]) (st := []) (m_X12_is G Pc17 (P 0 6) a1 a2 ⟨by have q0 := b0_6 hB; omega, by have q0 := b0_6 hB; omega⟩ ⟨by omega, by omega⟩ ⟨by omega, by omega⟩ hBc17  _ (fun rc21 hc21 gc21_is => ⟨rc21, rfl, ?_⟩)) cf_X12_is t_1800 rfl (Nat.le_of_ble_eq_true rfl) (by decide) rfl dX12_number_43
        refine g_if_ne (tgt := 58) dX12_number_46 (by decide) ⟨by omega, by omega⟩ (fun k22 => ?_) (fun k22 => ?_)
        · refine g_aload_n dX12_number_58 rfl ?_
          refine m_g6 (z := (P 0 6)) rfl dX12_number_59 ((hFc17.1 6 rfl).trans ((hFc1.1 6 rfl).trans rfl)) ?_
          refine g_istore_n (l1 := [(3, vI (P 0 6)), (0, vR 0), (1, vI a1), (2, vI a2)]) dX12_number_62 (by decide) rfl ?_
          refine g_aload_n dX12_number_63 rfl ?_
          refine m_g8 (z := (Pc17 0 8)) rfl dX12_number_64 rfl ?_
          refine g_if_ne (tgt := 74) dX12_number_67 (by decide) ⟨by have q0 := b0_8 hBc17; omega, by have q0 := b0_8 hBc17; omega⟩ (fun k23 => by exfalso; have q0 := b0_8 hBc17; omega) (fun k23 => ?_)
          refine g_aload_n dX12_number_70 rfl ?_
          refine g_vV (av := []) (o := 0) (st := []) (m_X12_ahead G Pc17  hBc17  _ (fun Pc24 hBc24 hFc24 gc24_lx gc24_nx => ⟨rfl, ?_⟩)) cf_X12_ahead t_1683 rfl (by decide) rfl rfl rfl (Nat.le_of_ble_eq_true rfl) (by decide) rfl dX12_number_71
          have z25 : Pc17 0 5 = (P 0 5) := ((hFc17.1 5 rfl).trans ((hFc1.1 5 rfl).trans rfl))
          refine g_iload_n dX12_number_74 rfl ?_
          exact g_retI dX12_number_75 rfl (hQ (P 0 6) ⟨by have q0 := b0_6 hB; omega, by have q0 := b0_6 hB; omega⟩ _ hBc24 (FrM.c (FrM.c (FrM.c FrM.rf hFc1 rfl) hFc17 rfl) hFc24 rfl) (by have q0 := b0_6 hB; have q1 := b0_3 hBc24; have q2 := b0_4 hBc24; have q3 := b0_5 hBc24; omega) (by have q0 := b0_6 hB; have q1 := b0_4 hBc24; omega) (by have q0 := b0_6 hB; have q1 := (((hFc24.1 8 rfl).trans rfl) : Pc24 0 8 = (Pc17 0 8)); have q2 := b0_8 hBc17; omega) (by have q0 := b0_6 hB; have q1 := (((hFc24.1 8 rfl).trans rfl) : Pc24 0 8 = (Pc17 0 8)); have q2 := b0_8 hBc17; have q3 := b0_4 hBc24; omega))
        · refine g_aload_n dX12_number_49 rfl ?_
          refine g_iconst dX12_number_50 ?_
          refine g_aload_n dX12_number_51 rfl ?_
          refine m_g4 (z := (P 0 4)) rfl dX12_number_52 ((hFc17.1 4 rfl).trans ((hFc1.1 4 rfl).trans rfl)) ?_
          refine g_vV (av := [vI 4, vI (P 0 4)]) (o := 0) (st := []) (m_X12_blame G Pc17 4 (P 0 4) (by decide) ⟨by have q0 := b0_4 hB; omega, by have q0 := b0_4 hB; omega⟩ hBc17  _ (fun Pc26 hBc26 hFc26 gc26_f gc26_pe => ⟨rfl, ?_⟩)) cf_X12_blame t_1701 rfl (by decide) rfl rfl rfl (Nat.le_of_ble_eq_true rfl) (by decide) rfl dX12_number_55
          refine g_aload_n dX12_number_58 rfl ?_
          refine m_g6 (z := (P 0 6)) rfl dX12_number_59 ((hFc26.1 6 rfl).trans ((hFc17.1 6 rfl).trans ((hFc1.1 6 rfl).trans rfl))) ?_
          refine g_istore_n (l1 := [(3, vI (P 0 6)), (0, vR 0), (1, vI a1), (2, vI a2)]) dX12_number_62 (by decide) rfl ?_
          refine g_aload_n dX12_number_63 rfl ?_
          refine m_g8 (z := (Pc26 0 8)) rfl dX12_number_64 rfl ?_
          have f27 := b0_8 hBc26
          refine g_if_ne (tgt := 74) dX12_number_67 (by decide) ⟨by have q0 := b0_8 hBc26; omega, by have q0 := b0_8 hBc26; omega⟩ (fun k28 => ?_) (fun k28 => ?_)
          · refine g_iload_n dX12_number_74 rfl ?_
            exact g_retI dX12_number_75 rfl (hQ (P 0 6) ⟨by have q0 := b0_6 hB; omega, by have q0 := b0_6 hB; omega⟩ _ hBc26 (FrM.c (FrM.c (FrM.c FrM.rf hFc1 rfl) hFc17 rfl) hFc26 rfl) (by have q0 := b0_6 hB; have q1 := (((hFc26.1 3 rfl).trans ((hFc17.1 3 rfl).trans ((hFc1.1 3 rfl).trans rfl))) : Pc26 0 3 = (P 0 3)); have q2 := b0_3 hB; have q3 := (((hFc26.1 4 rfl).trans ((hFc17.1 4 rfl).trans ((hFc1.1 4 rfl).trans rfl))) : Pc26 0 4 = (P 0 4)); have q4 := b0_4 hB; have q5 := (((hFc26.1 5 rfl).trans ((hFc17.1 5 rfl).trans ((hFc1.1 5 rfl).trans rfl))) : Pc26 0 5 = (P 0 5)); have q6 := b0_5 hB; omega) (by have q0 := b0_6 hB; have q1 := (((hFc26.1 4 rfl).trans ((hFc17.1 4 rfl).trans ((hFc1.1 4 rfl).trans rfl))) : Pc26 0 4 = (P 0 4)); have q2 := b0_4 hB; omega) (by have q0 := b0_6 hB; have q1 := b0_8 hBc26; omega) (by have q0 := b0_6 hB; have q1 := b0_8 hBc26; have q2 := (((hFc26.1 4 rfl).trans ((hFc17.1 4 rfl).trans ((hFc1.1 4 rfl).trans rfl))) : Pc26 0 4 = (P 0 4)); have q3 := b0_4 hB; omega))
          · refine g_aload_n dX12_number_70 rfl ?_
            refine g_vV (av := []) (o := 0) (st := []) (m_X12_ahead G Pc26  hBc26  _ (fun Pc29 hBc29 hFc29 gc29_lx gc29_nx => ⟨rfl, ?_⟩)) cf_X12_ahead t_1683 rfl (by decide) rfl rfl rfl (Nat.le_of_ble_eq_true rfl) (by decide) rfl dX12_number_71
            have z30 : Pc26 0 5 = (P 0 5) := ((hFc26.1 5 rfl).trans ((hFc17.1 5 rfl).trans ((hFc1.1 5 rfl).trans rfl)))
            refine g_iload_n dX12_number_74 rfl ?_
            exact g_retI dX12_number_75 rfl (hQ (P 0 6) ⟨by have q0 := b0_6 hB; omega, by have q0 := b0_6 hB; omega⟩ _ hBc29 (FrM.c (FrM.c (FrM.c (FrM.c FrM.rf hFc1 rfl) hFc17 rfl) hFc26 rfl) hFc29 rfl) (by have q0 := b0_6 hB; have q1 := b0_3 hBc29; have q2 := b0_4 hBc29; have q3 := b0_5 hBc29; omega) (by have q0 := b0_6 hB; have q1 := b0_4 hBc29; omega) (by have q0 := b0_6 hB; have q1 := (((hFc29.1 8 rfl).trans rfl) : Pc29 0 8 = (Pc26 0 8)); have q2 := b0_8 hBc26; omega) (by have q0 := b0_6 hB; have q1 := (((hFc29.1 8 rfl).trans rfl) : Pc29 0 8 = (Pc26 0 8)); have q2 := b0_8 hBc26; have q3 := b0_4 hBc29; omega))
  · refine g_iconst dX12_number_11 ?_
    exact g_retI dX12_number_12 rfl (hQ 0 (by decide) _ hBc1 (FrM.c FrM.rf hFc1 rfl) (by have q0 := (((hFc1.1 3 rfl).trans rfl) : Pc1 0 3 = (P 0 3)); have q1 := b0_3 hB; have q2 := (((hFc1.1 4 rfl).trans rfl) : Pc1 0 4 = (P 0 4)); have q3 := b0_4 hB; have q4 := (((hFc1.1 5 rfl).trans rfl) : Pc1 0 5 = (P 0 5)); have q5 := b0_5 hB; omega) (by have q0 := (((hFc1.1 4 rfl).trans rfl) : Pc1 0 4 = (P 0 4)); have q1 := b0_4 hB; omega) (by have q0 := b0_8 hBc1; omega) (by have q0 := b0_8 hBc1; have q1 := (((hFc1.1 4 rfl).trans rfl) : Pc1 0 4 = (P 0 4)); have q2 := b0_4 hB; omega))
set_option maxRecDepth 100000 in
set_option maxHeartbeats 4000000 in
theorem m_X12_isCounted (G : GT) (P : PH) (a1 : Int) (h_a1 : 0 ≤ a1 ∧ a1 ≤ 1) (hB : BdM P) (p_lx : (P 0 3 = 0 ∨ P 0 4 + 1 ≤ P 0 5) ∧ P 0 4 ≤ P 0 5) (Q : Option PV → PH → Prop) (hQ : ∀ (r : Int) (_ : 0 ≤ r ∧ r ≤ 1) (P1 : PH) (_ : BdM P1) (_ : FrM ([3, 4, 5, 6, 7, 8, 9, 12], []) P P1) (_ : (P1 0 3 = 0 ∨ P1 0 4 + 1 ≤ P1 0 5) ∧ P1 0 4 ≤ P1 0 5) (_ : P 0 4 ≤ P1 0 4) (_ : P 0 8 ≤ 0 ∨ 0 < P1 0 8) (_ : (r = 1 ∧ P1 0 8 ≤ 0 ∧ a1 = 0) ∨ (r = 0 ∧ 0 < P1 0 8)) (_ : r = 0 ∨ P 0 3 = 0 ∨ P 0 4 + 1 ≤ P1 0 4), Q (some (vI r)) P1) : Ct WSM G 3 iX12_isCounted [vR 0, vI a1] P Q := by
  refine Ct.of (by decide) (l0 := [(0, vR 0), (1, vI a1)]) rfl (Nat.le_of_ble_eq_true rfl) ?_
  refine g_aload_n dX12_isCounted_0 rfl ?_
  refine m_g8 (z := (P 0 8)) rfl dX12_isCounted_1 rfl ?_
  have f1 := b0_8 hB
  refine g_if_ne (tgt := 21) dX12_isCounted_4 (by decide) ⟨by have q0 := b0_8 hB; omega, by have q0 := b0_8 hB; omega⟩ (fun k2 => ?_) (fun k2 => ?_)
  · refine g_aload_n dX12_isCounted_21 rfl ?_
    refine m_g8 (z := (P 0 8)) rfl dX12_isCounted_22 rfl ?_
    refine g_if_ne (tgt := 32) dX12_isCounted_25 (by decide) ⟨by have q0 := b0_8 hB; omega, by have q0 := b0_8 hB; omega⟩ (fun k3 => ?_) (fun k3 => by exfalso; have q0 := b0_8 hB; omega)
    refine g_aload_n dX12_isCounted_32 rfl ?_
    refine m_g8 (z := (P 0 8)) rfl dX12_isCounted_33 rfl ?_
    refine g_if_ne (tgt := 43) dX12_isCounted_36 (by decide) ⟨by have q0 := b0_8 hB; omega, by have q0 := b0_8 hB; omega⟩ (fun k4 => ?_) (fun k4 => by exfalso; have q0 := b0_8 hB; omega)
    refine g_iconst dX12_isCounted_43 ?_
    exact g_retZ dX12_isCounted_44 rfl (by decide) (hQ 0 (by decide) _ hB FrM.rf (by have q0 := b0_3 hB; have q1 := b0_4 hB; have q2 := b0_5 hB; omega) (by have q0 := b0_4 hB; omega) (by have q0 := b0_8 hB; omega) (by have q0 := b0_8 hB; omega) (by have q0 := b0_3 hB; have q1 := b0_4 hB; omega))
  · refine g_iload_n dX12_isCounted_7 rfl ?_
    refine g_if_eq (tgt := 21) dX12_isCounted_8 (by decide) ⟨by omega, by omega⟩ (fun k5 => ?_) (fun k5 => ?_)
    · refine g_aload_n dX12_isCounted_21 rfl ?_
      refine m_g8 (z := (P 0 8)) rfl dX12_isCounted_22 rfl ?_
      refine g_if_ne (tgt := 32) dX12_isCounted_25 (by decide) ⟨by have q0 := b0_8 hB; omega, by have q0 := b0_8 hB; omega⟩ (fun k6 => by exfalso; have q0 := b0_8 hB; omega) (fun k6 => ?_)
      refine g_aload_n dX12_isCounted_28 rfl ?_
      refine g_vV (av := []) (o := 0) (st := []) (m_X12_ahead G P  hB  _ (fun Pc7 hBc7 hFc7 gc7_lx gc7_nx => ⟨rfl, ?_⟩)) cf_X12_ahead t_1683 rfl (by decide) rfl rfl rfl (Nat.le_of_ble_eq_true rfl) (by decide) rfl dX12_isCounted_29
      refine g_aload_n dX12_isCounted_32 rfl ?_
      refine m_g8 (z := (P 0 8)) rfl dX12_isCounted_33 ((hFc7.1 8 rfl).trans rfl) ?_
      refine g_if_ne (tgt := 43) dX12_isCounted_36 (by decide) ⟨by have q0 := b0_8 hB; omega, by have q0 := b0_8 hB; omega⟩ (fun k8 => by exfalso; have q0 := b0_8 hB; omega) (fun k8 => ?_)
      refine g_iconst dX12_isCounted_39 ?_
      refine g_goto (tgt := 44) dX12_isCounted_40 (by decide) ?_
      exact g_retZ dX12_isCounted_44 rfl (by decide) (hQ 1 (by decide) _ hBc7 (FrM.c FrM.rf hFc7 rfl) (by have q0 := b0_3 hBc7; have q1 := b0_4 hBc7; have q2 := b0_5 hBc7; omega) (by have q0 := b0_4 hBc7; omega) (by have q0 := (((hFc7.1 8 rfl).trans rfl) : Pc7 0 8 = (P 0 8)); have q1 := b0_8 hB; omega) (by have q0 := (((hFc7.1 8 rfl).trans rfl) : Pc7 0 8 = (P 0 8)); have q1 := b0_8 hB; omega) (by have q0 := b0_3 hBc7; have q1 := b0_4 hBc7; omega))
    · refine g_aload_n dX12_isCounted_11 rfl ?_
      refine g_bipush dX12_isCounted_12 (by decide) ?_
      refine g_aload_n dX12_isCounted_14 rfl ?_
      refine m_g4 (z := (P 0 4)) rfl dX12_isCounted_15 rfl ?_
      refine g_vV (av := [vI 6, vI (P 0 4)]) (o := 0) (st := []) (m_X12_blame G P 6 (P 0 4) (by decide) ⟨by have q0 := b0_4 hB; omega, by have q0 := b0_4 hB; omega⟩ hB  _ (fun Pc9 hBc9 hFc9 gc9_f gc9_pe => ⟨rfl, ?_⟩)) cf_X12_blame t_1701 rfl (by decide) rfl rfl rfl (Nat.le_of_ble_eq_true rfl) (by decide) rfl dX12_isCounted_18
      refine g_aload_n dX12_isCounted_21 rfl ?_
      refine m_g8 (z := (Pc9 0 8)) rfl dX12_isCounted_22 rfl ?_
      have f10 := b0_8 hBc9
      refine g_if_ne (tgt := 32) dX12_isCounted_25 (by decide) ⟨by have q0 := b0_8 hBc9; omega, by have q0 := b0_8 hBc9; omega⟩ (fun k11 => ?_) (fun k11 => ?_)
      · refine g_aload_n dX12_isCounted_32 rfl ?_
        refine m_g8 (z := (Pc9 0 8)) rfl dX12_isCounted_33 rfl ?_
        refine g_if_ne (tgt := 43) dX12_isCounted_36 (by decide) ⟨by have q0 := b0_8 hBc9; omega, by have q0 := b0_8 hBc9; omega⟩ (fun k12 => ?_) (fun k12 => by exfalso; have q0 := b0_8 hBc9; omega)
        refine g_iconst dX12_isCounted_43 ?_
        exact g_retZ dX12_isCounted_44 rfl (by decide) (hQ 0 (by decide) _ hBc9 (FrM.c FrM.rf hFc9 rfl) (by have q0 := (((hFc9.1 3 rfl).trans rfl) : Pc9 0 3 = (P 0 3)); have q1 := b0_3 hB; have q2 := (((hFc9.1 4 rfl).trans rfl) : Pc9 0 4 = (P 0 4)); have q3 := b0_4 hB; have q4 := (((hFc9.1 5 rfl).trans rfl) : Pc9 0 5 = (P 0 5)); have q5 := b0_5 hB; omega) (by have q0 := (((hFc9.1 4 rfl).trans rfl) : Pc9 0 4 = (P 0 4)); have q1 := b0_4 hB; omega) (by have q0 := b0_8 hBc9; omega) (by have q0 := b0_8 hBc9; omega) (by have q0 := (((hFc9.1 3 rfl).trans rfl) : Pc9 0 3 = (P 0 3)); have q1 := b0_3 hB; have q2 := (((hFc9.1 4 rfl).trans rfl) : Pc9 0 4 = (P 0 4)); have q3 := b0_4 hB; omega))
      · refine g_aload_n dX12_isCounted_28 rfl ?_
        refine g_vV (av := []) (o := 0) (st := []) (m_X12_ahead G Pc9  hBc9  _ (fun Pc13 hBc13 hFc13 gc13_lx gc13_nx => ⟨rfl, ?_⟩)) cf_X12_ahead t_1683 rfl (by decide) rfl rfl rfl (Nat.le_of_ble_eq_true rfl) (by decide) rfl dX12_isCounted_29
        have z14 : Pc9 0 5 = (P 0 5) := ((hFc9.1 5 rfl).trans rfl)
        refine g_aload_n dX12_isCounted_32 rfl ?_
        refine m_g8 (z := (Pc9 0 8)) rfl dX12_isCounted_33 ((hFc13.1 8 rfl).trans rfl) ?_
        refine g_if_ne (tgt := 43) dX12_isCounted_36 (by decide) ⟨by have q0 := b0_8 hBc9; omega, by have q0 := b0_8 hBc9; omega⟩ (fun k15 => by exfalso; have q0 := b0_8 hBc9; omega) (fun k15 => ?_)
        refine g_iconst dX12_isCounted_39 ?_
        refine g_goto (tgt := 44) dX12_isCounted_40 (by decide) ?_
        exact g_retZ dX12_isCounted_44 rfl (by decide) (hQ 1 (by decide) _ hBc13 (FrM.c (FrM.c FrM.rf hFc9 rfl) hFc13 rfl) (by have q0 := b0_3 hBc13; have q1 := b0_4 hBc13; have q2 := b0_5 hBc13; omega) (by have q0 := b0_4 hBc13; omega) (by have q0 := (((hFc13.1 8 rfl).trans rfl) : Pc13 0 8 = (Pc9 0 8)); have q1 := b0_8 hBc9; omega) (by have q0 := (((hFc13.1 8 rfl).trans rfl) : Pc13 0 8 = (Pc9 0 8)); have q1 := b0_8 hBc9; omega) (by have q0 := b0_3 hBc13; have q1 := b0_4 hBc13; omega))
set_option maxRecDepth 100000 in
set_option maxHeartbeats 4000000 in
theorem m_X12_kindNamed (G : GT) (P : PH) (a1 : Int) (h_a1 : (-9223372036854775808) ≤ a1 ∧ a1 ≤ 9223372036854775807) (hB : BdM P) (Q : Option PV → PH → Prop) (hQ : ∀ (r : Int) (_ : (-1) ≤ r ∧ r ≤ 3) (_ : r < P 2 (P 0 37)), Q (some (vI r)) P) : Ct WSM G 1 iX12_kindNamed [vR 0, vL a1] P Q := by
  refine Ct.of (by decide) (l0 := [(0, vR 0), (1, vL a1)]) rfl (Nat.le_of_ble_eq_true rfl) ?_
  refine g_iconst dX12_kindNamed_0 ?_
  refine g_istore_n (l1 := [(3, vI 0), (0, vR 0), (1, vL a1)]) dX12_kindNamed_1 (by decide) rfl ?_
  have L2_0 : ∀ (n2_0 : Nat) (x2_3_0 : Int) (h_x2_3_0 : 0 ≤ x2_3_0 ∧ x2_3_0 ≤ 4) (hm2_0 : ((5 - x2_3_0)).toNat < n2_0), Go WSM G 1 iX12_kindNamed 2 [(0, vR 0), (1, vL a1), (3, vI x2_3_0)] [] P Q := by
    intro n2_0
    induction n2_0 with
    | zero => intro x2_3_0 h_x2_3_0 hm2_0; exact absurd hm2_0 (Nat.not_lt_zero _)
    | succ n2_0 ih2_0 =>
    intro x2_3_0 h_x2_3_0 hm2_0
    refine g_iload_n dX12_kindNamed_2 rfl ?_
    refine g_aload_n dX12_kindNamed_3 rfl ?_
    refine m_g14 rfl dX12_kindNamed_4 ?_
    refine g_aload_n dX12_kindNamed_7 rfl ?_
    refine m_g37 (z := (P 0 37)) rfl dX12_kindNamed_8 rfl ?_
    refine m_l2 (z := (P 2 (P 0 37))) dX12_kindNamed_11 ⟨by have q0 := b0_37 hB; omega, by have q0 := b0_37 hB; omega⟩ rfl ?_
    have f30 := bl_2 (k := (P 0 37)) hB
    refine g_icmp_ge (tgt := 41) dX12_kindNamed_12 (by decide) ⟨by omega, by omega⟩ ⟨by have q0 := bl_2 (k := (P 0 37)) hB; omega, by have q0 := bl_2 (k := (P 0 37)) hB; omega⟩ (fun k31 => ?_) (fun k31 => ?_)
    · refine g_iconst dX12_kindNamed_41 ?_
      exact g_retI dX12_kindNamed_42 rfl (hQ (-1) (by decide) (by have q0 := bl_2 (k := (P 0 37)) hB; omega))
    · refine g_aload_n dX12_kindNamed_15 rfl ?_
      refine m_g34 rfl dX12_kindNamed_16 ?_
      refine g_iconst dX12_kindNamed_19 ?_
      refine g_aload_n dX12_kindNamed_20 rfl ?_
      refine m_g37 (z := (P 0 37)) rfl dX12_kindNamed_21 rfl ?_
      refine g_imul dX12_kindNamed_24 ?_
      refine g_iload_n dX12_kindNamed_25 rfl ?_
      refine g_iadd dX12_kindNamed_26 ?_
      refine m_l22 (z := (P 22 ((4 * (P 0 37)) + x2_3_0))) dX12_kindNamed_27 ⟨by have q0 := b0_37 hB; omega, by have q0 := b0_37 hB; omega⟩ rfl ?_
      refine g_lload_n dX12_kindNamed_28 rfl ?_
      refine g_lcmp dX12_kindNamed_29 ⟨by have q0 := bl_22 (k := ((4 * (P 0 37)) + x2_3_0)) hB; omega, by have q0 := bl_22 (k := ((4 * (P 0 37)) + x2_3_0)) hB; omega⟩ ⟨by omega, by omega⟩ ?_
      refine g_nm (fun b32 e_b32 => ?_)
      have h_b32 := lcmpv_b (P 22 ((4 * (P 0 37)) + x2_3_0)) a1
      have h0_b32 := lcmpv_0 (x := (P 22 ((4 * (P 0 37)) + x2_3_0))) (y := a1)
      have h1_b32 := lcmpv_lt (x := (P 22 ((4 * (P 0 37)) + x2_3_0))) (y := a1)
      have h2_b32 := lcmpv_gt (x := (P 22 ((4 * (P 0 37)) + x2_3_0))) (y := a1)
      rw [← e_b32] at h_b32 h0_b32 h1_b32 h2_b32
      refine g_if_ne (tgt := 35) dX12_kindNamed_30 (by decide) ⟨by omega, by omega⟩ (fun k33 => ?_) (fun k33 => ?_)
      · refine g_iinc (l1 := [(3, vI (x2_3_0 + 1)), (0, vR 0), (1, vL a1)]) dX12_kindNamed_35 rfl (by decide) rfl ?_
        refine g_goto (tgt := 2) dX12_kindNamed_38 (by decide) ?_
        refine g_forget (l1 := [(0, vR 0), (1, vL a1), (3, vI (x2_3_0 + 1))]) (by intro q hq; simp only [List.mem_cons, List.not_mem_nil, or_false] at hq ⊢; rcases hq with rfl | rfl | rfl <;> simp) ?_
        exact ih2_0 (x2_3_0 + 1) ⟨by omega, by omega⟩ (by omega)
      · refine g_iload_n dX12_kindNamed_33 rfl ?_
        exact g_retI dX12_kindNamed_34 rfl (hQ x2_3_0 ⟨by omega, by omega⟩ (by have q0 := bl_2 (k := (P 0 37)) hB; omega))
  refine g_forget (l1 := [(0, vR 0), (1, vL a1), (3, vI 0)]) (by intro q hq; simp only [List.mem_cons, List.not_mem_nil, or_false] at hq ⊢; rcases hq with rfl | rfl | rfl <;> simp) ?_
  exact L2_0 _ 0 (by decide) (Nat.lt_succ_self _)
set_option maxRecDepth 100000 in
set_option maxHeartbeats 4000000 in
theorem m_X12_conNamed (G : GT) (P : PH) (a1 : Int) (a2 : Int) (h_a1 : 0 ≤ a1 ∧ a1 ≤ 1) (h_a2 : (-9223372036854775808) ≤ a2 ∧ a2 ≤ 9223372036854775807) (hB : BdM P) (Q : Option PV → PH → Prop) (hQ : ∀ (r : Int) (_ : (-1) ≤ r ∧ r ≤ 23) (_ : r < P 5 a1 ∨ r = -1), Q (some (vI r)) P) : Ct WSM G 1 iX12_conNamed [vR 0, vI a1, vL a2] P Q := by
  refine Ct.of (by decide) (l0 := [(0, vR 0), (1, vI a1), (2, vL a2)]) rfl (Nat.le_of_ble_eq_true rfl) ?_
  refine g_iconst dX12_conNamed_0 ?_
  refine g_istore (l1 := [(4, vI 0), (0, vR 0), (1, vI a1), (2, vL a2)]) dX12_conNamed_1 (by decide) rfl ?_
  have L3_0 : ∀ (n3_0 : Nat) (x3_4_0 : Int) (h_x3_4_0 : 0 ≤ x3_4_0 ∧ x3_4_0 ≤ 24) (hm3_0 : ((25 - x3_4_0)).toNat < n3_0), Go WSM G 1 iX12_conNamed 3 [(0, vR 0), (1, vI a1), (2, vL a2), (4, vI x3_4_0)] [] P Q := by
    intro n3_0
    induction n3_0 with
    | zero => intro x3_4_0 h_x3_4_0 hm3_0; exact absurd hm3_0 (Nat.not_lt_zero _)
    | succ n3_0 ih3_0 =>
    intro x3_4_0 h_x3_4_0 hm3_0
    refine g_iload dX12_conNamed_3 rfl ?_
    refine g_aload_n dX12_conNamed_5 rfl ?_
    refine m_g17 rfl dX12_conNamed_6 ?_
    refine g_iload_n dX12_conNamed_9 rfl ?_
    refine m_l5 (z := (P 5 a1)) dX12_conNamed_10 ⟨by omega, by omega⟩ rfl ?_
    have f30 := bl_5 (k := a1) hB
    refine g_icmp_ge (tgt := 40) dX12_conNamed_11 (by decide) ⟨by omega, by omega⟩ ⟨by have q0 := bl_5 (k := a1) hB; omega, by have q0 := bl_5 (k := a1) hB; omega⟩ (fun k31 => ?_) (fun k31 => ?_)
    · refine g_iconst dX12_conNamed_40 ?_
      exact g_retI dX12_conNamed_41 rfl (hQ (-1) (by decide) (by have q0 := bl_5 (k := a1) hB; omega))
    · refine g_aload_n dX12_conNamed_14 rfl ?_
      refine m_g35 rfl dX12_conNamed_15 ?_
      refine g_bipush dX12_conNamed_18 (by decide) ?_
      refine g_iload_n dX12_conNamed_20 rfl ?_
      refine g_imul dX12_conNamed_21 ?_
      refine g_iload dX12_conNamed_22 rfl ?_
      refine g_iadd dX12_conNamed_24 ?_
      refine m_l23 (z := (P 23 ((24 * a1) + x3_4_0))) dX12_conNamed_25 ⟨by omega, by omega⟩ rfl ?_
      refine g_lload_n dX12_conNamed_26 rfl ?_
      refine g_lcmp dX12_conNamed_27 ⟨by have q0 := bl_23 (k := ((24 * a1) + x3_4_0)) hB; omega, by have q0 := bl_23 (k := ((24 * a1) + x3_4_0)) hB; omega⟩ ⟨by omega, by omega⟩ ?_
      refine g_nm (fun b32 e_b32 => ?_)
      have h_b32 := lcmpv_b (P 23 ((24 * a1) + x3_4_0)) a2
      have h0_b32 := lcmpv_0 (x := (P 23 ((24 * a1) + x3_4_0))) (y := a2)
      have h1_b32 := lcmpv_lt (x := (P 23 ((24 * a1) + x3_4_0))) (y := a2)
      have h2_b32 := lcmpv_gt (x := (P 23 ((24 * a1) + x3_4_0))) (y := a2)
      rw [← e_b32] at h_b32 h0_b32 h1_b32 h2_b32
      refine g_if_ne (tgt := 34) dX12_conNamed_28 (by decide) ⟨by omega, by omega⟩ (fun k33 => ?_) (fun k33 => ?_)
      · refine g_iinc (l1 := [(4, vI (x3_4_0 + 1)), (0, vR 0), (1, vI a1), (2, vL a2)]) dX12_conNamed_34 rfl (by decide) rfl ?_
        refine g_goto (tgt := 3) dX12_conNamed_37 (by decide) ?_
        refine g_forget (l1 := [(0, vR 0), (1, vI a1), (2, vL a2), (4, vI (x3_4_0 + 1))]) (by intro q hq; simp only [List.mem_cons, List.not_mem_nil, or_false] at hq ⊢; rcases hq with rfl | rfl | rfl | rfl <;> simp) ?_
        exact ih3_0 (x3_4_0 + 1) ⟨by omega, by omega⟩ (by omega)
      · refine g_iload dX12_conNamed_31 rfl ?_
        exact g_retI dX12_conNamed_33 rfl (hQ x3_4_0 ⟨by omega, by omega⟩ (by have q0 := bl_5 (k := a1) hB; omega))
  refine g_forget (l1 := [(0, vR 0), (1, vI a1), (2, vL a2), (4, vI 0)]) (by intro q hq; simp only [List.mem_cons, List.not_mem_nil, or_false] at hq ⊢; rcases hq with rfl | rfl | rfl | rfl <;> simp) ?_
  exact L3_0 _ 0 (by decide) (Nat.lt_succ_self _)
set_option maxRecDepth 100000 in
set_option maxHeartbeats 4000000 in
theorem m_X12_fresh (G : GT) (P : PH) (hB : BdM P) (p_lx : (P 0 3 = 0 ∨ P 0 4 + 1 ≤ P 0 5) ∧ P 0 4 ≤ P 0 5) (Q : Option PV → PH → Prop) (hQ : ∀ (r : Int) (_ : (-9223372036854775808) ≤ r ∧ r ≤ 9223372036854775807) (P1 : PH) (_ : BdM P1) (_ : FrM ([3, 4, 5, 6, 7, 8, 9, 12], []) P P1) (_ : (P1 0 3 = 0 ∨ P1 0 4 + 1 ≤ P1 0 5) ∧ P1 0 4 ≤ P1 0 5) (_ : P 0 4 ≤ P1 0 4) (_ : P 0 8 ≤ 0 ∨ 0 < P1 0 8), Q (some (vL r)) P1) : Ct WSM G 3 iX12_fresh [vR 0] P Q := by
  refine Ct.of (by decide) (l0 := [(0, vR 0)]) rfl (Nat.le_of_ble_eq_true rfl) ?_
  refine g_aload_n dX12_fresh_0 rfl ?_
  refine g_vV (av := []) (o := 0) (st := []) (m_X12_lex G P  hB  _ (fun Pc1 hBc1 hFc1 gc1_pe => ⟨rfl, ?_⟩)) cf_X12_lex t_1697 rfl (by decide) rfl rfl rfl (Nat.le_of_ble_eq_true rfl) (by decide) rfl dX12_fresh_1
  refine g_aload_n dX12_fresh_4 rfl ?_
  refine m_g8 (z := (Pc1 0 8)) rfl dX12_fresh_5 rfl ?_
  have f2 := b0_8 hBc1
  refine g_if_le (tgt := 13) dX12_fresh_8 (by decide) ⟨by have q0 := b0_8 hBc1; omega, by have q0 := b0_8 hBc1; omega⟩ (fun k3 => ?_) (fun k3 => ?_)
  · refine g_aload_n dX12_fresh_13 rfl ?_
    refine m_g3 (z := (P 0 3)) rfl dX12_fresh_14 ((hFc1.1 3 rfl).trans rfl) ?_
    refine g_iconst dX12_fresh_17 ?_
    have f4 := b0_3 hB
    refine g_icmp_ne (tgt := 32) dX12_fresh_18 (by decide) ⟨by have q0 := b0_3 hB; omega, by have q0 := b0_3 hB; omega⟩ (by decide) (fun k5 => ?_) (fun k5 => ?_)
    · refine g_aload_n dX12_fresh_32 rfl ?_
      refine g_iconst dX12_fresh_33 ?_
      refine g_aload_n dX12_fresh_34 rfl ?_
      refine m_g4 (z := (P 0 4)) rfl dX12_fresh_35 ((hFc1.1 4 rfl).trans rfl) ?_
      refine g_vV (av := [vI 1, vI (P 0 4)]) (o := 0) (st := []) (m_X12_blame G Pc1 1 (P 0 4) (by decide) ⟨by have q0 := b0_4 hB; omega, by have q0 := b0_4 hB; omega⟩ hBc1  _ (fun Pc6 hBc6 hFc6 gc6_f gc6_pe => ⟨rfl, ?_⟩)) cf_X12_blame t_1701 rfl (by decide) rfl rfl rfl (Nat.le_of_ble_eq_true rfl) (by decide) rfl dX12_fresh_38
      refine g_aload_n dX12_fresh_41 rfl ?_
      refine m_g8 (z := (Pc6 0 8)) rfl dX12_fresh_42 rfl ?_
      have f7 := b0_8 hBc6
      refine g_if_ne (tgt := 85) dX12_fresh_45 (by decide) ⟨by have q0 := b0_8 hBc6; omega, by have q0 := b0_8 hBc6; omega⟩ (fun k8 => ?_) (fun k8 => ?_)
      · refine g_aload_n dX12_fresh_85 rfl ?_
        refine m_g7 (z := (P 0 7)) rfl dX12_fresh_86 ((hFc6.1 7 rfl).trans ((hFc1.1 7 rfl).trans rfl)) ?_
        refine g_lstore_n (l1 := [(1, vL (P 0 7)), (0, vR 0)]) dX12_fresh_89 (by decide) rfl ?_
        refine g_aload_n dX12_fresh_90 rfl ?_
        refine m_g8 (z := (Pc6 0 8)) rfl dX12_fresh_91 rfl ?_
        refine g_if_ne (tgt := 101) dX12_fresh_94 (by decide) ⟨by have q0 := b0_8 hBc6; omega, by have q0 := b0_8 hBc6; omega⟩ (fun k9 => ?_) (fun k9 => by exfalso; have q0 := b0_8 hBc6; omega)
        refine g_lload_n dX12_fresh_101 rfl ?_
        exact g_retL dX12_fresh_102 rfl (hQ (P 0 7) ⟨by have q0 := b0_7 hB; omega, by have q0 := b0_7 hB; omega⟩ _ hBc6 (FrM.c (FrM.c FrM.rf hFc1 rfl) hFc6 rfl) (by have q0 := b0_7 hB; have q1 := (((hFc6.1 3 rfl).trans ((hFc1.1 3 rfl).trans rfl)) : Pc6 0 3 = (P 0 3)); have q2 := b0_3 hB; have q3 := (((hFc6.1 4 rfl).trans ((hFc1.1 4 rfl).trans rfl)) : Pc6 0 4 = (P 0 4)); have q4 := b0_4 hB; have q5 := (((hFc6.1 5 rfl).trans ((hFc1.1 5 rfl).trans rfl)) : Pc6 0 5 = (P 0 5)); have q6 := b0_5 hB; omega) (by have q0 := b0_7 hB; have q1 := (((hFc6.1 4 rfl).trans ((hFc1.1 4 rfl).trans rfl)) : Pc6 0 4 = (P 0 4)); have q2 := b0_4 hB; omega) (by have q0 := b0_7 hB; have q1 := b0_8 hBc6; omega))
      · refine g_aload_n dX12_fresh_48 rfl ?_
        refine g_aload_n dX12_fresh_49 rfl ?_
        refine m_g7 (z := (P 0 7)) rfl dX12_fresh_50 ((hFc6.1 7 rfl).trans ((hFc1.1 7 rfl).trans rfl)) ?_
        refine g_vI (av := [vL (P 0 7)]) (o := 0) (st := []) (m_X12_kindNamed G Pc6 (P 0 7) ⟨by have q0 := b0_7 hB; omega, by have q0 := b0_7 hB; omega⟩ hBc6  _ (fun rc10 hc10 gc10_k => ⟨rc10, rfl, ?_⟩)) cf_X12_kindNamed t_1736 rfl (by decide) rfl rfl rfl (Nat.le_of_ble_eq_true rfl) (by decide) rfl dX12_fresh_53
        have z11 : Pc6 0 37 = (P 0 37) := ((hFc6.1 37 rfl).trans ((hFc1.1 37 rfl).trans rfl))
        refine g_iconst dX12_fresh_56 ?_
        refine g_icmp_ne (tgt := 76) dX12_fresh_57 (by decide) ⟨by omega, by omega⟩ (by decide) (fun k12 => ?_) (fun k12 => ?_)
        · refine g_aload_n dX12_fresh_76 rfl ?_
          refine g_iconst dX12_fresh_77 ?_
          refine g_aload_n dX12_fresh_78 rfl ?_
          refine m_g4 (z := (P 0 4)) rfl dX12_fresh_79 ((hFc6.1 4 rfl).trans ((hFc1.1 4 rfl).trans rfl)) ?_
          refine g_vV (av := [vI 2, vI (P 0 4)]) (o := 0) (st := []) (m_X12_blame G Pc6 2 (P 0 4) (by decide) ⟨by have q0 := b0_4 hB; omega, by have q0 := b0_4 hB; omega⟩ hBc6  _ (fun Pc13 hBc13 hFc13 gc13_f gc13_pe => ⟨rfl, ?_⟩)) cf_X12_blame t_1701 rfl (by decide) rfl rfl rfl (Nat.le_of_ble_eq_true rfl) (by decide) rfl dX12_fresh_82
          refine g_aload_n dX12_fresh_85 rfl ?_
          refine m_g7 (z := (P 0 7)) rfl dX12_fresh_86 ((hFc13.1 7 rfl).trans ((hFc6.1 7 rfl).trans ((hFc1.1 7 rfl).trans rfl))) ?_
          refine g_lstore_n (l1 := [(1, vL (P 0 7)), (0, vR 0)]) dX12_fresh_89 (by decide) rfl ?_
          refine g_aload_n dX12_fresh_90 rfl ?_
          refine m_g8 (z := (Pc13 0 8)) rfl dX12_fresh_91 rfl ?_
          have f14 := b0_8 hBc13
          refine g_if_ne (tgt := 101) dX12_fresh_94 (by decide) ⟨by have q0 := b0_8 hBc13; omega, by have q0 := b0_8 hBc13; omega⟩ (fun k15 => ?_) (fun k15 => ?_)
          · refine g_lload_n dX12_fresh_101 rfl ?_
            exact g_retL dX12_fresh_102 rfl (hQ (P 0 7) ⟨by have q0 := b0_7 hB; omega, by have q0 := b0_7 hB; omega⟩ _ hBc13 (FrM.c (FrM.c (FrM.c FrM.rf hFc1 rfl) hFc6 rfl) hFc13 rfl) (by have q0 := b0_7 hB; have q1 := (((hFc13.1 3 rfl).trans ((hFc6.1 3 rfl).trans ((hFc1.1 3 rfl).trans rfl))) : Pc13 0 3 = (P 0 3)); have q2 := b0_3 hB; have q3 := (((hFc13.1 4 rfl).trans ((hFc6.1 4 rfl).trans ((hFc1.1 4 rfl).trans rfl))) : Pc13 0 4 = (P 0 4)); have q4 := b0_4 hB; have q5 := (((hFc13.1 5 rfl).trans ((hFc6.1 5 rfl).trans ((hFc1.1 5 rfl).trans rfl))) : Pc13 0 5 = (P 0 5)); have q6 := b0_5 hB; omega) (by have q0 := b0_7 hB; have q1 := (((hFc13.1 4 rfl).trans ((hFc6.1 4 rfl).trans ((hFc1.1 4 rfl).trans rfl))) : Pc13 0 4 = (P 0 4)); have q2 := b0_4 hB; omega) (by have q0 := b0_7 hB; have q1 := b0_8 hBc13; omega))
          · refine g_aload_n dX12_fresh_97 rfl ?_
            refine g_vV (av := []) (o := 0) (st := []) (m_X12_ahead G Pc13  hBc13  _ (fun Pc16 hBc16 hFc16 gc16_lx gc16_nx => ⟨rfl, ?_⟩)) cf_X12_ahead t_1683 rfl (by decide) rfl rfl rfl (Nat.le_of_ble_eq_true rfl) (by decide) rfl dX12_fresh_98
            have z17 : Pc13 0 5 = (P 0 5) := ((hFc13.1 5 rfl).trans ((hFc6.1 5 rfl).trans ((hFc1.1 5 rfl).trans rfl)))
            refine g_lload_n dX12_fresh_101 rfl ?_
            exact g_retL dX12_fresh_102 rfl (hQ (P 0 7) ⟨by have q0 := b0_7 hB; omega, by have q0 := b0_7 hB; omega⟩ _ hBc16 (FrM.c (FrM.c (FrM.c (FrM.c FrM.rf hFc1 rfl) hFc6 rfl) hFc13 rfl) hFc16 rfl) (by have q0 := b0_7 hB; have q1 := b0_3 hBc16; have q2 := b0_4 hBc16; have q3 := b0_5 hBc16; omega) (by have q0 := b0_7 hB; have q1 := b0_4 hBc16; omega) (by have q0 := b0_7 hB; have q1 := (((hFc16.1 8 rfl).trans rfl) : Pc16 0 8 = (Pc13 0 8)); have q2 := b0_8 hBc13; omega))
        · refine g_aload_n dX12_fresh_60 rfl ?_
          refine g_aload_n dX12_fresh_61 rfl ?_
          refine m_g37 (z := (P 0 37)) rfl dX12_fresh_62 ((hFc6.1 37 rfl).trans ((hFc1.1 37 rfl).trans rfl)) ?_
          refine g_aload_n dX12_fresh_65 rfl ?_
          refine m_g7 (z := (P 0 7)) rfl dX12_fresh_66 ((hFc6.1 7 rfl).trans ((hFc1.1 7 rfl).trans rfl)) ?_
          refine g_vI (av := [vI (P 0 37), vL (P 0 7)]) (o := 0) (st := []) (m_X12_conNamed G Pc6 (P 0 37) (P 0 7) ⟨by have q0 := b0_37 hB; omega, by have q0 := b0_37 hB; omega⟩ ⟨by have q0 := b0_7 hB; omega, by have q0 := b0_7 hB; omega⟩ hBc6  _ (fun rc18 hc18 gc18_k => ⟨rc18, rfl, ?_⟩)) cf_X12_conNamed t_1740 rfl (by decide) rfl rfl rfl (Nat.le_of_ble_eq_true rfl) (by decide) rfl dX12_fresh_69
          have z19 : Pc6 5 (P 0 37) = (P 5 (P 0 37)) := ((congrFun (hFc6.2 5 rfl rfl) _).trans ((congrFun (hFc1.2 5 rfl rfl) _).trans rfl))
          refine g_iconst dX12_fresh_72 ?_
          refine g_icmp_eq (tgt := 85) dX12_fresh_73 (by decide) ⟨by omega, by omega⟩ (by decide) (fun k20 => ?_) (fun k20 => ?_)
          · refine g_aload_n dX12_fresh_85 rfl ?_
            refine m_g7 (z := (P 0 7)) rfl dX12_fresh_86 ((hFc6.1 7 rfl).trans ((hFc1.1 7 rfl).trans rfl)) ?_
            refine g_lstore_n (l1 := [(1, vL (P 0 7)), (0, vR 0)]) dX12_fresh_89 (by decide) rfl ?_
            refine g_aload_n dX12_fresh_90 rfl ?_
            refine m_g8 (z := (Pc6 0 8)) rfl dX12_fresh_91 rfl ?_
            refine g_if_ne (tgt := 101) dX12_fresh_94 (by decide) ⟨by have q0 := b0_8 hBc6; omega, by have q0 := b0_8 hBc6; omega⟩ (fun k21 => by exfalso; have q0 := b0_8 hBc6; omega) (fun k21 => ?_)
            refine g_aload_n dX12_fresh_97 rfl ?_
            refine g_vV (av := []) (o := 0) (st := []) (m_X12_ahead G Pc6  hBc6  _ (fun Pc22 hBc22 hFc22 gc22_lx gc22_nx => ⟨rfl, ?_⟩)) cf_X12_ahead t_1683 rfl (by decide) rfl rfl rfl (Nat.le_of_ble_eq_true rfl) (by decide) rfl dX12_fresh_98
            have z23 : Pc6 0 5 = (P 0 5) := ((hFc6.1 5 rfl).trans ((hFc1.1 5 rfl).trans rfl))
            refine g_lload_n dX12_fresh_101 rfl ?_
            exact g_retL dX12_fresh_102 rfl (hQ (P 0 7) ⟨by have q0 := b0_7 hB; omega, by have q0 := b0_7 hB; omega⟩ _ hBc22 (FrM.c (FrM.c (FrM.c FrM.rf hFc1 rfl) hFc6 rfl) hFc22 rfl) (by have q0 := b0_7 hB; have q1 := b0_3 hBc22; have q2 := b0_4 hBc22; have q3 := b0_5 hBc22; omega) (by have q0 := b0_7 hB; have q1 := b0_4 hBc22; omega) (by have q0 := b0_7 hB; have q1 := (((hFc22.1 8 rfl).trans rfl) : Pc22 0 8 = (Pc6 0 8)); have q2 := b0_8 hBc6; omega))
          · refine g_aload_n dX12_fresh_76 rfl ?_
            refine g_iconst dX12_fresh_77 ?_
            refine g_aload_n dX12_fresh_78 rfl ?_
            refine m_g4 (z := (P 0 4)) rfl dX12_fresh_79 ((hFc6.1 4 rfl).trans ((hFc1.1 4 rfl).trans rfl)) ?_
            refine g_vV (av := [vI 2, vI (P 0 4)]) (o := 0) (st := []) (m_X12_blame G Pc6 2 (P 0 4) (by decide) ⟨by have q0 := b0_4 hB; omega, by have q0 := b0_4 hB; omega⟩ hBc6  _ (fun Pc24 hBc24 hFc24 gc24_f gc24_pe => ⟨rfl, ?_⟩)) cf_X12_blame t_1701 rfl (by decide) rfl rfl rfl (Nat.le_of_ble_eq_true rfl) (by decide) rfl dX12_fresh_82
            refine g_aload_n dX12_fresh_85 rfl ?_
            refine m_g7 (z := (P 0 7)) rfl dX12_fresh_86 ((hFc24.1 7 rfl).trans ((hFc6.1 7 rfl).trans ((hFc1.1 7 rfl).trans rfl))) ?_
            refine g_lstore_n (l1 := [(1, vL (P 0 7)), (0, vR 0)]) dX12_fresh_89 (by decide) rfl ?_
            refine g_aload_n dX12_fresh_90 rfl ?_
            refine m_g8 (z := (Pc24 0 8)) rfl dX12_fresh_91 rfl ?_
            have f25 := b0_8 hBc24
            refine g_if_ne (tgt := 101) dX12_fresh_94 (by decide) ⟨by have q0 := b0_8 hBc24; omega, by have q0 := b0_8 hBc24; omega⟩ (fun k26 => ?_) (fun k26 => ?_)
            · refine g_lload_n dX12_fresh_101 rfl ?_
              exact g_retL dX12_fresh_102 rfl (hQ (P 0 7) ⟨by have q0 := b0_7 hB; omega, by have q0 := b0_7 hB; omega⟩ _ hBc24 (FrM.c (FrM.c (FrM.c FrM.rf hFc1 rfl) hFc6 rfl) hFc24 rfl) (by have q0 := b0_7 hB; have q1 := (((hFc24.1 3 rfl).trans ((hFc6.1 3 rfl).trans ((hFc1.1 3 rfl).trans rfl))) : Pc24 0 3 = (P 0 3)); have q2 := b0_3 hB; have q3 := (((hFc24.1 4 rfl).trans ((hFc6.1 4 rfl).trans ((hFc1.1 4 rfl).trans rfl))) : Pc24 0 4 = (P 0 4)); have q4 := b0_4 hB; have q5 := (((hFc24.1 5 rfl).trans ((hFc6.1 5 rfl).trans ((hFc1.1 5 rfl).trans rfl))) : Pc24 0 5 = (P 0 5)); have q6 := b0_5 hB; omega) (by have q0 := b0_7 hB; have q1 := (((hFc24.1 4 rfl).trans ((hFc6.1 4 rfl).trans ((hFc1.1 4 rfl).trans rfl))) : Pc24 0 4 = (P 0 4)); have q2 := b0_4 hB; omega) (by have q0 := b0_7 hB; have q1 := b0_8 hBc24; omega))
            · refine g_aload_n dX12_fresh_97 rfl ?_
              refine g_vV (av := []) (o := 0) (st := []) (m_X12_ahead G Pc24  hBc24  _ (fun Pc27 hBc27 hFc27 gc27_lx gc27_nx => ⟨rfl, ?_⟩)) cf_X12_ahead t_1683 rfl (by decide) rfl rfl rfl (Nat.le_of_ble_eq_true rfl) (by decide) rfl dX12_fresh_98
              have z28 : Pc24 0 5 = (P 0 5) := ((hFc24.1 5 rfl).trans ((hFc6.1 5 rfl).trans ((hFc1.1 5 rfl).trans rfl)))
              refine g_lload_n dX12_fresh_101 rfl ?_
              exact g_retL dX12_fresh_102 rfl (hQ (P 0 7) ⟨by have q0 := b0_7 hB; omega, by have q0 := b0_7 hB; omega⟩ _ hBc27 (FrM.c (FrM.c (FrM.c (FrM.c FrM.rf hFc1 rfl) hFc6 rfl) hFc24 rfl) hFc27 rfl) (by have q0 := b0_7 hB; have q1 := b0_3 hBc27; have q2 := b0_4 hBc27; have q3 := b0_5 hBc27; omega) (by have q0 := b0_7 hB; have q1 := b0_4 hBc27; omega) (by have q0 := b0_7 hB; have q1 := (((hFc27.1 8 rfl).trans rfl) : Pc27 0 8 = (Pc24 0 8)); have q2 := b0_8 hBc24; omega))
    · refine g_aload_n dX12_fresh_21 rfl ?_
      refine g_aload_n dX12_fresh_22 rfl ?_
      refine m_g7 (z := (P 0 7)) rfl dX12_fresh_23 ((hFc1.1 7 rfl).trans rfl) ?_
      refine g_vI (av := [vL (P 0 7)]) (o := 0) (st := []) (m_X12_isOwn G Pc1 (P 0 7) ⟨by have q0 := b0_7 hB; omega, by have q0 := b0_7 hB; omega⟩ hBc1  _ (fun rc29 hc29 => ⟨rc29, rfl, ?_⟩)) cf_X12_isOwn t_1722 rfl (by decide) rfl rfl rfl (Nat.le_of_ble_eq_true rfl) (by decide) rfl dX12_fresh_26
      refine g_if_eq (tgt := 41) dX12_fresh_29 (by decide) ⟨by omega, by omega⟩ (fun k30 => ?_) (fun k30 => ?_)
      · refine g_aload_n dX12_fresh_41 rfl ?_
        refine m_g8 (z := (Pc1 0 8)) rfl dX12_fresh_42 rfl ?_
        refine g_if_ne (tgt := 85) dX12_fresh_45 (by decide) ⟨by have q0 := b0_8 hBc1; omega, by have q0 := b0_8 hBc1; omega⟩ (fun k31 => by exfalso; have q0 := b0_8 hBc1; omega) (fun k31 => ?_)
        refine g_aload_n dX12_fresh_48 rfl ?_
        refine g_aload_n dX12_fresh_49 rfl ?_
        refine m_g7 (z := (P 0 7)) rfl dX12_fresh_50 ((hFc1.1 7 rfl).trans rfl) ?_
        refine g_vI (av := [vL (P 0 7)]) (o := 0) (st := []) (m_X12_kindNamed G Pc1 (P 0 7) ⟨by have q0 := b0_7 hB; omega, by have q0 := b0_7 hB; omega⟩ hBc1  _ (fun rc32 hc32 gc32_k => ⟨rc32, rfl, ?_⟩)) cf_X12_kindNamed t_1736 rfl (by decide) rfl rfl rfl (Nat.le_of_ble_eq_true rfl) (by decide) rfl dX12_fresh_53
        have z33 : Pc1 0 37 = (P 0 37) := ((hFc1.1 37 rfl).trans rfl)
        refine g_iconst dX12_fresh_56 ?_
        refine g_icmp_ne (tgt := 76) dX12_fresh_57 (by decide) ⟨by omega, by omega⟩ (by decide) (fun k34 => ?_) (fun k34 => ?_)
        · refine g_aload_n dX12_fresh_76 rfl ?_
          refine g_iconst dX12_fresh_77 ?_
          refine g_aload_n dX12_fresh_78 rfl ?_
          refine m_g4 (z := (P 0 4)) rfl dX12_fresh_79 ((hFc1.1 4 rfl).trans rfl) ?_
          refine g_vV (av := [vI 2, vI (P 0 4)]) (o := 0) (st := []) (m_X12_blame G Pc1 2 (P 0 4) (by decide) ⟨by have q0 := b0_4 hB; omega, by have q0 := b0_4 hB; omega⟩ hBc1  _ (fun Pc35 hBc35 hFc35 gc35_f gc35_pe => ⟨rfl, ?_⟩)) cf_X12_blame t_1701 rfl (by decide) rfl rfl rfl (Nat.le_of_ble_eq_true rfl) (by decide) rfl dX12_fresh_82
          refine g_aload_n dX12_fresh_85 rfl ?_
          refine m_g7 (z := (P 0 7)) rfl dX12_fresh_86 ((hFc35.1 7 rfl).trans ((hFc1.1 7 rfl).trans rfl)) ?_
          refine g_lstore_n (l1 := [(1, vL (P 0 7)), (0, vR 0)]) dX12_fresh_89 (by decide) rfl ?_
          refine g_aload_n dX12_fresh_90 rfl ?_
          refine m_g8 (z := (Pc35 0 8)) rfl dX12_fresh_91 rfl ?_
          have f36 := b0_8 hBc35
          refine g_if_ne (tgt := 101) dX12_fresh_94 (by decide) ⟨by have q0 := b0_8 hBc35; omega, by have q0 := b0_8 hBc35; omega⟩ (fun k37 => ?_) (fun k37 => ?_)
          · refine g_lload_n dX12_fresh_101 rfl ?_
            exact g_retL dX12_fresh_102 rfl (hQ (P 0 7) ⟨by have q0 := b0_7 hB; omega, by have q0 := b0_7 hB; omega⟩ _ hBc35 (FrM.c (FrM.c FrM.rf hFc1 rfl) hFc35 rfl) (by have q0 := b0_7 hB; have q1 := (((hFc35.1 3 rfl).trans ((hFc1.1 3 rfl).trans rfl)) : Pc35 0 3 = (P 0 3)); have q2 := b0_3 hB; have q3 := (((hFc35.1 4 rfl).trans ((hFc1.1 4 rfl).trans rfl)) : Pc35 0 4 = (P 0 4)); have q4 := b0_4 hB; have q5 := (((hFc35.1 5 rfl).trans ((hFc1.1 5 rfl).trans rfl)) : Pc35 0 5 = (P 0 5)); have q6 := b0_5 hB; omega) (by have q0 := b0_7 hB; have q1 := (((hFc35.1 4 rfl).trans ((hFc1.1 4 rfl).trans rfl)) : Pc35 0 4 = (P 0 4)); have q2 := b0_4 hB; omega) (by have q0 := b0_7 hB; have q1 := b0_8 hBc35; omega))
          · refine g_aload_n dX12_fresh_97 rfl ?_
            refine g_vV (av := []) (o := 0) (st := []) (m_X12_ahead G Pc35  hBc35  _ (fun Pc38 hBc38 hFc38 gc38_lx gc38_nx => ⟨rfl, ?_⟩)) cf_X12_ahead t_1683 rfl (by decide) rfl rfl rfl (Nat.le_of_ble_eq_true rfl) (by decide) rfl dX12_fresh_98
            have z39 : Pc35 0 5 = (P 0 5) := ((hFc35.1 5 rfl).trans ((hFc1.1 5 rfl).trans rfl))
            refine g_lload_n dX12_fresh_101 rfl ?_
            exact g_retL dX12_fresh_102 rfl (hQ (P 0 7) ⟨by have q0 := b0_7 hB; omega, by have q0 := b0_7 hB; omega⟩ _ hBc38 (FrM.c (FrM.c (FrM.c FrM.rf hFc1 rfl) hFc35 rfl) hFc38 rfl) (by have q0 := b0_7 hB; have q1 := b0_3 hBc38; have q2 := b0_4 hBc38; have q3 := b0_5 hBc38; omega) (by have q0 := b0_7 hB; have q1 := b0_4 hBc38; omega) (by have q0 := b0_7 hB; have q1 := (((hFc38.1 8 rfl).trans rfl) : Pc38 0 8 = (Pc35 0 8)); have q2 := b0_8 hBc35; omega))
        · refine g_aload_n dX12_fresh_60 rfl ?_
          refine g_aload_n dX12_fresh_61 rfl ?_
          refine m_g37 (z := (P 0 37)) rfl dX12_fresh_62 ((hFc1.1 37 rfl).trans rfl) ?_
          refine g_aload_n dX12_fresh_65 rfl ?_
          refine m_g7 (z := (P 0 7)) rfl dX12_fresh_66 ((hFc1.1 7 rfl).trans rfl) ?_
          refine g_vI (av := [vI (P 0 37), vL (P 0 7)]) (o := 0) (st := []) (m_X12_conNamed G Pc1 (P 0 37) (P 0 7) ⟨by have q0 := b0_37 hB; omega, by have q0 := b0_37 hB; omega⟩ ⟨by have q0 := b0_7 hB; omega, by have q0 := b0_7 hB; omega⟩ hBc1  _ (fun rc40 hc40 gc40_k => ⟨rc40, rfl, ?_⟩)) cf_X12_conNamed t_1740 rfl (by decide) rfl rfl rfl (Nat.le_of_ble_eq_true rfl) (by decide) rfl dX12_fresh_69
          have z41 : Pc1 5 (P 0 37) = (P 5 (P 0 37)) := ((congrFun (hFc1.2 5 rfl rfl) _).trans rfl)
          refine g_iconst dX12_fresh_72 ?_
          refine g_icmp_eq (tgt := 85) dX12_fresh_73 (by decide) ⟨by omega, by omega⟩ (by decide) (fun k42 => ?_) (fun k42 => ?_)
          · refine g_aload_n dX12_fresh_85 rfl ?_
            refine m_g7 (z := (P 0 7)) rfl dX12_fresh_86 ((hFc1.1 7 rfl).trans rfl) ?_
            refine g_lstore_n (l1 := [(1, vL (P 0 7)), (0, vR 0)]) dX12_fresh_89 (by decide) rfl ?_
            refine g_aload_n dX12_fresh_90 rfl ?_
            refine m_g8 (z := (Pc1 0 8)) rfl dX12_fresh_91 rfl ?_
            refine g_if_ne (tgt := 101) dX12_fresh_94 (by decide) ⟨by have q0 := b0_8 hBc1; omega, by have q0 := b0_8 hBc1; omega⟩ (fun k43 => by exfalso; have q0 := b0_8 hBc1; omega) (fun k43 => ?_)
            refine g_aload_n dX12_fresh_97 rfl ?_
            refine g_vV (av := []) (o := 0) (st := []) (m_X12_ahead G Pc1  hBc1  _ (fun Pc44 hBc44 hFc44 gc44_lx gc44_nx => ⟨rfl, ?_⟩)) cf_X12_ahead t_1683 rfl (by decide) rfl rfl rfl (Nat.le_of_ble_eq_true rfl) (by decide) rfl dX12_fresh_98
            have z45 : Pc1 0 5 = (P 0 5) := ((hFc1.1 5 rfl).trans rfl)
            refine g_lload_n dX12_fresh_101 rfl ?_
            exact g_retL dX12_fresh_102 rfl (hQ (P 0 7) ⟨by have q0 := b0_7 hB; omega, by have q0 := b0_7 hB; omega⟩ _ hBc44 (FrM.c (FrM.c FrM.rf hFc1 rfl) hFc44 rfl) (by have q0 := b0_7 hB; have q1 := b0_3 hBc44; have q2 := b0_4 hBc44; have q3 := b0_5 hBc44; omega) (by have q0 := b0_7 hB; have q1 := b0_4 hBc44; omega) (by have q0 := b0_7 hB; have q1 := (((hFc44.1 8 rfl).trans rfl) : Pc44 0 8 = (Pc1 0 8)); have q2 := b0_8 hBc1; omega))
          · refine g_aload_n dX12_fresh_76 rfl ?_
            refine g_iconst dX12_fresh_77 ?_
            refine g_aload_n dX12_fresh_78 rfl ?_
            refine m_g4 (z := (P 0 4)) rfl dX12_fresh_79 ((hFc1.1 4 rfl).trans rfl) ?_
            refine g_vV (av := [vI 2, vI (P 0 4)]) (o := 0) (st := []) (m_X12_blame G Pc1 2 (P 0 4) (by decide) ⟨by have q0 := b0_4 hB; omega, by have q0 := b0_4 hB; omega⟩ hBc1  _ (fun Pc46 hBc46 hFc46 gc46_f gc46_pe => ⟨rfl, ?_⟩)) cf_X12_blame t_1701 rfl (by decide) rfl rfl rfl (Nat.le_of_ble_eq_true rfl) (by decide) rfl dX12_fresh_82
            refine g_aload_n dX12_fresh_85 rfl ?_
            refine m_g7 (z := (P 0 7)) rfl dX12_fresh_86 ((hFc46.1 7 rfl).trans ((hFc1.1 7 rfl).trans rfl)) ?_
            refine g_lstore_n (l1 := [(1, vL (P 0 7)), (0, vR 0)]) dX12_fresh_89 (by decide) rfl ?_
            refine g_aload_n dX12_fresh_90 rfl ?_
            refine m_g8 (z := (Pc46 0 8)) rfl dX12_fresh_91 rfl ?_
            have f47 := b0_8 hBc46
            refine g_if_ne (tgt := 101) dX12_fresh_94 (by decide) ⟨by have q0 := b0_8 hBc46; omega, by have q0 := b0_8 hBc46; omega⟩ (fun k48 => ?_) (fun k48 => ?_)
            · refine g_lload_n dX12_fresh_101 rfl ?_
              exact g_retL dX12_fresh_102 rfl (hQ (P 0 7) ⟨by have q0 := b0_7 hB; omega, by have q0 := b0_7 hB; omega⟩ _ hBc46 (FrM.c (FrM.c FrM.rf hFc1 rfl) hFc46 rfl) (by have q0 := b0_7 hB; have q1 := (((hFc46.1 3 rfl).trans ((hFc1.1 3 rfl).trans rfl)) : Pc46 0 3 = (P 0 3)); have q2 := b0_3 hB; have q3 := (((hFc46.1 4 rfl).trans ((hFc1.1 4 rfl).trans rfl)) : Pc46 0 4 = (P 0 4)); have q4 := b0_4 hB; have q5 := (((hFc46.1 5 rfl).trans ((hFc1.1 5 rfl).trans rfl)) : Pc46 0 5 = (P 0 5)); have q6 := b0_5 hB; omega) (by have q0 := b0_7 hB; have q1 := (((hFc46.1 4 rfl).trans ((hFc1.1 4 rfl).trans rfl)) : Pc46 0 4 = (P 0 4)); have q2 := b0_4 hB; omega) (by have q0 := b0_7 hB; have q1 := b0_8 hBc46; omega))
            · refine g_aload_n dX12_fresh_97 rfl ?_
              refine g_vV (av := []) (o := 0) (st := []) (m_X12_ahead G Pc46  hBc46  _ (fun Pc49 hBc49 hFc49 gc49_lx gc49_nx => ⟨rfl, ?_⟩)) cf_X12_ahead t_1683 rfl (by decide) rfl rfl rfl (Nat.le_of_ble_eq_true rfl) (by decide) rfl dX12_fresh_98
              have z50 : Pc46 0 5 = (P 0 5) := ((hFc46.1 5 rfl).trans ((hFc1.1 5 rfl).trans rfl))
              refine g_lload_n dX12_fresh_101 rfl ?_
              exact g_retL dX12_fresh_102 rfl (hQ (P 0 7) ⟨by have q0 := b0_7 hB; omega, by have q0 := b0_7 hB; omega⟩ _ hBc49 (FrM.c (FrM.c (FrM.c FrM.rf hFc1 rfl) hFc46 rfl) hFc49 rfl) (by have q0 := b0_7 hB; have q1 := b0_3 hBc49; have q2 := b0_4 hBc49; have q3 := b0_5 hBc49; omega) (by have q0 := b0_7 hB; have q1 := b0_4 hBc49; omega) (by have q0 := b0_7 hB; have q1 := (((hFc49.1 8 rfl).trans rfl) : Pc49 0 8 = (Pc46 0 8)); have q2 := b0_8 hBc46; omega))
      · refine g_aload_n dX12_fresh_32 rfl ?_
        refine g_iconst dX12_fresh_33 ?_
        refine g_aload_n dX12_fresh_34 rfl ?_
        refine m_g4 (z := (P 0 4)) rfl dX12_fresh_35 ((hFc1.1 4 rfl).trans rfl) ?_
        refine g_vV (av := [vI 1, vI (P 0 4)]) (o := 0) (st := []) (m_X12_blame G Pc1 1 (P 0 4) (by decide) ⟨by have q0 := b0_4 hB; omega, by have q0 := b0_4 hB; omega⟩ hBc1  _ (fun Pc51 hBc51 hFc51 gc51_f gc51_pe => ⟨rfl, ?_⟩)) cf_X12_blame t_1701 rfl (by decide) rfl rfl rfl (Nat.le_of_ble_eq_true rfl) (by decide) rfl dX12_fresh_38
        refine g_aload_n dX12_fresh_41 rfl ?_
        refine m_g8 (z := (Pc51 0 8)) rfl dX12_fresh_42 rfl ?_
        have f52 := b0_8 hBc51
        refine g_if_ne (tgt := 85) dX12_fresh_45 (by decide) ⟨by have q0 := b0_8 hBc51; omega, by have q0 := b0_8 hBc51; omega⟩ (fun k53 => ?_) (fun k53 => ?_)
        · refine g_aload_n dX12_fresh_85 rfl ?_
          refine m_g7 (z := (P 0 7)) rfl dX12_fresh_86 ((hFc51.1 7 rfl).trans ((hFc1.1 7 rfl).trans rfl)) ?_
          refine g_lstore_n (l1 := [(1, vL (P 0 7)), (0, vR 0)]) dX12_fresh_89 (by decide) rfl ?_
          refine g_aload_n dX12_fresh_90 rfl ?_
          refine m_g8 (z := (Pc51 0 8)) rfl dX12_fresh_91 rfl ?_
          refine g_if_ne (tgt := 101) dX12_fresh_94 (by decide) ⟨by have q0 := b0_8 hBc51; omega, by have q0 := b0_8 hBc51; omega⟩ (fun k54 => ?_) (fun k54 => by exfalso; have q0 := b0_8 hBc51; omega)
          refine g_lload_n dX12_fresh_101 rfl ?_
          exact g_retL dX12_fresh_102 rfl (hQ (P 0 7) ⟨by have q0 := b0_7 hB; omega, by have q0 := b0_7 hB; omega⟩ _ hBc51 (FrM.c (FrM.c FrM.rf hFc1 rfl) hFc51 rfl) (by have q0 := b0_7 hB; have q1 := (((hFc51.1 3 rfl).trans ((hFc1.1 3 rfl).trans rfl)) : Pc51 0 3 = (P 0 3)); have q2 := b0_3 hB; have q3 := (((hFc51.1 4 rfl).trans ((hFc1.1 4 rfl).trans rfl)) : Pc51 0 4 = (P 0 4)); have q4 := b0_4 hB; have q5 := (((hFc51.1 5 rfl).trans ((hFc1.1 5 rfl).trans rfl)) : Pc51 0 5 = (P 0 5)); have q6 := b0_5 hB; omega) (by have q0 := b0_7 hB; have q1 := (((hFc51.1 4 rfl).trans ((hFc1.1 4 rfl).trans rfl)) : Pc51 0 4 = (P 0 4)); have q2 := b0_4 hB; omega) (by have q0 := b0_7 hB; have q1 := b0_8 hBc51; omega))
        · refine g_aload_n dX12_fresh_48 rfl ?_
          refine g_aload_n dX12_fresh_49 rfl ?_
          refine m_g7 (z := (P 0 7)) rfl dX12_fresh_50 ((hFc51.1 7 rfl).trans ((hFc1.1 7 rfl).trans rfl)) ?_
          refine g_vI (av := [vL (P 0 7)]) (o := 0) (st := []) (m_X12_kindNamed G Pc51 (P 0 7) ⟨by have q0 := b0_7 hB; omega, by have q0 := b0_7 hB; omega⟩ hBc51  _ (fun rc55 hc55 gc55_k => ⟨rc55, rfl, ?_⟩)) cf_X12_kindNamed t_1736 rfl (by decide) rfl rfl rfl (Nat.le_of_ble_eq_true rfl) (by decide) rfl dX12_fresh_53
          have z56 : Pc51 0 37 = (P 0 37) := ((hFc51.1 37 rfl).trans ((hFc1.1 37 rfl).trans rfl))
          refine g_iconst dX12_fresh_56 ?_
          refine g_icmp_ne (tgt := 76) dX12_fresh_57 (by decide) ⟨by omega, by omega⟩ (by decide) (fun k57 => ?_) (fun k57 => ?_)
          · refine g_aload_n dX12_fresh_76 rfl ?_
            refine g_iconst dX12_fresh_77 ?_
            refine g_aload_n dX12_fresh_78 rfl ?_
            refine m_g4 (z := (P 0 4)) rfl dX12_fresh_79 ((hFc51.1 4 rfl).trans ((hFc1.1 4 rfl).trans rfl)) ?_
            refine g_vV (av := [vI 2, vI (P 0 4)]) (o := 0) (st := []) (m_X12_blame G Pc51 2 (P 0 4) (by decide) ⟨by have q0 := b0_4 hB; omega, by have q0 := b0_4 hB; omega⟩ hBc51  _ (fun Pc58 hBc58 hFc58 gc58_f gc58_pe => ⟨rfl, ?_⟩)) cf_X12_blame t_1701 rfl (by decide) rfl rfl rfl (Nat.le_of_ble_eq_true rfl) (by decide) rfl dX12_fresh_82
            refine g_aload_n dX12_fresh_85 rfl ?_
            refine m_g7 (z := (P 0 7)) rfl dX12_fresh_86 ((hFc58.1 7 rfl).trans ((hFc51.1 7 rfl).trans ((hFc1.1 7 rfl).trans rfl))) ?_
            refine g_lstore_n (l1 := [(1, vL (P 0 7)), (0, vR 0)]) dX12_fresh_89 (by decide) rfl ?_
            refine g_aload_n dX12_fresh_90 rfl ?_
            refine m_g8 (z := (Pc58 0 8)) rfl dX12_fresh_91 rfl ?_
            have f59 := b0_8 hBc58
            refine g_if_ne (tgt := 101) dX12_fresh_94 (by decide) ⟨by have q0 := b0_8 hBc58; omega, by have q0 := b0_8 hBc58; omega⟩ (fun k60 => ?_) (fun k60 => ?_)
            · refine g_lload_n dX12_fresh_101 rfl ?_
              exact g_retL dX12_fresh_102 rfl (hQ (P 0 7) ⟨by have q0 := b0_7 hB; omega, by have q0 := b0_7 hB; omega⟩ _ hBc58 (FrM.c (FrM.c (FrM.c FrM.rf hFc1 rfl) hFc51 rfl) hFc58 rfl) (by have q0 := b0_7 hB; have q1 := (((hFc58.1 3 rfl).trans ((hFc51.1 3 rfl).trans ((hFc1.1 3 rfl).trans rfl))) : Pc58 0 3 = (P 0 3)); have q2 := b0_3 hB; have q3 := (((hFc58.1 4 rfl).trans ((hFc51.1 4 rfl).trans ((hFc1.1 4 rfl).trans rfl))) : Pc58 0 4 = (P 0 4)); have q4 := b0_4 hB; have q5 := (((hFc58.1 5 rfl).trans ((hFc51.1 5 rfl).trans ((hFc1.1 5 rfl).trans rfl))) : Pc58 0 5 = (P 0 5)); have q6 := b0_5 hB; omega) (by have q0 := b0_7 hB; have q1 := (((hFc58.1 4 rfl).trans ((hFc51.1 4 rfl).trans ((hFc1.1 4 rfl).trans rfl))) : Pc58 0 4 = (P 0 4)); have q2 := b0_4 hB; omega) (by have q0 := b0_7 hB; have q1 := b0_8 hBc58; omega))
            · refine g_aload_n dX12_fresh_97 rfl ?_
              refine g_vV (av := []) (o := 0) (st := []) (m_X12_ahead G Pc58  hBc58  _ (fun Pc61 hBc61 hFc61 gc61_lx gc61_nx => ⟨rfl, ?_⟩)) cf_X12_ahead t_1683 rfl (by decide) rfl rfl rfl (Nat.le_of_ble_eq_true rfl) (by decide) rfl dX12_fresh_98
              have z62 : Pc58 0 5 = (P 0 5) := ((hFc58.1 5 rfl).trans ((hFc51.1 5 rfl).trans ((hFc1.1 5 rfl).trans rfl)))
              refine g_lload_n dX12_fresh_101 rfl ?_
              exact g_retL dX12_fresh_102 rfl (hQ (P 0 7) ⟨by have q0 := b0_7 hB; omega, by have q0 := b0_7 hB; omega⟩ _ hBc61 (FrM.c (FrM.c (FrM.c (FrM.c FrM.rf hFc1 rfl) hFc51 rfl) hFc58 rfl) hFc61 rfl) (by have q0 := b0_7 hB; have q1 := b0_3 hBc61; have q2 := b0_4 hBc61; have q3 := b0_5 hBc61; omega) (by have q0 := b0_7 hB; have q1 := b0_4 hBc61; omega) (by have q0 := b0_7 hB; have q1 := (((hFc61.1 8 rfl).trans rfl) : Pc61 0 8 = (Pc58 0 8)); have q2 := b0_8 hBc58; omega))
          · refine g_aload_n dX12_fresh_60 rfl ?_
            refine g_aload_n dX12_fresh_61 rfl ?_
            refine m_g37 (z := (P 0 37)) rfl dX12_fresh_62 ((hFc51.1 37 rfl).trans ((hFc1.1 37 rfl).trans rfl)) ?_
            refine g_aload_n dX12_fresh_65 rfl ?_
            refine m_g7 (z := (P 0 7)) rfl dX12_fresh_66 ((hFc51.1 7 rfl).trans ((hFc1.1 7 rfl).trans rfl)) ?_
            refine g_vI (av := [vI (P 0 37), vL (P 0 7)]) (o := 0) (st := []) (m_X12_conNamed G Pc51 (P 0 37) (P 0 7) ⟨by have q0 := b0_37 hB; omega, by have q0 := b0_37 hB; omega⟩ ⟨by have q0 := b0_7 hB; omega, by have q0 := b0_7 hB; omega⟩ hBc51  _ (fun rc63 hc63 gc63_k => ⟨rc63, rfl, ?_⟩)) cf_X12_conNamed t_1740 rfl (by decide) rfl rfl rfl (Nat.le_of_ble_eq_true rfl) (by decide) rfl dX12_fresh_69
            have z64 : Pc51 5 (P 0 37) = (P 5 (P 0 37)) := ((congrFun (hFc51.2 5 rfl rfl) _).trans ((congrFun (hFc1.2 5 rfl rfl) _).trans rfl))
            refine g_iconst dX12_fresh_72 ?_
            refine g_icmp_eq (tgt := 85) dX12_fresh_73 (by decide) ⟨by omega, by omega⟩ (by decide) (fun k65 => ?_) (fun k65 => ?_)
            · refine g_aload_n dX12_fresh_85 rfl ?_
              refine m_g7 (z := (P 0 7)) rfl dX12_fresh_86 ((hFc51.1 7 rfl).trans ((hFc1.1 7 rfl).trans rfl)) ?_
              refine g_lstore_n (l1 := [(1, vL (P 0 7)), (0, vR 0)]) dX12_fresh_89 (by decide) rfl ?_
              refine g_aload_n dX12_fresh_90 rfl ?_
              refine m_g8 (z := (Pc51 0 8)) rfl dX12_fresh_91 rfl ?_
              refine g_if_ne (tgt := 101) dX12_fresh_94 (by decide) ⟨by have q0 := b0_8 hBc51; omega, by have q0 := b0_8 hBc51; omega⟩ (fun k66 => by exfalso; have q0 := b0_8 hBc51; omega) (fun k66 => ?_)
              refine g_aload_n dX12_fresh_97 rfl ?_
              refine g_vV (av := []) (o := 0) (st := []) (m_X12_ahead G Pc51  hBc51  _ (fun Pc67 hBc67 hFc67 gc67_lx gc67_nx => ⟨rfl, ?_⟩)) cf_X12_ahead t_1683 rfl (by decide) rfl rfl rfl (Nat.le_of_ble_eq_true rfl) (by decide) rfl dX12_fresh_98
              have z68 : Pc51 0 5 = (P 0 5) := ((hFc51.1 5 rfl).trans ((hFc1.1 5 rfl).trans rfl))
              refine g_lload_n dX12_fresh_101 rfl ?_
              exact g_retL dX12_fresh_102 rfl (hQ (P 0 7) ⟨by have q0 := b0_7 hB; omega, by have q0 := b0_7 hB; omega⟩ _ hBc67 (FrM.c (FrM.c (FrM.c FrM.rf hFc1 rfl) hFc51 rfl) hFc67 rfl) (by have q0 := b0_7 hB; have q1 := b0_3 hBc67; have q2 := b0_4 hBc67; have q3 := b0_5 hBc67; omega) (by have q0 := b0_7 hB; have q1 := b0_4 hBc67; omega) (by have q0 := b0_7 hB; have q1 := (((hFc67.1 8 rfl).trans rfl) : Pc67 0 8 = (Pc51 0 8)); have q2 := b0_8 hBc51; omega))
            · refine g_aload_n dX12_fresh_76 rfl ?_
              refine g_iconst dX12_fresh_77 ?_
              refine g_aload_n dX12_fresh_78 rfl ?_
              refine m_g4 (z := (P 0 4)) rfl dX12_fresh_79 ((hFc51.1 4 rfl).trans ((hFc1.1 4 rfl).trans rfl)) ?_
              refine g_vV (av := [vI 2, vI (P 0 4)]) (o := 0) (st := []) (m_X12_blame G Pc51 2 (P 0 4) (by decide) ⟨by have q0 := b0_4 hB; omega, by have q0 := b0_4 hB; omega⟩ hBc51  _ (fun Pc69 hBc69 hFc69 gc69_f gc69_pe => ⟨rfl, ?_⟩)) cf_X12_blame t_1701 rfl (by decide) rfl rfl rfl (Nat.le_of_ble_eq_true rfl) (by decide) rfl dX12_fresh_82
              refine g_aload_n dX12_fresh_85 rfl ?_
              refine m_g7 (z := (P 0 7)) rfl dX12_fresh_86 ((hFc69.1 7 rfl).trans ((hFc51.1 7 rfl).trans ((hFc1.1 7 rfl).trans rfl))) ?_
              refine g_lstore_n (l1 := [(1, vL (P 0 7)), (0, vR 0)]) dX12_fresh_89 (by decide) rfl ?_
              refine g_aload_n dX12_fresh_90 rfl ?_
              refine m_g8 (z := (Pc69 0 8)) rfl dX12_fresh_91 rfl ?_
              have f70 := b0_8 hBc69
              refine g_if_ne (tgt := 101) dX12_fresh_94 (by decide) ⟨by have q0 := b0_8 hBc69; omega, by have q0 := b0_8 hBc69; omega⟩ (fun k71 => ?_) (fun k71 => ?_)
              · refine g_lload_n dX12_fresh_101 rfl ?_
                exact g_retL dX12_fresh_102 rfl (hQ (P 0 7) ⟨by have q0 := b0_7 hB; omega, by have q0 := b0_7 hB; omega⟩ _ hBc69 (FrM.c (FrM.c (FrM.c FrM.rf hFc1 rfl) hFc51 rfl) hFc69 rfl) (by have q0 := b0_7 hB; have q1 := (((hFc69.1 3 rfl).trans ((hFc51.1 3 rfl).trans ((hFc1.1 3 rfl).trans rfl))) : Pc69 0 3 = (P 0 3)); have q2 := b0_3 hB; have q3 := (((hFc69.1 4 rfl).trans ((hFc51.1 4 rfl).trans ((hFc1.1 4 rfl).trans rfl))) : Pc69 0 4 = (P 0 4)); have q4 := b0_4 hB; have q5 := (((hFc69.1 5 rfl).trans ((hFc51.1 5 rfl).trans ((hFc1.1 5 rfl).trans rfl))) : Pc69 0 5 = (P 0 5)); have q6 := b0_5 hB; omega) (by have q0 := b0_7 hB; have q1 := (((hFc69.1 4 rfl).trans ((hFc51.1 4 rfl).trans ((hFc1.1 4 rfl).trans rfl))) : Pc69 0 4 = (P 0 4)); have q2 := b0_4 hB; omega) (by have q0 := b0_7 hB; have q1 := b0_8 hBc69; omega))
              · refine g_aload_n dX12_fresh_97 rfl ?_
                refine g_vV (av := []) (o := 0) (st := []) (m_X12_ahead G Pc69  hBc69  _ (fun Pc72 hBc72 hFc72 gc72_lx gc72_nx => ⟨rfl, ?_⟩)) cf_X12_ahead t_1683 rfl (by decide) rfl rfl rfl (Nat.le_of_ble_eq_true rfl) (by decide) rfl dX12_fresh_98
                have z73 : Pc69 0 5 = (P 0 5) := ((hFc69.1 5 rfl).trans ((hFc51.1 5 rfl).trans ((hFc1.1 5 rfl).trans rfl)))
                refine g_lload_n dX12_fresh_101 rfl ?_
                exact g_retL dX12_fresh_102 rfl (hQ (P 0 7) ⟨by have q0 := b0_7 hB; omega, by have q0 := b0_7 hB; omega⟩ _ hBc72 (FrM.c (FrM.c (FrM.c (FrM.c FrM.rf hFc1 rfl) hFc51 rfl) hFc69 rfl) hFc72 rfl) (by have q0 := b0_7 hB; have q1 := b0_3 hBc72; have q2 := b0_4 hBc72; have q3 := b0_5 hBc72; omega) (by have q0 := b0_7 hB; have q1 := b0_4 hBc72; omega) (by have q0 := b0_7 hB; have q1 := (((hFc72.1 8 rfl).trans rfl) : Pc72 0 8 = (Pc69 0 8)); have q2 := b0_8 hBc69; omega))
  · refine g_lconst (z := 0) dX12_fresh_11 (by decide) ?_
    exact g_retL dX12_fresh_12 rfl (hQ 0 (by decide) _ hBc1 (FrM.c FrM.rf hFc1 rfl) (by have q0 := (((hFc1.1 3 rfl).trans rfl) : Pc1 0 3 = (P 0 3)); have q1 := b0_3 hB; have q2 := (((hFc1.1 4 rfl).trans rfl) : Pc1 0 4 = (P 0 4)); have q3 := b0_4 hB; have q4 := (((hFc1.1 5 rfl).trans rfl) : Pc1 0 5 = (P 0 5)); have q5 := b0_5 hB; omega) (by have q0 := (((hFc1.1 4 rfl).trans rfl) : Pc1 0 4 = (P 0 4)); have q1 := b0_4 hB; omega) (by have q0 := b0_8 hBc1; omega))
set_option maxRecDepth 100000 in
set_option maxHeartbeats 4000000 in
theorem m_X12_isKindHere (G : GT) (P : PH) (hB : BdM P) (Q : Option PV → PH → Prop) (hQ : ∀ (r : Int) (_ : 0 ≤ r ∧ r ≤ 1) (_ : r = 0 ∨ P 0 3 = 1), Q (some (vI r)) P) : Ct WSM G 2 iX12_isKindHere [vR 0] P Q := by
  refine Ct.of (by decide) (l0 := [(0, vR 0)]) rfl (Nat.le_of_ble_eq_true rfl) ?_
  refine g_aload_n dX12_isKindHere_0 rfl ?_
  refine m_g3 (z := (P 0 3)) rfl dX12_isKindHere_1 rfl ?_
  refine g_iconst dX12_isKindHere_4 ?_
  have f1 := b0_3 hB
  refine g_icmp_ne (tgt := 41) dX12_isKindHere_5 (by decide) ⟨by have q0 := b0_3 hB; omega, by have q0 := b0_3 hB; omega⟩ (by decide) (fun k2 => ?_) (fun k2 => ?_)
  · refine g_iconst dX12_isKindHere_41 ?_
    exact g_retZ dX12_isKindHere_42 rfl (by decide) (hQ 0 (by decide) (by have q0 := b0_3 hB; omega))
  · refine g_aload_n dX12_isKindHere_8 rfl ?_
    refine m_g12 (z := (P 0 12)) rfl dX12_isKindHere_9 rfl ?_
    refine g_iconst dX12_isKindHere_12 ?_
    have f3 := b0_12 hB
    refine g_icmp_ne (tgt := 41) dX12_isKindHere_13 (by decide) ⟨by have q0 := b0_12 hB; omega, by have q0 := b0_12 hB; omega⟩ (by decide) (fun k4 => ?_) (fun k4 => ?_)
    · refine g_iconst dX12_isKindHere_41 ?_
      exact g_retZ dX12_isKindHere_42 rfl (by decide) (hQ 0 (by decide) (by have q0 := b0_3 hB; omega))
    · refine g_aload_n dX12_isKindHere_16 rfl ?_
      refine g_ldc2 (z := 7239021) dX12_isKindHere_17 t_1732 (by decide) ?_
      refine g_vI (av := [vL 7239021]) (o := 0) (st := []) (m_X12_isWord G P 7239021 (by decide) hB  _ (fun rc5 hc5 gc5_w => ⟨rc5, rfl, ?_⟩)) cf_X12_isWord t_1706 rfl (by decide) rfl rfl rfl (Nat.le_of_ble_eq_true rfl) (by decide) rfl dX12_isKindHere_20
      refine g_if_ne (tgt := 37) dX12_isKindHere_23 (by decide) ⟨by omega, by omega⟩ (fun k6 => ?_) (fun k6 => ?_)
      · refine g_iconst dX12_isKindHere_37 ?_
        refine g_goto (tgt := 42) dX12_isKindHere_38 (by decide) ?_
        exact g_retZ dX12_isKindHere_42 rfl (by decide) (hQ 1 (by decide) (by have q0 := b0_3 hB; omega))
      · refine g_aload_n dX12_isKindHere_26 rfl ?_
        refine g_aload_n dX12_isKindHere_27 rfl ?_
        refine m_g7 (z := (P 0 7)) rfl dX12_isKindHere_28 rfl ?_
        refine g_vI (av := [vL (P 0 7)]) (o := 0) (st := []) (m_X12_isOwn G P (P 0 7) ⟨by have q0 := b0_7 hB; omega, by have q0 := b0_7 hB; omega⟩ hB  _ (fun rc7 hc7 => ⟨rc7, rfl, ?_⟩)) cf_X12_isOwn t_1722 rfl (by decide) rfl rfl rfl (Nat.le_of_ble_eq_true rfl) (by decide) rfl dX12_isKindHere_31
        refine g_if_ne (tgt := 41) dX12_isKindHere_34 (by decide) ⟨by omega, by omega⟩ (fun k8 => ?_) (fun k8 => ?_)
        · refine g_iconst dX12_isKindHere_41 ?_
          exact g_retZ dX12_isKindHere_42 rfl (by decide) (hQ 0 (by decide) (by have q0 := b0_3 hB; omega))
        · refine g_iconst dX12_isKindHere_37 ?_
          refine g_goto (tgt := 42) dX12_isKindHere_38 (by decide) ?_
          exact g_retZ dX12_isKindHere_42 rfl (by decide) (hQ 1 (by decide) (by have q0 := b0_3 hB; omega))
set_option maxRecDepth 100000 in
set_option maxHeartbeats 4000000 in
theorem m_X12_feed (G : GT) (P : PH) (a1 : Int) (a2 : Int) (a3 : Int) (a4 : Int) (a5 : Int) (h_a1 : (-2147483648) ≤ a1 ∧ a1 ≤ 2147483647) (h_a2 : (-2147483648) ≤ a2 ∧ a2 ≤ 2147483647) (h_a3 : (-2147483648) ≤ a3 ∧ a3 ≤ 2147483647) (h_a4 : (-2147483648) ≤ a4 ∧ a4 ≤ 2147483647) (h_a5 : (-2147483648) ≤ a5 ∧ a5 ≤ 2147483647) (hB : BdM P) (Q : Option PV → PH → Prop) (hQ : ∀ (r : Int) (_ : (-2147483648) ≤ r ∧ r ≤ 2147483647) (P1 : PH) (_ : BdM P1) (_ : FrM ([1], [1, 28]) P P1) (_ : (P 0 1 ≤ 1580 ∧ r = P 0 1 + 20 ∧ P1 0 1 = P 0 1 + 20) ∨ (1580 < P 0 1 ∧ r = -1 ∧ P1 0 1 = P 0 1)), Q (some (vI r)) P1) : Ct WSM G 2 iX12_feed [vR 0, vI a1, vI a2, vI a3, vI a4, vI a5] P Q := by
  refine Ct.of (by decide) (l0 := [(0, vR 0), (1, vI a1), (2, vI a2), (3, vI a3), (4, vI a4), (5, vI a5)]) rfl (Nat.le_of_ble_eq_true rfl) ?_
  refine g_aload_n dX12_feed_0 rfl ?_
  refine m_g1 (z := (P 0 1)) rfl dX12_feed_1 rfl ?_
  refine g_bipush dX12_feed_4 (by decide) ?_
  refine g_iadd dX12_feed_6 ?_
  refine g_sipush dX12_feed_7 (by decide) ?_
  have f1 := b0_1 hB
  refine g_icmp_le (tgt := 19) dX12_feed_10 (by decide) ⟨by have q0 := b0_1 hB; omega, by have q0 := b0_1 hB; omega⟩ (by decide) (fun k2 => ?_) (fun k2 => ?_)
  · refine g_aload_n dX12_feed_19 rfl ?_
    refine g_iload_n dX12_feed_20 rfl ?_
    refine g_vV (av := [vI a1]) (o := 0) (st := []) (m_X12_put G P a1 ⟨by omega, by omega⟩ hB (by have q0 := b0_1 hB; omega) _ (fun Pc3 hBc3 hFc3 gc3_t => ⟨rfl, ?_⟩)) cf_X12_put t_1671 rfl (by decide) rfl rfl rfl (Nat.le_of_ble_eq_true rfl) (by decide) rfl dX12_feed_21
    refine g_aload_n dX12_feed_24 rfl ?_
    refine g_iload_n dX12_feed_25 rfl ?_
    refine g_vV (av := [vI a2]) (o := 0) (st := []) (m_X12_put G Pc3 a2 ⟨by omega, by omega⟩ hBc3 (by have q0 := b0_1 hBc3; omega) _ (fun Pc4 hBc4 hFc4 gc4_t => ⟨rfl, ?_⟩)) cf_X12_put t_1671 rfl (by decide) rfl rfl rfl (Nat.le_of_ble_eq_true rfl) (by decide) rfl dX12_feed_26
    refine g_aload_n dX12_feed_29 rfl ?_
    refine g_iload_n dX12_feed_30 rfl ?_
    refine g_vV (av := [vI a3]) (o := 0) (st := []) (m_X12_put G Pc4 a3 ⟨by omega, by omega⟩ hBc4 (by have q0 := b0_1 hBc4; omega) _ (fun Pc5 hBc5 hFc5 gc5_t => ⟨rfl, ?_⟩)) cf_X12_put t_1671 rfl (by decide) rfl rfl rfl (Nat.le_of_ble_eq_true rfl) (by decide) rfl dX12_feed_31
    refine g_aload_n dX12_feed_34 rfl ?_
    refine g_iload dX12_feed_35 rfl ?_
    refine g_vV (av := [vI a4]) (o := 0) (st := []) (m_X12_put G Pc5 a4 ⟨by omega, by omega⟩ hBc5 (by have q0 := b0_1 hBc5; omega) _ (fun Pc6 hBc6 hFc6 gc6_t => ⟨rfl, ?_⟩)) cf_X12_put t_1671 rfl (by decide) rfl rfl rfl (Nat.le_of_ble_eq_true rfl) (by decide) rfl dX12_feed_37
    refine g_aload_n dX12_feed_40 rfl ?_
    refine g_iload dX12_feed_41 rfl ?_
    refine g_vV (av := [vI a5]) (o := 0) (st := []) (m_X12_put G Pc6 a5 ⟨by omega, by omega⟩ hBc6 (by have q0 := b0_1 hBc6; omega) _ (fun Pc7 hBc7 hFc7 gc7_t => ⟨rfl, ?_⟩)) cf_X12_put t_1671 rfl (by decide) rfl rfl rfl (Nat.le_of_ble_eq_true rfl) (by decide) rfl dX12_feed_43
    refine g_aload_n dX12_feed_46 rfl ?_
    refine m_g1 (z := (Pc7 0 1)) rfl dX12_feed_47 rfl ?_
    exact g_retI dX12_feed_50 rfl (hQ (Pc7 0 1) ⟨by have q0 := b0_1 hBc7; omega, by have q0 := b0_1 hBc7; omega⟩ _ hBc7 (FrM.c (FrM.c (FrM.c (FrM.c (FrM.c FrM.rf hFc3 rfl) hFc4 rfl) hFc5 rfl) hFc6 rfl) hFc7 rfl) (by have q0 := b0_1 hBc7; omega))
  · refine g_aload_n dX12_feed_13 rfl ?_
    refine g_iconst dX12_feed_14 ?_
    refine g_vI (av := [vI 0]) (o := 0) (st := []) (m_X12_refuses G P 0 (by decide) hB  _ (fun rc8 hc8 Pc8 hBc8 hFc8 => ⟨rc8, rfl, ?_⟩)) cf_X12_refuses t_1667 rfl (by decide) rfl rfl rfl (Nat.le_of_ble_eq_true rfl) (by decide) rfl dX12_feed_15
    exact g_retI dX12_feed_18 rfl (hQ rc8 ⟨by omega, by omega⟩ _ hBc8 (FrM.c FrM.rf hFc8 rfl) (by have q0 := (((hFc8.1 1 rfl).trans rfl) : Pc8 0 1 = (P 0 1)); have q1 := b0_1 hB; omega))
set_option maxRecDepth 100000 in
set_option maxHeartbeats 4000000 in
theorem m_X12_end (G : GT) (P : PH) (a1 : Int) (h_a1 : (-2147483648) ≤ a1 ∧ a1 ≤ 2147483647) (hB : BdM P) (Q : Option PV → PH → Prop) (hQ : ∀ (r : Int) (_ : 0 ≤ r ∧ r ≤ 1) (P1 : PH) (_ : BdM P1) (_ : FrM ([1], [28]) P P1) (_ : (0 ≤ a1 ∧ a1 ≤ P 0 1 ∧ r = 1 ∧ P1 0 1 = a1) ∨ ((a1 < 0 ∨ P 0 1 < a1) ∧ r = 0 ∧ P1 0 1 = P 0 1)), Q (some (vI r)) P1) : Ct WSM G 2 iX12_end [vR 0, vI a1] P Q := by
  refine Ct.of (by decide) (l0 := [(0, vR 0), (1, vI a1)]) rfl (Nat.le_of_ble_eq_true rfl) ?_
  refine g_iload_n dX12_end_0 rfl ?_
  refine g_if_lt (tgt := 12) dX12_end_1 (by decide) ⟨by omega, by omega⟩ (fun k1 => ?_) (fun k1 => ?_)
  · refine g_aload_n dX12_end_12 rfl ?_
    refine g_iconst dX12_end_13 ?_
    refine g_vI (av := [vI 0]) (o := 0) (st := []) (m_X12_refuses G P 0 (by decide) hB  _ (fun rc2 hc2 Pc2 hBc2 hFc2 => ⟨rc2, rfl, ?_⟩)) cf_X12_refuses t_1667 rfl (by decide) rfl rfl rfl (Nat.le_of_ble_eq_true rfl) (by decide) rfl dX12_end_14
    refine g_if_lt (tgt := 24) dX12_end_17 (by decide) ⟨by omega, by omega⟩ (fun k3 => ?_) (fun k3 => by exfalso; omega)
    refine g_iconst dX12_end_24 ?_
    exact g_retZ dX12_end_25 rfl (by decide) (hQ 0 (by decide) _ hBc2 (FrM.c FrM.rf hFc2 rfl) (by have q0 := (((hFc2.1 1 rfl).trans rfl) : Pc2 0 1 = (P 0 1)); have q1 := b0_1 hB; omega))
  · refine g_iload_n dX12_end_4 rfl ?_
    refine g_aload_n dX12_end_5 rfl ?_
    refine m_g1 (z := (P 0 1)) rfl dX12_end_6 rfl ?_
    have f4 := b0_1 hB
    refine g_icmp_le (tgt := 26) dX12_end_9 (by decide) ⟨by omega, by omega⟩ ⟨by have q0 := b0_1 hB; omega, by have q0 := b0_1 hB; omega⟩ (fun k5 => ?_) (fun k5 => ?_)
    · refine g_aload_n dX12_end_26 rfl ?_
      refine g_iload_n dX12_end_27 rfl ?_
      refine m_p1 rfl dX12_end_28 ?_
      have hB6 := bs_1 (z := a1) hB ⟨by omega, by omega⟩
      refine g_iconst dX12_end_31 ?_
      exact g_retZ dX12_end_32 rfl (by decide) (hQ 1 (by decide) _ hB6 (FrM.s FrM.rf rfl) (by have q0 := (up_same : (up P 0 1 a1) 0 1 = a1); omega))
    · refine g_aload_n dX12_end_12 rfl ?_
      refine g_iconst dX12_end_13 ?_
      refine g_vI (av := [vI 0]) (o := 0) (st := []) (m_X12_refuses G P 0 (by decide) hB  _ (fun rc7 hc7 Pc7 hBc7 hFc7 => ⟨rc7, rfl, ?_⟩)) cf_X12_refuses t_1667 rfl (by decide) rfl rfl rfl (Nat.le_of_ble_eq_true rfl) (by decide) rfl dX12_end_14
      refine g_if_lt (tgt := 24) dX12_end_17 (by decide) ⟨by omega, by omega⟩ (fun k8 => ?_) (fun k8 => by exfalso; omega)
      refine g_iconst dX12_end_24 ?_
      exact g_retZ dX12_end_25 rfl (by decide) (hQ 0 (by decide) _ hBc7 (FrM.c FrM.rf hFc7 rfl) (by have q0 := (((hFc7.1 1 rfl).trans rfl) : Pc7 0 1 = (P 0 1)); have q1 := b0_1 hB; omega))
set_option maxRecDepth 100000 in
set_option maxHeartbeats 4000000 in
theorem m_X12_seed (G : GT) (P : PH) (a1 : Int) (h_a1 : (-2147483648) ≤ a1 ∧ a1 ≤ 2147483647) (hB : BdM P) (Q : Option PV → PH → Prop) (hQ : ∀ (r : Int) (_ : 0 ≤ r ∧ r ≤ 1) (P1 : PH) (_ : BdM P1) (_ : FrM ([61], [28]) P P1) (_ : (a1 < 0 ∧ r = 0) ∨ (0 ≤ a1 ∧ r = 1)), Q (some (vI r)) P1) : Ct WSM G 2 iX12_seed [vR 0, vI a1] P Q := by
  refine Ct.of (by decide) (l0 := [(0, vR 0), (1, vI a1)]) rfl (Nat.le_of_ble_eq_true rfl) ?_
  refine g_iload_n dX12_seed_0 rfl ?_
  refine g_if_ge (tgt := 18) dX12_seed_1 (by decide) ⟨by omega, by omega⟩ (fun k1 => ?_) (fun k1 => ?_)
  · refine g_aload_n dX12_seed_18 rfl ?_
    refine g_iload_n dX12_seed_19 rfl ?_
    refine g_i2l dX12_seed_20 ⟨by omega, by omega⟩ ?_
    refine m_p61 rfl dX12_seed_21 ?_
    have hB2 := bs_61 (z := a1) hB ⟨by omega, by omega⟩
    refine g_iconst dX12_seed_24 ?_
    exact g_retZ dX12_seed_25 rfl (by decide) (hQ 1 (by decide) _ hB2 (FrM.s FrM.rf rfl) (by omega))
  · refine g_aload_n dX12_seed_4 rfl ?_
    refine g_iconst dX12_seed_5 ?_
    refine g_vI (av := [vI 5]) (o := 0) (st := []) (m_X12_refuses G P 5 (by decide) hB  _ (fun rc3 hc3 Pc3 hBc3 hFc3 => ⟨rc3, rfl, ?_⟩)) cf_X12_refuses t_1667 rfl (by decide) rfl rfl rfl (Nat.le_of_ble_eq_true rfl) (by decide) rfl dX12_seed_6
    refine g_if_lt (tgt := 16) dX12_seed_9 (by decide) ⟨by omega, by omega⟩ (fun k4 => ?_) (fun k4 => by exfalso; omega)
    refine g_iconst dX12_seed_16 ?_
    exact g_retZ dX12_seed_17 rfl (by decide) (hQ 0 (by decide) _ hBc3 (FrM.c FrM.rf hFc3 rfl) (by omega))
