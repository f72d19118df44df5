/-! What the reference answers: X12_arranges. -/
set_option maxRecDepth 100000 in
set_option maxHeartbeats 4000000 in
theorem f_X12_arranges (G : GT) (P : PH) (K : PH) (M : PH) (F : FT) (n : Int) (f : IF) (a1 : Int) (h_a1 : 0 ≤ a1 ∧ a1 ≤ 21) (hB : BdM P) (p_st : P 0 74 ≤ 199999999) (p_aw : AW K) (p_av : AV K M) (p_fb : ∀ p : Int, 0 ≤ p → p < n → 0 ≤ f p ∧ f p < M 0 2) (p_n12 : 0 ≤ n ∧ n ≤ 12) (v_MVw : MVw P) (v_RE : RE P) (z0 : MMB M P) (z1 : LYT K M F P) (z2 : ODb a1 n f P) (Q : Option PV → PH → Prop) (hQ : ∀ (P1 : PH) (_ : BdM P1) (_ : FrM ([62, 66, 74], [41, 42, 43]) P P1) (_ : P1 0 74 = P 0 74 + 1) (_ : MV P1) (_ : RE P1) (_ : RLt P1) (_ : ARG K M F n f P1), Q none P1) : Ct WSM G 2 iX12_arranges [vR 0, vI a1] P Q := by
  refine Ct.of (by decide) (l0 := [(0, vR 0), (1, vI a1)]) rfl (Nat.le_of_ble_eq_true rfl) ?_
  have hmb := z0.b
  have hav := p_av
  have hmg := z0.2.2.2.2.2
  have hn35 := z2.1
  have hm12 := p_av.2.2.2.1
  have hm00 := p_av.1
  have hszc : ∀ d : Int, 0 ≤ d → d < M 0 0 → 0 ≤ sz K (M 1 d) ∧ sz K (M 1 d) ≤ 2006 := fun d d0 d1 => sz_le p_aw (by have q := p_av.2.2.2.2 d d0 d1; exact ⟨by (clear hmb; omega), by (clear hmb; omega)⟩)
  have h33 : ∀ d : Int, 0 ≤ d → d < M 0 0 → P 33 d ≤ 2010 := fun d d0 d1 => by have q := (z1 d d0 d1).2.1; have w := dsl_le (f := mkf K M F d) (sz K (M 1 d)).toNat; have s := hszc d d0 d1; (clear hmb; omega)
  refine g_aload_n dX12_arranges_0 rfl ?_
  refine g_aload_n dX12_arranges_1 rfl ?_
  refine m_g53 rfl dX12_arranges_2 ?_
  refine g_iload_n dX12_arranges_5 rfl ?_
  refine m_l35 (z := (P 35 a1)) dX12_arranges_6 ⟨by (clear hmb; omega), by (clear hmb; omega)⟩ rfl ?_
  refine m_p62 rfl dX12_arranges_7 ?_
  have hB1 := bs_62 (z := (P 35 a1)) hB ⟨by have q0 := bl_35 (k := a1) hB; (clear hmb; omega), by have q0 := bl_35 (k := a1) hB; (clear hmb; omega)⟩
  refine g_aload_n dX12_arranges_10 rfl ?_
  refine g_iconst dX12_arranges_11 ?_
  refine m_p66 rfl dX12_arranges_12 ?_
  have hB2 := bs_66 (z := 0) hB1 (by decide)
  refine g_iconst dX12_arranges_15 ?_
  refine g_istore_n (l1 := [(2, vI 0), (0, vR 0), (1, vI a1)]) dX12_arranges_16 (by decide) rfl ?_
  have L17_2 : ∀ (n17_2 : Nat) (x17_2_2 : Int) (h_x17_2_2 : 0 ≤ x17_2_2 ∧ x17_2_2 ≤ 12) (H17_2 : PH) (hB17_2 : BdM H17_2) (hE17_2 : FrM ([66], [43]) (up (up P 0 62 (P 35 a1)) 0 66 0) H17_2) (i17_0_2 : ∀ p : Int, 0 ≤ p → p < x17_2_2 → H17_2 43 p = M 2 (f p)) (i17_1_2 : UGs M f x17_2_2 (H17_2 0 66)) (i17_2_2 : x17_2_2 ≤ n) (hm17_2 : ((13 - x17_2_2) : Int).toNat < n17_2), Go WSM G 2 iX12_arranges 17 [(0, vR 0), (1, vI a1), (2, vI x17_2_2)] [] H17_2 Q := by
    intro n17_2
    induction n17_2 with
    | zero => intro x17_2_2 h_x17_2_2 H17_2 hB17_2 hE17_2 i17_0_2 i17_1_2 i17_2_2 hm17_2; exact absurd hm17_2 (Nat.not_lt_zero _)
    | succ n17_2 ih17_2 =>
    intro x17_2_2 h_x17_2_2 H17_2 hB17_2 hE17_2 i17_0_2 i17_1_2 i17_2_2 hm17_2
    refine g_iload_n dX12_arranges_17 rfl ?_
    refine g_aload_n dX12_arranges_18 rfl ?_
    refine m_g62 (z := (P 35 a1)) rfl dX12_arranges_19 ((hE17_2.1 62 rfl).trans ((up_k (by decide)).trans up_same)) ?_
    have f10903 := bl_35 (k := a1) hB
    refine g_icmp_ge (tgt := 87) dX12_arranges_22 (by decide) ⟨by (clear hmb; omega), by (clear hmb; omega)⟩ ⟨by have q0 := bl_35 (k := a1) hB; (clear hmb; omega), by have q0 := bl_35 (k := a1) hB; (clear hmb; omega)⟩ (fun k10904 => ?_) (fun k10904 => ?_)
    · have hl9 : x17_2_2 = n := by have q := (((hE17_2.1 62 rfl).trans ((up_k (by decide)).trans up_same)) : H17_2 0 62 = (P 35 a1)); (clear hmb; omega)
      have hug7 := i17_1_2
      rw [hl9] at hug7
      have hgA8 := i17_0_2
      rw [hl9] at hgA8
      refine g_iconst dX12_arranges_87 ?_
      refine g_istore_n (l1 := [(2, vI 0), (0, vR 0), (1, vI a1)]) dX12_arranges_88 (by decide) rfl ?_
      have L89_10904 : ∀ (n89_10904 : Nat) (x89_2_10904 : Int) (h_x89_2_10904 : 0 ≤ x89_2_10904 ∧ x89_2_10904 ≤ 4) (H89_10904 : PH) (hB89_10904 : BdM H89_10904) (hE89_10904 : FrM ([], [41, 42]) H17_2 H89_10904) (i89_0_10904 : ∀ p : Int, 0 ≤ p → p < n → H89_10904 43 p = M 2 (f p)) (i89_1_10904 : UGs M f n (H89_10904 0 66)) (i89_2_10904 : PSs n f x89_2_10904 P H89_10904) (i89_3_10904 : x89_2_10904 ≤ M 0 0) (hm89_10904 : ((5 - x89_2_10904) : Int).toNat < n89_10904), Go WSM G 2 iX12_arranges 89 [(0, vR 0), (1, vI a1), (2, vI x89_2_10904)] [] H89_10904 Q := by
        intro n89_10904
        induction n89_10904 with
        | zero => intro x89_2_10904 h_x89_2_10904 H89_10904 hB89_10904 hE89_10904 i89_0_10904 i89_1_10904 i89_2_10904 i89_3_10904 hm89_10904; exact absurd hm89_10904 (Nat.not_lt_zero _)
        | succ n89_10904 ih89_10904 =>
        intro x89_2_10904 h_x89_2_10904 H89_10904 hB89_10904 hE89_10904 i89_0_10904 i89_1_10904 i89_2_10904 i89_3_10904 hm89_10904
        refine g_iload_n dX12_arranges_89 rfl ?_
        refine g_aload_n dX12_arranges_90 rfl ?_
        refine g_vI (av := []) (o := 0) (st := [vI x89_2_10904]) (m_X12_columns G H89_10904  hB89_10904  _ (fun rc11956 hc11956 gc11956_c => ⟨rc11956, rfl, ?_⟩)) cf_X12_columns t_1827 rfl (by decide) rfl rfl rfl (Nat.le_of_ble_eq_true rfl) (by decide) rfl dX12_arranges_91
        have z11957 : H89_10904 0 13 = (P 0 13) := ((hE89_10904.1 13 rfl).trans ((hE17_2.1 13 rfl).trans ((up_k (by decide)).trans ((up_k (by decide)).trans rfl))))
        have hcl9 : rc11956 = M 0 0 := by have q := gc11956_c; have q13 := (((hE89_10904.1 13 rfl).trans ((hE17_2.1 13 rfl).trans ((up_k (by decide)).trans ((up_k (by decide)).trans rfl)))) : H89_10904 0 13 = (P 0 13)); have q11 : ∀ j, H89_10904 11 j = P 11 j := fun j => ((congrFun (hE89_10904.2 11 rfl rfl) _).trans ((congrFun (hE17_2.2 11 rfl rfl) _).trans ((up_o (by decide)).trans ((up_o (by decide)).trans rfl)))); rw [q13, q11] at q; (omega)
        refine g_icmp_ge (tgt := 185) dX12_arranges_94 (by decide) ⟨by (clear hmb; omega), by (clear hmb; omega)⟩ ⟨by (clear hmb; omega), by (clear hmb; omega)⟩ (fun k11958 => ?_) (fun k11958 => ?_)
        · refine g_aload_n dX12_arranges_185 rfl ?_
          refine g_dup dX12_arranges_186 rfl ?_
          refine m_g74 (z := (P 0 74)) rfl dX12_arranges_187 ((hE89_10904.1 74 rfl).trans ((hE17_2.1 74 rfl).trans ((up_k (by decide)).trans ((up_k (by decide)).trans rfl)))) ?_
          refine g_iconst dX12_arranges_190 ?_
          refine g_iadd dX12_arranges_191 ?_
          have hgA9 := i89_0_10904
          have hug8 := i89_1_10904
          have hps4 := i89_2_10904
          rw [show x89_2_10904 = M 0 0 by (clear hmb; omega)] at hps4
          refine m_p74 rfl dX12_arranges_192 ?_
          have hB11959 := bs_74 (z := ((P 0 74) + 1)) hB89_10904 ⟨by have q0 := b0_74 hB; (clear hmb; omega), by have q0 := b0_74 hB; (clear hmb; omega)⟩
          have iv11960 : MV (up H89_10904 0 74 ((P 0 74) + 1)) := v_MVw.next (F := ([62, 66, 74], [41, 42, 43])) (FrM.s (FrM.c (FrM.c (FrM.s (FrM.s FrM.rf rfl) rfl) hE17_2 rfl) hE89_10904 rfl) rfl) rfl (by have q := (up_same : (up H89_10904 0 74 ((P 0 74) + 1)) 0 74 = ((P 0 74) + 1)); (clear hmb; omega))
          have iv11961 : RE (up H89_10904 0 74 ((P 0 74) + 1)) := v_RE.next (F := ([62, 66, 74], [41, 42, 43])) (FrM.s (FrM.c (FrM.c (FrM.s (FrM.s FrM.rf rfl) rfl) hE17_2 rfl) hE89_10904 rfl) rfl) rfl (by have q := (up_same : (up H89_10904 0 74 ((P 0 74) + 1)) 0 74 = ((P 0 74) + 1)); (clear hmb; omega))
          have iv11962 : RLt (up H89_10904 0 74 ((P 0 74) + 1)) := v_RE.nextL (F := ([62, 66, 74], [41, 42, 43])) (FrM.s (FrM.c (FrM.c (FrM.s (FrM.s FrM.rf rfl) rfl) hE17_2 rfl) hE89_10904 rfl) rfl) rfl (by have q := (up_same : (up H89_10904 0 74 ((P 0 74) + 1)) 0 74 = ((P 0 74) + 1)); (clear hmb; omega))
          exact g_retV dX12_arranges_195 rfl (hQ _ hB11959 (FrM.s (FrM.c (FrM.c (FrM.s (FrM.s FrM.rf rfl) rfl) hE17_2 rfl) hE89_10904 rfl) rfl) (by have q0 := (up_same : (up H89_10904 0 74 ((P 0 74) + 1)) 0 74 = ((P 0 74) + 1)); have q1 := b0_74 hB; (clear hmb; omega)) iv11960 iv11961 iv11962 (ARG.mk (LYT.fr z1 (show FrM ([62, 66, 74], [41, 42, 43]) _ _ from (FrM.s (FrM.c (FrM.c (FrM.s (FrM.s FrM.rf rfl) rfl) hE17_2 rfl) hE89_10904 rfl) rfl)) rfl) (fun j => ((up_o (by decide)).trans ((congrFun (hE89_10904.2 32 rfl rfl) _).trans ((congrFun (hE17_2.2 32 rfl rfl) _).trans ((up_o (by decide)).trans ((up_o (by decide)).trans rfl)))))) (fun j => ((up_o (by decide)).trans ((congrFun (hE89_10904.2 33 rfl rfl) _).trans ((congrFun (hE17_2.2 33 rfl rfl) _).trans ((up_o (by decide)).trans ((up_o (by decide)).trans rfl)))))) p_fb (by have q := (((up_k (by decide)).trans ((hE89_10904.1 62 rfl).trans ((hE17_2.1 62 rfl).trans ((up_k (by decide)).trans up_same)))) : (up H89_10904 0 74 ((P 0 74) + 1)) 0 62 = (P 35 a1)); (clear hmb; omega)) (fun p p0 p1 => Eq.trans ((up_o (by decide)).trans rfl) (hgA9 p p0 p1)) (by have q := hug8; first | exact q | (rw [show (up H89_10904 0 74 ((P 0 74) + 1)) 0 66 = _ from ((up_k (by decide)).trans ((hE89_10904.1 66 rfl).trans rfl))]; exact q)) hps4))
        · have hps9 := i89_2_10904
          have hgA9 := i89_0_10904
          have hug8 := i89_1_10904
          refine g_aload_n dX12_arranges_97 rfl ?_
          refine m_g64 rfl dX12_arranges_98 ?_
          refine g_iload_n dX12_arranges_101 rfl ?_
          refine g_iconst dX12_arranges_102 ?_
          refine g_aload_n dX12_arranges_103 rfl ?_
          refine m_g62 (z := (P 35 a1)) rfl dX12_arranges_104 ((hE89_10904.1 62 rfl).trans ((hE17_2.1 62 rfl).trans ((up_k (by decide)).trans up_same))) ?_
          refine g_ishl dX12_arranges_107 ?_
          refine g_nm (fun b11963 e_b11963 => ?_)
          have h_b11963 : 1 ≤ (ishl 1 (P 35 a1)) ∧ (ishl 1 (P 35 a1)) ≤ 4096 := (ishl1 12 (by decide) (y := (P 35 a1)) ⟨by have q0 := bl_35 (k := a1) hB; (clear hmb; omega), by have q0 := bl_35 (k := a1) hB; (clear hmb; omega)⟩).2
          rw [← e_b11963] at h_b11963
          refine g_iconst dX12_arranges_108 ?_
          refine g_isub dX12_arranges_109 ?_
          refine m_s42 dX12_arranges_110 ⟨by (clear hmb; omega), by (clear hmb; omega)⟩ ?_
          have hB11964 := ba_42 (z := (b11963 - 1)) (k := x89_2_10904) hB89_10904 ⟨by (clear hmb; omega), by (clear hmb; omega)⟩
          have hgA6 : ∀ p : Int, 0 ≤ p → p < n → (up H89_10904 42 x89_2_10904 (b11963 - 1)) 43 p = M 2 (f p) := fun p p0 p1 => Eq.trans ((up_o (by decide)).trans rfl) (hgA9 p p0 p1)
          have hug6 : UGs M f n ((up H89_10904 42 x89_2_10904 (b11963 - 1)) 0 66) := by rw [show (up H89_10904 42 x89_2_10904 (b11963 - 1)) 0 66 = _ from ((up_o (by decide)).trans rfl)]; exact hug8
          have hps8 : PSs n f x89_2_10904 P (up H89_10904 42 x89_2_10904 (b11963 - 1)) := hps9.other (fun d d0 d1 => h33 d d0 (by (clear hmb; omega))) (fun j _ => ((up_o (by decide)).trans rfl))
          refine g_iconst dX12_arranges_111 ?_
          refine g_istore_n (l1 := [(3, vI 0), (0, vR 0), (1, vI a1), (2, vI x89_2_10904)]) dX12_arranges_112 (by decide) rfl ?_
          have L113_11964 : ∀ (n113_11964 : Nat) (x113_3_11964 : Int) (h_x113_3_11964 : 0 ≤ x113_3_11964 ∧ x113_3_11964 ≤ 2009) (H113_11964 : PH) (hB113_11964 : BdM H113_11964) (hE113_11964 : FrM ([], [41, 42]) (up H89_10904 42 x89_2_10904 (b11963 - 1)) H113_11964) (i113_0_11964 : PSc n f x89_2_10904 x113_3_11964 P H113_11964) (i113_1_11964 : PSs n f x89_2_10904 P H113_11964) (i113_2_11964 : ∀ p : Int, 0 ≤ p → p < n → H113_11964 43 p = M 2 (f p)) (i113_3_11964 : UGs M f n (H113_11964 0 66)) (i113_4_11964 : x113_3_11964 ≤ P 33 x89_2_10904) (hm113_11964 : ((2010 - x113_3_11964) : Int).toNat < n113_11964), Go WSM G 2 iX12_arranges 113 [(0, vR 0), (1, vI a1), (2, vI x89_2_10904), (3, vI x113_3_11964)] [] H113_11964 Q := by
            intro n113_11964
            induction n113_11964 with
            | zero => intro x113_3_11964 h_x113_3_11964 H113_11964 hB113_11964 hE113_11964 i113_0_11964 i113_1_11964 i113_2_11964 i113_3_11964 i113_4_11964 hm113_11964; exact absurd hm113_11964 (Nat.not_lt_zero _)
            | succ n113_11964 ih113_11964 =>
            intro x113_3_11964 h_x113_3_11964 H113_11964 hB113_11964 hE113_11964 i113_0_11964 i113_1_11964 i113_2_11964 i113_3_11964 i113_4_11964 hm113_11964
            refine g_iload_n dX12_arranges_113 rfl ?_
            refine g_aload_n dX12_arranges_114 rfl ?_
            refine m_g50 rfl dX12_arranges_115 ?_
            refine g_iload_n dX12_arranges_118 rfl ?_
            refine m_l33 (z := (P 33 x89_2_10904)) dX12_arranges_119 ⟨by (clear hmb; omega), by (clear hmb; omega)⟩ ((congrFun (hE113_11964.2 33 rfl rfl) _).trans ((up_o (by decide)).trans ((congrFun (hE89_10904.2 33 rfl rfl) _).trans ((congrFun (hE17_2.2 33 rfl rfl) _).trans ((up_o (by decide)).trans ((up_o (by decide)).trans rfl)))))) ?_
            have f12099 := bl_33 (k := x89_2_10904) hB
            refine g_icmp_ge (tgt := 179) dX12_arranges_120 (by decide) ⟨by (clear hmb; omega), by (clear hmb; omega)⟩ ⟨by have q0 := bl_33 (k := x89_2_10904) hB; (clear hmb; omega), by have q0 := bl_33 (k := x89_2_10904) hB; (clear hmb; omega)⟩ (fun k12100 => ?_) (fun k12100 => ?_)
            · have hps5 : PSs n f (x89_2_10904 + 1) P H113_11964 := (i113_1_11964).next i113_0_11964 (by have q := (((congrFun (hE113_11964.2 33 rfl rfl) _).trans ((up_o (by decide)).trans ((congrFun (hE89_10904.2 33 rfl rfl) _).trans ((congrFun (hE17_2.2 33 rfl rfl) _).trans ((up_o (by decide)).trans ((up_o (by decide)).trans rfl)))))) : H113_11964 33 x89_2_10904 = (P 33 x89_2_10904)); (clear hmb; omega))
              refine g_iinc (l1 := [(2, vI (x89_2_10904 + 1)), (0, vR 0), (1, vI a1), (3, vI x113_3_11964)]) dX12_arranges_179 rfl (by decide) rfl ?_
              refine g_goto (tgt := 89) dX12_arranges_182 (by decide) ?_
              refine g_forget (l1 := [(0, vR 0), (1, vI a1), (2, vI (x89_2_10904 + 1))]) (by intro q hq; simp only [List.mem_cons, List.not_mem_nil, or_false] at hq ⊢; rcases hq with rfl | rfl | rfl <;> simp) ?_
              exact ih89_10904 (x89_2_10904 + 1) ⟨by (clear hmb; omega), by (clear hmb; omega)⟩ _ hB113_11964 (FrM.c (FrM.a (FrM.c FrM.rf hE89_10904 rfl) rfl rfl) hE113_11964 rfl) (by first | exact i113_2_11964 | exact hgA8) (by first | exact i113_3_11964 | exact hug7) (by first | exact hps5 | exact PSs.start) (by (clear hmb; omega)) (by (clear hmb; omega))
            · have hps7 := i113_1_11964
              have hpc7 := i113_0_11964
              refine g_aload_n dX12_arranges_123 rfl ?_
              refine m_g63 rfl dX12_arranges_124 ?_
              refine g_sipush dX12_arranges_127 (by decide) ?_
              refine g_iload_n dX12_arranges_130 rfl ?_
              refine g_imul dX12_arranges_131 ?_
              refine g_iload_n dX12_arranges_132 rfl ?_
              refine g_iadd dX12_arranges_133 ?_
              refine g_aload_n dX12_arranges_134 rfl ?_
              refine g_iload_n dX12_arranges_135 rfl ?_
              refine g_aload_n dX12_arranges_136 rfl ?_
              refine m_g49 rfl dX12_arranges_137 ?_
              refine g_sipush dX12_arranges_140 (by decide) ?_
              refine g_iload_n dX12_arranges_143 rfl ?_
              refine g_imul dX12_arranges_144 ?_
              refine g_iload_n dX12_arranges_145 rfl ?_
              refine g_iadd dX12_arranges_146 ?_
              refine m_l32 (z := (P 32 ((2010 * x89_2_10904) + x113_3_11964))) dX12_arranges_147 ⟨by (clear hmb; omega), by (clear hmb; omega)⟩ ((congrFun (hE113_11964.2 32 rfl rfl) _).trans ((up_o (by decide)).trans ((congrFun (hE89_10904.2 32 rfl rfl) _).trans ((congrFun (hE17_2.2 32 rfl rfl) _).trans ((up_o (by decide)).trans ((up_o (by decide)).trans rfl)))))) ?_
              have f12101 := bl_32 (k := ((2010 * x89_2_10904) + x113_3_11964)) hB
              refine g_vI (av := [vI a1, vI (P 32 ((2010 * x89_2_10904) + x113_3_11964))]) (o := 0) (st := [vI ((2010 * x89_2_10904) + x113_3_11964), vR 41]) (f_X12_placed G H113_11964 (n) (f) a1 (P 32 ((2010 * x89_2_10904) + x113_3_11964)) ⟨by (clear hmb; omega), by (clear hmb; omega)⟩ ⟨by have q0 := bl_32 (k := ((2010 * x89_2_10904) + x113_3_11964)) hB; (clear hmb; omega), by have q0 := bl_32 (k := ((2010 * x89_2_10904) + x113_3_11964)) hB; (clear hmb; omega)⟩ hB113_11964 (⟨by have q := (((hE113_11964.1 62 rfl).trans ((up_o (by decide)).trans ((hE89_10904.1 62 rfl).trans ((hE17_2.1 62 rfl).trans ((up_k (by decide)).trans up_same))))) : H113_11964 0 62 = (P 35 a1)); (clear hmb; omega), by (clear hmb; omega)⟩) (fun p p0 p1 => by have q := p_fb p p0 p1; exact ⟨q.1, by (clear hmb; omega)⟩) ((ODb.fr z2 (show FrM ([62, 66], [41, 42, 43]) _ _ from (FrM.c (FrM.a (FrM.c (FrM.c (FrM.s (FrM.s FrM.rf rfl) rfl) hE17_2 rfl) hE89_10904 rfl) rfl rfl) hE113_11964 rfl)) rfl)) _ (fun rc12102 hc12102 gc12102_pl => ⟨rc12102, rfl, ?_⟩)) cf_X12_placed t_1891 rfl (by decide) rfl rfl rfl (Nat.le_of_ble_eq_true rfl) (by decide) rfl dX12_arranges_148
              have hpl9 := gc12102_pl
              refine m_s41 dX12_arranges_151 ⟨by (clear hmb; omega), by (clear hmb; omega)⟩ ?_
              have hB12103 := ba_41 (z := rc12102) (k := ((2010 * x89_2_10904) + x113_3_11964)) hB113_11964 ⟨by (clear hmb; omega), by (clear hmb; omega)⟩
              refine g_aload_n dX12_arranges_152 rfl ?_
              refine m_g64 rfl dX12_arranges_153 ?_
              refine g_iload_n dX12_arranges_156 rfl ?_
              refine g_dup2 dX12_arranges_157 rfl rfl ?_
              refine m_l42 (z := (H113_11964 42 x89_2_10904)) dX12_arranges_158 ⟨by (clear hmb; omega), by (clear hmb; omega)⟩ ((up_o (by decide)).trans rfl) ?_
              refine g_aload_n dX12_arranges_159 rfl ?_
              refine m_g63 rfl dX12_arranges_160 ?_
              refine g_sipush dX12_arranges_163 (by decide) ?_
              refine g_iload_n dX12_arranges_166 rfl ?_
              refine g_imul dX12_arranges_167 ?_
              refine g_iload_n dX12_arranges_168 rfl ?_
              refine g_iadd dX12_arranges_169 ?_
              refine m_l41 (z := rc12102) dX12_arranges_170 ⟨by (clear hmb; omega), by (clear hmb; omega)⟩ up_same ?_
              refine g_iand dX12_arranges_171 ?_
              refine g_nm (fun b12104 e_b12104 => ?_)
              have h_b12104 := iand_l (x := (H113_11964 42 x89_2_10904)) (y := rc12102) ⟨by have q0 := bl_42 (k := x89_2_10904) hB113_11964; (clear hmb; omega), by have q0 := bl_42 (k := x89_2_10904) hB113_11964; (clear hmb; omega)⟩
              rw [← e_b12104] at h_b12104
              have f_b12104_0 := bl_42 (k := x89_2_10904) hB113_11964
              refine m_s42 dX12_arranges_172 ⟨by (clear hmb; omega), by (clear hmb; omega)⟩ ?_
              have hB12105 := ba_42 (z := b12104) (k := x89_2_10904) hB12103 ⟨by (clear hmb; omega), by (clear hmb; omega)⟩
              have hgA5 : ∀ p : Int, 0 ≤ p → p < n → (up (up H113_11964 41 ((2010 * x89_2_10904) + x113_3_11964) rc12102) 42 x89_2_10904 b12104) 43 p = M 2 (f p) := fun p p0 p1 => Eq.trans ((up_o (by decide)).trans ((up_o (by decide)).trans rfl)) (i113_2_11964 p p0 p1)
              have hug5 : UGs M f n ((up (up H113_11964 41 ((2010 * x89_2_10904) + x113_3_11964) rc12102) 42 x89_2_10904 b12104) 0 66) := by rw [show (up (up H113_11964 41 ((2010 * x89_2_10904) + x113_3_11964) rc12102) 42 x89_2_10904 b12104) 0 66 = _ from ((up_o (by decide)).trans ((up_o (by decide)).trans rfl))]; exact i113_3_11964
              have hps6 : PSs n f x89_2_10904 P (up (up H113_11964 41 ((2010 * x89_2_10904) + x113_3_11964) rc12102) 42 x89_2_10904 b12104) := hps7.other (fun d d0 d1 => h33 d d0 (by (clear hmb; omega))) (fun j hj9 => by first | exact ((up_o (by decide)).trans ((up_k hj).trans rfl)) | (have hj : j ≠ ((2010 * x89_2_10904) + x113_3_11964) := (by (clear hmb; omega)); exact ((up_o (by decide)).trans ((up_k hj).trans rfl))))
              have hpc6 : PSc n f x89_2_10904 (x113_3_11964 + 1) P (up (up H113_11964 41 ((2010 * x89_2_10904) + x113_3_11964) rc12102) 42 x89_2_10904 b12104) := hpc7.put (fun j hj9 => by first | exact ((up_o (by decide)).trans ((up_k hj).trans rfl)) | (have hj : j ≠ ((2010 * x89_2_10904) + x113_3_11964) := (by (clear hmb; omega)); exact ((up_o (by decide)).trans ((up_k hj).trans rfl)))) ((up_o (by decide)).trans up_same) hpl9
              refine g_iinc (l1 := [(3, vI (x113_3_11964 + 1)), (0, vR 0), (1, vI a1), (2, vI x89_2_10904)]) dX12_arranges_173 rfl (by decide) rfl ?_
              refine g_goto (tgt := 113) dX12_arranges_176 (by decide) ?_
              refine g_forget (l1 := [(0, vR 0), (1, vI a1), (2, vI x89_2_10904), (3, vI (x113_3_11964 + 1))]) (by intro q hq; simp only [List.mem_cons, List.not_mem_nil, or_false] at hq ⊢; rcases hq with rfl | rfl | rfl | rfl <;> simp) ?_
              exact ih113_11964 (x113_3_11964 + 1) ⟨by (clear hmb; omega), by (clear hmb; omega)⟩ _ hB12105 (FrM.a (FrM.a (FrM.c FrM.rf hE113_11964 rfl) rfl rfl) rfl rfl) (by first | exact hpc6 | exact PSc.start) (by first | exact hps6 | exact hps8) (by first | exact hgA5 | exact hgA6) (by first | exact hug5 | exact hug6) (by first | (clear hmb; omega) | (have q := bl_33 (k := x89_2_10904) hB; (first | (clear hmb; omega) | omega))) (by (clear hmb; omega))
          refine g_forget (l1 := [(0, vR 0), (1, vI a1), (2, vI x89_2_10904), (3, vI 0)]) (by intro q hq; simp only [List.mem_cons, List.not_mem_nil, or_false] at hq ⊢; rcases hq with rfl | rfl | rfl | rfl <;> simp) ?_
          exact L113_11964 _ 0 (by decide) _ hB11964 FrM.rf (by first | exact hpc6 | exact PSc.start) (by first | exact hps6 | exact hps8) (by first | exact hgA5 | exact hgA6) (by first | exact hug5 | exact hug6) (by first | (first | (clear hmb; omega) | omega) | (have q := bl_33 (k := x89_2_10904) hB; (clear hmb; omega))) (Nat.lt_succ_self _)
      refine g_forget (l1 := [(0, vR 0), (1, vI a1), (2, vI 0)]) (by intro q hq; simp only [List.mem_cons, List.not_mem_nil, or_false] at hq ⊢; rcases hq with rfl | rfl | rfl <;> simp) ?_
      exact L89_10904 _ 0 (by decide) _ hB17_2 FrM.rf (by first | exact i113_2_11964 | exact hgA8) (by first | exact i113_3_11964 | exact hug7) (by first | exact hps5 | exact PSs.start) (by (clear hmb; omega)) (Nat.lt_succ_self _)
    · have hfp9 := z2.2 x17_2_2 (by (clear hmb; omega)) (by (clear hmb; omega))
      have hfb9 := p_fb x17_2_2 (by (clear hmb; omega)) (by (clear hmb; omega))
      refine g_aload_n dX12_arranges_25 rfl ?_
      refine m_g65 rfl dX12_arranges_26 ?_
      refine g_iload_n dX12_arranges_29 rfl ?_
      refine g_aload_n dX12_arranges_30 rfl ?_
      refine m_g26 rfl dX12_arranges_31 ?_
      refine g_bipush dX12_arranges_34 (by decide) ?_
      refine g_aload_n dX12_arranges_36 rfl ?_
      refine m_g13 (z := (P 0 13)) rfl dX12_arranges_37 ((hE17_2.1 13 rfl).trans ((up_k (by decide)).trans ((up_k (by decide)).trans rfl))) ?_
      refine g_imul dX12_arranges_40 ?_
      refine g_aload_n dX12_arranges_41 rfl ?_
      refine m_g54 rfl dX12_arranges_42 ?_
      refine g_bipush dX12_arranges_45 (by decide) ?_
      refine g_iload_n dX12_arranges_47 rfl ?_
      refine g_imul dX12_arranges_48 ?_
      refine g_iload_n dX12_arranges_49 rfl ?_
      refine g_iadd dX12_arranges_50 ?_
      refine m_l36 (z := (P 36 ((12 * a1) + x17_2_2))) dX12_arranges_51 ⟨by (clear hmb; omega), by (clear hmb; omega)⟩ ((congrFun (hE17_2.2 36 rfl rfl) _).trans ((up_o (by decide)).trans ((up_o (by decide)).trans rfl))) ?_
      refine g_iadd dX12_arranges_52 ?_
      refine m_l14 (z := (P 14 ((12 * (P 0 13)) + (P 36 ((12 * a1) + x17_2_2))))) dX12_arranges_53 ⟨by have q0 := b0_13 hB; have q1 := bl_36 (k := ((12 * a1) + x17_2_2)) hB; (clear hmb; omega), by have q0 := b0_13 hB; have q1 := bl_36 (k := ((12 * a1) + x17_2_2)) hB; (clear hmb; omega)⟩ ((congrFun (hE17_2.2 14 rfl rfl) _).trans ((up_o (by decide)).trans ((up_o (by decide)).trans rfl))) ?_
      refine m_s43 dX12_arranges_54 ⟨by (clear hmb; omega), by (clear hmb; omega)⟩ ?_
      have hB12106 := ba_43 (z := (P 14 ((12 * (P 0 13)) + (P 36 ((12 * a1) + x17_2_2))))) (k := x17_2_2) hB17_2 ⟨by have q0 := bl_14 (k := ((12 * (P 0 13)) + (P 36 ((12 * a1) + x17_2_2)))) hB; (clear hmb; omega), by have q0 := bl_14 (k := ((12 * (P 0 13)) + (P 36 ((12 * a1) + x17_2_2)))) hB; (clear hmb; omega)⟩
      have hgv9 := (up_same : (up H17_2 43 x17_2_2 (P 14 ((12 * (P 0 13)) + (P 36 ((12 * a1) + x17_2_2))))) 43 x17_2_2 = (P 14 ((12 * (P 0 13)) + (P 36 ((12 * a1) + x17_2_2)))))
      have hga9 : ∀ p : Int, 0 ≤ p → p < x17_2_2 + 1 → (up H17_2 43 x17_2_2 (P 14 ((12 * (P 0 13)) + (P 36 ((12 * a1) + x17_2_2))))) 43 p = M 2 (f p) := by
        intro p p0 p1
        by_cases e : p = x17_2_2
        · rw [e]; refine Eq.trans up_same ?_; rw [hfp9]; exact hmg (f x17_2_2) hfb9.1 hfb9.2
        · have hj : p ≠ x17_2_2 := by (clear hmb; omega)
          exact Eq.trans ((up_k hj).trans rfl) (i17_0_2 p p0 (by (clear hmb hj; omega)))
      have hgl9 := hga9 x17_2_2 (by (clear hmb; omega)) (by (clear hmb; omega))
      refine g_aload_n dX12_arranges_55 rfl ?_
      refine g_dup dX12_arranges_56 rfl ?_
      refine m_g66 (z := (H17_2 0 66)) rfl dX12_arranges_57 ((up_o (by decide)).trans rfl) ?_
      refine g_aload_n dX12_arranges_60 rfl ?_
      refine m_g65 rfl dX12_arranges_61 ?_
      refine g_iload_n dX12_arranges_64 rfl ?_
      refine m_l43 (z := (P 14 ((12 * (P 0 13)) + (P 36 ((12 * a1) + x17_2_2))))) dX12_arranges_65 ⟨by (clear hmb; omega), by (clear hmb; omega)⟩ up_same ?_
      refine g_iconst dX12_arranges_66 ?_
      have f12107 := bl_14 (k := ((12 * (P 0 13)) + (P 36 ((12 * a1) + x17_2_2)))) hB
      refine g_icmp_ne (tgt := 76) dX12_arranges_67 (by decide) ⟨by have q0 := bl_14 (k := ((12 * (P 0 13)) + (P 36 ((12 * a1) + x17_2_2)))) hB; (clear hmb; omega), by have q0 := bl_14 (k := ((12 * (P 0 13)) + (P 36 ((12 * a1) + x17_2_2)))) hB; (clear hmb; omega)⟩ (by decide) (fun k12108 => ?_) (fun k12108 => ?_)
      · refine g_iconst dX12_arranges_76 ?_
        refine g_ior dX12_arranges_77 ?_
        refine g_nm (fun b12109 e_b12109 => ?_)
        have h_b12109 : 0 ≤ (ior (H17_2 0 66) 0) ∧ (ior (H17_2 0 66) 0) < 4096 := ior_b 12 (by decide) (x := (H17_2 0 66)) (y := 0) (show 0 ≤ (H17_2 0 66) ∧ (H17_2 0 66) < 4096 from ⟨by have q0 := b0_66 hB17_2; (clear hmb k12108; omega), by have q0 := b0_66 hB17_2; (clear hmb k12108; omega)⟩) (show 0 ≤ 0 ∧ 0 < 4096 from ⟨by (clear hmb k12108; omega), by (clear hmb k12108; omega)⟩)
        rw [← e_b12109] at h_b12109
        have hug9 : UGs M f (x17_2_2 + 1) b12109 := by
          rw [e_b12109]
          have h66 := b0_66 hB12106
          have h67 := (((up_o (by decide)).trans rfl) : (up H17_2 43 x17_2_2 (P 14 ((12 * (P 0 13)) + (P 36 ((12 * a1) + x17_2_2))))) 0 66 = (H17_2 0 66))
          exact UGs.step i17_1_2 ⟨by (clear hmb k12108; omega), by (clear hmb k12108; omega)⟩ ⟨by (clear hmb k12108; omega), by (clear hmb k12108; omega)⟩ (by first | exact Or.inl ⟨e_0, by (first | (clear hmb k12108; omega) | (clear hmb; omega) | (clear k12108; omega) | omega)⟩ | exact Or.inr ⟨rfl, by (clear hmb; omega)⟩)
        refine m_p66 rfl dX12_arranges_78 ?_
        have hB12110 := bs_66 (z := b12109) hB12106 ⟨by (clear hmb k12108; omega), by (clear hmb k12108; omega)⟩
        refine g_iinc (l1 := [(2, vI (x17_2_2 + 1)), (0, vR 0), (1, vI a1)]) dX12_arranges_81 rfl (by decide) rfl ?_
        refine g_goto (tgt := 17) dX12_arranges_84 (by decide) ?_
        refine g_forget (l1 := [(0, vR 0), (1, vI a1), (2, vI (x17_2_2 + 1))]) (by intro q hq; simp only [List.mem_cons, List.not_mem_nil, or_false] at hq ⊢; rcases hq with rfl | rfl | rfl <;> simp) ?_
        exact ih17_2 (x17_2_2 + 1) ⟨by (clear hmb k12108; omega), by (clear hmb k12108; omega)⟩ _ hB12110 (FrM.s (FrM.a (FrM.c FrM.rf hE17_2 rfl) rfl rfl) rfl) (by first | exact hga9 | exact fun p p0 p1 => Eq.trans (up_o (by decide)) (hga9 p p0 p1) | (intro p p0 p1; exfalso; (first | (clear hmb k12108; omega) | (clear hmb; omega) | (clear k12108; omega) | omega))) (by first | exact hug9 | (rw [up_same]; exact hug9) | (rw [show (up (up H17_2 43 x17_2_2 (P 14 ((12 * (P 0 13)) + (P 36 ((12 * a1) + x17_2_2))))) 0 66 b12109) 0 66 = 0 from up_same]; exact UGs.start)) (by (clear hmb k12108; omega)) (by (clear hmb k12108; omega))
      · refine g_iconst dX12_arranges_70 ?_
        refine g_iload_n dX12_arranges_71 rfl ?_
        refine g_ishl dX12_arranges_72 ?_
        refine g_nm (fun b12111 e_b12111 => ?_)
        have h_b12111 : 1 ≤ (ishl 1 x17_2_2) ∧ (ishl 1 x17_2_2) ≤ 2048 := (ishl1 11 (by decide) (y := x17_2_2) ⟨by (clear hmb k12108; omega), by (clear hmb k12108; omega)⟩).2
        rw [← e_b12111] at h_b12111
        refine g_goto (tgt := 77) dX12_arranges_73 (by decide) ?_
        refine g_ior dX12_arranges_77 ?_
        refine g_nm (fun b12112 e_b12112 => ?_)
        have h_b12112 : 0 ≤ (ior (H17_2 0 66) b12111) ∧ (ior (H17_2 0 66) b12111) < 4096 := ior_b 12 (by decide) (x := (H17_2 0 66)) (y := b12111) (show 0 ≤ (H17_2 0 66) ∧ (H17_2 0 66) < 4096 from ⟨by have q0 := b0_66 hB17_2; (clear hmb k12108; omega), by have q0 := b0_66 hB17_2; (clear hmb k12108; omega)⟩) (show 0 ≤ b12111 ∧ b12111 < 4096 from ⟨by (clear hmb k12108; omega), by (clear hmb k12108; omega)⟩)
        rw [← e_b12112] at h_b12112
        have hug9 : UGs M f (x17_2_2 + 1) b12112 := by
          rw [e_b12112]
          have h66 := b0_66 hB12106
          have h67 := (((up_o (by decide)).trans rfl) : (up H17_2 43 x17_2_2 (P 14 ((12 * (P 0 13)) + (P 36 ((12 * a1) + x17_2_2))))) 0 66 = (H17_2 0 66))
          exact UGs.step i17_1_2 ⟨by (clear hmb k12108; omega), by (clear hmb k12108; omega)⟩ ⟨by (clear hmb k12108; omega), by (clear hmb k12108; omega)⟩ (by first | exact Or.inl ⟨e_b12111, by (clear hmb; omega)⟩ | exact Or.inr ⟨rfl, by (first | (clear hmb k12108; omega) | (clear hmb; omega) | (clear k12108; omega) | omega)⟩)
        refine m_p66 rfl dX12_arranges_78 ?_
        have hB12113 := bs_66 (z := b12112) hB12106 ⟨by (clear hmb k12108; omega), by (clear hmb k12108; omega)⟩
        refine g_iinc (l1 := [(2, vI (x17_2_2 + 1)), (0, vR 0), (1, vI a1)]) dX12_arranges_81 rfl (by decide) rfl ?_
        refine g_goto (tgt := 17) dX12_arranges_84 (by decide) ?_
        refine g_forget (l1 := [(0, vR 0), (1, vI a1), (2, vI (x17_2_2 + 1))]) (by intro q hq; simp only [List.mem_cons, List.not_mem_nil, or_false] at hq ⊢; rcases hq with rfl | rfl | rfl <;> simp) ?_
        exact ih17_2 (x17_2_2 + 1) ⟨by (clear hmb k12108; omega), by (clear hmb k12108; omega)⟩ _ hB12113 (FrM.s (FrM.a (FrM.c FrM.rf hE17_2 rfl) rfl rfl) rfl) (by first | exact hga9 | exact fun p p0 p1 => Eq.trans (up_o (by decide)) (hga9 p p0 p1) | (intro p p0 p1; exfalso; (first | (clear hmb k12108; omega) | (clear hmb; omega) | (clear k12108; omega) | omega))) (by first | exact hug9 | (rw [up_same]; exact hug9) | (rw [show (up (up H17_2 43 x17_2_2 (P 14 ((12 * (P 0 13)) + (P 36 ((12 * a1) + x17_2_2))))) 0 66 b12112) 0 66 = 0 from up_same]; exact UGs.start)) (by (clear hmb k12108; omega)) (by (clear hmb k12108; omega))
  refine g_forget (l1 := [(0, vR 0), (1, vI a1), (2, vI 0)]) (by intro q hq; simp only [List.mem_cons, List.not_mem_nil, or_false] at hq ⊢; rcases hq with rfl | rfl | rfl <;> simp) ?_
  exact L17_2 _ 0 (by decide) _ hB2 FrM.rf (by first | exact hga9 | exact fun p p0 p1 => Eq.trans (up_o (by decide)) (hga9 p p0 p1) | (intro p p0 p1; exfalso; (clear hmb; omega))) (by first | exact hug9 | (rw [up_same]; exact hug9) | (rw [show (up (up P 0 62 (P 35 a1)) 0 66 0) 0 66 = 0 from up_same]; exact UGs.start)) (by (clear hmb; omega)) (Nat.lt_succ_self _)
/-! What the reference answers: X12_plants. -/
set_option maxRecDepth 100000 in
set_option maxHeartbeats 4000000 in
theorem f_X12_plants (G : GT) (P : PH) (K : PH) (M : PH) (F : FT) (n : Int) (f : IF) (a1 : Int) (a2 : Int) (h_a1 : 0 ≤ a1 ∧ a1 ≤ 21) (h_a2 : (-2147483648) ≤ a2 ∧ a2 ≤ 2147483647) (hB : BdM P) (p_st : P 0 74 ≤ 199999999) (p_aw : AW K) (p_av : AV K M) (p_fb : ∀ p : Int, 0 ≤ p → p < n → 0 ≤ f p ∧ f p < M 0 2) (p_n12 : 0 ≤ n ∧ n ≤ 12) (v_MVw : MVw P) (v_RE : RE P) (z0 : MMB M P) (z1 : LYT K M F P) (z2 : ODb a1 n f P) (Q : Option PV → PH → Prop) (hQ : ∀ (P1 : PH) (_ : BdM P1) (_ : FrM ([62, 66, 74, 76], [41, 42, 43]) P P1) (_ : P1 0 74 = P 0 74 + 1) (_ : MV P1) (_ : RE P1) (_ : RLt P1) (_ : ARG K M F n f P1), Q none P1) : Ct WSM G 3 iX12_plants [vR 0, vI a1, vI a2] P Q := by
  refine Ct.of (by decide) (l0 := [(0, vR 0), (1, vI a1), (2, vI a2)]) rfl (Nat.le_of_ble_eq_true rfl) ?_
  refine g_aload_n dX12_plants_0 rfl ?_
  refine g_iload_n dX12_plants_1 rfl ?_
  refine g_vV (av := [vI a1]) (o := 0) (st := []) (f_X12_arranges G P (K) (M) (F) (n) (f) a1 ⟨by omega, by omega⟩ hB (by have q0 := b0_74 hB; omega) p_aw (p_av) p_fb (by omega) v_MVw v_RE (z0) (z1) (z2) _ (fun Pc1 hBc1 hFc1 gc1_st vc1_MV vc1_RE vc1_RLt ec1_0 => ⟨rfl, ?_⟩)) cf_X12_arranges t_1887 rfl (by decide) rfl rfl rfl (Nat.le_of_ble_eq_true rfl) (by decide) rfl dX12_plants_2
  refine g_aload_n dX12_plants_5 rfl ?_
  refine g_iload_n dX12_plants_6 rfl ?_
  refine m_p76 rfl dX12_plants_7 ?_
  have hB2 := bs_76 (z := a2) hBc1 ⟨by omega, by omega⟩
  exact g_retV dX12_plants_10 rfl (hQ _ hB2 (FrM.s (FrM.c FrM.rf hFc1 rfl) rfl) (by have q0 := (((up_k (by decide)).trans rfl) : (up Pc1 0 76 a2) 0 74 = (Pc1 0 74)); have q1 := b0_74 hBc1; omega) (MV.fr (F := ([76], [])) vc1_MV (FrM.s FrM.rf rfl) rfl) (RE.fr (F := ([76], [])) vc1_RE (FrM.s FrM.rf rfl) rfl) (RLt.fr (F := ([76], [])) vc1_RLt (FrM.s FrM.rf rfl) rfl) ((ARG.fr ec1_0 (show FrM ([76], []) _ _ from (FrM.s FrM.rf rfl)) rfl)))
/-! What the reference answers: X12_see. -/
set_option maxRecDepth 100000 in
set_option maxHeartbeats 4000000 in
theorem f_X12_see (G : GT) (P : PH) (T : TT) (A : PH) (M : PH) (hB : BdM P) (z0 : CM T P) (z1 : AM A P) (z2 : MH M P) (z3 : MR M P) (Q : Option PV → PH → Prop) (hQ : ∀ (r : Int) (_ : (-2147483648) ≤ r ∧ r ≤ 2147483647) (P1 : PH) (_ : BdM P1) (_ : FrM ([1, 92], [28, 59, 60]) P P1) (_ : P1 0 1 = 0) (_ : (r = -1 ∧ ¬ seOk T M A) ∨ (r = T.2 / 3 ∧ seOk T M A)) (_ : AM (aSee T M A) P1), Q (some (vI r)) P1) : Ct WSM G 2 iX12_see [vR 0] P Q := by
  refine Ct.of (by decide) (l0 := [(0, vR 0)]) rfl (Nat.le_of_ble_eq_true rfl) ?_
  have hb := z1.b
  have ht := z0.1
  have hTv := z0.2
  have hmh := z2
  unfold MH at hmh
  have hmr := z3
  unfold MR at hmr
  have q44 := b0_44 hB
  have q1t := b0_1 hB
  refine g_aload_n dX12_see_0 rfl ?_
  refine m_g1 (z := (P 0 1)) rfl dX12_see_1 rfl ?_
  refine g_istore_n (l1 := [(1, vI (P 0 1)), (0, vR 0)]) dX12_see_4 (by decide) rfl ?_
  refine g_aload_n dX12_see_5 rfl ?_
  refine g_iconst dX12_see_6 ?_
  refine m_p1 rfl dX12_see_7 ?_
  have hB1 := bs_1 (z := 0) hB (by decide)
  refine g_aload_n dX12_see_10 rfl ?_
  refine m_g44 (z := (P 0 44)) rfl dX12_see_11 ((up_k (by decide)).trans rfl) ?_
  have f2 := b0_44 hB
  have J38_920 : ∀ (y38_0_920 : Int) (h_y38_0_920 : 0 ≤ y38_0_920 ∧ y38_0_920 ≤ 1) (i38_0_920 : (y38_0_920 = 1 ∧ 0 < M 0 0 ∧ 0 < T.2 ∧ T.2 % 3 = 0 ∧ T.2 ≤ 48) ∨ (y38_0_920 = 0 ∧ (M 0 0 ≤ 0 ∨ T.2 ≤ 0 ∨ T.2 % 3 ≠ 0 ∨ 48 < T.2))), Go WSM G 2 iX12_see 38 [(0, vR 0), (1, vI (P 0 1))] [vI y38_0_920] (up P 0 1 0) Q := by
    intro y38_0_920 h_y38_0_920 i38_0_920
    have hs0 : SEI T M A 0 y38_0_920 := SEI.st i38_0_920
    refine g_istore_n (l1 := [(2, vI y38_0_920), (0, vR 0), (1, vI (P 0 1))]) dX12_see_38 (by decide) rfl ?_
    refine g_iconst dX12_see_39 ?_
    refine g_istore_n (l1 := [(3, vI 0), (2, vI y38_0_920), (0, vR 0), (1, vI (P 0 1))]) dX12_see_40 (by decide) rfl ?_
    have L41_921 : ∀ (n41_921 : Nat) (x41_3_921 : Int) (h_x41_3_921 : 0 ≤ x41_3_921 ∧ x41_3_921 ≤ 1603) (x41_2_921 : Int) (h_x41_2_921 : 0 ≤ x41_2_921 ∧ x41_2_921 ≤ 1) (i41_0_921 : x41_2_921 = 0 ∨ (P 0 1) ≤ 48) (i41_1_921 : SEI T M A x41_3_921 x41_2_921) (i41_2_921 : x41_3_921 % 3 = 0) (hm41_921 : (1604 - x41_3_921 : Int).toNat < n41_921), Go WSM G 2 iX12_see 41 [(0, vR 0), (1, vI (P 0 1)), (2, vI x41_2_921), (3, vI x41_3_921)] [] (up P 0 1 0) Q := by
      intro n41_921
      induction n41_921 with
      | zero => intro x41_3_921 h_x41_3_921 x41_2_921 h_x41_2_921 i41_0_921 i41_1_921 i41_2_921 hm41_921; exact absurd hm41_921 (Nat.not_lt_zero _)
      | succ n41_921 ih41_921 =>
      intro x41_3_921 h_x41_3_921 x41_2_921 h_x41_2_921 i41_0_921 i41_1_921 i41_2_921 hm41_921
      refine g_iload_n dX12_see_41 rfl ?_
      refine g_iload_n dX12_see_42 rfl ?_
      have f1615 := b0_1 hB
      refine g_icmp_ge (tgt := 118) dX12_see_43 (by decide) ⟨by (clear hmh hmr i38_0_920 i41_0_921; omega), by (clear hmh hmr i38_0_920 i41_0_921; omega)⟩ ⟨by have q0 := b0_1 hB; (clear hmh hmr i38_0_920 i41_0_921; omega), by have q0 := b0_1 hB; (clear hmh hmr i38_0_920 i41_0_921; omega)⟩ (fun k1616 => ?_) (fun k1616 => ?_)
      · skip
        skip
        refine g_iload_n dX12_see_118 rfl ?_
        refine g_if_ne (tgt := 128) dX12_see_119 (by decide) ⟨by (clear hmh hmr i38_0_920 i41_0_921; omega), by (clear hmh hmr i38_0_920 i41_0_921; omega)⟩ (fun k1617 => ?_) (fun k1617 => ?_)
        · have k1617n : 1 ≤ x41_2_921 := by (clear hmh hmr i38_0_920 i41_0_921; omega)
          clear k1617
          have r_i41_0_921 := (i41_0_921.resolve_left (by (clear hmh hmr i38_0_920 i41_0_921; omega)))
          skip
          refine g_aload_n dX12_see_128 rfl ?_
          have hse := ((i41_1_921).on (by (clear hmh hmr i38_0_920 i41_0_921; omega))).end (by (clear hmh hmr i38_0_920 i41_0_921; omega))
          refine g_iload_n dX12_see_129 rfl ?_
          refine g_iconst dX12_see_130 ?_
          refine g_idiv dX12_see_131 ⟨(by decide), by decide⟩ ?_
          refine g_nm (fun b1618 e_b1618 => ?_)
          have h_b1618 := idiv_p (x := (P 0 1)) (y := 3) ⟨by have q0 := b0_1 hB; (clear hmh hmr i38_0_920 i41_0_921; omega), by have q0 := b0_1 hB; (clear hmh hmr i38_0_920 i41_0_921; omega)⟩ ⟨by (clear hmh hmr i38_0_920 i41_0_921; omega), by (clear hmh hmr i38_0_920 i41_0_921; omega)⟩
          rw [← e_b1618] at h_b1618
          have f_b1618_0 := b0_1 hB
          refine m_p92 rfl dX12_see_132 ?_
          have hB1619 := bs_92 (z := b1618) hB1 ⟨by (clear hmh hmr i38_0_920 i41_0_921; omega), by (clear hmh hmr i38_0_920 i41_0_921; omega)⟩
          refine g_iconst dX12_see_135 ?_
          refine g_istore_n (l1 := [(3, vI 0), (0, vR 0), (1, vI (P 0 1)), (2, vI x41_2_921)]) dX12_see_136 (by decide) rfl ?_
          have L137_1619 : ∀ (n137_1619 : Nat) (x137_3_1619 : Int) (h_x137_3_1619 : 0 ≤ x137_3_1619 ∧ x137_3_1619 ≤ 533) (H137_1619 : PH) (hB137_1619 : BdM H137_1619) (hE137_1619 : FrM ([], [59, 60]) (up (up P 0 1 0) 0 92 b1618) H137_1619) (hm137_1619 : ((534 - x137_3_1619) : Int).toNat < n137_1619), Go WSM G 2 iX12_see 137 [(0, vR 0), (3, vI x137_3_1619)] [] H137_1619 Q := by
            intro n137_1619
            induction n137_1619 with
            | zero => intro x137_3_1619 h_x137_3_1619 H137_1619 hB137_1619 hE137_1619 hm137_1619; exact absurd hm137_1619 (Nat.not_lt_zero _)
            | succ n137_1619 ih137_1619 =>
            intro x137_3_1619 h_x137_3_1619 H137_1619 hB137_1619 hE137_1619 hm137_1619
            refine g_iload_n dX12_see_137 rfl ?_
            refine g_aload_n dX12_see_138 rfl ?_
            refine m_g92 (z := b1618) rfl dX12_see_139 ((hE137_1619.1 92 rfl).trans up_same) ?_
            refine g_icmp_ge (tgt := 215) dX12_see_142 (by decide) ⟨by (clear hmh hmr i38_0_920 i41_0_921; omega), by (clear hmh hmr i38_0_920 i41_0_921; omega)⟩ ⟨by (clear hmh hmr i38_0_920 i41_0_921; omega), by (clear hmh hmr i38_0_920 i41_0_921; omega)⟩ (fun k1797 => ?_) (fun k1797 => ?_)
            · skip
              skip
              refine g_aload_n dX12_see_215 rfl ?_
              refine m_g92 (z := b1618) rfl dX12_see_216 ((hE137_1619.1 92 rfl).trans up_same) ?_
              exact g_retI dX12_see_219 rfl (hQ b1618 ⟨by (clear hmh hmr i38_0_920 i41_0_921; omega), by (clear hmh hmr i38_0_920 i41_0_921; omega)⟩ _ hB137_1619 (FrM.c (FrM.s (FrM.s FrM.rf rfl) rfl) hE137_1619 rfl) (by have q0 := (((hE137_1619.1 1 rfl).trans ((up_k (by decide)).trans up_same)) : H137_1619 0 1 = 0); (clear hmh hmr i38_0_920 i41_0_921; omega)) (Or.inr ⟨by have q := (((hE137_1619.1 92 rfl).trans up_same) : H137_1619 0 92 = b1618); (clear hmh hmr i38_0_920 i41_0_921; omega), hse⟩) (by rw [aSee_y hse]; exact z1.se (F := ([1, 92], [59, 60])) (by have q := (((hE137_1619.1 92 rfl).trans up_same) : H137_1619 0 92 = b1618); (clear hmh hmr i38_0_920 i41_0_921; omega)) (FrM.c (FrM.s (FrM.s FrM.rf rfl) rfl) hE137_1619 rfl) rfl))
            · skip
              skip
              refine g_aload_n dX12_see_145 rfl ?_
              refine m_g93 rfl dX12_see_146 ?_
              refine g_iload_n dX12_see_149 rfl ?_
              refine g_aload_n dX12_see_150 rfl ?_
              refine m_g0 rfl dX12_see_151 ?_
              refine g_iconst dX12_see_154 ?_
              refine g_iload_n dX12_see_155 rfl ?_
              refine g_imul dX12_see_156 ?_
              refine m_l1 (z := (P 1 (3 * x137_3_1619))) dX12_see_157 ⟨by (clear hmh hmr i38_0_920 i41_0_921; omega), by (clear hmh hmr i38_0_920 i41_0_921; omega)⟩ ((congrFun (hE137_1619.2 1 rfl rfl) _).trans ((up_o (by decide)).trans ((up_o (by decide)).trans rfl))) ?_
              refine g_bipush dX12_see_158 (by decide) ?_
              refine g_ishl dX12_see_160 ?_
              refine g_nm (fun b1798 e_b1798 => ?_)
              have h_b1798 : (ishl (P 1 (3 * x137_3_1619)) 8) = (P 1 (3 * x137_3_1619)) * 256 := ishl_c 8 (by decide) (x := (P 1 (3 * x137_3_1619))) (show IR ((P 1 (3 * x137_3_1619)) * 256) from ⟨by have q0 := bl_1 (k := (3 * x137_3_1619)) hB; (clear hmh hmr i38_0_920 i41_0_921; omega), by have q0 := bl_1 (k := (3 * x137_3_1619)) hB; (clear hmh hmr i38_0_920 i41_0_921; omega)⟩)
              rw [← e_b1798] at h_b1798
              have f_b1798_0 := bl_1 (k := (3 * x137_3_1619)) hB
              refine g_aload_n dX12_see_161 rfl ?_
              refine m_g0 rfl dX12_see_162 ?_
              refine g_iconst dX12_see_165 ?_
              refine g_iload_n dX12_see_166 rfl ?_
              refine g_imul dX12_see_167 ?_
              refine g_iconst dX12_see_168 ?_
              refine g_iadd dX12_see_169 ?_
              refine m_l1 (z := (P 1 ((3 * x137_3_1619) + 1))) dX12_see_170 ⟨by (clear hmh hmr i38_0_920 i41_0_921; omega), by (clear hmh hmr i38_0_920 i41_0_921; omega)⟩ ((congrFun (hE137_1619.2 1 rfl rfl) _).trans ((up_o (by decide)).trans ((up_o (by decide)).trans rfl))) ?_
              refine g_ior dX12_see_171 ?_
              refine g_nm (fun b1799 e_b1799 => ?_)
              have h_b1799 : 0 ≤ (ior b1798 (P 1 ((3 * x137_3_1619) + 1))) ∧ (ior b1798 (P 1 ((3 * x137_3_1619) + 1))) < 65536 := ior_b 16 (by decide) (x := b1798) (y := (P 1 ((3 * x137_3_1619) + 1))) (show 0 ≤ b1798 ∧ b1798 < 65536 from ⟨by (clear hmh hmr i38_0_920 i41_0_921; omega), by (clear hmh hmr i38_0_920 i41_0_921; omega)⟩) (show 0 ≤ (P 1 ((3 * x137_3_1619) + 1)) ∧ (P 1 ((3 * x137_3_1619) + 1)) < 65536 from ⟨by have q0 := bl_1 (k := ((3 * x137_3_1619) + 1)) hB; (clear hmh hmr i38_0_920 i41_0_921; omega), by have q0 := bl_1 (k := ((3 * x137_3_1619) + 1)) hB; (clear hmh hmr i38_0_920 i41_0_921; omega)⟩)
              rw [← e_b1799] at h_b1799
              refine m_s59 dX12_see_172 ⟨by (clear hmh hmr i38_0_920 i41_0_921; omega), by (clear hmh hmr i38_0_920 i41_0_921; omega)⟩ ?_
              have hB1800 := ba_59 (z := b1799) (k := x137_3_1619) hB137_1619 ⟨by (clear hmh hmr i38_0_920 i41_0_921; omega), by (clear hmh hmr i38_0_920 i41_0_921; omega)⟩
              refine g_aload_n dX12_see_173 rfl ?_
              refine m_g94 rfl dX12_see_174 ?_
              refine g_iload_n dX12_see_177 rfl ?_
              refine g_aload_n dX12_see_178 rfl ?_
              refine m_g0 rfl dX12_see_179 ?_
              refine g_iconst dX12_see_182 ?_
              refine g_iload_n dX12_see_183 rfl ?_
              refine g_imul dX12_see_184 ?_
              refine g_iconst dX12_see_185 ?_
              refine g_iadd dX12_see_186 ?_
              refine m_l1 (z := (P 1 ((3 * x137_3_1619) + 2))) dX12_see_187 ⟨by (clear hmh hmr i38_0_920 i41_0_921; omega), by (clear hmh hmr i38_0_920 i41_0_921; omega)⟩ ((up_o (by decide)).trans ((congrFun (hE137_1619.2 1 rfl rfl) _).trans ((up_o (by decide)).trans ((up_o (by decide)).trans rfl)))) ?_
              refine g_sipush dX12_see_188 (by decide) ?_
              have f1801 := bl_1 (k := ((3 * x137_3_1619) + 2)) hB
              refine g_icmp_ne (tgt := 198) dX12_see_191 (by decide) ⟨by have q0 := bl_1 (k := ((3 * x137_3_1619) + 2)) hB; (clear hmh hmr i38_0_920 i41_0_921; omega), by have q0 := bl_1 (k := ((3 * x137_3_1619) + 2)) hB; (clear hmh hmr i38_0_920 i41_0_921; omega)⟩ (by decide) (fun k1802 => ?_) (fun k1802 => ?_)
              · have k1802n : (P 1 ((3 * x137_3_1619) + 2)) ≤ 254 := by have q0 := bl_1 (k := ((3 * x137_3_1619) + 2)) hB; (clear hmh hmr i38_0_920 i41_0_921; omega)
                clear k1802
                skip
                skip
                refine g_aload_n dX12_see_198 rfl ?_
                refine m_g0 rfl dX12_see_199 ?_
                refine g_iconst dX12_see_202 ?_
                refine g_iload_n dX12_see_203 rfl ?_
                refine g_imul dX12_see_204 ?_
                refine g_iconst dX12_see_205 ?_
                refine g_iadd dX12_see_206 ?_
                refine m_l1 (z := (P 1 ((3 * x137_3_1619) + 2))) dX12_see_207 ⟨by (clear hmh hmr i38_0_920 i41_0_921; omega), by (clear hmh hmr i38_0_920 i41_0_921; omega)⟩ ((up_o (by decide)).trans ((congrFun (hE137_1619.2 1 rfl rfl) _).trans ((up_o (by decide)).trans ((up_o (by decide)).trans rfl)))) ?_
                refine m_s60 dX12_see_208 ⟨by (clear hmh hmr i38_0_920 i41_0_921; omega), by (clear hmh hmr i38_0_920 i41_0_921; omega)⟩ ?_
                have hB1803 := ba_60 (z := (P 1 ((3 * x137_3_1619) + 2))) (k := x137_3_1619) hB1800 ⟨by have q0 := bl_1 (k := ((3 * x137_3_1619) + 2)) hB; (clear hmh hmr i38_0_920 i41_0_921; omega), by have q0 := bl_1 (k := ((3 * x137_3_1619) + 2)) hB; (clear hmh hmr i38_0_920 i41_0_921; omega)⟩
                refine g_iinc (l1 := [(3, vI (x137_3_1619 + 1)), (0, vR 0)]) dX12_see_209 rfl (by decide) rfl ?_
                refine g_goto (tgt := 137) dX12_see_212 (by decide) ?_
                refine g_forget (l1 := [(0, vR 0), (3, vI (x137_3_1619 + 1))]) (by intro q hq; simp only [List.mem_cons, List.not_mem_nil, or_false] at hq ⊢; rcases hq with rfl | rfl <;> simp) ?_
                exact ih137_1619 (x137_3_1619 + 1) ⟨by (clear hmh hmr i38_0_920 i41_0_921; omega), by (clear hmh hmr i38_0_920 i41_0_921; omega)⟩ _ hB1803 (FrM.a (FrM.a (FrM.c FrM.rf hE137_1619 rfl) rfl rfl) rfl rfl) (by (clear hmh hmr i38_0_920 i41_0_921; omega))
              · skip
                skip
                refine g_iconst dX12_see_194 ?_
                refine g_goto (tgt := 208) dX12_see_195 (by decide) ?_
                refine m_s60 dX12_see_208 ⟨by (clear hmh hmr i38_0_920 i41_0_921; omega), by (clear hmh hmr i38_0_920 i41_0_921; omega)⟩ ?_
                have hB1804 := ba_60 (z := (-1)) (k := x137_3_1619) hB1800 (by decide)
                refine g_iinc (l1 := [(3, vI (x137_3_1619 + 1)), (0, vR 0)]) dX12_see_209 rfl (by decide) rfl ?_
                refine g_goto (tgt := 137) dX12_see_212 (by decide) ?_
                refine g_forget (l1 := [(0, vR 0), (3, vI (x137_3_1619 + 1))]) (by intro q hq; simp only [List.mem_cons, List.not_mem_nil, or_false] at hq ⊢; rcases hq with rfl | rfl <;> simp) ?_
                exact ih137_1619 (x137_3_1619 + 1) ⟨by (clear hmh hmr i38_0_920 i41_0_921; omega), by (clear hmh hmr i38_0_920 i41_0_921; omega)⟩ _ hB1804 (FrM.a (FrM.a (FrM.c FrM.rf hE137_1619 rfl) rfl rfl) rfl rfl) (by (clear hmh hmr i38_0_920 i41_0_921; omega))
          refine g_forget (l1 := [(0, vR 0), (3, vI 0)]) (by intro q hq; simp only [List.mem_cons, List.not_mem_nil, or_false] at hq ⊢; rcases hq with rfl | rfl <;> simp) ?_
          exact L137_1619 _ 0 (by decide) _ hB1619 FrM.rf (Nat.lt_succ_self _)
        · skip
          skip
          refine g_aload_n dX12_see_122 rfl ?_
          have hno := (i41_1_921).off (by (clear hmh hmr i38_0_920 i41_0_921; omega))
          refine g_iconst dX12_see_123 ?_
          refine g_vI (av := [vI 5]) (o := 0) (st := []) (m_X12_refuses G (up P 0 1 0) 5 (by decide) hB1  _ (fun rc1805 hc1805 Pc1805 hBc1805 hFc1805 => ⟨rc1805, rfl, ?_⟩)) cf_X12_refuses t_1667 rfl (by decide) rfl rfl rfl (Nat.le_of_ble_eq_true rfl) (by decide) rfl dX12_see_124
          exact g_retI dX12_see_127 rfl (hQ rc1805 ⟨by (clear hmh hmr i38_0_920 i41_0_921; omega), by (clear hmh hmr i38_0_920 i41_0_921; omega)⟩ _ hBc1805 (FrM.c (FrM.s FrM.rf rfl) hFc1805 rfl) (by have q0 := (((hFc1805.1 1 rfl).trans up_same) : Pc1805 0 1 = 0); (clear hmh hmr i38_0_920 i41_0_921; omega)) (Or.inl ⟨by (clear hmh hmr i38_0_920 i41_0_921; omega), hno⟩) (by rw [aSee_n hno]; exact (AM.fr (F := ([1], [28])) z1 (FrM.c (FrM.s FrM.rf rfl) hFc1805 rfl) rfl)))
      · skip
        skip
        refine g_iload_n dX12_see_46 rfl ?_
        refine g_if_eq (tgt := 118) dX12_see_47 (by decide) ⟨by (clear hmh hmr i38_0_920 i41_0_921; omega), by (clear hmh hmr i38_0_920 i41_0_921; omega)⟩ (fun k1806 => ?_) (fun k1806 => ?_)
        · skip
          skip
          refine g_iload_n dX12_see_118 rfl ?_
          refine g_if_ne (tgt := 128) dX12_see_119 (by decide) ⟨by (clear hmh hmr i38_0_920 i41_0_921; omega), by (clear hmh hmr i38_0_920 i41_0_921; omega)⟩ (fun k1807 => by exfalso; (clear hmh hmr i38_0_920 i41_0_921; omega)) (fun k1807 => ?_)
          skip
          skip
          refine g_aload_n dX12_see_122 rfl ?_
          have hno := (i41_1_921).off (by (clear hmh hmr i38_0_920 i41_0_921; omega))
          refine g_iconst dX12_see_123 ?_
          refine g_vI (av := [vI 5]) (o := 0) (st := []) (m_X12_refuses G (up P 0 1 0) 5 (by decide) hB1  _ (fun rc1808 hc1808 Pc1808 hBc1808 hFc1808 => ⟨rc1808, rfl, ?_⟩)) cf_X12_refuses t_1667 rfl (by decide) rfl rfl rfl (Nat.le_of_ble_eq_true rfl) (by decide) rfl dX12_see_124
          exact g_retI dX12_see_127 rfl (hQ rc1808 ⟨by (clear hmh hmr i38_0_920 i41_0_921; omega), by (clear hmh hmr i38_0_920 i41_0_921; omega)⟩ _ hBc1808 (FrM.c (FrM.s FrM.rf rfl) hFc1808 rfl) (by have q0 := (((hFc1808.1 1 rfl).trans up_same) : Pc1808 0 1 = 0); (clear hmh hmr i38_0_920 i41_0_921; omega)) (Or.inl ⟨by (clear hmh hmr i38_0_920 i41_0_921; omega), hno⟩) (by rw [aSee_n hno]; exact (AM.fr (F := ([1], [28])) z1 (FrM.c (FrM.s FrM.rf rfl) hFc1808 rfl) rfl)))
        · have k1806n : 1 ≤ x41_2_921 := by (clear hmh hmr i38_0_920 i41_0_921; omega)
          clear k1806
          have r_i41_0_921 := (i41_0_921.resolve_left (by (clear hmh hmr i38_0_920 i41_0_921; omega)))
          skip
          refine g_aload_n dX12_see_50 rfl ?_
          have hse1 := (i41_1_921).on (by (clear hmh hmr i38_0_920 i41_0_921; omega))
          have hsh := hse1.hd
          unfold sHd at hsh
          have hmr9 : P 0 52 = M 0 1 := by (clear hmh i38_0_920 i41_0_921; omega)
          have e0 := hTv x41_3_921 (by (clear hmh hmr i38_0_920 i41_0_921; omega)) (by (clear hmh hmr i38_0_920 i41_0_921; omega))
          have e1 := hTv (x41_3_921 + 1) (by (clear hmh hmr i38_0_920 i41_0_921; omega)) (by (clear hmh hmr i38_0_920 i41_0_921; omega))
          have e2 := hTv (x41_3_921 + 2) (by (clear hmh hmr i38_0_920 i41_0_921; omega)) (by (clear hmh hmr i38_0_920 i41_0_921; omega))
          have qb0 := bl_1 (k := x41_3_921) hB
          have qb1 := bl_1 (k := x41_3_921 + 1) hB
          have hl39 : x41_3_921 < T.2 := by (clear hmh hmr i38_0_920 i41_0_921; omega)
          refine m_g0 rfl dX12_see_51 ?_
          refine g_iload_n dX12_see_54 rfl ?_
          refine m_l1 (z := (P 1 x41_3_921)) dX12_see_55 ⟨by (clear hmh hmr i38_0_920 i41_0_921; omega), by (clear hmh hmr i38_0_920 i41_0_921; omega)⟩ ((up_o (by decide)).trans rfl) ?_
          refine g_bipush dX12_see_56 (by decide) ?_
          refine g_ishl dX12_see_58 ?_
          refine g_nm (fun b1809 e_b1809 => ?_)
          have h_b1809 : (ishl (P 1 x41_3_921) 8) = (P 1 x41_3_921) * 256 := ishl_c 8 (by decide) (x := (P 1 x41_3_921)) (show IR ((P 1 x41_3_921) * 256) from ⟨by have q0 := bl_1 (k := x41_3_921) hB; (clear hmh hmr i38_0_920 i41_0_921; omega), by have q0 := bl_1 (k := x41_3_921) hB; (clear hmh hmr i38_0_920 i41_0_921; omega)⟩)
          rw [← e_b1809] at h_b1809
          have f_b1809_0 := bl_1 (k := x41_3_921) hB
          refine g_aload_n dX12_see_59 rfl ?_
          refine m_g0 rfl dX12_see_60 ?_
          refine g_iload_n dX12_see_63 rfl ?_
          refine g_iconst dX12_see_64 ?_
          refine g_iadd dX12_see_65 ?_
          refine m_l1 (z := (P 1 (x41_3_921 + 1))) dX12_see_66 ⟨by (clear hmh hmr i38_0_920 i41_0_921; omega), by (clear hmh hmr i38_0_920 i41_0_921; omega)⟩ ((up_o (by decide)).trans rfl) ?_
          refine g_ior dX12_see_67 ?_
          refine g_nm (fun b1810 e_b1810 => ?_)
          have h_b1810 : 0 ≤ (ior b1809 (P 1 (x41_3_921 + 1))) ∧ (ior b1809 (P 1 (x41_3_921 + 1))) < 65536 := ior_b 16 (by decide) (x := b1809) (y := (P 1 (x41_3_921 + 1))) (show 0 ≤ b1809 ∧ b1809 < 65536 from ⟨by (clear hmh hmr i38_0_920 i41_0_921; omega), by (clear hmh hmr i38_0_920 i41_0_921; omega)⟩) (show 0 ≤ (P 1 (x41_3_921 + 1)) ∧ (P 1 (x41_3_921 + 1)) < 65536 from ⟨by have q0 := bl_1 (k := (x41_3_921 + 1)) hB; (clear hmh hmr i38_0_920 i41_0_921; omega), by have q0 := bl_1 (k := (x41_3_921 + 1)) hB; (clear hmh hmr i38_0_920 i41_0_921; omega)⟩)
          rw [← e_b1810] at h_b1810
          have hz := ior_hl8 (x := P 1 (x41_3_921 + 1)) (y := P 1 x41_3_921) ⟨by (clear hmh hmr i38_0_920 i41_0_921; omega), by (clear hmh hmr i38_0_920 i41_0_921; omega)⟩ (by (clear hmh hmr i38_0_920 i41_0_921; omega)) (by (clear hmh hmr i38_0_920 i41_0_921; omega))
          have e9 : b1810 = 256 * T.1 x41_3_921 + T.1 (x41_3_921 + 1) := by rw [e_b1810, h_b1809, hz]; (clear hmh hmr i38_0_920 i41_0_921; omega)
          refine g_aload_n dX12_see_68 rfl ?_
          refine m_g52 (z := (P 0 52)) rfl dX12_see_69 ((up_k (by decide)).trans rfl) ?_
          have f1811 := b0_52 hB
          have J111_1821 : ∀ (y111_0_1821 : Int) (h_y111_0_1821 : 0 ≤ y111_0_1821 ∧ y111_0_1821 ≤ 1) (i111_0_1821 : (y111_0_1821 = 1 ∧ 256 * T.1 x41_3_921 + T.1 (x41_3_921 + 1) < M 0 1 ∧ (T.1 (x41_3_921 + 2) = 255 ∨ T.1 (x41_3_921 + 2) < A 0 0)) ∨ (y111_0_1821 = 0 ∧ (M 0 1 ≤ 256 * T.1 x41_3_921 + T.1 (x41_3_921 + 1) ∨ (T.1 (x41_3_921 + 2) ≠ 255 ∧ A 0 0 ≤ T.1 (x41_3_921 + 2))))), Go WSM G 2 iX12_see 111 [(0, vR 0), (1, vI (P 0 1)), (3, vI x41_3_921)] [vI y111_0_1821] (up P 0 1 0) Q := by
            intro y111_0_1821 h_y111_0_1821 i111_0_1821
            refine g_istore_n (l1 := [(2, vI y111_0_1821), (0, vR 0), (1, vI (P 0 1)), (3, vI x41_3_921)]) dX12_see_111 (by decide) rfl ?_
            have hsei9 := hse1.nx (by (clear hmh hmr i38_0_920 i41_0_921 i111_0_1821; omega)) (by (clear hmh hmr i38_0_920 i41_0_921 i111_0_1821; omega)) hl39 i111_0_1821
            refine g_iinc (l1 := [(3, vI (x41_3_921 + 3)), (2, vI y111_0_1821), (0, vR 0), (1, vI (P 0 1))]) dX12_see_112 rfl (by decide) rfl ?_
            refine g_goto (tgt := 41) dX12_see_115 (by decide) ?_
            refine g_forget (l1 := [(0, vR 0), (1, vI (P 0 1)), (2, vI y111_0_1821), (3, vI (x41_3_921 + 3))]) (by intro q hq; simp only [List.mem_cons, List.not_mem_nil, or_false] at hq ⊢; rcases hq with rfl | rfl | rfl | rfl <;> simp) ?_
            exact ih41_921 (x41_3_921 + 3) ⟨by have q0 := b0_1 hB; (clear hmh hmr i38_0_920 i41_0_921 i111_0_1821; omega), by have q0 := b0_1 hB; (clear hmh hmr i38_0_920 i41_0_921 i111_0_1821; omega)⟩ y111_0_1821 ⟨by have q0 := b0_1 hB; (clear hmh hmr i38_0_920 i41_0_921 i111_0_1821; omega), by have q0 := b0_1 hB; (clear hmh hmr i38_0_920 i41_0_921 i111_0_1821; omega)⟩ (by (clear hmh hmr i38_0_920 i41_0_921 i111_0_1821; omega)) (by first | exact hsei9 | exact hs0) (by (clear hmh hmr i38_0_920 i41_0_921 i111_0_1821; omega)) (by (clear hmh hmr i38_0_920 i41_0_921 i111_0_1821; omega))
          have J110_1822 : ∀ (i110_0_1822 : M 0 1 ≤ 256 * T.1 x41_3_921 + T.1 (x41_3_921 + 1) ∨ (T.1 (x41_3_921 + 2) ≠ 255 ∧ A 0 0 ≤ T.1 (x41_3_921 + 2))), Go WSM G 2 iX12_see 110 [(0, vR 0), (1, vI (P 0 1)), (3, vI x41_3_921)] [] (up P 0 1 0) Q := by
            intro i110_0_1822
            refine g_iconst dX12_see_110 ?_
            refine g_forget (l1 := [(0, vR 0), (1, vI (P 0 1)), (3, vI x41_3_921)]) (by intro q hq; simp only [List.mem_cons, List.not_mem_nil, or_false] at hq ⊢; rcases hq with rfl | rfl | rfl <;> simp) ?_
            exact J111_1821 0 (by decide) (by (clear hmh hmr i38_0_920 i41_0_921; omega))
          refine g_icmp_ge (tgt := 110) dX12_see_72 (by decide) ⟨by (clear hmh hmr i38_0_920 i41_0_921; omega), by (clear hmh hmr i38_0_920 i41_0_921; omega)⟩ ⟨by have q0 := b0_52 hB; (clear hmh hmr i38_0_920 i41_0_921; omega), by have q0 := b0_52 hB; (clear hmh hmr i38_0_920 i41_0_921; omega)⟩ (fun k1824 => ?_) (fun k1824 => ?_)
          · skip
            have r_i38_0_920 := (i38_0_920.resolve_right (by (clear hmh hmr i38_0_920 i41_0_921; omega)))
            refine g_forget (l1 := [(0, vR 0), (1, vI (P 0 1)), (3, vI x41_3_921)]) (by intro q hq; simp only [List.mem_cons, List.not_mem_nil, or_false] at hq ⊢; rcases hq with rfl | rfl | rfl <;> simp) ?_
            exact J110_1822 (by (clear hmh hmr i38_0_920 i41_0_921; omega))
          · skip
            have r_i38_0_920 := (i38_0_920.resolve_right (by (clear hmh hmr i38_0_920 i41_0_921; omega)))
            refine g_aload_n dX12_see_75 rfl ?_
            refine m_g0 rfl dX12_see_76 ?_
            refine g_iload_n dX12_see_79 rfl ?_
            refine g_iconst dX12_see_80 ?_
            refine g_iadd dX12_see_81 ?_
            refine m_l1 (z := (P 1 (x41_3_921 + 2))) dX12_see_82 ⟨by (clear hmh hmr i38_0_920 i41_0_921; omega), by (clear hmh hmr i38_0_920 i41_0_921; omega)⟩ ((up_o (by decide)).trans rfl) ?_
            refine g_sipush dX12_see_83 (by decide) ?_
            have f1825 := bl_1 (k := (x41_3_921 + 2)) hB
            have J106_1828 : ∀ (i106_0_1828 : 256 * T.1 x41_3_921 + T.1 (x41_3_921 + 1) < M 0 1 ∧ (T.1 (x41_3_921 + 2) = 255 ∨ T.1 (x41_3_921 + 2) < A 0 0)), Go WSM G 2 iX12_see 106 [(0, vR 0), (1, vI (P 0 1)), (3, vI x41_3_921)] [] (up P 0 1 0) Q := by
              intro i106_0_1828
              refine g_iconst dX12_see_106 ?_
              refine g_goto (tgt := 111) dX12_see_107 (by decide) ?_
              refine g_forget (l1 := [(0, vR 0), (1, vI (P 0 1)), (3, vI x41_3_921)]) (by intro q hq; simp only [List.mem_cons, List.not_mem_nil, or_false] at hq ⊢; rcases hq with rfl | rfl | rfl <;> simp) ?_
              exact J111_1821 1 (by decide) (by (clear hmh hmr i38_0_920 i41_0_921; omega))
            refine g_icmp_eq (tgt := 106) dX12_see_86 (by decide) ⟨by have q0 := bl_1 (k := (x41_3_921 + 2)) hB; (clear hmh hmr i38_0_920 i41_0_921; omega), by have q0 := bl_1 (k := (x41_3_921 + 2)) hB; (clear hmh hmr i38_0_920 i41_0_921; omega)⟩ (by decide) (fun k1830 => ?_) (fun k1830 => ?_)
            · skip
              skip
              refine g_forget (l1 := [(0, vR 0), (1, vI (P 0 1)), (3, vI x41_3_921)]) (by intro q hq; simp only [List.mem_cons, List.not_mem_nil, or_false] at hq ⊢; rcases hq with rfl | rfl | rfl <;> simp) ?_
              exact J106_1828 (by (clear hmh hmr i38_0_920 i41_0_921; omega))
            · have k1830n : (P 1 (x41_3_921 + 2)) ≤ 254 := by have q0 := bl_1 (k := (x41_3_921 + 2)) hB; (clear hmh hmr i38_0_920 i41_0_921; omega)
              clear k1830
              skip
              skip
              refine g_aload_n dX12_see_89 rfl ?_
              refine m_g0 rfl dX12_see_90 ?_
              refine g_iload_n dX12_see_93 rfl ?_
              refine g_iconst dX12_see_94 ?_
              refine g_iadd dX12_see_95 ?_
              refine m_l1 (z := (P 1 (x41_3_921 + 2))) dX12_see_96 ⟨by (clear hmh hmr i38_0_920 i41_0_921; omega), by (clear hmh hmr i38_0_920 i41_0_921; omega)⟩ ((up_o (by decide)).trans rfl) ?_
              refine g_aload_n dX12_see_97 rfl ?_
              refine m_g53 rfl dX12_see_98 ?_
              refine g_iconst dX12_see_101 ?_
              refine m_l35 (z := (P 35 0)) dX12_see_102 (by decide) ((up_o (by decide)).trans rfl) ?_
              have f1831 := bl_35 (k := 0) hB
              refine g_icmp_ge (tgt := 110) dX12_see_103 (by decide) ⟨by have q0 := bl_1 (k := (x41_3_921 + 2)) hB; (clear hmh hmr i38_0_920 i41_0_921; omega), by have q0 := bl_1 (k := (x41_3_921 + 2)) hB; (clear hmh hmr i38_0_920 i41_0_921; omega)⟩ ⟨by have q0 := bl_35 (k := 0) hB; (clear hmh hmr i38_0_920 i41_0_921; omega), by have q0 := bl_35 (k := 0) hB; (clear hmh hmr i38_0_920 i41_0_921; omega)⟩ (fun k1832 => ?_) (fun k1832 => ?_)
              · skip
                skip
                refine g_forget (l1 := [(0, vR 0), (1, vI (P 0 1)), (3, vI x41_3_921)]) (by intro q hq; simp only [List.mem_cons, List.not_mem_nil, or_false] at hq ⊢; rcases hq with rfl | rfl | rfl <;> simp) ?_
                exact J110_1822 (by (clear hmh hmr i38_0_920 i41_0_921; omega))
              · skip
                skip
                refine g_forget (l1 := [(0, vR 0), (1, vI (P 0 1)), (3, vI x41_3_921)]) (by intro q hq; simp only [List.mem_cons, List.not_mem_nil, or_false] at hq ⊢; rcases hq with rfl | rfl | rfl <;> simp) ?_
                exact J106_1828 (by (clear hmh hmr i38_0_920 i41_0_921; omega))
    refine g_forget (l1 := [(0, vR 0), (1, vI (P 0 1)), (2, vI y38_0_920), (3, vI 0)]) (by intro q hq; simp only [List.mem_cons, List.not_mem_nil, or_false] at hq ⊢; rcases hq with rfl | rfl | rfl | rfl <;> simp) ?_
    exact L41_921 _ 0 (by decide) y38_0_920 ⟨by have q0 := b0_1 hB; (clear hmh hmr i38_0_920; omega), by have q0 := b0_1 hB; (clear hmh hmr i38_0_920; omega)⟩ (by (clear hmh hmr; omega)) (by first | exact hsei9 | exact hs0) (by (clear hmh hmr i38_0_920; omega)) (Nat.lt_succ_self _)
  have J37_1832 : ∀ (i37_0_1832 : M 0 0 ≤ 0 ∨ T.2 ≤ 0 ∨ T.2 % 3 ≠ 0 ∨ 48 < T.2), Go WSM G 2 iX12_see 37 [(0, vR 0), (1, vI (P 0 1))] [] (up P 0 1 0) Q := by
    intro i37_0_1832
    refine g_iconst dX12_see_37 ?_
    refine g_forget (l1 := [(0, vR 0), (1, vI (P 0 1))]) (by intro q hq; simp only [List.mem_cons, List.not_mem_nil, or_false] at hq ⊢; rcases hq with rfl | rfl <;> simp) ?_
    exact J38_920 0 (by decide) (by (clear hmh hmr; omega))
  refine g_if_eq (tgt := 37) dX12_see_14 (by decide) ⟨by have q0 := b0_44 hB; (clear hmh hmr; omega), by have q0 := b0_44 hB; (clear hmh hmr; omega)⟩ (fun k1834 => ?_) (fun k1834 => ?_)
  · refine g_forget (l1 := [(0, vR 0), (1, vI (P 0 1))]) (by intro q hq; simp only [List.mem_cons, List.not_mem_nil, or_false] at hq ⊢; rcases hq with rfl | rfl <;> simp) ?_
    exact J37_1832 (by (clear hmr; omega))
  · have k1834n : 1 ≤ (P 0 44) := by have q0 := b0_44 hB; (clear hmh hmr; omega)
    clear k1834
    refine g_iload_n dX12_see_17 rfl ?_
    have f1835 := b0_1 hB
    refine g_if_le (tgt := 37) dX12_see_18 (by decide) ⟨by have q0 := b0_1 hB; (clear hmh hmr; omega), by have q0 := b0_1 hB; (clear hmh hmr; omega)⟩ (fun k1836 => ?_) (fun k1836 => ?_)
    · refine g_forget (l1 := [(0, vR 0), (1, vI (P 0 1))]) (by intro q hq; simp only [List.mem_cons, List.not_mem_nil, or_false] at hq ⊢; rcases hq with rfl | rfl <;> simp) ?_
      exact J37_1832 (by (clear hmh hmr; omega))
    · refine g_iload_n dX12_see_21 rfl ?_
      refine g_iconst dX12_see_22 ?_
      refine g_irem dX12_see_23 ⟨(by decide), by decide⟩ ?_
      refine g_nm (fun b1837 e_b1837 => ?_)
      have h_b1837 := irem_b (x := (P 0 1)) (y := 3) ⟨by have q0 := b0_1 hB; (clear hmh hmr; omega), by have q0 := b0_1 hB; (clear hmh hmr; omega)⟩ ⟨by (clear hmh hmr; omega), by (clear hmh hmr; omega)⟩
      rw [← e_b1837] at h_b1837
      have f_b1837_0 := b0_1 hB
      have hz := e_b1837
      rw [irem_p ⟨by (clear hmh hmr; omega), by (clear hmh hmr; omega)⟩ ⟨by decide, by decide⟩] at hz
      refine g_if_ne (tgt := 37) dX12_see_24 (by decide) ⟨by (clear hmh hmr; omega), by (clear hmh hmr; omega)⟩ (fun k1838 => ?_) (fun k1838 => ?_)
      · have k1838n : 1 ≤ b1837 := by (clear hmh hmr; omega)
        clear k1838
        refine g_forget (l1 := [(0, vR 0), (1, vI (P 0 1))]) (by intro q hq; simp only [List.mem_cons, List.not_mem_nil, or_false] at hq ⊢; rcases hq with rfl | rfl <;> simp) ?_
        exact J37_1832 (by (clear hmh hmr; omega))
      · refine g_iload_n dX12_see_27 rfl ?_
        refine g_bipush dX12_see_28 (by decide) ?_
        refine g_icmp_gt (tgt := 37) dX12_see_30 (by decide) ⟨by have q0 := b0_1 hB; (clear hmh hmr; omega), by have q0 := b0_1 hB; (clear hmh hmr; omega)⟩ (by decide) (fun k1839 => ?_) (fun k1839 => ?_)
        · refine g_forget (l1 := [(0, vR 0), (1, vI (P 0 1))]) (by intro q hq; simp only [List.mem_cons, List.not_mem_nil, or_false] at hq ⊢; rcases hq with rfl | rfl <;> simp) ?_
          exact J37_1832 (by (clear hmh hmr; omega))
        · refine g_iconst dX12_see_33 ?_
          refine g_goto (tgt := 38) dX12_see_34 (by decide) ?_
          refine g_forget (l1 := [(0, vR 0), (1, vI (P 0 1))]) (by intro q hq; simp only [List.mem_cons, List.not_mem_nil, or_false] at hq ⊢; rcases hq with rfl | rfl <;> simp) ?_
          exact J38_920 1 (by decide) (by (clear hmr; omega))
/-! What the reference answers: X12_seed. -/
set_option maxRecDepth 100000 in
set_option maxHeartbeats 4000000 in
theorem f_X12_seed (G : GT) (P : PH) (A : PH) (a1 : Int) (h_a1 : (-2147483648) ≤ a1 ∧ a1 ≤ 2147483647) (hB : BdM P) (z0 : AM A P) (Q : Option PV → PH → Prop) (hQ : ∀ (r : Int) (_ : 0 ≤ r ∧ r ≤ 1) (P1 : PH) (_ : BdM P1) (_ : FrM ([61], [28]) P P1) (_ : (a1 < 0 ∧ r = 0) ∨ (0 ≤ a1 ∧ r = 1)) (_ : AM (aSeed A a1) P1), Q (some (vI r)) P1) : Ct WSM G 2 iX12_seed [vR 0, vI a1] P Q := by
  refine Ct.of (by decide) (l0 := [(0, vR 0), (1, vI a1)]) rfl (Nat.le_of_ble_eq_true rfl) ?_
  refine g_iload_n dX12_seed_0 rfl ?_
  refine g_if_ge (tgt := 18) dX12_seed_1 (by decide) ⟨by omega, by omega⟩ (fun k1 => ?_) (fun k1 => ?_)
  · refine g_aload_n dX12_seed_18 rfl ?_
    refine g_iload_n dX12_seed_19 rfl ?_
    refine g_i2l dX12_seed_20 ⟨by omega, by omega⟩ ?_
    refine m_p61 rfl dX12_seed_21 ?_
    have hB2 := bs_61 (z := a1) hB ⟨by omega, by omega⟩
    refine g_iconst dX12_seed_24 ?_
    exact g_retZ dX12_seed_25 rfl (by decide) (hQ 1 (by decide) _ hB2 (FrM.s FrM.rf rfl) (by omega) (by rw [aSeed_y (by omega)]; exact z0.sd up_same (FrM.s FrM.rf rfl)))
  · refine g_aload_n dX12_seed_4 rfl ?_
    refine g_iconst dX12_seed_5 ?_
    refine g_vI (av := [vI 5]) (o := 0) (st := []) (m_X12_refuses G P 5 (by decide) hB  _ (fun rc3 hc3 Pc3 hBc3 hFc3 => ⟨rc3, rfl, ?_⟩)) cf_X12_refuses t_1667 rfl (by decide) rfl rfl rfl (Nat.le_of_ble_eq_true rfl) (by decide) rfl dX12_seed_6
    refine g_if_lt (tgt := 16) dX12_seed_9 (by decide) ⟨by omega, by omega⟩ (fun k4 => ?_) (fun k4 => by exfalso; omega)
    refine g_iconst dX12_seed_16 ?_
    exact g_retZ dX12_seed_17 rfl (by decide) (hQ 0 (by decide) _ hBc3 (FrM.c FrM.rf hFc3 rfl) (by (clear k4; omega)) (by rw [aSeed_n (by (clear k4; omega))]; exact (AM.fr (F := ([], [28])) z0 (FrM.c FrM.rf hFc3 rfl) rfl)))
/-! What the reference answers: X12_setIn. -/
set_option maxRecDepth 100000 in
set_option maxHeartbeats 4000000 in
theorem f_X12_setIn (G : GT) (P : PH) (a1 : Int) (a2 : Int) (h_a1 : 0 ≤ a1 ∧ a1 ≤ 3) (h_a2 : 0 ≤ a2 ∧ a2 ≤ 2009) (hB : BdM P) (Q : Option PV → PH → Prop) (hQ : ∀ (r : Int) (_ : 0 ≤ r ∧ r ≤ 4095) (_ : r = P 41 (2010 * a1 + P 31 (2010 * a1 + a2))), Q (some (vI r)) P) : Ct WSM G 1 iX12_setIn [vR 0, vI a1, vI a2] P Q := by
  refine Ct.of (by decide) (l0 := [(0, vR 0), (1, vI a1), (2, vI a2)]) rfl (Nat.le_of_ble_eq_true rfl) ?_
  refine g_aload_n dX12_setIn_0 rfl ?_
  refine m_g63 rfl dX12_setIn_1 ?_
  refine g_sipush dX12_setIn_4 (by decide) ?_
  refine g_iload_n dX12_setIn_7 rfl ?_
  refine g_imul dX12_setIn_8 ?_
  refine g_aload_n dX12_setIn_9 rfl ?_
  refine m_g48 rfl dX12_setIn_10 ?_
  refine g_sipush dX12_setIn_13 (by decide) ?_
  refine g_iload_n dX12_setIn_16 rfl ?_
  refine g_imul dX12_setIn_17 ?_
  refine g_iload_n dX12_setIn_18 rfl ?_
  refine g_iadd dX12_setIn_19 ?_
  refine m_l31 (z := (P 31 ((2010 * a1) + a2))) dX12_setIn_20 ⟨by omega, by omega⟩ rfl ?_
  refine g_iadd dX12_setIn_21 ?_
  refine m_l41 (z := (P 41 ((2010 * a1) + (P 31 ((2010 * a1) + a2))))) dX12_setIn_22 ⟨by have q0 := bl_31 (k := ((2010 * a1) + a2)) hB; omega, by have q0 := bl_31 (k := ((2010 * a1) + a2)) hB; omega⟩ rfl ?_
  exact g_retI dX12_setIn_23 rfl (hQ (P 41 ((2010 * a1) + (P 31 ((2010 * a1) + a2)))) ⟨by have q0 := bl_41 (k := ((2010 * a1) + (P 31 ((2010 * a1) + a2)))) hB; omega, by have q0 := bl_41 (k := ((2010 * a1) + (P 31 ((2010 * a1) + a2)))) hB; omega⟩ (by have q0 := bl_41 (k := ((2010 * a1) + (P 31 ((2010 * a1) + a2)))) hB; have q1 := bl_31 (k := (2010 * a1 + a2)) hB; omega))
/-! What the reference answers: X12_fits. -/
set_option maxRecDepth 100000 in
set_option maxHeartbeats 4000000 in
theorem f_X12_fits (G : GT) (P : PH) (K : PH) (M : PH) (F : FT) (A : PH) (a1 : Int) (a2 : Int) (a3 : Int) (h_a1 : (-2147483648) ≤ a1 ∧ a1 ≤ 2147483647) (h_a2 : (-2147483648) ≤ a2 ∧ a2 ≤ 2147483647) (h_a3 : (-2147483648) ≤ a3 ∧ a3 ≤ 2147483647) (hB : BdM P) (p_st : P 0 74 ≤ 199999999) (p_im : P 0 44 = 1 ∨ A 0 0 ≤ 0) (p_aw : AW K) (p_av : AV K M) (p_ga : GA M A) (v_okC : okC P) (v_MVw : MVw P) (v_RE : RE P) (z0 : AM A P) (z1 : MH M P) (z2 : MKB K P) (z3 : MMB M P) (z4 : LYT K M F P) (Q : Option PV → PH → Prop) (hQ : ∀ (r : Int) (_ : (-2147483648) ≤ r ∧ r ≤ 2147483647) (P1 : PH) (_ : BdM P1) (_ : FrM ([62, 66, 74], [41, 42, 43]) P P1) (_ : P1 0 74 ≤ P 0 74 + 1) (_ : r = ftR K M F A a1 a2 a3) (_ : MVw P1) (_ : RE P1), Q (some (vI r)) P1) : Ct WSM G 3 iX12_fits [vR 0, vI a1, vI a2, vI a3] P Q := by
  refine Ct.of (by decide) (l0 := [(0, vR 0), (1, vI a1), (2, vI a2), (3, vI a3)]) rfl (Nat.le_of_ble_eq_true rfl) ?_
  have hb := z0.b
  have hmb := z3.b
  have hav := p_av
  have q35 := bl_35 (k := 0) hB
  refine g_aload_n dX12_fits_0 rfl ?_
  refine g_iload_n dX12_fits_1 rfl ?_
  refine g_vI (av := [vI a1]) (o := 0) (st := []) (f_X12_isPlace G P (A) a1 ⟨by (clear p_im hb hmb; omega), by (clear p_im hb hmb; omega)⟩ hB (by have q0 := b0_44 hB; (clear hb hmb; omega)) (z0) _ (fun rc1 hc1 gc1_p gc1_f => ⟨rc1, rfl, ?_⟩)) cf_X12_isPlace t_1883 rfl (by decide) rfl rfl rfl (Nat.le_of_ble_eq_true rfl) (by decide) rfl dX12_fits_2
  have f2 := b0_44 hB
  have f3 := bl_35 (k := 0) hB
  refine g_if_eq (tgt := 37) dX12_fits_5 (by decide) ⟨by (clear p_im hb hmb gc1_p gc1_f; omega), by (clear p_im hb hmb gc1_p gc1_f; omega)⟩ (fun k4 => ?_) (fun k4 => ?_)
  · skip
    skip
    skip
    refine g_iconst dX12_fits_37 ?_
    exact g_retI dX12_fits_38 rfl (hQ (-1) (by decide) _ hB FrM.rf (by have q0 := b0_74 hB; (clear p_im hb hmb gc1_p gc1_f k4; omega)) (by rw [ftR_n (by (clear p_im hb hmb gc1_p; omega))]) v_MVw v_RE)
  · have k4n : 1 ≤ rc1 := by (clear p_im hb hmb gc1_p gc1_f; omega)
    clear k4
    have r_gc1_f := (gc1_f.resolve_right (by (clear p_im hb hmb gc1_p gc1_f; omega)))
    have r_gc1_p := (gc1_p.resolve_left (by (clear p_im hb hmb gc1_p gc1_f; omega)))
    have r_p_im := (p_im.resolve_right (by (clear p_im hb hmb gc1_p gc1_f; omega)))
    refine g_iload_n dX12_fits_8 rfl ?_
    refine g_iconst dX12_fits_9 ?_
    refine g_aload_n dX12_fits_10 rfl ?_
    refine g_vI (av := []) (o := 0) (st := [vI 0, vI a2]) (m_X12_columns G P  hB  _ (fun rc5 hc5 gc5_c => ⟨rc5, rfl, ?_⟩)) cf_X12_columns t_1827 rfl (by decide) rfl rfl rfl (Nat.le_of_ble_eq_true rfl) (by decide) rfl dX12_fits_11
    refine g_iconst dX12_fits_14 ?_
    refine g_isub dX12_fits_15 ?_
    refine g_sI (av := [vI a2, vI 0, vI (rc5 - 1)]) (st := []) (m_X12_is G P a2 0 (rc5 - 1) ⟨by (clear p_im hb hmb gc1_p gc1_f; omega), by (clear p_im hb hmb gc1_p gc1_f; omega)⟩ (by decide) ⟨by (clear p_im hb hmb gc1_p gc1_f; omega), by (clear p_im hb hmb gc1_p gc1_f; omega)⟩ hB  _ (fun rc6 hc6 gc6_is => ⟨rc6, rfl, ?_⟩)) cf_X12_is t_1800 rfl (Nat.le_of_ble_eq_true rfl) (by decide) rfl dX12_fits_16
    refine g_if_eq (tgt := 37) dX12_fits_19 (by decide) ⟨by (clear p_im hb hmb gc1_p gc1_f gc6_is; omega), by (clear p_im hb hmb gc1_p gc1_f gc6_is; omega)⟩ (fun k7 => ?_) (fun k7 => ?_)
    · skip
      skip
      skip
      skip
      refine g_iconst dX12_fits_37 ?_
      exact g_retI dX12_fits_38 rfl (hQ (-1) (by decide) _ hB FrM.rf (by have q0 := b0_74 hB; (clear p_im hb hmb gc1_p gc1_f gc6_is k7; omega)) (by rw [ftR_n (by (omega))]) v_MVw v_RE)
    · have k7n : 1 ≤ rc6 := by (clear p_im hb hmb gc1_p gc1_f gc6_is; omega)
      clear k7
      have r_gc6_is := (gc6_is.resolve_right (by (clear p_im hb hmb gc1_p gc1_f gc6_is; omega)))
      skip
      skip
      skip
      refine g_iload_n dX12_fits_22 rfl ?_
      refine g_iconst dX12_fits_23 ?_
      refine g_aload_n dX12_fits_24 rfl ?_
      refine g_iload_n dX12_fits_25 rfl ?_
      refine g_vI (av := [vI a2]) (o := 0) (st := [vI 0, vI a3]) (m_X12_columnValues G P a2 ⟨by (clear p_im hb hmb gc1_p gc1_f gc6_is; omega), by (clear p_im hb hmb gc1_p gc1_f gc6_is; omega)⟩ hB (by have q0 := bl_11 (k := (P 0 13)) hB; (clear p_im hb hmb gc1_p gc1_f gc6_is; omega)) v_okC _ (fun rc8 hc8 gc8_v => ⟨rc8, rfl, ?_⟩)) cf_X12_columnValues t_1831 rfl (by decide) rfl rfl rfl (Nat.le_of_ble_eq_true rfl) (by decide) rfl dX12_fits_26
      have r12c : ∀ j, P 12 j = P 12 j := fun j => rfl
      have r3c : ∀ j, P 3 j = P 3 j := fun j => rfl
      have hcs : rc8 = sz K (M 1 a2) := by have q := gc8_v; rw [show P 0 13 = P 0 13 from rfl, r12c, vals_row (show P 3 = P 3 from funext r3c)] at q; rw [q]; exact z2.vl (z3.2.2.2.2.1 a2 (by (clear p_im hb hmb gc1_p gc1_f gc6_is; omega)) (by (clear p_im hb gc1_p gc1_f gc6_is; omega))) (by have q2 := p_av.2.2.2.2 a2 (by (clear p_im hb hmb gc1_p gc1_f gc6_is; omega)) (by (clear p_im hb gc1_p gc1_f gc6_is; omega)); (clear p_im hb hmb gc1_p gc1_f gc6_is; omega))
      refine g_iconst dX12_fits_29 ?_
      refine g_isub dX12_fits_30 ?_
      refine g_sI (av := [vI a3, vI 0, vI (rc8 - 1)]) (st := []) (m_X12_is G P a3 0 (rc8 - 1) ⟨by (clear p_im hb hmb gc1_p gc1_f gc6_is; omega), by (clear p_im hb hmb gc1_p gc1_f gc6_is; omega)⟩ (by decide) ⟨by (clear p_im hb hmb gc1_p gc1_f gc6_is; omega), by (clear p_im hb hmb gc1_p gc1_f gc6_is; omega)⟩ hB  _ (fun rc9 hc9 gc9_is => ⟨rc9, rfl, ?_⟩)) cf_X12_is t_1800 rfl (Nat.le_of_ble_eq_true rfl) (by decide) rfl dX12_fits_31
      refine g_if_ne (tgt := 39) dX12_fits_34 (by decide) ⟨by (clear p_im hb hmb gc1_p gc1_f gc6_is gc9_is; omega), by (clear p_im hb hmb gc1_p gc1_f gc6_is gc9_is; omega)⟩ (fun k10 => ?_) (fun k10 => ?_)
      · have k10n : 1 ≤ rc9 := by (clear p_im hb hmb gc1_p gc1_f gc6_is gc9_is; omega)
        clear k10
        have r_gc9_is := (gc9_is.resolve_right (by (clear p_im hb hmb gc1_p gc1_f gc6_is gc9_is; omega)))
        skip
        skip
        skip
        skip
        refine g_aload_n dX12_fits_39 rfl ?_
        refine g_iconst dX12_fits_40 ?_
        have iv11 : ODb 0 (A 0 0) (A 1) P := AM.od z0
        refine g_vV (av := [vI 0]) (o := 0) (st := []) (f_X12_arranges G P (K) (M) (F) (A 0 0) (A 1) 0 (by decide) hB (by have q0 := b0_74 hB; (clear p_im hb hmb gc1_p gc1_f gc6_is gc9_is; omega)) p_aw (p_av) (p_ga.1) (⟨by (clear p_im hb hmb gc1_p gc1_f gc6_is gc9_is; omega), by (clear p_im hmb gc1_p gc1_f gc6_is gc9_is; omega)⟩) v_MVw v_RE (z3) (z4) (iv11) _ (fun Pc12 hBc12 hFc12 gc12_st vc12_MV vc12_RE vc12_RLt ec12_0 => ⟨rfl, ?_⟩)) cf_X12_arranges t_1887 rfl (by decide) rfl rfl rfl (Nat.le_of_ble_eq_true rfl) (by decide) rfl dX12_fits_41
        refine g_aload_n dX12_fits_44 rfl ?_
        refine g_iload_n dX12_fits_45 rfl ?_
        refine g_iload_n dX12_fits_46 rfl ?_
        refine g_vI (av := [vI a2, vI a3]) (o := 0) (st := []) (f_X12_setIn G Pc12 a2 a3 ⟨by (clear p_im hb hmb gc1_p gc1_f gc6_is gc9_is; omega), by (clear p_im hb hmb gc1_p gc1_f gc6_is gc9_is; omega)⟩ ⟨by (clear p_im hb hmb gc1_p gc1_f gc6_is gc9_is; omega), by (clear p_im hb hmb gc1_p gc1_f gc6_is gc9_is; omega)⟩ hBc12  _ (fun rc13 hc13 gc13_s => ⟨rc13, rfl, ?_⟩)) cf_X12_setIn t_1907 rfl (by decide) rfl rfl rfl (Nat.le_of_ble_eq_true rfl) (by decide) rfl dX12_fits_47
        have hst9 := gc13_s
        obtain ⟨X9, hX9⟩ : ∃ X : Int, X = rc13 := ⟨_, rfl⟩
        refine g_iload_n dX12_fits_50 rfl ?_
        refine g_ishr dX12_fits_51 ?_
        refine g_nm (fun b14 e_b14 => ?_)
        have h_b14 := ishr_ir rc13 a1
        rw [← e_b14] at h_b14
        refine g_iconst dX12_fits_52 ?_
        refine g_iand dX12_fits_53 ?_
        refine g_nm (fun b15 e_b15 => ?_)
        have h_b15 := iand_r (x := b14) (y := 1) ⟨by (clear p_im hb hmb gc1_p gc1_f gc6_is gc9_is; omega), by (clear p_im hb hmb gc1_p gc1_f gc6_is gc9_is; omega)⟩
        rw [← e_b15] at h_b15
        have hr9 : b15 = b1 (tv K (F (A 1 a1) a2) a3 = 1) := by
          have hb9 := bit_is (x := X9) (i := a1) ⟨by (clear p_im hb hmb gc1_p gc1_f gc6_is gc9_is; omega), by (clear p_im hb hmb gc1_p gc1_f gc6_is gc9_is; omega)⟩ ⟨by (clear p_im hb hmb gc1_p gc1_f gc6_is gc9_is; omega), by (clear p_im hb hmb gc1_p gc1_f gc6_is gc9_is; omega)⟩
          have hs9 := (ec12_0).2.2.2 a2 a3 (by (clear p_im hb hmb gc1_p gc1_f gc6_is gc9_is; omega)) (by (clear p_im hb gc1_p gc1_f gc6_is gc9_is; omega)) (by (clear p_im hb hmb gc1_p gc1_f gc6_is gc9_is; omega)) (by (clear p_im hb hmb gc1_p gc1_f gc6_is gc9_is; omega)) a1 (by (clear p_im hb hmb gc1_p gc1_f gc6_is gc9_is; omega))
          rw [← hst9, ← hX9, decide_eq_true (show a1 < A 0 0 by (clear p_im hb hmb gc1_p gc1_f gc6_is gc9_is; omega)), Bool.true_and] at hs9
          rw [hs9] at hb9
          rw [e_b15, e_b14, ← hX9, hb9]
          unfold b1
          by_cases q : tv K (F (A 1 a1) a2) a3 = 1
          · rw [decide_eq_true q, if_pos rfl, if_pos q]
          · rw [decide_eq_false q, if_neg (by decide), if_neg q]
        exact g_retI dX12_fits_54 rfl (hQ b15 ⟨by (clear p_im hb hmb gc1_p gc1_f gc6_is gc9_is; omega), by (clear p_im hb hmb gc1_p gc1_f gc6_is gc9_is; omega)⟩ _ hBc12 (FrM.c FrM.rf hFc12 rfl) (by have q0 := b0_74 hBc12; (clear p_im hb hmb gc1_p gc1_f gc6_is gc9_is; omega)) (by rw [ftR_y (by (clear p_im hb gc1_p gc1_f gc6_is gc9_is; omega))]; exact hr9) (vc12_MV.w) vc12_RE)
      · skip
        skip
        skip
        skip
        skip
        refine g_iconst dX12_fits_37 ?_
        exact g_retI dX12_fits_38 rfl (hQ (-1) (by decide) _ hB FrM.rf (by have q0 := b0_74 hB; (clear p_im hb hmb gc1_p gc1_f gc6_is gc9_is k10; omega)) (by rw [ftR_n (by (clear p_im hb hmb gc1_p gc1_f gc6_is; omega))]) v_MVw v_RE)
/-! What the reference answers: X12_slot. -/
set_option maxRecDepth 100000 in
set_option maxHeartbeats 4000000 in
theorem f_X12_slot (G : GT) (P : PH) (a1 : Int) (h_a1 : 0 ≤ a1 ∧ a1 ≤ 20) (hB : BdM P) (Q : Option PV → PH → Prop) (hQ : ∀ (r : Int) (_ : 2 ≤ r ∧ r ≤ 21) (_ : r = 2 + (P 0 59 + a1) % 20), Q (some (vI r)) P) : Ct WSM G 1 iX12_slot [vR 0, vI a1] P Q := by
  refine Ct.of (by decide) (l0 := [(0, vR 0), (1, vI a1)]) rfl (Nat.le_of_ble_eq_true rfl) ?_
  refine g_iconst dX12_slot_0 ?_
  refine g_aload_n dX12_slot_1 rfl ?_
  refine m_g59 (z := (P 0 59)) rfl dX12_slot_2 rfl ?_
  refine g_iload_n dX12_slot_5 rfl ?_
  refine g_iadd dX12_slot_6 ?_
  refine g_bipush dX12_slot_7 (by decide) ?_
  refine g_irem dX12_slot_9 ⟨(by decide), by decide⟩ ?_
  refine g_nm (fun b1 e_b1 => ?_)
  have h_b1 := irem_b (x := ((P 0 59) + a1)) (y := 20) ⟨by have q0 := b0_59 hB; omega, by have q0 := b0_59 hB; omega⟩ ⟨by omega, by omega⟩
  rw [← e_b1] at h_b1
  have f_b1_0 := b0_59 hB
  have q59 := b0_59 hB
  have hz := e_b1
  rw [irem_p ⟨by omega, by omega⟩ ⟨by decide, by decide⟩] at hz
  refine g_iadd dX12_slot_10 ?_
  exact g_retI dX12_slot_11 rfl (hQ (2 + b1) ⟨by omega, by omega⟩ (by have q0 := b0_59 hB; omega))
/-! What the reference answers: X12_keeps. -/
set_option maxRecDepth 100000 in
set_option maxHeartbeats 4000000 in
theorem f_X12_keeps (G : GT) (P : PH) (A : PH) (k : Int) (hB : BdM P) (p_wa : WA k A) (z0 : AM A P) (Q : Option PV → PH → Prop) (hQ : ∀ (P1 : PH) (_ : BdM P1) (_ : FrM ([59, 60], [35, 36, 37, 38, 39, 40]) P P1) (_ : P1 35 0 = P 35 0) (_ : AM (aPush A) P1), Q none P1) : Ct WSM G 2 iX12_keeps [vR 0] P Q := by
  refine Ct.of (by decide) (l0 := [(0, vR 0)]) rfl (Nat.le_of_ble_eq_true rfl) ?_
  have hb := z0.b
  have hw4 := p_wa.2.1
  have q59 := b0_59 hB
  refine g_aload_n dX12_keeps_0 rfl ?_
  refine m_g60 (z := (P 0 60)) rfl dX12_keeps_1 rfl ?_
  refine g_bipush dX12_keeps_4 (by decide) ?_
  have f1 := b0_60 hB
  refine g_icmp_ne (tgt := 32) dX12_keeps_6 (by decide) ⟨by have q0 := b0_60 hB; (clear hb; omega), by have q0 := b0_60 hB; (clear hb; omega)⟩ (by decide) (fun k2 => ?_) (fun k2 => ?_)
  · have k2n : (P 0 60) ≤ 19 := by have q0 := b0_60 hB; (clear hb; omega)
    clear k2
    refine g_aload_n dX12_keeps_32 rfl ?_
    refine g_aload_n dX12_keeps_33 rfl ?_
    refine g_aload_n dX12_keeps_34 rfl ?_
    refine m_g60 (z := (P 0 60)) rfl dX12_keeps_35 rfl ?_
    refine g_vI (av := [vI (P 0 60)]) (o := 0) (st := [vR 0]) (f_X12_slot G P (P 0 60) ⟨by have q0 := b0_60 hB; (clear hb; omega), by have q0 := b0_60 hB; (clear hb; omega)⟩ hB  _ (fun rc3 hc3 gc3_s => ⟨rc3, rfl, ?_⟩)) cf_X12_slot t_1855 rfl (by decide) rfl rfl rfl (Nat.le_of_ble_eq_true rfl) (by decide) rfl dX12_keeps_38
    refine g_iconst dX12_keeps_41 ?_
    have r35 : ∀ j, P 35 j = P 35 j := fun j => rfl
    have r36 : ∀ j, P 36 j = P 36 j := fun j => rfl
    have r37 : ∀ j, P 37 j = P 37 j := fun j => rfl
    have r38 : ∀ j, P 38 j = P 38 j := fun j => rfl
    have r39 : ∀ j, P 39 j = P 39 j := fun j => rfl
    refine g_vV (av := [vI rc3, vI 0]) (o := 0) (st := []) (f_X12_copies G P rc3 0 ⟨by (clear hb; omega), by (clear hb; omega)⟩ (by decide) hB (by (clear hb; omega)) _ (fun Pc4 hBc4 hFc4 gc4_o gc4_cy => ⟨rfl, ?_⟩)) cf_X12_copies t_1859 rfl (by decide) rfl rfl rfl (Nat.le_of_ble_eq_true rfl) (by decide) rfl dX12_keeps_42
    have hcy := CY.row gc4_cy r35 r36 r37 r38 r39
    refine g_aload_n dX12_keeps_45 rfl ?_
    refine g_dup dX12_keeps_46 rfl ?_
    refine m_g60 (z := (P 0 60)) rfl dX12_keeps_47 ((hFc4.1 60 rfl).trans rfl) ?_
    refine g_iconst dX12_keeps_50 ?_
    refine g_iadd dX12_keeps_51 ?_
    refine m_p60 rfl dX12_keeps_52 ?_
    have hB5 := bs_60 (z := ((P 0 60) + 1)) hBc4 ⟨by have q0 := b0_60 hB; (clear hb gc4_o; omega), by have q0 := b0_60 hB; (clear hb gc4_o; omega)⟩
    exact g_retV dX12_keeps_55 rfl (hQ _ hB5 (FrM.s (FrM.c FrM.rf hFc4 rfl) rfl) (by have q0 := (((up_o (by decide)).trans rfl) : (up Pc4 0 60 ((P 0 60) + 1)) 35 0 = (Pc4 35 0)); have q1 := bl_35 (k := 0) hBc4; (clear hb; omega)) (AM.push z0 p_wa q59 hcy.r0 (by have h59 := (((up_k (by decide)).trans ((hFc4.1 59 rfl).trans rfl)) : (up Pc4 0 60 ((P 0 60) + 1)) 0 59 = (P 0 59)); have h60 := (up_same : (up Pc4 0 60 ((P 0 60) + 1)) 0 60 = ((P 0 60) + 1)); (clear gc4_o; omega)) ((up_k (by decide)).trans ((hFc4.1 61 rfl).trans rfl)) ((up_k (by decide)).trans ((hFc4.1 92 rfl).trans rfl))))
  · refine g_aload_n dX12_keeps_9 rfl ?_
    refine g_aload_n dX12_keeps_10 rfl ?_
    refine m_g59 (z := (P 0 59)) rfl dX12_keeps_11 rfl ?_
    refine g_iconst dX12_keeps_14 ?_
    refine g_iadd dX12_keeps_15 ?_
    refine g_bipush dX12_keeps_16 (by decide) ?_
    refine g_irem dX12_keeps_18 ⟨(by decide), by decide⟩ ?_
    refine g_nm (fun b6 e_b6 => ?_)
    have h_b6 := irem_b (x := ((P 0 59) + 1)) (y := 20) ⟨by have q0 := b0_59 hB; (clear hb k2; omega), by have q0 := b0_59 hB; (clear hb k2; omega)⟩ ⟨by (clear hb k2; omega), by (clear hb k2; omega)⟩
    rw [← e_b6] at h_b6
    have f_b6_0 := b0_59 hB
    have hz := e_b6
    rw [irem_p ⟨by (clear hb k2; omega), by (clear hb k2; omega)⟩ ⟨by decide, by decide⟩] at hz
    refine m_p59 rfl dX12_keeps_19 ?_
    have hB7 := bs_59 (z := b6) hB ⟨by (clear hb k2; omega), by (clear hb k2; omega)⟩
    refine g_aload_n dX12_keeps_22 rfl ?_
    refine g_dup dX12_keeps_23 rfl ?_
    refine m_g60 (z := (P 0 60)) rfl dX12_keeps_24 ((up_k (by decide)).trans rfl) ?_
    refine g_iconst dX12_keeps_27 ?_
    refine g_isub dX12_keeps_28 ?_
    refine m_p60 rfl dX12_keeps_29 ?_
    have hB8 := bs_60 (z := ((P 0 60) - 1)) hB7 ⟨by have q0 := b0_60 hB; (omega), by have q0 := b0_60 hB; (clear hb k2; omega)⟩
    refine g_aload_n dX12_keeps_32 rfl ?_
    refine g_aload_n dX12_keeps_33 rfl ?_
    refine g_aload_n dX12_keeps_34 rfl ?_
    refine m_g60 (z := ((P 0 60) - 1)) rfl dX12_keeps_35 up_same ?_
    refine g_vI (av := [vI ((P 0 60) - 1)]) (o := 0) (st := [vR 0]) (f_X12_slot G (up (up P 0 59 b6) 0 60 ((P 0 60) - 1)) ((P 0 60) - 1) ⟨by have q0 := b0_60 hB; (omega), by have q0 := b0_60 hB; (clear hb k2; omega)⟩ hB8  _ (fun rc9 hc9 gc9_s => ⟨rc9, rfl, ?_⟩)) cf_X12_slot t_1855 rfl (by decide) rfl rfl rfl (Nat.le_of_ble_eq_true rfl) (by decide) rfl dX12_keeps_38
    have z10 : (up (up P 0 59 b6) 0 60 ((P 0 60) - 1)) 0 59 = b6 := ((up_k (by decide)).trans up_same)
    refine g_iconst dX12_keeps_41 ?_
    have r35 : ∀ j, (up (up P 0 59 b6) 0 60 ((P 0 60) - 1)) 35 j = P 35 j := fun j => ((up_o (by decide)).trans ((up_o (by decide)).trans rfl))
    have r36 : ∀ j, (up (up P 0 59 b6) 0 60 ((P 0 60) - 1)) 36 j = P 36 j := fun j => ((up_o (by decide)).trans ((up_o (by decide)).trans rfl))
    have r37 : ∀ j, (up (up P 0 59 b6) 0 60 ((P 0 60) - 1)) 37 j = P 37 j := fun j => ((up_o (by decide)).trans ((up_o (by decide)).trans rfl))
    have r38 : ∀ j, (up (up P 0 59 b6) 0 60 ((P 0 60) - 1)) 38 j = P 38 j := fun j => ((up_o (by decide)).trans ((up_o (by decide)).trans rfl))
    have r39 : ∀ j, (up (up P 0 59 b6) 0 60 ((P 0 60) - 1)) 39 j = P 39 j := fun j => ((up_o (by decide)).trans ((up_o (by decide)).trans rfl))
    refine g_vV (av := [vI rc9, vI 0]) (o := 0) (st := []) (f_X12_copies G (up (up P 0 59 b6) 0 60 ((P 0 60) - 1)) rc9 0 ⟨by (clear hb k2; omega), by (clear hb k2; omega)⟩ (by decide) hB8 (by (clear hb k2; omega)) _ (fun Pc11 hBc11 hFc11 gc11_o gc11_cy => ⟨rfl, ?_⟩)) cf_X12_copies t_1859 rfl (by decide) rfl rfl rfl (Nat.le_of_ble_eq_true rfl) (by decide) rfl dX12_keeps_42
    have z12 : (up (up P 0 59 b6) 0 60 ((P 0 60) - 1)) 35 0 = (P 35 0) := ((up_o (by decide)).trans ((up_o (by decide)).trans rfl))
    have hcy := CY.row gc11_cy r35 r36 r37 r38 r39
    refine g_aload_n dX12_keeps_45 rfl ?_
    refine g_dup dX12_keeps_46 rfl ?_
    refine m_g60 (z := ((P 0 60) - 1)) rfl dX12_keeps_47 ((hFc11.1 60 rfl).trans up_same) ?_
    refine g_iconst dX12_keeps_50 ?_
    refine g_iadd dX12_keeps_51 ?_
    refine m_p60 rfl dX12_keeps_52 ?_
    have hB13 := bs_60 (z := (((P 0 60) - 1) + 1)) hBc11 ⟨by have q0 := b0_60 hB; (clear hb k2 gc11_o; omega), by have q0 := b0_60 hB; (clear hb k2 gc11_o; omega)⟩
    exact g_retV dX12_keeps_55 rfl (hQ _ hB13 (FrM.s (FrM.c (FrM.s (FrM.s FrM.rf rfl) rfl) hFc11 rfl) rfl) (by have q0 := (((up_o (by decide)).trans rfl) : (up Pc11 0 60 (((P 0 60) - 1) + 1)) 35 0 = (Pc11 35 0)); have q1 := bl_35 (k := 0) hBc11; (clear hb k2; omega)) (AM.push z0 p_wa q59 hcy.r0 (by have h59 := (((up_k (by decide)).trans ((hFc11.1 59 rfl).trans ((up_k (by decide)).trans up_same))) : (up Pc11 0 60 (((P 0 60) - 1) + 1)) 0 59 = b6); have h60 := (up_same : (up Pc11 0 60 (((P 0 60) - 1) + 1)) 0 60 = (((P 0 60) - 1) + 1)); (omega)) ((up_k (by decide)).trans ((hFc11.1 61 rfl).trans ((up_k (by decide)).trans ((up_k (by decide)).trans rfl)))) ((up_k (by decide)).trans ((hFc11.1 92 rfl).trans ((up_k (by decide)).trans ((up_k (by decide)).trans rfl))))))
/-! What the reference answers: X12_choose. -/
set_option maxRecDepth 100000 in
set_option maxHeartbeats 4000000 in
theorem f_X12_choose (G : GT) (P : PH) (A : PH) (k : Int) (M : PH) (a1 : Int) (h_a1 : (-2147483648) ≤ a1 ∧ a1 ≤ 2147483647) (hB : BdM P) (p_wa : WA k A) (z0 : AM A P) (z1 : MH M P) (Q : Option PV → PH → Prop) (hQ : ∀ (r : Int) (_ : 0 ≤ r ∧ r ≤ 1) (P1 : PH) (_ : BdM P1) (_ : FrM ([59, 60], [28, 35, 36, 37, 38, 39, 40]) P P1) (_ : (r = 0 ∧ (M 0 0 ≤ 0 ∨ a1 < 0 ∨ 3 < a1 ∨ A 0 2 = a1)) ∨ (r = 1 ∧ 0 < M 0 0 ∧ 0 ≤ a1 ∧ a1 ≤ 3 ∧ A 0 2 ≠ a1)) (_ : AM (aRule A M a1) P1), Q (some (vI r)) P1) : Ct WSM G 3 iX12_choose [vR 0, vI a1] P Q := by
  refine Ct.of (by decide) (l0 := [(0, vR 0), (1, vI a1)]) rfl (Nat.le_of_ble_eq_true rfl) ?_
  have hb := z0.b
  have q59 := b0_59 hB
  have hw1 := p_wa.1
  have hmh := z1
  unfold MH at hmh
  refine g_aload_n dX12_choose_0 rfl ?_
  refine m_g44 (z := (P 0 44)) rfl dX12_choose_1 rfl ?_
  have f1 := b0_44 hB
  refine g_if_eq (tgt := 26) dX12_choose_4 (by decide) ⟨by have q0 := b0_44 hB; (clear hb hmh; omega), by have q0 := b0_44 hB; (clear hb hmh; omega)⟩ (fun k2 => ?_) (fun k2 => ?_)
  · refine g_aload_n dX12_choose_26 rfl ?_
    refine g_iconst dX12_choose_27 ?_
    refine g_vI (av := [vI 3]) (o := 0) (st := []) (m_X12_refuses G P 3 (by decide) hB  _ (fun rc3 hc3 Pc3 hBc3 hFc3 => ⟨rc3, rfl, ?_⟩)) cf_X12_refuses t_1667 rfl (by decide) rfl rfl rfl (Nat.le_of_ble_eq_true rfl) (by decide) rfl dX12_choose_28
    refine g_if_lt (tgt := 38) dX12_choose_31 (by decide) ⟨by (clear hb hmh k2; omega), by (clear hb hmh k2; omega)⟩ (fun k4 => ?_) (fun k4 => by exfalso; (clear hb hmh k2; omega))
    refine g_iconst dX12_choose_38 ?_
    exact g_retZ dX12_choose_39 rfl (by decide) (hQ 0 (by decide) _ hBc3 (FrM.c FrM.rf hFc3 rfl) (by (omega)) (by rw [aRule_n (by (omega))]; exact (AM.fr (F := ([], [28])) z0 (FrM.c FrM.rf hFc3 rfl) rfl)))
  · have k2n : 1 ≤ (P 0 44) := by have q0 := b0_44 hB; (clear hb hmh; omega)
    clear k2
    refine g_iload_n dX12_choose_7 rfl ?_
    refine g_iconst dX12_choose_8 ?_
    refine g_iconst dX12_choose_9 ?_
    refine g_sI (av := [vI a1, vI 0, vI 3]) (st := []) (m_X12_is G P a1 0 3 ⟨by (clear hb hmh; omega), by (clear hb hmh; omega)⟩ (by decide) (by decide) hB  _ (fun rc5 hc5 gc5_is => ⟨rc5, rfl, ?_⟩)) cf_X12_is t_1800 rfl (Nat.le_of_ble_eq_true rfl) (by decide) rfl dX12_choose_10
    refine g_if_eq (tgt := 26) dX12_choose_13 (by decide) ⟨by (clear hb hmh gc5_is; omega), by (clear hb hmh gc5_is; omega)⟩ (fun k6 => ?_) (fun k6 => ?_)
    · skip
      refine g_aload_n dX12_choose_26 rfl ?_
      refine g_iconst dX12_choose_27 ?_
      refine g_vI (av := [vI 3]) (o := 0) (st := []) (m_X12_refuses G P 3 (by decide) hB  _ (fun rc7 hc7 Pc7 hBc7 hFc7 => ⟨rc7, rfl, ?_⟩)) cf_X12_refuses t_1667 rfl (by decide) rfl rfl rfl (Nat.le_of_ble_eq_true rfl) (by decide) rfl dX12_choose_28
      refine g_if_lt (tgt := 38) dX12_choose_31 (by decide) ⟨by (clear hb hmh gc5_is k6; omega), by (clear hb hmh gc5_is k6; omega)⟩ (fun k8 => ?_) (fun k8 => by exfalso; (clear hb hmh gc5_is k6; omega))
      skip
      refine g_iconst dX12_choose_38 ?_
      exact g_retZ dX12_choose_39 rfl (by decide) (hQ 0 (by decide) _ hBc7 (FrM.c FrM.rf hFc7 rfl) (by (clear hb; omega)) (by rw [aRule_n (by (clear hb; omega))]; exact (AM.fr (F := ([], [28])) z0 (FrM.c FrM.rf hFc7 rfl) rfl)))
    · have k6n : 1 ≤ rc5 := by (clear hb hmh gc5_is; omega)
      clear k6
      have r_gc5_is := (gc5_is.resolve_right (by (clear hb hmh gc5_is; omega)))
      refine g_aload_n dX12_choose_16 rfl ?_
      refine m_g56 rfl dX12_choose_17 ?_
      refine g_iconst dX12_choose_20 ?_
      refine m_l38 (z := (P 38 0)) dX12_choose_21 (by decide) rfl ?_
      refine g_iload_n dX12_choose_22 rfl ?_
      have f9 := bl_38 (k := 0) hB
      refine g_icmp_ne (tgt := 40) dX12_choose_23 (by decide) ⟨by have q0 := bl_38 (k := 0) hB; (clear hb hmh gc5_is; omega), by have q0 := bl_38 (k := 0) hB; (clear hb hmh gc5_is; omega)⟩ ⟨by (clear hb hmh gc5_is; omega), by (clear hb hmh gc5_is; omega)⟩ (fun k10 => ?_) (fun k10 => ?_)
      · skip
        refine g_aload_n dX12_choose_40 rfl ?_
        refine g_vV (av := []) (o := 0) (st := []) (f_X12_keeps G P (A) (k)  hB p_wa (z0) _ (fun Pc11 hBc11 hFc11 gc11_o ec11_0 => ⟨rfl, ?_⟩)) cf_X12_keeps t_2132 rfl (by decide) rfl rfl rfl (Nat.le_of_ble_eq_true rfl) (by decide) rfl dX12_choose_41
        have hpu := ec11_0
        have hbk := hBc11
        refine g_aload_n dX12_choose_44 rfl ?_
        refine m_g56 rfl dX12_choose_45 ?_
        refine g_iconst dX12_choose_48 ?_
        refine g_iload_n dX12_choose_49 rfl ?_
        refine m_s38 dX12_choose_50 (by decide) ?_
        have hB12 := ba_38 (z := a1) (k := 0) hBc11 ⟨by (clear hb hmh gc5_is k10; omega), by (clear hb hmh gc5_is k10; omega)⟩
        refine g_iconst dX12_choose_51 ?_
        exact g_retZ dX12_choose_52 rfl (by decide) (hQ 1 (by decide) _ hB12 (FrM.a (FrM.c FrM.rf hFc11 rfl) rfl rfl) (by (omega)) (by rw [aRule_y ⟨by (clear hb gc5_is k10; omega), by (clear hb hmh gc5_is k10; omega), by (clear hb hmh gc5_is k10; omega), by (omega)⟩]; exact AM.ru hpu p_wa (b0_59 hbk) up_same (fun j hj => up_k hj) (FrM.a FrM.rf rfl rfl)))
      · skip
        refine g_aload_n dX12_choose_26 rfl ?_
        refine g_iconst dX12_choose_27 ?_
        refine g_vI (av := [vI 3]) (o := 0) (st := []) (m_X12_refuses G P 3 (by decide) hB  _ (fun rc13 hc13 Pc13 hBc13 hFc13 => ⟨rc13, rfl, ?_⟩)) cf_X12_refuses t_1667 rfl (by decide) rfl rfl rfl (Nat.le_of_ble_eq_true rfl) (by decide) rfl dX12_choose_28
        refine g_if_lt (tgt := 38) dX12_choose_31 (by decide) ⟨by (clear hb hmh gc5_is k10; omega), by (clear hb hmh gc5_is k10; omega)⟩ (fun k14 => ?_) (fun k14 => by exfalso; (clear hb hmh gc5_is k10; omega))
        skip
        refine g_iconst dX12_choose_38 ?_
        exact g_retZ dX12_choose_39 rfl (by decide) (hQ 0 (by decide) _ hBc13 (FrM.c FrM.rf hFc13 rfl) (by (omega)) (by rw [aRule_n (by (omega))]; exact (AM.fr (F := ([], [28])) z0 (FrM.c FrM.rf hFc13 rfl) rfl)))
/-! What the reference answers: X12_drop. -/
set_option maxRecDepth 100000 in
set_option maxHeartbeats 4000000 in
theorem f_X12_drop (G : GT) (P : PH) (A : PH) (k : Int) (a1 : Int) (h_a1 : (-2147483648) ≤ a1 ∧ a1 ≤ 2147483647) (hB : BdM P) (p_im : P 0 44 = 1 ∨ A 0 0 ≤ 0) (p_wa : WA k A) (z0 : AM A P) (Q : Option PV → PH → Prop) (hQ : ∀ (r : Int) (_ : 0 ≤ r ∧ r ≤ 1) (P1 : PH) (_ : BdM P1) (_ : FrM ([59, 60], [28, 35, 36, 37, 38, 39, 40]) P P1) (_ : (r = 1 ∧ 0 ≤ a1 ∧ a1 < A 0 0) ∨ (r = 0 ∧ (a1 < 0 ∨ A 0 0 ≤ a1))) (_ : AM (aDrop A a1) P1), Q (some (vI r)) P1) : Ct WSM G 3 iX12_drop [vR 0, vI a1] P Q := by
  refine Ct.of (by decide) (l0 := [(0, vR 0), (1, vI a1)]) rfl (Nat.le_of_ble_eq_true rfl) ?_
  have hb := z0.b
  have q59 := b0_59 hB
  have hw1 := p_wa.1
  refine g_aload_n dX12_drop_0 rfl ?_
  refine g_iload_n dX12_drop_1 rfl ?_
  refine g_vI (av := [vI a1]) (o := 0) (st := []) (f_X12_isPlace G P (A) a1 ⟨by (clear p_im hb; omega), by (clear p_im hb; omega)⟩ hB (by have q0 := b0_44 hB; (clear hb; omega)) (z0) _ (fun rc1 hc1 gc1_p gc1_f => ⟨rc1, rfl, ?_⟩)) cf_X12_isPlace t_1883 rfl (by decide) rfl rfl rfl (Nat.le_of_ble_eq_true rfl) (by decide) rfl dX12_drop_2
  have f2 := b0_44 hB
  have f3 := bl_35 (k := 0) hB
  refine g_if_ne (tgt := 22) dX12_drop_5 (by decide) ⟨by (clear p_im hb gc1_p gc1_f; omega), by (clear p_im hb gc1_p gc1_f; omega)⟩ (fun k4 => ?_) (fun k4 => ?_)
  · have k4n : 1 ≤ rc1 := by (clear p_im hb gc1_p gc1_f; omega)
    clear k4
    have r_gc1_f := (gc1_f.resolve_right (by (clear p_im hb gc1_p gc1_f; omega)))
    have r_gc1_p := (gc1_p.resolve_left (by (clear p_im hb gc1_p gc1_f; omega)))
    have r_p_im := (p_im.resolve_right (by (clear p_im hb gc1_p gc1_f; omega)))
    refine g_aload_n dX12_drop_22 rfl ?_
    refine g_vV (av := []) (o := 0) (st := []) (f_X12_keeps G P (A) (k)  hB p_wa (z0) _ (fun Pc5 hBc5 hFc5 gc5_o ec5_0 => ⟨rfl, ?_⟩)) cf_X12_keeps t_2132 rfl (by decide) rfl rfl rfl (Nat.le_of_ble_eq_true rfl) (by decide) rfl dX12_drop_23
    have hpu := ec5_0
    have hbk := hBc5
    obtain ⟨Z, hZ⟩ : ∃ Z : PH, Pc5 = Z := ⟨_, rfl⟩
    have hbz := hpu.b
    refine g_iload_n dX12_drop_26 rfl ?_
    refine g_istore_n (l1 := [(2, vI a1), (0, vR 0), (1, vI a1)]) dX12_drop_27 (by decide) rfl ?_
    have L28_5 : ∀ (n28_5 : Nat) (x28_2_5 : Int) (h_x28_2_5 : 0 ≤ x28_2_5 ∧ x28_2_5 ≤ 11) (H28_5 : PH) (hB28_5 : BdM H28_5) (hE28_5 : FrM ([], [36]) Pc5 H28_5) (i28_0_5 : ∀ q : Int, q < x28_2_5 → H28_5 36 q = if q < a1 then Z 36 q else Z 36 (q + 1)) (i28_1_5 : ∀ q : Int, x28_2_5 ≤ q → H28_5 36 q = Z 36 q) (i28_2_5 : a1 ≤ x28_2_5) (hm28_5 : ((12 - x28_2_5) : Int).toNat < n28_5), Go WSM G 3 iX12_drop 28 [(0, vR 0), (2, vI x28_2_5)] [] H28_5 Q := by
      intro n28_5
      induction n28_5 with
      | zero => intro x28_2_5 h_x28_2_5 H28_5 hB28_5 hE28_5 i28_0_5 i28_1_5 i28_2_5 hm28_5; exact absurd hm28_5 (Nat.not_lt_zero _)
      | succ n28_5 ih28_5 =>
      intro x28_2_5 h_x28_2_5 H28_5 hB28_5 hE28_5 i28_0_5 i28_1_5 i28_2_5 hm28_5
      refine g_iload_n dX12_drop_28 rfl ?_
      refine g_iconst dX12_drop_29 ?_
      refine g_iadd dX12_drop_30 ?_
      refine g_aload_n dX12_drop_31 rfl ?_
      refine m_g53 rfl dX12_drop_32 ?_
      refine g_iconst dX12_drop_35 ?_
      refine m_l35 (z := (Pc5 35 0)) dX12_drop_36 (by decide) ((congrFun (hE28_5.2 35 rfl rfl) _).trans rfl) ?_
      have f23 := bl_35 (k := 0) hBc5
      refine g_icmp_ge (tgt := 60) dX12_drop_37 (by decide) ⟨by (clear p_im hb gc1_p gc1_f hbz; omega), by (clear p_im hb gc1_p gc1_f hbz; omega)⟩ ⟨by have q0 := bl_35 (k := 0) hBc5; (clear p_im hb gc1_p gc1_f hbz; omega), by have q0 := bl_35 (k := 0) hBc5; (clear p_im hb gc1_p gc1_f hbz; omega)⟩ (fun k24 => ?_) (fun k24 => ?_)
      · skip
        skip
        skip
        refine g_aload_n dX12_drop_60 rfl ?_
        refine m_g53 rfl dX12_drop_61 ?_
        refine g_iconst dX12_drop_64 ?_
        refine g_dup2 dX12_drop_65 rfl rfl ?_
        refine m_l35 (z := (Pc5 35 0)) dX12_drop_66 (by decide) ((congrFun (hE28_5.2 35 rfl rfl) _).trans rfl) ?_
        refine g_iconst dX12_drop_67 ?_
        refine g_isub dX12_drop_68 ?_
        refine m_s35 dX12_drop_69 (by decide) ?_
        have hB25 := ba_35 (z := ((Pc5 35 0) - 1)) (k := 0) hB28_5 ⟨by have q0 := bl_35 (k := 0) hBc5; (clear p_im hb gc1_p gc1_f hbz k24; omega), by have q0 := bl_35 (k := 0) hBc5; (clear p_im hb gc1_p gc1_f hbz k24; omega)⟩
        refine g_iconst dX12_drop_70 ?_
        exact g_retZ dX12_drop_71 rfl (by decide) (hQ 1 (by decide) _ hB25 (FrM.a (FrM.c (FrM.c FrM.rf hFc5 rfl) hE28_5 rfl) rfl rfl) (by (clear p_im hb gc1_p gc1_f hbz k24; omega)) (by subst hZ; exact AM.dr hpu p_wa (b0_59 hbk) ⟨by (clear p_im hb gc1_p gc1_f hbz k24; omega), by (clear p_im hb gc1_p gc1_f hbz k24; omega)⟩ up_same (fun j hj => ((up_k hj).trans ((congrFun (hE28_5.2 35 rfl rfl) _).trans rfl))) (fun q hq => Eq.trans (up_o (by decide)) ((i28_0_5 q (by (clear p_im hb gc1_p gc1_f hbz k24; omega))).trans (if_pos hq))) (fun q q0 q1 => Eq.trans (up_o (by decide)) ((i28_0_5 q (by have q9 := (((congrFun (hE28_5.2 35 rfl rfl) _).trans rfl) : H28_5 35 0 = (Pc5 35 0)); (clear p_im hb gc1_p gc1_f hbz; omega))).trans (if_neg (by (clear p_im hb gc1_p gc1_f hbz k24; omega))))) (fun j hj => Eq.trans (up_o (by decide)) (i28_1_5 j (by (clear p_im hb gc1_p gc1_f hbz k24; omega)))) (show FrM ([], [35, 36]) _ _ from (FrM.a (FrM.c FrM.rf hE28_5 rfl) rfl rfl))))
      · skip
        skip
        skip
        refine g_aload_n dX12_drop_40 rfl ?_
        refine m_g54 rfl dX12_drop_41 ?_
        refine g_iload_n dX12_drop_44 rfl ?_
        refine g_aload_n dX12_drop_45 rfl ?_
        refine m_g54 rfl dX12_drop_46 ?_
        refine g_iload_n dX12_drop_49 rfl ?_
        refine g_iconst dX12_drop_50 ?_
        refine g_iadd dX12_drop_51 ?_
        refine m_l36 (z := (H28_5 36 (x28_2_5 + 1))) dX12_drop_52 ⟨by (clear p_im hb gc1_p gc1_f hbz k24; omega), by (clear p_im hb gc1_p gc1_f hbz k24; omega)⟩ rfl ?_
        refine m_s36 dX12_drop_53 ⟨by (clear p_im hb gc1_p gc1_f hbz k24; omega), by (clear p_im hb gc1_p gc1_f hbz k24; omega)⟩ ?_
        have hB26 := ba_36 (z := (H28_5 36 (x28_2_5 + 1))) (k := x28_2_5) hB28_5 ⟨by have q0 := bl_36 (k := (x28_2_5 + 1)) hB28_5; (clear p_im hb gc1_p gc1_f hbz k24; omega), by have q0 := bl_36 (k := (x28_2_5 + 1)) hB28_5; (clear p_im hb gc1_p gc1_f hbz k24; omega)⟩
        have hC9 : ∀ q : Int, q < x28_2_5 + 1 → (up H28_5 36 x28_2_5 (H28_5 36 (x28_2_5 + 1))) 36 q = if q < a1 then Z 36 q else Z 36 (q + 1) := by
          intro q q1
          by_cases e : q = x28_2_5
          · rw [e, if_neg (by (clear p_im hb gc1_p gc1_f hbz k24; omega))]; exact Eq.trans up_same (i28_1_5 _ (by (clear p_im hb gc1_p gc1_f hbz k24; omega)))
          · have hj : q ≠ x28_2_5 := by (clear p_im hb gc1_p gc1_f hbz k24; omega)
            exact Eq.trans ((up_k hj).trans rfl) (i28_0_5 q (by (clear p_im hb gc1_p gc1_f hbz k24 hj; omega)))
        have hD9 : ∀ q : Int, x28_2_5 + 1 ≤ q → (up H28_5 36 x28_2_5 (H28_5 36 (x28_2_5 + 1))) 36 q = Z 36 q := by
          intro q q1
          have hj : q ≠ x28_2_5 := by (clear p_im hb gc1_p gc1_f hbz k24; omega)
          exact Eq.trans ((up_k hj).trans rfl) (i28_1_5 q (by (clear p_im hb gc1_p gc1_f hbz k24 hj; omega)))
        refine g_iinc (l1 := [(2, vI (x28_2_5 + 1)), (0, vR 0)]) dX12_drop_54 rfl (by decide) rfl ?_
        refine g_goto (tgt := 28) dX12_drop_57 (by decide) ?_
        refine g_forget (l1 := [(0, vR 0), (2, vI (x28_2_5 + 1))]) (by intro q hq; simp only [List.mem_cons, List.not_mem_nil, or_false] at hq ⊢; rcases hq with rfl | rfl <;> simp) ?_
        exact ih28_5 (x28_2_5 + 1) ⟨by (clear p_im hb gc1_p gc1_f hbz k24; omega), by (omega)⟩ _ hB26 (FrM.a (FrM.c FrM.rf hE28_5 rfl) rfl rfl) (by first | exact hC9 | (intro q q1; rw [if_pos q1, hZ])) (by first | exact hD9 | (intro q q1; rw [hZ])) (by (clear p_im hb gc1_p gc1_f hbz k24; omega)) (by (clear p_im hb gc1_p gc1_f hbz k24; omega))
    refine g_forget (l1 := [(0, vR 0), (2, vI a1)]) (by intro q hq; simp only [List.mem_cons, List.not_mem_nil, or_false] at hq ⊢; rcases hq with rfl | rfl <;> simp) ?_
    exact L28_5 _ a1 ⟨by (clear p_im hb gc1_p gc1_f hbz; omega), by (clear p_im hb gc1_p gc1_f hbz; omega)⟩ _ hBc5 FrM.rf (by first | exact hC9 | (intro q q1; rw [if_pos q1, hZ])) (by first | exact hD9 | (intro q q1; rw [hZ])) (by (clear p_im hb gc1_p gc1_f hbz; omega)) (Nat.lt_succ_self _)
  · skip
    skip
    skip
    refine g_aload_n dX12_drop_8 rfl ?_
    refine g_iconst dX12_drop_9 ?_
    refine g_vI (av := [vI 3]) (o := 0) (st := []) (m_X12_refuses G P 3 (by decide) hB  _ (fun rc27 hc27 Pc27 hBc27 hFc27 => ⟨rc27, rfl, ?_⟩)) cf_X12_refuses t_1667 rfl (by decide) rfl rfl rfl (Nat.le_of_ble_eq_true rfl) (by decide) rfl dX12_drop_10
    refine g_if_lt (tgt := 20) dX12_drop_13 (by decide) ⟨by (clear p_im hb gc1_p gc1_f k4; omega), by (clear p_im hb gc1_p gc1_f k4; omega)⟩ (fun k28 => ?_) (fun k28 => by exfalso; (clear p_im hb gc1_p gc1_f k4; omega))
    skip
    skip
    skip
    refine g_iconst dX12_drop_20 ?_
    exact g_retZ dX12_drop_21 rfl (by decide) (hQ 0 (by decide) _ hBc27 (FrM.c FrM.rf hFc27 rfl) (by (clear p_im hb gc1_p; omega)) (by rw [aDrop_n (by (clear p_im hb gc1_p; omega))]; exact (AM.fr (F := ([], [28])) z0 (FrM.c FrM.rf hFc27 rfl) rfl)))
/-! What the reference answers: X12_swap. -/
set_option maxRecDepth 100000 in
set_option maxHeartbeats 4000000 in
theorem f_X12_swap (G : GT) (P : PH) (A : PH) (k : Int) (a1 : Int) (a2 : Int) (h_a1 : (-2147483648) ≤ a1 ∧ a1 ≤ 2147483647) (h_a2 : (-2147483648) ≤ a2 ∧ a2 ≤ 2147483647) (hB : BdM P) (p_im : P 0 44 = 1 ∨ A 0 0 ≤ 0) (p_wa : WA k A) (z0 : AM A P) (Q : Option PV → PH → Prop) (hQ : ∀ (r : Int) (_ : 0 ≤ r ∧ r ≤ 1) (P1 : PH) (_ : BdM P1) (_ : FrM ([59, 60], [28, 35, 36, 37, 38, 39, 40]) P P1) (_ : (r = 1 ∧ 0 ≤ a1 ∧ a1 < A 0 0 ∧ 0 ≤ a2 ∧ a2 < A 0 0 ∧ a1 ≠ a2) ∨ (r = 0 ∧ (a1 < 0 ∨ A 0 0 ≤ a1 ∨ a2 < 0 ∨ A 0 0 ≤ a2 ∨ a1 = a2))) (_ : AM (aSwap A a1 a2) P1), Q (some (vI r)) P1) : Ct WSM G 3 iX12_swap [vR 0, vI a1, vI a2] P Q := by
  refine Ct.of (by decide) (l0 := [(0, vR 0), (1, vI a1), (2, vI a2)]) rfl (Nat.le_of_ble_eq_true rfl) ?_
  have hb := z0.b
  have q59 := b0_59 hB
  have hw1 := p_wa.1
  refine g_aload_n dX12_swap_0 rfl ?_
  refine g_iload_n dX12_swap_1 rfl ?_
  refine g_vI (av := [vI a1]) (o := 0) (st := []) (f_X12_isPlace G P (A) a1 ⟨by (clear p_im hb; omega), by (clear p_im hb; omega)⟩ hB (by have q0 := b0_44 hB; (clear hb; omega)) (z0) _ (fun rc1 hc1 gc1_p gc1_f => ⟨rc1, rfl, ?_⟩)) cf_X12_isPlace t_1883 rfl (by decide) rfl rfl rfl (Nat.le_of_ble_eq_true rfl) (by decide) rfl dX12_swap_2
  have f2 := b0_44 hB
  have f3 := bl_35 (k := 0) hB
  refine g_if_eq (tgt := 21) dX12_swap_5 (by decide) ⟨by (clear p_im hb gc1_p gc1_f; omega), by (clear p_im hb gc1_p gc1_f; omega)⟩ (fun k4 => ?_) (fun k4 => ?_)
  · skip
    skip
    skip
    refine g_aload_n dX12_swap_21 rfl ?_
    refine g_iconst dX12_swap_22 ?_
    refine g_vI (av := [vI 3]) (o := 0) (st := []) (m_X12_refuses G P 3 (by decide) hB  _ (fun rc5 hc5 Pc5 hBc5 hFc5 => ⟨rc5, rfl, ?_⟩)) cf_X12_refuses t_1667 rfl (by decide) rfl rfl rfl (Nat.le_of_ble_eq_true rfl) (by decide) rfl dX12_swap_23
    refine g_if_lt (tgt := 33) dX12_swap_26 (by decide) ⟨by (clear p_im hb gc1_p gc1_f k4; omega), by (clear p_im hb gc1_p gc1_f k4; omega)⟩ (fun k6 => ?_) (fun k6 => by exfalso; (clear p_im hb gc1_p gc1_f k4; omega))
    skip
    skip
    skip
    refine g_iconst dX12_swap_33 ?_
    exact g_retZ dX12_swap_34 rfl (by decide) (hQ 0 (by decide) _ hBc5 (FrM.c FrM.rf hFc5 rfl) (by (clear hb p_im; omega)) (by rw [aSwap_n (by (clear hb p_im; omega))]; exact (AM.fr (F := ([], [28])) z0 (FrM.c FrM.rf hFc5 rfl) rfl)))
  · have k4n : 1 ≤ rc1 := by (clear p_im hb gc1_p gc1_f; omega)
    clear k4
    have r_gc1_f := (gc1_f.resolve_right (by (clear p_im hb gc1_p gc1_f; omega)))
    have r_gc1_p := (gc1_p.resolve_left (by (clear p_im hb gc1_p gc1_f; omega)))
    have r_p_im := (p_im.resolve_right (by (clear p_im hb gc1_p gc1_f; omega)))
    refine g_aload_n dX12_swap_8 rfl ?_
    refine g_iload_n dX12_swap_9 rfl ?_
    refine g_vI (av := [vI a2]) (o := 0) (st := []) (f_X12_isPlace G P (A) a2 ⟨by (clear p_im hb gc1_p gc1_f; omega), by (clear p_im hb gc1_p gc1_f; omega)⟩ hB (by have q0 := b0_44 hB; (clear p_im hb gc1_p gc1_f; omega)) (z0) _ (fun rc7 hc7 gc7_p gc7_f => ⟨rc7, rfl, ?_⟩)) cf_X12_isPlace t_1883 rfl (by decide) rfl rfl rfl (Nat.le_of_ble_eq_true rfl) (by decide) rfl dX12_swap_10
    refine g_if_eq (tgt := 21) dX12_swap_13 (by decide) ⟨by (clear p_im hb gc1_p gc1_f gc7_p gc7_f; omega), by (clear p_im hb gc1_p gc1_f gc7_p gc7_f; omega)⟩ (fun k8 => ?_) (fun k8 => ?_)
    · skip
      skip
      skip
      skip
      skip
      refine g_aload_n dX12_swap_21 rfl ?_
      refine g_iconst dX12_swap_22 ?_
      refine g_vI (av := [vI 3]) (o := 0) (st := []) (m_X12_refuses G P 3 (by decide) hB  _ (fun rc9 hc9 Pc9 hBc9 hFc9 => ⟨rc9, rfl, ?_⟩)) cf_X12_refuses t_1667 rfl (by decide) rfl rfl rfl (Nat.le_of_ble_eq_true rfl) (by decide) rfl dX12_swap_23
      refine g_if_lt (tgt := 33) dX12_swap_26 (by decide) ⟨by (clear p_im hb gc1_p gc1_f gc7_p gc7_f k8; omega), by (clear p_im hb gc1_p gc1_f gc7_p gc7_f k8; omega)⟩ (fun k10 => ?_) (fun k10 => by exfalso; (clear p_im hb gc1_p gc1_f gc7_p gc7_f k8; omega))
      skip
      skip
      skip
      skip
      skip
      refine g_iconst dX12_swap_33 ?_
      exact g_retZ dX12_swap_34 rfl (by decide) (hQ 0 (by decide) _ hBc9 (FrM.c FrM.rf hFc9 rfl) (by (clear gc1_f gc1_p hb p_im; omega)) (by rw [aSwap_n (by (clear gc1_f gc1_p hb p_im; omega))]; exact (AM.fr (F := ([], [28])) z0 (FrM.c FrM.rf hFc9 rfl) rfl)))
    · have k8n : 1 ≤ rc7 := by (clear p_im hb gc1_p gc1_f gc7_p gc7_f; omega)
      clear k8
      have r_gc7_f := (gc7_f.resolve_right (by (clear p_im hb gc1_p gc1_f gc7_p gc7_f; omega)))
      have r_gc7_p := (gc7_p.resolve_left (by (clear p_im hb gc1_p gc1_f gc7_p gc7_f; omega)))
      skip
      skip
      skip
      refine g_iload_n dX12_swap_16 rfl ?_
      refine g_iload_n dX12_swap_17 rfl ?_
      refine g_icmp_ne (tgt := 35) dX12_swap_18 (by decide) ⟨by (clear p_im hb gc1_p gc1_f gc7_p gc7_f; omega), by (clear p_im hb gc1_p gc1_f gc7_p gc7_f; omega)⟩ ⟨by (clear p_im hb gc1_p gc1_f gc7_p gc7_f; omega), by (clear p_im hb gc1_p gc1_f gc7_p gc7_f; omega)⟩ (fun k11 => ?_) (fun k11 => ?_)
      · skip
        skip
        skip
        skip
        skip
        refine g_aload_n dX12_swap_35 rfl ?_
        refine g_vV (av := []) (o := 0) (st := []) (f_X12_keeps G P (A) (k)  hB p_wa (z0) _ (fun Pc12 hBc12 hFc12 gc12_o ec12_0 => ⟨rfl, ?_⟩)) cf_X12_keeps t_2132 rfl (by decide) rfl rfl rfl (Nat.le_of_ble_eq_true rfl) (by decide) rfl dX12_swap_36
        refine g_aload_n dX12_swap_39 rfl ?_
        refine g_iconst dX12_swap_40 ?_
        refine g_iload_n dX12_swap_41 rfl ?_
        refine g_iload_n dX12_swap_42 rfl ?_
        have hpu := ec12_0
        have hbk := hBc12
        refine g_vV (av := [vI 0, vI a1, vI a2]) (o := 0) (st := []) (f_X12_exchanges G Pc12 0 a1 a2 (by decide) ⟨by (clear p_im hb gc1_p gc1_f gc7_p gc7_f k11; omega), by (clear p_im hb gc1_p gc1_f gc7_p gc7_f k11; omega)⟩ ⟨by (clear p_im hb gc1_p gc1_f gc7_p gc7_f k11; omega), by (clear p_im hb gc1_p gc1_f gc7_p gc7_f k11; omega)⟩ hBc12  _ (fun Pc13 hBc13 hFc13 gc13_x1 gc13_x2 gc13_xo => ⟨rfl, ?_⟩)) cf_X12_exchanges t_2103 rfl (by decide) rfl rfl rfl (Nat.le_of_ble_eq_true rfl) (by decide) rfl dX12_swap_43
        have hsw9 := AM.sw hpu p_wa (b0_59 hbk) ⟨⟨by (clear p_im hb gc1_p gc1_f gc7_p gc7_f k11; omega), by (clear p_im hb gc1_p gc1_f gc7_p gc7_f k11; omega)⟩, ⟨by (clear p_im hb gc1_p gc1_f gc7_p gc7_f k11; omega), by (clear p_im hb gc1_p gc1_f gc7_p gc7_f k11; omega)⟩, by (clear p_im hb gc1_p gc1_f gc7_p gc7_f; omega)⟩ gc13_x1 gc13_x2 gc13_xo hFc13
        refine g_iconst dX12_swap_46 ?_
        exact g_retZ dX12_swap_47 rfl (by decide) (hQ 1 (by decide) _ hBc13 (FrM.c (FrM.c FrM.rf hFc12 rfl) hFc13 rfl) (by (clear p_im hb gc1_p gc1_f gc7_p gc7_f; omega)) (hsw9))
      · skip
        skip
        skip
        skip
        skip
        refine g_aload_n dX12_swap_21 rfl ?_
        refine g_iconst dX12_swap_22 ?_
        refine g_vI (av := [vI 3]) (o := 0) (st := []) (m_X12_refuses G P 3 (by decide) hB  _ (fun rc14 hc14 Pc14 hBc14 hFc14 => ⟨rc14, rfl, ?_⟩)) cf_X12_refuses t_1667 rfl (by decide) rfl rfl rfl (Nat.le_of_ble_eq_true rfl) (by decide) rfl dX12_swap_23
        refine g_if_lt (tgt := 33) dX12_swap_26 (by decide) ⟨by (clear p_im hb gc1_p gc1_f gc7_p gc7_f k11; omega), by (clear p_im hb gc1_p gc1_f gc7_p gc7_f k11; omega)⟩ (fun k15 => ?_) (fun k15 => by exfalso; (clear p_im hb gc1_p gc1_f gc7_p gc7_f k11; omega))
        skip
        skip
        skip
        skip
        skip
        refine g_iconst dX12_swap_33 ?_
        exact g_retZ dX12_swap_34 rfl (by decide) (hQ 0 (by decide) _ hBc14 (FrM.c FrM.rf hFc14 rfl) (by (clear p_im hb gc1_p gc1_f gc7_p gc7_f k15; omega)) (by rw [aSwap_n (by (clear p_im hb gc1_p gc1_f gc7_p gc7_f k15; omega))]; exact (AM.fr (F := ([], [28])) z0 (FrM.c FrM.rf hFc14 rfl) rfl)))
/-! What the reference answers: X12_turn. -/
set_option maxRecDepth 100000 in
set_option maxHeartbeats 4000000 in
theorem f_X12_turn (G : GT) (P : PH) (A : PH) (k : Int) (M : PH) (a1 : Int) (h_a1 : (-2147483648) ≤ a1 ∧ a1 ≤ 2147483647) (hB : BdM P) (p_wa : WA k A) (z0 : AM A P) (z1 : MH M P) (Q : Option PV → PH → Prop) (hQ : ∀ (r : Int) (_ : (-2147483648) ≤ r ∧ r ≤ 2147483647) (P1 : PH) (_ : BdM P1) (_ : FrM ([59, 60], [28, 35, 36, 37, 38, 39, 40]) P P1) (_ : (r = -1 ∧ (M 0 0 ≤ 0 ∨ a1 < 0 ∨ 7 < a1)) ∨ (r = iand (ishr (ixor (A 0 1) (ishl 1 a1)) a1) 1 ∧ 0 < M 0 0 ∧ 0 ≤ a1 ∧ a1 ≤ 7)) (_ : AM (aTurn A M a1) P1), Q (some (vI r)) P1) : Ct WSM G 3 iX12_turn [vR 0, vI a1] P Q := by
  refine Ct.of (by decide) (l0 := [(0, vR 0), (1, vI a1)]) rfl (Nat.le_of_ble_eq_true rfl) ?_
  have hb := z0.b
  have q59 := b0_59 hB
  have hw1 := p_wa.1
  have hmh := z1
  unfold MH at hmh
  refine g_aload_n dX12_turn_0 rfl ?_
  refine m_g44 (z := (P 0 44)) rfl dX12_turn_1 rfl ?_
  have f1 := b0_44 hB
  refine g_if_eq (tgt := 17) dX12_turn_4 (by decide) ⟨by have q0 := b0_44 hB; (clear hb hmh; omega), by have q0 := b0_44 hB; (clear hb hmh; omega)⟩ (fun k2 => ?_) (fun k2 => ?_)
  · refine g_aload_n dX12_turn_17 rfl ?_
    refine g_iconst dX12_turn_18 ?_
    refine g_vI (av := [vI 3]) (o := 0) (st := []) (m_X12_refuses G P 3 (by decide) hB  _ (fun rc3 hc3 Pc3 hBc3 hFc3 => ⟨rc3, rfl, ?_⟩)) cf_X12_refuses t_1667 rfl (by decide) rfl rfl rfl (Nat.le_of_ble_eq_true rfl) (by decide) rfl dX12_turn_19
    exact g_retI dX12_turn_22 rfl (hQ rc3 ⟨by (clear hb hmh k2; omega), by (clear hb hmh k2; omega)⟩ _ hBc3 (FrM.c FrM.rf hFc3 rfl) (by (clear hb; omega)) (by rw [aTurn_n (by (clear hb; omega))]; exact (AM.fr (F := ([], [28])) z0 (FrM.c FrM.rf hFc3 rfl) rfl)))
  · have k2n : 1 ≤ (P 0 44) := by have q0 := b0_44 hB; (clear hb hmh; omega)
    clear k2
    refine g_iload_n dX12_turn_7 rfl ?_
    refine g_iconst dX12_turn_8 ?_
    refine g_bipush dX12_turn_9 (by decide) ?_
    refine g_sI (av := [vI a1, vI 0, vI 7]) (st := []) (m_X12_is G P a1 0 7 ⟨by (clear hb hmh; omega), by (clear hb hmh; omega)⟩ (by decide) (by decide) hB  _ (fun rc4 hc4 gc4_is => ⟨rc4, rfl, ?_⟩)) cf_X12_is t_1800 rfl (Nat.le_of_ble_eq_true rfl) (by decide) rfl dX12_turn_11
    refine g_if_ne (tgt := 23) dX12_turn_14 (by decide) ⟨by (clear hb hmh gc4_is; omega), by (clear hb hmh gc4_is; omega)⟩ (fun k5 => ?_) (fun k5 => ?_)
    · have k5n : 1 ≤ rc4 := by (clear hb hmh gc4_is; omega)
      clear k5
      have r_gc4_is := (gc4_is.resolve_right (by (clear hb hmh gc4_is; omega)))
      refine g_aload_n dX12_turn_23 rfl ?_
      refine g_vV (av := []) (o := 0) (st := []) (f_X12_keeps G P (A) (k)  hB p_wa (z0) _ (fun Pc6 hBc6 hFc6 gc6_o ec6_0 => ⟨rfl, ?_⟩)) cf_X12_keeps t_2132 rfl (by decide) rfl rfl rfl (Nat.le_of_ble_eq_true rfl) (by decide) rfl dX12_turn_24
      have hpu := ec6_0
      have hbk := hBc6
      have hvk := hpu.b.2.1.trans (aPush_0 A 1 (by decide))
      refine g_aload_n dX12_turn_27 rfl ?_
      refine m_g55 rfl dX12_turn_28 ?_
      refine g_iconst dX12_turn_31 ?_
      refine g_dup2 dX12_turn_32 rfl rfl ?_
      refine m_l37 (z := (Pc6 37 0)) dX12_turn_33 (by decide) rfl ?_
      refine g_iconst dX12_turn_34 ?_
      refine g_iload_n dX12_turn_35 rfl ?_
      refine g_ishl dX12_turn_36 ?_
      refine g_nm (fun b7 e_b7 => ?_)
      have h_b7 : 1 ≤ (ishl 1 a1) ∧ (ishl 1 a1) ≤ 128 := (ishl1 7 (by decide) (y := a1) ⟨by (clear hb hmh gc4_is; omega), by (clear hb hmh gc4_is; omega)⟩).2
      rw [← e_b7] at h_b7
      refine g_ixor dX12_turn_37 ?_
      refine g_nm (fun b8 e_b8 => ?_)
      have h_b8 : 0 ≤ (ixor (Pc6 37 0) b7) ∧ (ixor (Pc6 37 0) b7) < 256 := ixor_b 8 (by decide) (x := (Pc6 37 0)) (y := b7) (show 0 ≤ (Pc6 37 0) ∧ (Pc6 37 0) < 256 from ⟨by have q0 := bl_37 (k := 0) hBc6; (clear hb hmh gc4_is; omega), by have q0 := bl_37 (k := 0) hBc6; (clear hb hmh gc4_is; omega)⟩) (show 0 ≤ b7 ∧ b7 < 256 from ⟨by (clear hb hmh gc4_is; omega), by (clear hb hmh gc4_is; omega)⟩)
      rw [← e_b8] at h_b8
      have hc9 : b8 = ixor (A 0 1) (ishl 1 a1) := by rw [e_b8, e_b7, hvk]
      refine m_s37 dX12_turn_38 (by decide) ?_
      have hB9 := ba_37 (z := b8) (k := 0) hBc6 ⟨by (clear hb hmh gc4_is; omega), by (clear hb hmh gc4_is; omega)⟩
      refine g_aload_n dX12_turn_39 rfl ?_
      refine m_g55 rfl dX12_turn_40 ?_
      refine g_iconst dX12_turn_43 ?_
      refine m_l37 (z := b8) dX12_turn_44 (by decide) up_same ?_
      refine g_iload_n dX12_turn_45 rfl ?_
      refine g_ishr dX12_turn_46 ?_
      refine g_nm (fun b10 e_b10 => ?_)
      have h_b10 := ishr_ir b8 a1
      rw [← e_b10] at h_b10
      refine g_iconst dX12_turn_47 ?_
      refine g_iand dX12_turn_48 ?_
      refine g_nm (fun b11 e_b11 => ?_)
      have h_b11 := iand_r (x := b10) (y := 1) ⟨by (clear hb hmh gc4_is; omega), by (clear hb hmh gc4_is; omega)⟩
      rw [← e_b11] at h_b11
      have hr9 : b11 = iand (ishr (ixor (A 0 1) (ishl 1 a1)) a1) 1 := by rw [e_b11, e_b10, hc9]
      exact g_retI dX12_turn_49 rfl (hQ b11 ⟨by (clear hb hmh gc4_is; omega), by (clear hb hmh gc4_is; omega)⟩ _ hB9 (FrM.a (FrM.c FrM.rf hFc6 rfl) rfl rfl) (by (clear hb gc4_is; omega)) (by rw [aTurn_y ⟨by (clear hb gc4_is; omega), by (clear hb hmh gc4_is; omega), by (clear hb hmh gc4_is; omega)⟩]; exact AM.on hpu p_wa (b0_59 hbk) (Eq.trans up_same hc9) (fun j hj => up_k hj) (FrM.a FrM.rf rfl rfl)))
    · skip
      refine g_aload_n dX12_turn_17 rfl ?_
      refine g_iconst dX12_turn_18 ?_
      refine g_vI (av := [vI 3]) (o := 0) (st := []) (m_X12_refuses G P 3 (by decide) hB  _ (fun rc12 hc12 Pc12 hBc12 hFc12 => ⟨rc12, rfl, ?_⟩)) cf_X12_refuses t_1667 rfl (by decide) rfl rfl rfl (Nat.le_of_ble_eq_true rfl) (by decide) rfl dX12_turn_19
      exact g_retI dX12_turn_22 rfl (hQ rc12 ⟨by (clear hb hmh gc4_is k5; omega), by (clear hb hmh gc4_is k5; omega)⟩ _ hBc12 (FrM.c FrM.rf hFc12 rfl) (by (clear hb hmh; omega)) (by rw [aTurn_n (by (clear hb hmh; omega))]; exact (AM.fr (F := ([], [28])) z0 (FrM.c FrM.rf hFc12 rfl) rfl)))
/-! What the reference answers: X12_undo. -/
set_option maxRecDepth 100000 in
set_option maxHeartbeats 4000000 in
theorem f_X12_undo (G : GT) (P : PH) (A : PH) (k : Int) (hB : BdM P) (p_wa : WA k A) (z0 : AM A P) (Q : Option PV → PH → Prop) (hQ : ∀ (r : Int) (_ : 0 ≤ r ∧ r ≤ 1) (P1 : PH) (_ : BdM P1) (_ : FrM ([60], [28, 35, 36, 37, 38, 39, 40]) P P1) (_ : (A 0 4 ≤ 0 ∧ r = 0) ∨ (0 < A 0 4 ∧ r = 1)) (_ : AM (aUndo A) P1), Q (some (vI r)) P1) : Ct WSM G 2 iX12_undo [vR 0] P Q := by
  refine Ct.of (by decide) (l0 := [(0, vR 0)]) rfl (Nat.le_of_ble_eq_true rfl) ?_
  have hb := z0.b
  have hw4 := p_wa.2.1
  have q59 := b0_59 hB
  refine g_aload_n dX12_undo_0 rfl ?_
  refine m_g60 (z := (P 0 60)) rfl dX12_undo_1 rfl ?_
  have f1 := b0_60 hB
  refine g_if_ne (tgt := 21) dX12_undo_4 (by decide) ⟨by have q0 := b0_60 hB; (clear hb; omega), by have q0 := b0_60 hB; (clear hb; omega)⟩ (fun k2 => ?_) (fun k2 => ?_)
  · have k2n : 1 ≤ (P 0 60) := by have q0 := b0_60 hB; (clear hb; omega)
    clear k2
    refine g_aload_n dX12_undo_21 rfl ?_
    refine g_dup dX12_undo_22 rfl ?_
    refine m_g60 (z := (P 0 60)) rfl dX12_undo_23 rfl ?_
    refine g_iconst dX12_undo_26 ?_
    refine g_isub dX12_undo_27 ?_
    refine m_p60 rfl dX12_undo_28 ?_
    have hB3 := bs_60 (z := ((P 0 60) - 1)) hB ⟨by have q0 := b0_60 hB; (clear hb; omega), by have q0 := b0_60 hB; (clear hb; omega)⟩
    refine g_aload_n dX12_undo_31 rfl ?_
    refine g_iconst dX12_undo_32 ?_
    refine g_aload_n dX12_undo_33 rfl ?_
    refine g_aload_n dX12_undo_34 rfl ?_
    refine m_g60 (z := ((P 0 60) - 1)) rfl dX12_undo_35 up_same ?_
    refine g_vI (av := [vI ((P 0 60) - 1)]) (o := 0) (st := [vI 0, vR 0]) (f_X12_slot G (up P 0 60 ((P 0 60) - 1)) ((P 0 60) - 1) ⟨by have q0 := b0_60 hB; (clear hb; omega), by have q0 := b0_60 hB; (clear hb; omega)⟩ hB3  _ (fun rc4 hc4 gc4_s => ⟨rc4, rfl, ?_⟩)) cf_X12_slot t_1855 rfl (by decide) rfl rfl rfl (Nat.le_of_ble_eq_true rfl) (by decide) rfl dX12_undo_38
    have z5 : (up P 0 60 ((P 0 60) - 1)) 0 59 = (P 0 59) := ((up_k (by decide)).trans rfl)
    have r35 : ∀ j, (up P 0 60 ((P 0 60) - 1)) 35 j = P 35 j := fun j => ((up_o (by decide)).trans rfl)
    have r36 : ∀ j, (up P 0 60 ((P 0 60) - 1)) 36 j = P 36 j := fun j => ((up_o (by decide)).trans rfl)
    have r37 : ∀ j, (up P 0 60 ((P 0 60) - 1)) 37 j = P 37 j := fun j => ((up_o (by decide)).trans rfl)
    have r38 : ∀ j, (up P 0 60 ((P 0 60) - 1)) 38 j = P 38 j := fun j => ((up_o (by decide)).trans rfl)
    have r39 : ∀ j, (up P 0 60 ((P 0 60) - 1)) 39 j = P 39 j := fun j => ((up_o (by decide)).trans rfl)
    refine g_vV (av := [vI 0, vI rc4]) (o := 0) (st := []) (f_X12_copies G (up P 0 60 ((P 0 60) - 1)) 0 rc4 (by decide) ⟨by (clear hb; omega), by (clear hb; omega)⟩ hB3 (by (clear hb; omega)) _ (fun Pc6 hBc6 hFc6 gc6_o gc6_cy => ⟨rfl, ?_⟩)) cf_X12_copies t_1859 rfl (by decide) rfl rfl rfl (Nat.le_of_ble_eq_true rfl) (by decide) rfl dX12_undo_41
    have z7 : (up P 0 60 ((P 0 60) - 1)) 35 0 = (P 35 0) := ((up_o (by decide)).trans rfl)
    have hcy := CY.row gc6_cy r35 r36 r37 r38 r39
    refine g_iconst dX12_undo_44 ?_
    exact g_retZ dX12_undo_45 rfl (by decide) (hQ 1 (by decide) _ hBc6 (FrM.c (FrM.s FrM.rf rfl) hFc6 rfl) (by (clear gc6_o; omega)) (by rw [aUndo_y (by (clear gc6_o; omega))]; exact AM.pop z0 p_wa (by (clear gc6_o; omega)) q59 (by have h59 := (((up_k (by decide)).trans rfl) : (up P 0 60 ((P 0 60) - 1)) 0 59 = (P 0 59)); rw [show 2 + (P 0 59 + (A 0 4 - 1)) % 20 = rc4 by (clear gc6_o; omega)]; exact hcy) ((hFc6.1 59 rfl).trans ((up_k (by decide)).trans rfl)) (by have h60 := (((hFc6.1 60 rfl).trans up_same) : Pc6 0 60 = ((P 0 60) - 1)); (clear gc6_o; omega)) ((hFc6.1 61 rfl).trans ((up_k (by decide)).trans rfl)) ((hFc6.1 92 rfl).trans ((up_k (by decide)).trans rfl))))
  · refine g_aload_n dX12_undo_7 rfl ?_
    refine g_iconst dX12_undo_8 ?_
    refine g_vI (av := [vI 4]) (o := 0) (st := []) (m_X12_refuses G P 4 (by decide) hB  _ (fun rc8 hc8 Pc8 hBc8 hFc8 => ⟨rc8, rfl, ?_⟩)) cf_X12_refuses t_1667 rfl (by decide) rfl rfl rfl (Nat.le_of_ble_eq_true rfl) (by decide) rfl dX12_undo_9
    refine g_if_lt (tgt := 19) dX12_undo_12 (by decide) ⟨by (clear hb k2; omega), by (clear hb k2; omega)⟩ (fun k9 => ?_) (fun k9 => by exfalso; (clear hb k2; omega))
    refine g_iconst dX12_undo_19 ?_
    exact g_retZ dX12_undo_20 rfl (by decide) (hQ 0 (by decide) _ hBc8 (FrM.c FrM.rf hFc8 rfl) (by (omega)) (by rw [aUndo_n (by (omega))]; exact (AM.fr (F := ([], [28])) z0 (FrM.c FrM.rf hFc8 rfl) rfl)))
/-! What the reference answers: X12_valueRead. -/
set_option maxRecDepth 100000 in
set_option maxHeartbeats 4000000 in
theorem f_X12_valueRead (G : GT) (P : PH) (T : TT) (K : PH) (k : Int) (p : Int) (a1 : Int) (h_a1 : 0 ≤ a1 ∧ a1 ≤ 4) (hB : BdM P) (p_lx : (P 0 3 = 0 ∨ P 0 4 + 1 ≤ P 0 5) ∧ P 0 4 ≤ P 0 5) (p_fk : P 0 8 ≤ 0) (p_aw : AW K) (p_ab : AB K) (p_k4 : K4 a1 k) (p_kb : k < K 0 0) (v_CF : CF P) (v_FP : FP P) (z0 : MT T P) (z1 : MS T p P) (z2 : MKB K P) (Q : Option PV → PH → Prop) (hQ : ∀ (r : Int) (_ : (-2147483648) ≤ r ∧ r ≤ 2147483647) (P1 : PH) (_ : BdM P1) (_ : FrM ([3, 4, 5, 6, 7, 8, 9, 12, 43], [24, 25, 26, 27]) P P1) (_ : (P1 0 3 = 0 ∨ P1 0 4 + 1 ≤ P1 0 5) ∧ P1 0 4 ≤ P1 0 5) (_ : P 0 4 ≤ P1 0 4) (_ : P 0 8 ≤ 0 ∨ 0 < P1 0 8) (_ : (0 < P1 0 8 ∧ val T K k p = (P1 0 8, P1 0 9, 0)) ∨ (P1 0 8 = 0 ∧ 0 ≤ r ∧ r < sz K k ∧ ∃ q : Int, val T K k p = (0, q, r) ∧ MS T q P1)) (_ : FP P1), Q (some (vI r)) P1) : Ct WSM G 5 iX12_valueRead [vR 0, vI a1] P Q := by
  refine Ct.of (by decide) (l0 := [(0, vR 0), (1, vI a1)]) rfl (Nat.le_of_ble_eq_true rfl) ?_
  have hk3 : k ≤ 3 := by have q := p_k4; unfold K4 at q; (clear p_lx; omega)
  have hkb := z2.b
  have hk0 := p_aw.1
  refine g_aload_n dX12_valueRead_0 rfl ?_
  refine g_iconst dX12_valueRead_1 ?_
  refine m_p43 rfl dX12_valueRead_2 ?_
  have hB1 := bs_43 (z := 0) hB (by decide)
  refine g_aload_n dX12_valueRead_5 rfl ?_
  refine g_iload_n dX12_valueRead_6 rfl ?_
  refine g_vV (av := [vI a1]) (o := 0) (st := []) (m_X12_opensPattern G (up P 0 43 0) a1 ⟨by (clear p_lx hkb; omega), by (clear p_lx hkb; omega)⟩ hB1 (by have q0 := (up_same : (up P 0 43 0) 0 43 = 0); (clear p_lx hkb; omega)) _ (fun Pc2 hBc2 hFc2 gc2_o gc2_k gc2_z gc2_kq gc2_zq => ⟨rfl, ?_⟩)) cf_X12_opensPattern t_1780 rfl (by decide) rfl rfl rfl (Nat.le_of_ble_eq_true rfl) (by decide) rfl dX12_valueRead_7
  have z3 : (up P 0 43 0) 0 43 = 0 := up_same
  have e43 := (up_same : (up P 0 43 0) 0 43 = 0)
  rw [e43] at gc2_o gc2_k
  have hvl9 : VL T K k p 1 Pc2 := VL.start (by have q8 := (((hFc2.1 8 rfl).trans ((up_k (by decide)).trans rfl)) : Pc2 0 8 = (P 0 8)); (clear p_lx hkb; omega)) (MS.fr (F := ([43], [24, 25])) z1 (FrM.c (FrM.s FrM.rf rfl) hFc2 rfl) rfl) (STV.start (by (clear p_lx hkb; omega)) gc2_k p_k4)
  have iv4 : SR Pc2 := SR.start (kd := a1) (by (clear p_lx hkb; omega)) gc2_k (by (clear p_lx hkb; omega))
  refine g_iconst dX12_valueRead_10 ?_
  refine g_istore_n (l1 := [(2, vI 0), (0, vR 0), (1, vI a1)]) dX12_valueRead_11 (by decide) rfl ?_
  refine g_iconst dX12_valueRead_12 ?_
  refine g_istore_n (l1 := [(3, vI 1), (2, vI 0), (0, vR 0), (1, vI a1)]) dX12_valueRead_13 (by decide) rfl ?_
  have L14_4 : ∀ (n14_4 : Nat) (x14_3_4 : Int) (h_x14_3_4 : 0 ≤ x14_3_4 ∧ x14_3_4 ≤ 1) (H14_4 : PH) (hB14_4 : BdM H14_4) (hE14_4 : FrM ([3, 4, 5, 6, 7, 8, 9, 12, 43], [24, 25, 26, 27]) Pc2 H14_4) (i14_0_4 : (x14_3_4 = 1 ∧ SR H14_4) ∨ x14_3_4 = 0) (i14_1_4 : VL T K k p x14_3_4 H14_4) (i14_2_4 : P 0 8 ≤ 0 ∨ 0 < H14_4 0 8) (i14_3_4 : P 0 4 ≤ H14_4 0 4) (i14_4_4 : (H14_4 0 3 = 0 ∨ H14_4 0 4 + 1 ≤ H14_4 0 5) ∧ H14_4 0 4 ≤ H14_4 0 5) (w14_FP_4 : FP H14_4) (hm14_4 : (1602 - H14_4 0 4 - 2000 * H14_4 0 8 : Int).toNat < n14_4), Go WSM G 5 iX12_valueRead 14 [(0, vR 0), (3, vI x14_3_4)] [] H14_4 Q := by
    intro n14_4
    induction n14_4 with
    | zero => intro x14_3_4 h_x14_3_4 H14_4 hB14_4 hE14_4 i14_0_4 i14_1_4 i14_2_4 i14_3_4 i14_4_4 w14_FP_4 hm14_4; exact absurd hm14_4 (Nat.not_lt_zero _)
    | succ n14_4 ih14_4 =>
    intro x14_3_4 h_x14_3_4 H14_4 hB14_4 hE14_4 i14_0_4 i14_1_4 i14_2_4 i14_3_4 i14_4_4 w14_FP_4 hm14_4
    refine g_iload_n dX12_valueRead_14 rfl ?_
    refine g_if_eq (tgt := 194) dX12_valueRead_15 (by decide) ⟨by (clear p_lx hkb i14_0_4 i14_2_4 i14_4_4; omega), by (clear p_lx hkb i14_0_4 i14_2_4 i14_4_4; omega)⟩ (fun k144 => ?_) (fun k144 => ?_)
    · skip
      have r_i14_0_4 := (i14_0_4.resolve_left (by (clear p_lx hkb i14_0_4 i14_2_4 i14_4_4; omega)))
      refine g_aload_n dX12_valueRead_194 rfl ?_
      refine m_g40 rfl dX12_valueRead_195 ?_
      refine g_iconst dX12_valueRead_198 ?_
      refine m_l25 (z := (H14_4 25 0)) dX12_valueRead_199 (by decide) rfl ?_
      exact g_retI dX12_valueRead_200 rfl (hQ (H14_4 25 0) ⟨by have q0 := bl_25 (k := 0) hB14_4; (clear p_lx hkb i14_0_4 i14_2_4 i14_4_4; omega), by have q0 := bl_25 (k := 0) hB14_4; (clear p_lx hkb i14_0_4 i14_2_4 i14_4_4; omega)⟩ _ hB14_4 (FrM.c (FrM.c (FrM.s FrM.rf rfl) hFc2 rfl) hE14_4 rfl) (by have q0 := bl_25 (k := 0) hB14_4; have q1 := b0_3 hB14_4; have q2 := b0_4 hB14_4; have q3 := b0_5 hB14_4; (clear p_lx hkb i14_0_4 i14_2_4; omega)) (by have q0 := bl_25 (k := 0) hB14_4; have q1 := b0_4 hB14_4; (clear p_lx hkb i14_0_4 i14_2_4 i14_4_4; omega)) (by have q0 := bl_25 (k := 0) hB14_4; have q1 := b0_8 hB14_4; (clear p_lx hkb i14_0_4 i14_2_4 i14_4_4; omega)) ((i14_1_4).elim (fun h => Or.inl ⟨h.1, h.2.val⟩) (fun h => h.elim (fun h => by exfalso; have q1 := h.1; have q2 := h.2.1; have q3 := b0_8 hB14_4; (clear p_lx hkb i14_0_4 i14_2_4 i14_4_4; omega)) (fun h => by obtain ⟨h1, h2, q9, w9, h3, h4, h5, h6⟩ := h; exact Or.inr ⟨by have q := b0_8 hB14_4; (clear p_lx hkb i14_0_4 i14_2_4 i14_4_4; omega), by (clear p_lx hkb i14_0_4 i14_2_4 i14_4_4; omega), by (clear p_lx hkb i14_0_4 i14_2_4 i14_4_4; omega), q9, by rw [show (H14_4 25 0) = w9 by (clear p_lx hkb i14_0_4 i14_2_4 i14_4_4; omega)]; exact h6.val, h3⟩))) w14_FP_4)
    · have k144n : 1 ≤ x14_3_4 := by (clear p_lx hkb i14_0_4 i14_2_4 i14_4_4; omega)
      clear k144
      skip
      have r_i14_0_4 := (i14_0_4.resolve_right (by (clear p_lx hkb i14_0_4 i14_2_4 i14_4_4; omega)))
      refine g_aload_n dX12_valueRead_18 rfl ?_
      refine m_g8 (z := (H14_4 0 8)) rfl dX12_valueRead_19 rfl ?_
      have f145 := b0_8 hB14_4
      refine g_if_ne (tgt := 194) dX12_valueRead_22 (by decide) ⟨by have q0 := b0_8 hB14_4; (clear p_lx hkb i14_0_4 i14_2_4 i14_4_4; omega), by have q0 := b0_8 hB14_4; (clear p_lx hkb i14_0_4 i14_2_4 i14_4_4; omega)⟩ (fun k146 => ?_) (fun k146 => ?_)
      · have k146n : 1 ≤ (H14_4 0 8) := by have q0 := b0_8 hB14_4; (clear p_lx hkb i14_0_4 i14_2_4 i14_4_4; omega)
        clear k146
        skip
        skip
        refine g_aload_n dX12_valueRead_194 rfl ?_
        refine m_g40 rfl dX12_valueRead_195 ?_
        refine g_iconst dX12_valueRead_198 ?_
        refine m_l25 (z := (H14_4 25 0)) dX12_valueRead_199 (by decide) rfl ?_
        exact g_retI dX12_valueRead_200 rfl (hQ (H14_4 25 0) ⟨by have q0 := bl_25 (k := 0) hB14_4; (clear p_lx hkb i14_0_4 i14_2_4 i14_4_4; omega), by have q0 := bl_25 (k := 0) hB14_4; (clear p_lx hkb i14_0_4 i14_2_4 i14_4_4; omega)⟩ _ hB14_4 (FrM.c (FrM.c (FrM.s FrM.rf rfl) hFc2 rfl) hE14_4 rfl) (by have q0 := bl_25 (k := 0) hB14_4; have q1 := b0_3 hB14_4; have q2 := b0_4 hB14_4; have q3 := b0_5 hB14_4; (clear p_lx hkb i14_0_4 i14_2_4; omega)) (by have q0 := bl_25 (k := 0) hB14_4; have q1 := b0_4 hB14_4; (clear p_lx hkb i14_0_4 i14_2_4 i14_4_4; omega)) (by have q0 := bl_25 (k := 0) hB14_4; have q1 := b0_8 hB14_4; (clear p_lx hkb i14_0_4 i14_2_4 i14_4_4; omega)) ((i14_1_4).elim (fun h => Or.inl ⟨h.1, h.2.val⟩) (fun h => h.elim (fun h => by exfalso; have q1 := h.1; have q2 := h.2.1; have q3 := b0_8 hB14_4; (clear p_lx hkb i14_0_4 i14_2_4 i14_4_4; omega)) (fun h => by obtain ⟨h1, h2, q9, w9, h3, h4, h5, h6⟩ := h; exact Or.inr ⟨by have q := b0_8 hB14_4; (clear p_lx hkb i14_0_4 i14_2_4 i14_4_4; omega), by (clear p_lx hkb i14_0_4 i14_2_4 i14_4_4; omega), by (clear p_lx hkb i14_0_4 i14_2_4 i14_4_4; omega), q9, by rw [show (H14_4 25 0) = w9 by (clear p_lx hkb i14_0_4 i14_2_4 i14_4_4; omega)]; exact h6.val, h3⟩))) w14_FP_4)
      · have r_i14_2_4 := (i14_2_4.resolve_right (by (clear p_lx hkb i14_0_4 i14_2_4 i14_4_4; omega)))
        skip
        obtain ⟨h80, hm1, s9, k9, q9, hS9, hV9, hT9, hR9⟩ := (i14_1_4.resolve_left (fun h => by (clear p_lx hkb i14_0_4 i14_2_4 i14_4_4; omega))).resolve_right (fun h => absurd h.2.1 (by (clear p_lx hkb i14_0_4 i14_2_4 i14_4_4; omega)))
        have hsb := hV9.b
        have hat9 := hS9.at.1
        obtain ⟨Z9, hZ9⟩ : ∃ Z : PH, H14_4 = Z := ⟨_, rfl⟩
        have hWZ : STW s9 Z9 := by rw [← hZ9]; exact hV9.1
        have iv147 : SR H14_4 := (i14_0_4.resolve_right (by (clear p_lx hkb i14_0_4 i14_2_4 i14_4_4 hsb; omega))).2
        have iv148 : MS T q9 H14_4 := hS9
        have iv149 : STV s9 k9 H14_4 := hV9
        have iv150 : STW s9 H14_4 := hV9.1
        refine g_aload_n dX12_valueRead_25 rfl ?_
        refine g_vV (av := []) (o := 0) (st := []) (f_X12_lex G H14_4 (T) (q9)  hB14_4 w14_FP_4 (fun h0 => iv148) _ (fun Pc151 hBc151 hFc151 gc151_pe gc151_l vc151_FP => ⟨rfl, ?_⟩)) cf_X12_lex t_1697 rfl (by decide) rfl rfl rfl (Nat.le_of_ble_eq_true rfl) (by decide) rfl dX12_valueRead_26
        have hlx := gc151_l
        clear gc151_l
        refine g_aload_n dX12_valueRead_29 rfl ?_
        refine m_g8 (z := (Pc151 0 8)) rfl dX12_valueRead_30 rfl ?_
        have f152 := b0_8 hBc151
        refine g_if_le (tgt := 38) dX12_valueRead_33 (by decide) ⟨by have q0 := b0_8 hBc151; (clear p_lx hkb i14_0_4 i14_2_4 i14_4_4 hsb gc151_pe hlx; omega), by have q0 := b0_8 hBc151; (clear p_lx hkb i14_0_4 i14_2_4 i14_4_4 hsb gc151_pe hlx; omega)⟩ (fun k153 => ?_) (fun k153 => ?_)
        · have r_hlx := ((hlx.resolve_left (by (clear p_lx hkb i14_0_4 i14_2_4 i14_4_4 hsb gc151_pe hlx; omega))).resolve_left (by (clear p_lx hkb i14_0_4 i14_2_4 i14_4_4 hsb gc151_pe hlx; omega)))
          have r_gc151_pe := (gc151_pe.resolve_right (by (clear p_lx hkb i14_0_4 i14_2_4 i14_4_4 hsb gc151_pe hlx; omega)))
          skip
          skip
          obtain ⟨z, hz⟩ : ∃ z, z = (H14_4 0 43) := ⟨_, rfl⟩
          have hsr0 := (SR.fr (F := ([8, 9], [])) iv147 (FrM.c FrM.rf hFc151 rfl) rfl)
          have h43a := (((hFc151.1 43 rfl).trans rfl) : Pc151 0 43 = (H14_4 0 43))
          have hsr01 := hsr0.1
          have hst := hsr0.2.1 ((H14_4 0 43)) (by (clear p_lx hkb i14_0_4 i14_2_4 i14_4_4 hsb gc151_pe hlx; omega)) (by (clear p_lx hkb i14_0_4 i14_2_4 i14_4_4 hsb gc151_pe hlx; omega))
          have q24 : ∀ j, Pc151 24 j = _ := fun j => ((congrFun (hFc151.2 24 rfl rfl) _).trans rfl)
          rw [q24] at hst
          have hk4 : tK T q9 ≠ 4 := by (clear p_lx hkb i14_0_4 i14_2_4 i14_4_4 hsb gc151_pe hlx; omega)
          have hl8 : Pc151 0 8 = 0 := by (clear p_lx hkb i14_0_4 i14_2_4 i14_4_4 hsb gc151_pe hlx hk4; omega)
          clear hlx
          have hzZ : Z9 0 43 = z := by rw [← hZ9, hz]
          refine g_aload_n dX12_valueRead_38 rfl ?_
          refine m_g39 rfl dX12_valueRead_39 ?_
          refine g_aload_n dX12_valueRead_42 rfl ?_
          refine m_g43 (z := (H14_4 0 43)) rfl dX12_valueRead_43 ((hFc151.1 43 rfl).trans rfl) ?_
          refine m_l24 (z := (H14_4 24 (H14_4 0 43))) dX12_valueRead_46 ⟨by have q0 := b0_43 hB14_4; (clear p_lx hkb i14_0_4 i14_2_4 i14_4_4 hsb gc151_pe hk4; omega), by have q0 := b0_43 hB14_4; (clear p_lx hkb i14_0_4 i14_2_4 i14_4_4 hsb gc151_pe hk4; omega)⟩ ((congrFun (hFc151.2 24 rfl rfl) _).trans rfl) ?_
          refine g_iconst dX12_valueRead_47 ?_
          have f154 := bl_24 (k := (H14_4 0 43)) hB14_4
          refine g_icmp_ne (tgt := 68) dX12_valueRead_48 (by decide) ⟨by have q0 := bl_24 (k := (H14_4 0 43)) hB14_4; (clear p_lx hkb i14_0_4 i14_2_4 i14_4_4 hsb gc151_pe hk4; omega), by have q0 := bl_24 (k := (H14_4 0 43)) hB14_4; (clear p_lx hkb i14_0_4 i14_2_4 i14_4_4 hsb gc151_pe hk4; omega)⟩ (by decide) (fun k155 => ?_) (fun k155 => ?_)
          · have k155n : (H14_4 24 (H14_4 0 43)) ≤ 3 := by have q0 := bl_24 (k := (H14_4 0 43)) hB14_4; (clear p_lx hkb i14_0_4 i14_2_4 i14_4_4 hsb gc151_pe hk4; omega)
            clear k155
            skip
            skip
            skip
            have hk2 : k9 ≠ -1 := by (clear p_lx hkb i14_0_4 i14_2_4 i14_4_4 gc151_pe hk4; omega)
            refine g_aload_n dX12_valueRead_68 rfl ?_
            refine g_aload_n dX12_valueRead_69 rfl ?_
            refine m_g39 rfl dX12_valueRead_70 ?_
            refine g_aload_n dX12_valueRead_73 rfl ?_
            refine m_g43 (z := (H14_4 0 43)) rfl dX12_valueRead_74 ((hFc151.1 43 rfl).trans rfl) ?_
            refine m_l24 (z := (H14_4 24 (H14_4 0 43))) dX12_valueRead_77 ⟨by have q0 := b0_43 hB14_4; (clear p_lx hkb i14_0_4 i14_2_4 i14_4_4 hsb gc151_pe hk4 hk2; omega), by have q0 := b0_43 hB14_4; (clear p_lx hkb i14_0_4 i14_2_4 i14_4_4 hsb gc151_pe hk4 hk2; omega)⟩ ((congrFun (hFc151.2 24 rfl rfl) _).trans rfl) ?_
            have r6p : ∀ j, Pc151 6 j = P 6 j := fun j => ((congrFun (hFc151.2 6 rfl rfl) _).trans ((congrFun (hE14_4.2 6 rfl rfl) _).trans ((congrFun (hFc2.2 6 rfl rfl) _).trans ((up_o (by decide)).trans rfl))))
            have r5p : ∀ j, Pc151 5 j = P 5 j := fun j => ((congrFun (hFc151.2 5 rfl rfl) _).trans ((congrFun (hE14_4.2 5 rfl rfl) _).trans ((congrFun (hFc2.2 5 rfl rfl) _).trans ((up_o (by decide)).trans rfl))))
            have hkk : (H14_4 24 (H14_4 0 43)) = k9 := by (clear p_lx hkb i14_0_4 i14_2_4 i14_4_4 gc151_pe hk4 hk2; omega)
            refine g_vI (av := [vI (H14_4 24 (H14_4 0 43))]) (o := 0) (st := []) (f_X12_conRead G Pc151 (T) (K) (q9) (H14_4 24 (H14_4 0 43)) ⟨by have q0 := bl_24 (k := (H14_4 0 43)) hB14_4; (clear p_lx hkb i14_0_4 i14_2_4 i14_4_4 hsb gc151_pe hk4 hk2; omega), by have q0 := bl_24 (k := (H14_4 0 43)) hB14_4; (clear p_lx hkb i14_0_4 i14_2_4 i14_4_4 hsb gc151_pe hk4 hk2; omega)⟩ hBc151 (by have q0 := bl_24 (k := (H14_4 0 43)) hB14_4; have q1 := (((hFc151.1 3 rfl).trans rfl) : Pc151 0 3 = (H14_4 0 3)); have q2 := b0_3 hB14_4; have q3 := (((hFc151.1 4 rfl).trans rfl) : Pc151 0 4 = (H14_4 0 4)); have q4 := b0_4 hB14_4; have q5 := (((hFc151.1 5 rfl).trans rfl) : Pc151 0 5 = (H14_4 0 5)); have q6 := b0_5 hB14_4; (clear p_lx hkb i14_0_4 i14_2_4 hsb gc151_pe hk4 hk2; omega)) (by have q0 := bl_24 (k := (H14_4 0 43)) hB14_4; have q1 := b0_8 hBc151; (clear p_lx hkb i14_0_4 i14_2_4 i14_4_4 hsb gc151_pe hk4 hk2; omega)) p_aw (hk4) (by (clear p_lx hkb i14_0_4 i14_2_4 i14_4_4 hsb gc151_pe hk4 hk2; omega)) vc151_FP ((MT.fr (F := ([3, 4, 5, 6, 7, 8, 9, 12, 43], [24, 25, 26, 27])) z0 (FrM.c (FrM.c (FrM.c (FrM.s FrM.rf rfl) hFc2 rfl) hE14_4 rfl) hFc151 rfl) rfl)) ((MS.fr (F := ([8, 9], [])) iv148 (FrM.c FrM.rf hFc151 rfl) rfl)) ((MKB.fr (F := ([3, 4, 5, 6, 7, 8, 9, 12, 43], [24, 25, 26, 27])) z2 (FrM.c (FrM.c (FrM.c (FrM.s FrM.rf rfl) hFc2 rfl) hE14_4 rfl) hFc151 rfl) rfl)) _ (fun rc156 hc156 Pc156 hBc156 hFc156 gc156_lx gc156_mo gc156_pe gc156_c gc156_cr vc156_FP ec156_0 => ⟨rc156, rfl, ?_⟩)) cf_X12_conRead t_1962 rfl (by decide) rfl rfl rfl (Nat.le_of_ble_eq_true rfl) (by decide) rfl dX12_valueRead_78
            have z157 : Pc151 0 4 = (H14_4 0 4) := ((hFc151.1 4 rfl).trans rfl)
            have z158 : Pc151 0 13 = (P 0 13) := ((hFc151.1 13 rfl).trans ((hE14_4.1 13 rfl).trans ((hFc2.1 13 rfl).trans ((up_k (by decide)).trans rfl))))
            have e13p := (((hFc151.1 13 rfl).trans ((hE14_4.1 13 rfl).trans ((hFc2.1 13 rfl).trans ((up_k (by decide)).trans rfl)))) : Pc151 0 13 = (P 0 13))
            have hcr := gc156_c
            simp only [e13p, r6p, r5p] at hcr
            have hcr0 := gc156_cr
            have hcs0 := ec156_0
            rw [hkk] at hcr0 hcs0
            clear gc156_cr
            refine g_istore (l1 := [(4, vI rc156), (0, vR 0), (3, vI x14_3_4)]) dX12_valueRead_81 (by decide) rfl ?_
            refine g_aload_n dX12_valueRead_83 rfl ?_
            refine m_g8 (z := (Pc156 0 8)) rfl dX12_valueRead_84 rfl ?_
            have f159 := b0_8 hBc156
            refine g_if_le (tgt := 92) dX12_valueRead_87 (by decide) ⟨by have q0 := b0_8 hBc156; (clear p_lx hkb i14_0_4 i14_2_4 i14_4_4 hsb gc151_pe hk4 hk2 gc156_lx gc156_pe gc156_c hcr hcr0; omega), by have q0 := b0_8 hBc156; (clear p_lx hkb i14_0_4 i14_2_4 i14_4_4 hsb gc151_pe hk4 hk2 gc156_lx gc156_pe gc156_c hcr hcr0; omega)⟩ (fun k160 => ?_) (fun k160 => ?_)
            · have r_hcr := (hcr.resolve_left (by (clear p_lx hkb i14_0_4 i14_2_4 i14_4_4 hsb gc151_pe hk4 hk2 gc156_lx gc156_pe gc156_c hcr hcr0; omega)))
              have r_gc156_c := (gc156_c.resolve_left (by (clear p_lx hkb i14_0_4 i14_2_4 i14_4_4 hsb gc151_pe hk4 hk2 gc156_lx gc156_pe gc156_c hcr hcr0; omega)))
              have r_gc156_pe := (gc156_pe.resolve_right (by (clear p_lx hkb i14_0_4 i14_2_4 i14_4_4 hsb gc151_pe hk4 hk2 gc156_lx gc156_pe gc156_c hcr hcr0; omega)))
              skip
              skip
              skip
              have hc0 : (cas T K k9 q9).1 = 0 ∧ rc156 = cNm K (tV T q9) := by (clear p_lx hkb i14_0_4 i14_2_4 i14_4_4 hsb gc151_pe hk4 hk2 gc156_lx gc156_pe gc156_c hcr; omega)
              have hcas := cas_s T K k9 q9
              have hc1 : 0 ≤ rc156 ∧ rc156 < K 0 1 := by have q := cNm_b p_aw (tV T q9); (clear p_lx hkb i14_0_4 i14_2_4 i14_4_4 hsb gc151_pe hk4 hk2 gc156_lx gc156_pe gc156_c hcr hcr0 hcas; omega)
              have hcc := z2.cc hc1.1 hc1.2
              have hw5 := p_aw.2.2.1 rc156 hc1.1 hc1.2
              have h55 : K 5 rc156 = k9 := by rw [hc0.2]; (clear p_lx hkb i14_0_4 i14_2_4 i14_4_4 hsb gc151_pe hk4 hk2 gc156_lx gc156_pe gc156_c hcr hcr0 hcc; omega)
              have h65 : K 6 (cNm K (tV T q9)) = K 6 rc156 := by rw [hc0.2]
              have iv161 : MS T (tE T q9) Pc156 := hcs0 hc0.1
              refine g_aload_n dX12_valueRead_92 rfl ?_
              refine m_g19 rfl dX12_valueRead_93 ?_
              refine g_bipush dX12_valueRead_96 (by decide) ?_
              refine g_aload_n dX12_valueRead_98 rfl ?_
              refine m_g13 (z := (P 0 13)) rfl dX12_valueRead_99 ((hFc156.1 13 rfl).trans ((hFc151.1 13 rfl).trans ((hE14_4.1 13 rfl).trans ((hFc2.1 13 rfl).trans ((up_k (by decide)).trans rfl))))) ?_
              refine g_imul dX12_valueRead_102 ?_
              refine g_iload dX12_valueRead_103 rfl ?_
              refine g_iadd dX12_valueRead_105 ?_
              refine m_l7 (z := (P 7 ((24 * (P 0 13)) + rc156))) dX12_valueRead_106 ⟨by have q0 := b0_13 hB; (clear p_lx hkb i14_0_4 i14_2_4 i14_4_4 hsb gc151_pe hk4 hk2 gc156_lx gc156_pe gc156_c hcr hcr0 hcas hcc; omega), by have q0 := b0_13 hB; (clear p_lx hkb i14_0_4 i14_2_4 i14_4_4 hsb gc151_pe hk4 hk2 gc156_lx gc156_pe gc156_c hcr hcr0 hcas hcc; omega)⟩ ((congrFun (hFc156.2 7 rfl rfl) _).trans ((congrFun (hFc151.2 7 rfl rfl) _).trans ((congrFun (hE14_4.2 7 rfl rfl) _).trans ((congrFun (hFc2.2 7 rfl rfl) _).trans ((up_o (by decide)).trans rfl))))) ?_
              have f162 := bl_7 (k := ((24 * (P 0 13)) + rc156)) hB
              refine g_if_ne (tgt := 133) dX12_valueRead_107 (by decide) ⟨by have q0 := bl_7 (k := ((24 * (P 0 13)) + rc156)) hB; (clear p_lx hkb i14_0_4 i14_2_4 i14_4_4 hsb gc151_pe hk4 hk2 gc156_lx gc156_pe gc156_c hcr hcr0 hcas hcc; omega), by have q0 := bl_7 (k := ((24 * (P 0 13)) + rc156)) hB; (clear p_lx hkb i14_0_4 i14_2_4 i14_4_4 hsb gc151_pe hk4 hk2 gc156_lx gc156_pe gc156_c hcr hcr0 hcas hcc; omega)⟩ (fun k163 => ?_) (fun k163 => ?_)
              · have k163n : 1 ≤ (P 7 ((24 * (P 0 13)) + rc156)) := by have q0 := bl_7 (k := ((24 * (P 0 13)) + rc156)) hB; (clear p_lx hkb i14_0_4 i14_2_4 i14_4_4 hsb gc151_pe hk4 hk2 gc156_lx gc156_pe gc156_c hcr hcr0 hcas hcc; omega)
                clear k163
                have r_hcas := (hcas.resolve_right (by (clear p_lx hkb i14_0_4 i14_2_4 i14_4_4 hsb gc151_pe hk4 hk2 gc156_lx gc156_pe gc156_c hcr hcr0 hcas hcc; omega)))
                skip
                skip
                skip
                skip
                skip
                skip
                have hsg40 := sgn_s T 40 (tE T q9)
                refine g_aload_n dX12_valueRead_133 rfl ?_
                refine g_bipush dX12_valueRead_134 (by decide) ?_
                refine g_vV (av := [vI 40]) (o := 0) (st := []) (f_X12_must G Pc156 (T) (tE T q9) 40 (by decide) hBc156 (by have q0 := b0_3 hBc156; have q1 := b0_4 hBc156; have q2 := b0_5 hBc156; (clear p_lx hkb i14_0_4 i14_2_4 i14_4_4 hsb gc151_pe hk4 hk2 gc156_pe gc156_c hcr hcr0 hcas hcc hsg40; omega)) vc156_FP ((MT.fr (F := ([3, 4, 5, 6, 7, 8, 9, 12, 43], [24, 25, 26, 27])) z0 (FrM.c (FrM.c (FrM.c (FrM.c (FrM.s FrM.rf rfl) hFc2 rfl) hE14_4 rfl) hFc151 rfl) hFc156 rfl) rfl)) (iv161) _ (fun Pc164 hBc164 hFc164 gc164_lx gc164_mo gc164_pe gc164_ad gc164_n vc164_FP ec164_0 => ⟨rfl, ?_⟩)) cf_X12_must t_1768 rfl (by decide) rfl rfl rfl (Nat.le_of_ble_eq_true rfl) (by decide) rfl dX12_valueRead_136
                have hmu8 := ec164_0
                have hsr3 := (SR.fr (F := ([3, 4, 5, 6, 7, 8, 9, 12], [])) iv147 (FrM.c (FrM.c (FrM.c FrM.rf hFc151 rfl) hFc156 rfl) hFc164 rfl) rfl)
                have hcf3 := (CF.fr (F := ([3, 4, 5, 6, 7, 8, 9, 12, 43], [24, 25, 26, 27])) v_CF (FrM.c (FrM.c (FrM.c (FrM.c (FrM.c (FrM.s FrM.rf rfl) hFc2 rfl) hE14_4 rfl) hFc151 rfl) hFc156 rfl) hFc164 rfl) rfl)
                have h43c := (((hFc164.1 43 rfl).trans ((hFc156.1 43 rfl).trans ((hFc151.1 43 rfl).trans rfl))) : Pc164 0 43 = (H14_4 0 43))
                have h13c := (((hFc164.1 13 rfl).trans ((hFc156.1 13 rfl).trans ((hFc151.1 13 rfl).trans ((hE14_4.1 13 rfl).trans ((hFc2.1 13 rfl).trans ((up_k (by decide)).trans rfl)))))) : Pc164 0 13 = (P 0 13))
                have r6c : ∀ j, Pc164 6 j = P 6 j := fun j => ((congrFun (hFc164.2 6 rfl rfl) _).trans ((congrFun (hFc156.2 6 rfl rfl) _).trans ((congrFun (hFc151.2 6 rfl rfl) _).trans ((congrFun (hE14_4.2 6 rfl rfl) _).trans ((congrFun (hFc2.2 6 rfl rfl) _).trans ((up_o (by decide)).trans rfl))))))
                have r7c : ∀ j, Pc164 7 j = P 7 j := fun j => ((congrFun (hFc164.2 7 rfl rfl) _).trans ((congrFun (hFc156.2 7 rfl rfl) _).trans ((congrFun (hFc151.2 7 rfl rfl) _).trans ((congrFun (hE14_4.2 7 rfl rfl) _).trans ((congrFun (hFc2.2 7 rfl rfl) _).trans ((up_o (by decide)).trans rfl))))))
                have r8c : ∀ j, Pc164 8 j = P 8 j := fun j => ((congrFun (hFc164.2 8 rfl rfl) _).trans ((congrFun (hFc156.2 8 rfl rfl) _).trans ((congrFun (hFc151.2 8 rfl rfl) _).trans ((congrFun (hE14_4.2 8 rfl rfl) _).trans ((congrFun (hFc2.2 8 rfl rfl) _).trans ((up_o (by decide)).trans rfl))))))
                have iv165 : CP (sgn T 40 (tE T q9)).1 (MS T (tE T (tE T q9))) Pc164 := fun hn => by rw [show tE T (tE T q9) = (sgn T 40 (tE T q9)).2 by (clear p_lx hkb i14_0_4 i14_2_4 i14_4_4 hsb gc151_pe hk4 hk2 gc156_lx gc156_pe gc156_c hcr hcr0 hcas hcc gc164_lx gc164_pe gc164_ad gc164_n; omega)]; exact hmu8 (by have q8 := (rfl : Pc164 0 8 = (Pc164 0 8)); (clear p_lx hkb i14_0_4 i14_2_4 i14_4_4 hsb gc151_pe hk4 hk2 gc156_lx gc156_pe gc156_c hcr hcr0 hcas hcc hsg40 gc164_lx gc164_pe gc164_ad; omega))
                refine g_aload_n dX12_valueRead_139 rfl ?_
                refine m_g41 rfl dX12_valueRead_140 ?_
                refine g_aload_n dX12_valueRead_143 rfl ?_
                refine m_g43 (z := (H14_4 0 43)) rfl dX12_valueRead_144 ((hFc164.1 43 rfl).trans ((hFc156.1 43 rfl).trans ((hFc151.1 43 rfl).trans rfl))) ?_
                refine g_iload dX12_valueRead_147 rfl ?_
                refine m_s26 dX12_valueRead_149 ⟨by have q0 := b0_43 hB14_4; (clear p_lx hkb i14_0_4 i14_2_4 i14_4_4 hsb gc151_pe hk4 hk2 gc156_lx gc156_pe gc156_c hcr hcr0 hcas hcc hsg40 gc164_lx gc164_pe gc164_ad gc164_n; omega), by have q0 := b0_43 hB14_4; (clear p_lx hkb i14_0_4 i14_2_4 i14_4_4 hsb gc151_pe hk4 hk2 gc156_lx gc156_pe gc156_c hcr hcr0 hcas hcc hsg40 gc164_lx gc164_pe gc164_ad gc164_n; omega)⟩ ?_
                have hB166 := ba_26 (z := rc156) (k := (H14_4 0 43)) hBc164 ⟨by (clear p_lx hkb i14_0_4 i14_2_4 i14_4_4 hsb gc151_pe hk4 hk2 gc156_lx gc156_pe gc156_c hcr hcr0 hcas hcc hsg40 gc164_lx gc164_pe gc164_ad gc164_n; omega), by (clear p_lx hkb i14_0_4 i14_2_4 i14_4_4 hsb gc151_pe hk4 hk2 gc156_lx gc156_pe gc156_c hcr hcr0 hcas hcc hsg40 gc164_lx gc164_pe gc164_ad gc164_n; omega)⟩
                refine g_aload_n dX12_valueRead_150 rfl ?_
                refine m_g42 rfl dX12_valueRead_151 ?_
                refine g_aload_n dX12_valueRead_154 rfl ?_
                refine m_g43 (z := (H14_4 0 43)) rfl dX12_valueRead_155 ((up_o (by decide)).trans ((hFc164.1 43 rfl).trans ((hFc156.1 43 rfl).trans ((hFc151.1 43 rfl).trans rfl)))) ?_
                refine g_iconst dX12_valueRead_158 ?_
                refine m_s27 dX12_valueRead_159 ⟨by have q0 := b0_43 hB14_4; (clear p_lx hkb i14_0_4 i14_2_4 i14_4_4 hsb gc151_pe hk4 hk2 gc156_lx gc156_pe gc156_c hcr hcr0 hcas hcc hsg40 gc164_lx gc164_pe gc164_ad gc164_n; omega), by have q0 := b0_43 hB14_4; (clear p_lx hkb i14_0_4 i14_2_4 i14_4_4 hsb gc151_pe hk4 hk2 gc156_lx gc156_pe gc156_c hcr hcr0 hcas hcc hsg40 gc164_lx gc164_pe gc164_ad gc164_n; omega)⟩ ?_
                have hB167 := ba_27 (z := 0) (k := (H14_4 0 43)) hB166 (by decide)
                refine g_aload_n dX12_valueRead_160 rfl ?_
                refine m_g40 rfl dX12_valueRead_161 ?_
                refine g_aload_n dX12_valueRead_164 rfl ?_
                refine m_g43 (z := (H14_4 0 43)) rfl dX12_valueRead_165 ((up_o (by decide)).trans ((up_o (by decide)).trans ((hFc164.1 43 rfl).trans ((hFc156.1 43 rfl).trans ((hFc151.1 43 rfl).trans rfl))))) ?_
                refine g_iconst dX12_valueRead_168 ?_
                refine m_s25 dX12_valueRead_169 ⟨by have q0 := b0_43 hB14_4; (clear p_lx hkb i14_0_4 i14_2_4 i14_4_4 hsb gc151_pe hk4 hk2 gc156_lx gc156_pe gc156_c hcr hcr0 hcas hcc hsg40 gc164_lx gc164_pe gc164_ad gc164_n; omega), by have q0 := b0_43 hB14_4; (clear p_lx hkb i14_0_4 i14_2_4 i14_4_4 hsb gc151_pe hk4 hk2 gc156_lx gc156_pe gc156_c hcr hcr0 hcas hcc hsg40 gc164_lx gc164_pe gc164_ad gc164_n; omega)⟩ ?_
                have hB168 := ba_25 (z := 0) (k := (H14_4 0 43)) hB167 (by decide)
                refine g_aload_n dX12_valueRead_170 rfl ?_
                refine g_aload_n dX12_valueRead_171 rfl ?_
                refine m_g20 rfl dX12_valueRead_172 ?_
                refine g_iconst dX12_valueRead_175 ?_
                refine g_bipush dX12_valueRead_176 (by decide) ?_
                refine g_aload_n dX12_valueRead_178 rfl ?_
                refine m_g13 (z := (P 0 13)) rfl dX12_valueRead_179 ((up_o (by decide)).trans ((up_o (by decide)).trans ((up_o (by decide)).trans ((hFc164.1 13 rfl).trans ((hFc156.1 13 rfl).trans ((hFc151.1 13 rfl).trans ((hE14_4.1 13 rfl).trans ((hFc2.1 13 rfl).trans ((up_k (by decide)).trans rfl))))))))) ?_
                refine g_imul dX12_valueRead_182 ?_
                refine g_iload dX12_valueRead_183 rfl ?_
                refine g_iadd dX12_valueRead_185 ?_
                refine g_imul dX12_valueRead_186 ?_
                refine m_l8 (z := (P 8 (2 * ((24 * (P 0 13)) + rc156)))) dX12_valueRead_187 ⟨by have q0 := b0_13 hB; (clear p_lx hkb i14_0_4 i14_2_4 i14_4_4 hsb gc151_pe hk4 hk2 gc156_lx gc156_pe gc156_c hcr hcr0 hcas hcc hsg40 gc164_lx gc164_pe gc164_ad gc164_n; omega), by have q0 := b0_13 hB; (clear p_lx hkb i14_0_4 i14_2_4 i14_4_4 hsb gc151_pe hk4 hk2 gc156_lx gc156_pe gc156_c hcr hcr0 hcas hcc hsg40 gc164_lx gc164_pe gc164_ad gc164_n; omega)⟩ ((up_o (by decide)).trans ((up_o (by decide)).trans ((up_o (by decide)).trans ((congrFun (hFc164.2 8 rfl rfl) _).trans ((congrFun (hFc156.2 8 rfl rfl) _).trans ((congrFun (hFc151.2 8 rfl rfl) _).trans ((congrFun (hE14_4.2 8 rfl rfl) _).trans ((congrFun (hFc2.2 8 rfl rfl) _).trans ((up_o (by decide)).trans rfl))))))))) ?_
                have hf1 : FrM ([3, 4, 5, 6, 7, 8, 9, 12], [25, 26, 27]) _ (up (up (up Pc164 26 (H14_4 0 43) rc156) 27 (H14_4 0 43) 0) 25 (H14_4 0 43) 0) := FrM.a (FrM.a (FrM.a FrM.rf rfl rfl) rfl rfl) rfl rfl
                have h26d : (up (up (up Pc164 26 (H14_4 0 43) rc156) 27 (H14_4 0 43) 0) 25 (H14_4 0 43) 0) 26 z = rc156 := by rw [show z = (H14_4 0 43) by (clear p_lx hkb i14_0_4 i14_2_4 i14_4_4 hsb gc151_pe hk4 hk2 gc156_lx gc156_pe gc156_c hcr hcr0 hcas hcc hsg40 gc164_lx gc164_pe gc164_ad gc164_n; omega)]; exact ((up_o (by decide)).trans ((up_o (by decide)).trans up_same))
                have h27d : (up (up (up Pc164 26 (H14_4 0 43) rc156) 27 (H14_4 0 43) 0) 25 (H14_4 0 43) 0) 27 z = 0 := by rw [show z = (H14_4 0 43) by (clear p_lx hkb i14_0_4 i14_2_4 i14_4_4 hsb gc151_pe hk4 hk2 gc156_lx gc156_pe gc156_c hcr hcr0 hcas hcc hsg40 gc164_lx gc164_pe gc164_ad gc164_n; omega)]; exact ((up_o (by decide)).trans up_same)
                have o26d : ∀ j : Int, j ≠ z → (up (up (up Pc164 26 (H14_4 0 43) rc156) 27 (H14_4 0 43) 0) 25 (H14_4 0 43) 0) 26 j = _ := fun j hj9 => (by have hj : j ≠ (H14_4 0 43) := (by (clear p_lx hkb i14_0_4 i14_2_4 i14_4_4 hsb gc151_pe hk4 hk2 gc156_lx gc156_pe gc156_c hcr hcr0 hcas hcc hsg40 gc164_lx gc164_pe gc164_ad gc164_n; omega)); exact ((up_o (by decide)).trans ((up_o (by decide)).trans ((up_k hj).trans rfl))))
                have o27d : ∀ j : Int, j ≠ z → (up (up (up Pc164 26 (H14_4 0 43) rc156) 27 (H14_4 0 43) 0) 25 (H14_4 0 43) 0) 27 j = _ := fun j hj9 => (by have hj : j ≠ (H14_4 0 43) := (by (clear p_lx hkb i14_0_4 i14_2_4 i14_4_4 hsb gc151_pe hk4 hk2 gc156_lx gc156_pe gc156_c hcr hcr0 hcas hcc hsg40 gc164_lx gc164_pe gc164_ad gc164_n; omega)); exact ((up_o (by decide)).trans ((up_k hj).trans ((up_o (by decide)).trans rfl))))
                have q6d := bl_6 (k := 24 * P 0 13 + rc156) hB
                have q7d := bl_7 (k := 24 * P 0 13 + rc156) hB
                have hy9 : K4 (P 8 (2 * ((24 * (P 0 13)) + rc156))) (K 7 rc156) := by have e : ∀ j : Int, j = 2 * (24 * P 0 13 + rc156) → K4 (P 8 j) (K 7 rc156) := fun j hj => (by rw [hj]; exact hcc.2.2.2.1 (by (clear p_lx hkb i14_0_4 i14_2_4 i14_4_4 hsb gc151_pe hk4 hk2 gc156_lx gc156_pe gc156_c hcr hcr0 hcas hsg40 gc164_lx gc164_pe gc164_ad gc164_n; omega))); exact e _ (by (clear p_lx hkb i14_0_4 i14_2_4 i14_4_4 hsb gc151_pe hk4 hk2 gc156_lx gc156_pe gc156_c hcr hcr0 hcas hcc hsg40 gc164_lx gc164_pe gc164_ad gc164_n; omega))
                have h25d : (up (up (up Pc164 26 (H14_4 0 43) rc156) 27 (H14_4 0 43) 0) 25 (H14_4 0 43) 0) 25 z = 0 := by rw [show z = (H14_4 0 43) by (clear p_lx hkb i14_0_4 i14_2_4 i14_4_4 hsb gc151_pe hk4 hk2 gc156_lx gc156_pe gc156_c hcr hcr0 hcas hcc hsg40 gc164_lx gc164_pe gc164_ad gc164_n; omega)]; exact up_same
                have o25d : ∀ j : Int, j ≠ z → (up (up (up Pc164 26 (H14_4 0 43) rc156) 27 (H14_4 0 43) 0) 25 (H14_4 0 43) 0) 25 j = Z9 25 j := fun j hj9 => by rw [← hZ9]; have hj : j ≠ (H14_4 0 43) := (by (clear p_lx hkb i14_0_4 i14_2_4 i14_4_4 hsb gc151_pe hk4 hk2 gc156_lx gc156_pe gc156_c hcr hcr0 hcas hcc hsg40 gc164_lx gc164_pe gc164_ad gc164_n; omega)); exact ((up_k hj).trans ((up_o (by decide)).trans ((up_o (by decide)).trans ((congrFun (hFc164.2 25 rfl rfl) _).trans ((congrFun (hFc156.2 25 rfl rfl) _).trans ((congrFun (hFc151.2 25 rfl rfl) _).trans rfl))))))
                have f169 := bl_8 (k := (2 * ((24 * (P 0 13)) + rc156))) hB
                refine g_vV (av := [vI (P 8 (2 * ((24 * (P 0 13)) + rc156)))]) (o := 0) (st := []) (m_X12_opensPattern G (up (up (up Pc164 26 (H14_4 0 43) rc156) 27 (H14_4 0 43) 0) 25 (H14_4 0 43) 0) (P 8 (2 * ((24 * (P 0 13)) + rc156))) ⟨by have q0 := bl_8 (k := (2 * ((24 * (P 0 13)) + rc156))) hB; (clear p_lx hkb i14_0_4 i14_2_4 i14_4_4 hsb gc151_pe hk4 hk2 gc156_lx gc156_pe gc156_c hcr hcr0 hcas hcc hsg40 gc164_lx gc164_pe gc164_ad gc164_n; omega), by have q0 := bl_8 (k := (2 * ((24 * (P 0 13)) + rc156))) hB; (clear p_lx hkb i14_0_4 i14_2_4 i14_4_4 hsb gc151_pe hk4 hk2 gc156_lx gc156_pe gc156_c hcr hcr0 hcas hcc hsg40 gc164_lx gc164_pe gc164_ad gc164_n; omega)⟩ hB168 (by have q0 := bl_8 (k := (2 * ((24 * (P 0 13)) + rc156))) hB; have q1 := (((up_o (by decide)).trans ((up_o (by decide)).trans ((up_o (by decide)).trans ((hFc164.1 43 rfl).trans ((hFc156.1 43 rfl).trans ((hFc151.1 43 rfl).trans rfl)))))) : (up (up (up Pc164 26 (H14_4 0 43) rc156) 27 (H14_4 0 43) 0) 25 (H14_4 0 43) 0) 0 43 = (H14_4 0 43)); have q2 := b0_43 hB14_4; (clear p_lx hkb i14_0_4 i14_2_4 i14_4_4 hsb gc151_pe hk4 hk2 gc156_lx gc156_pe gc156_c hcr hcr0 hcas hcc hsg40 gc164_lx gc164_pe gc164_ad gc164_n; omega)) _ (fun Pc170 hBc170 hFc170 gc170_o gc170_k gc170_z gc170_kq gc170_zq => ⟨rfl, ?_⟩)) cf_X12_opensPattern t_1780 rfl (by decide) rfl rfl rfl (Nat.le_of_ble_eq_true rfl) (by decide) rfl dX12_valueRead_188
                have z171 : (up (up (up Pc164 26 (H14_4 0 43) rc156) 27 (H14_4 0 43) 0) 25 (H14_4 0 43) 0) 0 43 = (H14_4 0 43) := ((up_o (by decide)).trans ((up_o (by decide)).trans ((up_o (by decide)).trans ((hFc164.1 43 rfl).trans ((hFc156.1 43 rfl).trans ((hFc151.1 43 rfl).trans rfl))))))
                have e43p := (((up_o (by decide)).trans ((up_o (by decide)).trans ((up_o (by decide)).trans ((hFc164.1 43 rfl).trans ((hFc156.1 43 rfl).trans ((hFc151.1 43 rfl).trans rfl)))))) : (up (up (up Pc164 26 (H14_4 0 43) rc156) 27 (H14_4 0 43) 0) 25 (H14_4 0 43) 0) 0 43 = (H14_4 0 43))
                rw [e43p, ← hz] at gc170_o gc170_k gc170_kq
                have hsrN := hsr3.push (z := z) (b := P 0 13) (con := rc156) (fld := 0) hcf3 (by (clear p_lx hkb i14_0_4 i14_2_4 i14_4_4 hsb gc151_pe hk4 hk2 gc156_lx gc156_pe gc156_c hcr hcr0 hcas hcc hsg40 gc164_lx gc164_pe gc164_ad gc164_n; omega)) h13c hf1 o26d h26d o27d h27d ⟨by (clear p_lx hkb i14_0_4 i14_2_4 i14_4_4 hsb gc151_pe hk4 hk2 gc156_lx gc156_pe gc156_c hcr hcr0 hcas hcc hsg40 gc164_lx gc164_pe gc164_ad gc164_n; omega), by rw [r7c]; (clear p_lx hkb i14_0_4 i14_2_4 i14_4_4 hsb gc151_pe hk4 hk2 gc156_lx gc156_pe gc156_c hcr hcr0 hcas hcc hsg40 gc164_lx gc164_pe gc164_ad gc164_n; omega)⟩ (by rw [r6c]; (clear p_lx hkb i14_0_4 i14_2_4 i14_4_4 hsb gc151_pe hk4 hk2 gc156_lx gc156_pe gc156_c hcr hcr0 hcas hcc hsg40 gc164_lx gc164_pe gc164_ad gc164_n; omega)) (by rw [r6c]; (clear p_lx hkb i14_0_4 i14_2_4 i14_4_4 hsb gc151_pe hk4 hk2 gc156_lx gc156_pe gc156_c hcr hcr0 hcas hcc hsg40 gc164_lx gc164_pe gc164_ad gc164_n; omega)) (Eq.trans (congrArg (P 8) (by (clear p_lx hkb i14_0_4 i14_2_4 i14_4_4 hsb gc151_pe hk4 hk2 gc156_lx gc156_pe gc156_c hcr hcr0 hcas hcc hsg40 gc164_lx gc164_pe gc164_ad gc164_n; omega))) (r8c _).symm) hFc170 gc170_o gc170_k gc170_kq
                rw [e43p, ← hz] at gc170_z gc170_zq
                rw [← hz] at h25d o25d
                have hstv9 : STV ((rc156, 0, 0) :: s9) (K 7 rc156) Pc170 := STV.push (w := z) hWZ (by (clear p_lx hkb i14_0_4 i14_2_4 i14_4_4 hsb gc151_pe hk4 hk2 gc156_lx gc156_pe gc156_c hcr hcr0 hcas hcc hsg40 gc164_lx gc164_pe gc164_ad gc164_n; omega)) hy9 gc170_o gc170_k (by rw [show z = (H14_4 0 43) by (clear p_lx hkb i14_0_4 i14_2_4 i14_4_4 hsb gc151_pe hk4 hk2 gc156_lx gc156_pe gc156_c hcr hcr0 hcas hcc hsg40 gc164_lx gc164_pe gc164_ad gc164_n; omega)]; exact ((congrFun (hFc170.2 26 rfl rfl) _).trans ((up_o (by decide)).trans ((up_o (by decide)).trans up_same)))) (fun j hj9 => by rw [← hZ9]; have hj : j ≠ (H14_4 0 43) := (by (clear p_lx hkb i14_0_4 i14_2_4 i14_4_4 hsb gc151_pe hk4 hk2 gc156_lx gc156_pe gc156_c hcr hcr0 hcas hcc hsg40 gc164_lx gc164_pe gc164_ad gc164_n; omega)); exact ((congrFun (hFc170.2 26 rfl rfl) _).trans ((up_o (by decide)).trans ((up_o (by decide)).trans ((up_k hj).trans ((congrFun (hFc164.2 26 rfl rfl) _).trans ((congrFun (hFc156.2 26 rfl rfl) _).trans ((congrFun (hFc151.2 26 rfl rfl) _).trans rfl)))))))) (by rw [show z = (H14_4 0 43) by (clear p_lx hkb i14_0_4 i14_2_4 i14_4_4 hsb gc151_pe hk4 hk2 gc156_lx gc156_pe gc156_c hcr hcr0 hcas hcc hsg40 gc164_lx gc164_pe gc164_ad gc164_n; omega)]; exact ((congrFun (hFc170.2 27 rfl rfl) _).trans ((up_o (by decide)).trans up_same))) (fun j hj9 => by rw [← hZ9]; have hj : j ≠ (H14_4 0 43) := (by (clear p_lx hkb i14_0_4 i14_2_4 i14_4_4 hsb gc151_pe hk4 hk2 gc156_lx gc156_pe gc156_c hcr hcr0 hcas hcc hsg40 gc164_lx gc164_pe gc164_ad gc164_n; omega)); exact ((congrFun (hFc170.2 27 rfl rfl) _).trans ((up_o (by decide)).trans ((up_k hj).trans ((up_o (by decide)).trans ((congrFun (hFc164.2 27 rfl rfl) _).trans ((congrFun (hFc156.2 27 rfl rfl) _).trans ((congrFun (hFc151.2 27 rfl rfl) _).trans rfl)))))))) ((gc170_zq z (by (clear p_lx hkb i14_0_4 i14_2_4 i14_4_4 hsb gc151_pe hk4 hk2 gc156_lx gc156_pe gc156_c hcr hcr0 hcas hcc hsg40 gc164_lx gc164_pe gc164_ad gc164_n; omega))).trans h25d) (fun j hj1 hj2 => (gc170_zq j (by (clear p_lx hkb i14_0_4 i14_2_4 i14_4_4 hsb gc151_pe hk4 hk2 gc156_lx gc156_pe gc156_c hcr hcr0 hcas hcc hsg40 gc164_lx gc164_pe gc164_ad gc164_n; omega))).trans (o25d j hj1))
                have hvl9 : VL T K k p 1 Pc170 := (show (sgn T 40 (tE T q9)).1 ≠ 0 ∨ (sgn T 40 (tE T q9)).1 = 0 by (clear p_lx hkb i14_0_4 i14_2_4 i14_4_4 hsb gc151_pe hk4 hk2 gc156_lx gc156_pe gc156_c hcr hcr0 hcas hcc hsg40 gc164_lx gc164_pe gc164_ad gc164_n; omega)).elim (fun hn => VL.flt (hR9 _ (VRs.intoF hk2 hc0.1 (by (clear p_lx hkb i14_0_4 i14_2_4 i14_4_4 hsb gc151_pe hk4 hk2 gc156_lx gc156_pe gc156_c hcr hcr0 hcas hsg40 gc164_lx gc164_pe gc164_ad gc164_n; omega)) hn)) (by have q8 := (((hFc170.1 8 rfl).trans ((up_o (by decide)).trans ((up_o (by decide)).trans ((up_o (by decide)).trans rfl)))) : Pc170 0 8 = (Pc164 0 8)); have q := b0_8 hBc170; (clear p_lx hkb i14_0_4 i14_2_4 i14_4_4 hsb gc151_pe hk4 hk2 gc156_lx gc156_pe gc156_c hcr hcr0 hcas hcc hsg40 gc164_lx gc164_pe gc164_ad; omega)) (by have q8 := (((hFc170.1 8 rfl).trans ((up_o (by decide)).trans ((up_o (by decide)).trans ((up_o (by decide)).trans rfl)))) : Pc170 0 8 = (Pc164 0 8)); (clear p_lx hkb i14_0_4 i14_2_4 i14_4_4 hsb gc151_pe hk4 hk2 gc156_lx gc156_pe gc156_c hcr hcr0 hcas hcc hsg40 gc164_lx gc164_pe gc164_ad; omega)) (by have q9z := (((hFc170.1 9 rfl).trans ((up_o (by decide)).trans ((up_o (by decide)).trans ((up_o (by decide)).trans rfl)))) : Pc170 0 9 = (Pc164 0 9)); (clear p_lx hkb i14_0_4 i14_2_4 i14_4_4 hsb gc151_pe hk4 hk2 gc156_lx gc156_pe gc156_c hcr hcr0 hcas hcc hsg40 gc164_lx gc164_pe gc164_ad; omega))) (fun hn => VL.into hR9 hT9 hk2 hc0.1 hc0.2 hc1 h55 (by (clear p_lx hkb i14_0_4 i14_2_4 i14_4_4 hsb gc151_pe hk4 hk2 gc156_lx gc156_pe gc156_c hcr hcr0 hcas hsg40 gc164_lx gc164_pe gc164_ad gc164_n; omega)) (by (clear p_lx hkb i14_0_4 i14_2_4 i14_4_4 hsb gc151_pe hk4 hk2 gc156_lx gc156_pe gc156_c hcr hcr0 hcas hcc hsg40 gc164_lx gc164_pe gc164_ad gc164_n; omega)) hn (by have q8 := (((hFc170.1 8 rfl).trans ((up_o (by decide)).trans ((up_o (by decide)).trans ((up_o (by decide)).trans rfl)))) : Pc170 0 8 = (Pc164 0 8)); (clear p_lx hkb i14_0_4 i14_2_4 i14_4_4 hsb gc151_pe hk4 hk2 gc156_lx gc156_pe gc156_c hcr hcr0 hcas hcc hsg40 gc164_lx gc164_pe gc164_ad; omega)) ((fun h0 => (MS.fr (F := ([43], [24, 25, 26, 27])) (iv165 h0) (FrM.c (FrM.a (FrM.a (FrM.a FrM.rf rfl rfl) rfl rfl) rfl rfl) hFc170 rfl) rfl)) hn) hstv9)
                have iv172 : SR Pc170 := hsrN
                refine g_goto (tgt := 14) dX12_valueRead_191 (by decide) ?_
                refine g_forget (l1 := [(0, vR 0), (3, vI x14_3_4)]) (by intro q hq; simp only [List.mem_cons, List.not_mem_nil, or_false] at hq ⊢; rcases hq with rfl | rfl <;> simp) ?_
                exact ih14_4 x14_3_4 ⟨by (clear p_lx hkb i14_0_4 i14_2_4 i14_4_4 hsb gc151_pe hk4 hk2 gc156_lx gc156_pe gc156_c hcr hcr0 hcas hcc hsg40 gc164_lx gc164_pe gc164_ad gc164_n; omega), by (clear p_lx hkb i14_0_4 i14_2_4 i14_4_4 hsb gc151_pe hk4 hk2 gc156_lx gc156_pe gc156_c hcr hcr0 hcas hcc hsg40 gc164_lx gc164_pe gc164_ad gc164_n; omega)⟩ _ hBc170 (FrM.c (FrM.a (FrM.a (FrM.a (FrM.c (FrM.c (FrM.c (FrM.c FrM.rf hE14_4 rfl) hFc151 rfl) hFc156 rfl) hFc164 rfl) rfl rfl) rfl rfl) rfl rfl) hFc170 rfl) (by first | exact hms | exact Or.inl ⟨by (clear p_lx hkb i14_0_4 i14_2_4 i14_4_4 hsb gc151_pe hk4 hk2 gc156_lx gc156_pe gc156_c hcr hcr0 hcas hcc hsg40 gc164_lx gc164_pe gc164_ad gc164_n; omega), iv172⟩) (by first | exact hvl9 | (rw [show x14_3_4 = 1 by (clear p_lx hkb i14_0_4 i14_2_4 i14_4_4 hsb gc151_pe hk4 hk2 gc156_lx gc156_pe gc156_c hcr hcr0 hcas hcc hsg40 gc164_lx gc164_pe gc164_ad gc164_n; omega)]; exact hvl9)) (by have q0 := (((hFc170.1 8 rfl).trans ((up_o (by decide)).trans ((up_o (by decide)).trans ((up_o (by decide)).trans rfl)))) : Pc170 0 8 = (Pc164 0 8)); have q1 := b0_8 hBc164; (clear p_lx hkb i14_0_4 i14_2_4 i14_4_4 hsb gc151_pe hk4 hk2 gc156_lx gc156_pe gc156_c hcr hcr0 hcas hcc hsg40 gc164_lx gc164_pe gc164_ad gc164_n; omega)) (by have q0 := (((hFc170.1 4 rfl).trans ((up_o (by decide)).trans ((up_o (by decide)).trans ((up_o (by decide)).trans rfl)))) : Pc170 0 4 = (Pc164 0 4)); have q1 := b0_4 hBc164; (clear p_lx hkb i14_0_4 i14_2_4 i14_4_4 hsb gc151_pe hk4 hk2 gc156_lx gc156_pe gc156_c hcr hcr0 hcas hcc hsg40 gc164_lx gc164_pe gc164_ad gc164_n; omega)) (by have q0 := (((hFc170.1 3 rfl).trans ((up_o (by decide)).trans ((up_o (by decide)).trans ((up_o (by decide)).trans rfl)))) : Pc170 0 3 = (Pc164 0 3)); have q1 := b0_3 hBc164; have q2 := (((hFc170.1 4 rfl).trans ((up_o (by decide)).trans ((up_o (by decide)).trans ((up_o (by decide)).trans rfl)))) : Pc170 0 4 = (Pc164 0 4)); have q3 := b0_4 hBc164; have q4 := (((hFc170.1 5 rfl).trans ((up_o (by decide)).trans ((up_o (by decide)).trans ((up_o (by decide)).trans rfl)))) : Pc170 0 5 = (Pc164 0 5)); have q5 := b0_5 hBc164; (clear p_lx hkb i14_0_4 i14_2_4 i14_4_4 hsb gc151_pe hk4 hk2 gc156_lx gc156_pe gc156_c hcr hcr0 hcas hcc hsg40 gc164_pe gc164_ad gc164_n; omega)) (FP.fr (F := ([43], [24, 25, 26, 27])) vc164_FP (FrM.c (FrM.a (FrM.a (FrM.a FrM.rf rfl rfl) rfl rfl) rfl rfl) hFc170 rfl) rfl) (by have q0 := (((hFc170.1 4 rfl).trans ((up_o (by decide)).trans ((up_o (by decide)).trans ((up_o (by decide)).trans rfl)))) : Pc170 0 4 = (Pc164 0 4)); have q1 := b0_4 hBc164; have q2 := (((hFc170.1 8 rfl).trans ((up_o (by decide)).trans ((up_o (by decide)).trans ((up_o (by decide)).trans rfl)))) : Pc170 0 8 = (Pc164 0 8)); have q3 := b0_8 hBc164; (clear p_lx hkb i14_0_4 i14_2_4 i14_4_4 hsb gc151_pe hk4 hk2 gc156_lx gc156_pe gc156_c hcr hcr0 hcas hcc hsg40 gc164_lx gc164_pe gc164_ad gc164_n; omega))
              · have r_hcas := (hcas.resolve_right (by (clear p_lx hkb i14_0_4 i14_2_4 i14_4_4 hsb gc151_pe hk4 hk2 gc156_lx gc156_pe gc156_c hcr hcr0 hcas hcc; omega)))
                skip
                skip
                skip
                skip
                skip
                skip
                have hbb := cpr_b p_ab hc1.1 hc1.2
                rw [h55] at hbb
                have hszk := sz_s K k9
                refine g_aload_n dX12_valueRead_110 rfl ?_
                refine g_aload_n dX12_valueRead_111 rfl ?_
                refine m_g21 rfl dX12_valueRead_112 ?_
                refine g_bipush dX12_valueRead_115 (by decide) ?_
                refine g_aload_n dX12_valueRead_117 rfl ?_
                refine m_g13 (z := (P 0 13)) rfl dX12_valueRead_118 ((hFc156.1 13 rfl).trans ((hFc151.1 13 rfl).trans ((hE14_4.1 13 rfl).trans ((hFc2.1 13 rfl).trans ((up_k (by decide)).trans rfl))))) ?_
                refine g_imul dX12_valueRead_121 ?_
                refine g_iload dX12_valueRead_122 rfl ?_
                refine g_iadd dX12_valueRead_124 ?_
                refine m_l9 (z := (P 9 ((24 * (P 0 13)) + rc156))) dX12_valueRead_125 ⟨by have q0 := b0_13 hB; (clear p_lx hkb i14_0_4 i14_2_4 i14_4_4 hsb gc151_pe hk4 hk2 gc156_lx gc156_pe gc156_c hcr hcr0 hcas hcc hszk; omega), by have q0 := b0_13 hB; (clear p_lx hkb i14_0_4 i14_2_4 i14_4_4 hsb gc151_pe hk4 hk2 gc156_lx gc156_pe gc156_c hcr hcr0 hcas hcc hszk; omega)⟩ ((congrFun (hFc156.2 9 rfl rfl) _).trans ((congrFun (hFc151.2 9 rfl rfl) _).trans ((congrFun (hE14_4.2 9 rfl rfl) _).trans ((congrFun (hFc2.2 9 rfl rfl) _).trans ((up_o (by decide)).trans rfl))))) ?_
                have hv10 : (P 9 ((24 * (P 0 13)) + rc156)) = K 10 (cNm K (tV T q9)) := by rw [← hc0.2]; exact hcc.2.2.2.2.2
                have hv10l : (P 9 ((24 * (P 0 13)) + rc156)) = K 10 rc156 := hcc.2.2.2.2.2
                have f173 := bl_9 (k := ((24 * (P 0 13)) + rc156)) hB
                refine g_vI (av := [vI (P 9 ((24 * (P 0 13)) + rc156))]) (o := 0) (st := []) (f_X12_isMoreOf G Pc156 (T) (K) (s9) (k) (k9) (tE T q9) (P 9 ((24 * (P 0 13)) + rc156)) ⟨by have q0 := bl_9 (k := ((24 * (P 0 13)) + rc156)) hB; (clear p_lx hkb i14_0_4 i14_2_4 i14_4_4 hsb gc151_pe hk4 hk2 gc156_lx gc156_pe gc156_c hcr hcr0 hcas hcc hszk; omega), by have q0 := bl_9 (k := ((24 * (P 0 13)) + rc156)) hB; (clear p_lx hkb i14_0_4 i14_2_4 i14_4_4 hsb gc151_pe hk4 hk2 gc156_lx gc156_pe gc156_c hcr hcr0 hcas hcc hszk; omega)⟩ hBc156 (by have q0 := bl_9 (k := ((24 * (P 0 13)) + rc156)) hB; have q1 := b0_3 hBc156; have q2 := b0_4 hBc156; have q3 := b0_5 hBc156; (clear p_lx hkb i14_0_4 i14_2_4 i14_4_4 hsb gc151_pe hk4 hk2 gc156_pe gc156_c hcr hcr0 hcas hcc hszk; omega)) ((SR.fr (F := ([3, 4, 5, 6, 7, 8, 9, 12], [])) iv147 (FrM.c (FrM.c FrM.rf hFc151 rfl) hFc156 rfl) rfl)) p_aw (p_ab) (hk3) (Or.inr ⟨iv161, (STW.fr (F := ([3, 4, 5, 6, 7, 8, 9, 12], [])) iv150 (FrM.c (FrM.c FrM.rf hFc151 rfl) hFc156 rfl) rfl), hT9, by (clear p_lx hkb i14_0_4 i14_2_4 i14_4_4 hsb gc151_pe hk4 hk2 gc156_lx gc156_pe gc156_c hcr hcr0 hcas hcc hszk; omega), by (clear p_lx hkb i14_0_4 i14_2_4 i14_4_4 hsb gc151_pe hk4 hk2 gc156_lx gc156_pe gc156_c hcr hcr0 hcas hcc; omega)⟩) (CF.fr (F := ([3, 4, 5, 6, 7, 8, 9, 12, 43], [24, 25, 26, 27])) v_CF (FrM.c (FrM.c (FrM.c (FrM.c (FrM.s FrM.rf rfl) hFc2 rfl) hE14_4 rfl) hFc151 rfl) hFc156 rfl) rfl) vc156_FP ((MT.fr (F := ([3, 4, 5, 6, 7, 8, 9, 12, 43], [24, 25, 26, 27])) z0 (FrM.c (FrM.c (FrM.c (FrM.c (FrM.s FrM.rf rfl) hFc2 rfl) hE14_4 rfl) hFc151 rfl) hFc156 rfl) rfl)) ((MKB.fr (F := ([3, 4, 5, 6, 7, 8, 9, 12, 43], [24, 25, 26, 27])) z2 (FrM.c (FrM.c (FrM.c (FrM.c (FrM.s FrM.rf rfl) hFc2 rfl) hE14_4 rfl) hFc151 rfl) hFc156 rfl) rfl)) _ (fun rc174 hc174 Pc174 hBc174 hFc174 gc174_lx gc174_mo gc174_pe gc174_sr gc174_gv vc174_FP => ⟨rc174, rfl, ?_⟩)) cf_X12_isMoreOf t_1958 rfl (by decide) rfl rfl rfl (Nat.le_of_ble_eq_true rfl) (by decide) rfl dX12_valueRead_126
                have hms := gc174_sr
                have hgv := gc174_gv
                rw [hv10] at hgv
                have hvl9 : VL T K k p rc174 Pc174 := hgv.elim (fun h => by exfalso; (clear p_lx hkb i14_0_4 i14_2_4 i14_4_4 hsb gc151_pe hk4 hk2 gc156_lx gc156_pe gc156_c hcr hcr0 hcas hcc hszk gc174_lx gc174_pe gc174_sr gc174_gv hms hgv; omega)) (fun h => VL.more (fun x hx => hR9 x (VRs.case0 hk2 hc0.1 (by (clear p_lx hkb i14_0_4 i14_2_4 i14_4_4 hsb gc151_pe hk4 hk2 gc156_lx gc156_pe gc156_c hcr hcr0 hcas hszk gc174_lx gc174_pe gc174_sr gc174_gv hms hgv; omega)) hx)) h.2)
                refine g_istore_n (l1 := [(3, vI rc174), (4, vI rc156), (0, vR 0)]) dX12_valueRead_129 (by decide) rfl ?_
                refine g_goto (tgt := 14) dX12_valueRead_130 (by decide) ?_
                refine g_forget (l1 := [(0, vR 0), (3, vI rc174)]) (by intro q hq; simp only [List.mem_cons, List.not_mem_nil, or_false] at hq ⊢; rcases hq with rfl | rfl <;> simp) ?_
                exact ih14_4 rc174 ⟨by (clear p_lx hkb i14_0_4 i14_2_4 i14_4_4 hsb gc151_pe hk4 hk2 gc156_lx gc156_pe gc156_c hcr hcr0 hcas hcc hszk gc174_lx gc174_pe gc174_sr gc174_gv hms hgv; omega), by (clear p_lx hkb i14_0_4 i14_2_4 i14_4_4 hsb gc151_pe hk4 hk2 gc156_lx gc156_pe gc156_c hcr hcr0 hcas hcc hszk gc174_lx gc174_pe gc174_sr gc174_gv hms hgv; omega)⟩ _ hBc174 (FrM.c (FrM.c (FrM.c (FrM.c FrM.rf hE14_4 rfl) hFc151 rfl) hFc156 rfl) hFc174 rfl) (by first | exact hms | exact Or.inl ⟨by (first | (clear p_lx hkb i14_0_4 i14_2_4 i14_4_4 hsb gc151_pe hk4 hk2 gc156_lx gc156_pe gc156_c hcr hcr0 hcas hcc hszk gc174_lx gc174_pe gc174_sr gc174_gv hms hgv; omega) | (clear p_lx hkb i14_0_4 i14_2_4 i14_4_4 hsb gc151_pe hk4 hk2 gc156_lx gc156_pe gc156_c hcr hcr0 hcas hcc hszk gc174_lx gc174_pe gc174_sr gc174_gv hms; omega) | (clear p_lx hkb i14_0_4 i14_2_4 i14_4_4 hsb gc151_pe hk4 hk2 gc156_lx gc156_pe gc156_c hcr hcr0 hcas hcc hszk gc174_lx gc174_pe gc174_sr gc174_gv hgv; omega) | (clear p_lx hkb i14_0_4 i14_2_4 i14_4_4 hsb gc151_pe hk4 hk2 gc156_lx gc156_pe gc156_c hcr hcr0 hcas hcc hszk gc174_lx gc174_pe gc174_sr hms hgv; omega) | (clear p_lx hkb i14_0_4 i14_2_4 i14_4_4 hsb gc151_pe hk4 hk2 gc156_lx gc156_pe gc156_c hcr hcr0 hcas hcc hszk gc174_lx gc174_pe gc174_gv hms hgv; omega) | (clear p_lx hkb i14_0_4 i14_2_4 i14_4_4 hsb gc151_pe hk4 hk2 gc156_lx gc156_pe gc156_c hcr hcr0 hcas hcc hszk gc174_lx gc174_sr gc174_gv hms hgv; omega) | (clear p_lx hkb i14_0_4 i14_2_4 i14_4_4 hsb gc151_pe hk4 hk2 gc156_lx gc156_pe gc156_c hcr hcr0 hcas hcc hszk gc174_pe gc174_sr gc174_gv hms hgv; omega) | (clear p_lx hkb i14_0_4 i14_2_4 i14_4_4 hsb gc151_pe hk4 hk2 gc156_lx gc156_pe gc156_c hcr hcr0 hcas hcc gc174_lx gc174_pe gc174_sr gc174_gv hms hgv; omega) | (clear p_lx hkb i14_0_4 i14_2_4 i14_4_4 hsb gc151_pe hk4 hk2 gc156_lx gc156_pe gc156_c hcr hcr0 hcas hszk gc174_lx gc174_pe gc174_sr gc174_gv hms hgv; omega) | (clear p_lx hkb i14_0_4 i14_2_4 i14_4_4 hsb gc151_pe hk4 hk2 gc156_lx gc156_pe gc156_c hcr hcr0 hcas hcc hszk gc174_lx gc174_pe gc174_sr gc174_gv; omega) | (clear gc174_pe gc174_lx hszk hcc hcas hcr0 hcr gc156_c gc156_pe gc156_lx hk2 hk4 gc151_pe hsb i14_4_4 i14_2_4 i14_0_4 hkb p_lx; omega) | omega), hNONE⟩) (by first | exact hvl9 | (rw [show rc174 = 1 by (first | (clear p_lx hkb i14_0_4 i14_2_4 i14_4_4 hsb gc151_pe hk4 hk2 gc156_lx gc156_pe gc156_c hcr hcr0 hcas hcc hszk gc174_lx gc174_pe gc174_sr gc174_gv hms hgv; omega) | (clear p_lx hkb i14_0_4 i14_2_4 i14_4_4 hsb gc151_pe hk4 hk2 gc156_lx gc156_pe gc156_c hcr hcr0 hcas hcc hszk gc174_lx gc174_pe gc174_sr gc174_gv hms; omega) | (clear p_lx hkb i14_0_4 i14_2_4 i14_4_4 hsb gc151_pe hk4 hk2 gc156_lx gc156_pe gc156_c hcr hcr0 hcas hcc hszk gc174_lx gc174_pe gc174_sr gc174_gv hgv; omega) | (clear p_lx hkb i14_0_4 i14_2_4 i14_4_4 hsb gc151_pe hk4 hk2 gc156_lx gc156_pe gc156_c hcr hcr0 hcas hcc hszk gc174_lx gc174_pe gc174_sr hms hgv; omega) | (clear p_lx hkb i14_0_4 i14_2_4 i14_4_4 hsb gc151_pe hk4 hk2 gc156_lx gc156_pe gc156_c hcr hcr0 hcas hcc hszk gc174_lx gc174_pe gc174_gv hms hgv; omega) | (clear p_lx hkb i14_0_4 i14_2_4 i14_4_4 hsb gc151_pe hk4 hk2 gc156_lx gc156_pe gc156_c hcr hcr0 hcas hcc hszk gc174_lx gc174_sr gc174_gv hms hgv; omega) | (clear p_lx hkb i14_0_4 i14_2_4 i14_4_4 hsb gc151_pe hk4 hk2 gc156_lx gc156_pe gc156_c hcr hcr0 hcas hcc hszk gc174_pe gc174_sr gc174_gv hms hgv; omega) | (clear p_lx hkb i14_0_4 i14_2_4 i14_4_4 hsb gc151_pe hk4 hk2 gc156_lx gc156_pe gc156_c hcr hcr0 hcas hcc gc174_lx gc174_pe gc174_sr gc174_gv hms hgv; omega) | (clear p_lx hkb i14_0_4 i14_2_4 i14_4_4 hsb gc151_pe hk4 hk2 gc156_lx gc156_pe gc156_c hcr hcr0 hcas hszk gc174_lx gc174_pe gc174_sr gc174_gv hms hgv; omega) | (clear p_lx hkb i14_0_4 i14_2_4 i14_4_4 hsb gc151_pe hk4 hk2 gc156_lx gc156_pe gc156_c hcr hcr0 hcas hcc hszk gc174_lx gc174_pe gc174_sr gc174_gv; omega) | (clear gc174_pe gc174_lx hszk hcc hcas hcr0 hcr gc156_c gc156_pe gc156_lx hk2 hk4 gc151_pe hsb i14_4_4 i14_2_4 i14_0_4 hkb p_lx; omega) | omega)]; exact hvl9)) (by have q0 := b0_8 hBc174; (clear p_lx hkb i14_0_4 i14_2_4 i14_4_4 hsb gc151_pe hk4 hk2 gc156_lx gc156_pe gc156_c hcr hcr0 hcas hcc hszk gc174_lx gc174_pe gc174_sr gc174_gv hms hgv; omega)) (by have q0 := b0_4 hBc174; (clear p_lx hkb i14_0_4 i14_2_4 i14_4_4 hsb gc151_pe hk4 hk2 gc156_lx gc156_pe gc156_c hcr hcr0 hcas hcc hszk gc174_lx gc174_pe gc174_sr gc174_gv hms hgv; omega)) (by have q0 := b0_3 hBc174; have q1 := b0_4 hBc174; have q2 := b0_5 hBc174; (clear p_lx hkb i14_0_4 i14_2_4 i14_4_4 hsb gc151_pe hk4 hk2 gc156_lx gc156_pe gc156_c hcr hcr0 hcas hcc hszk gc174_pe gc174_sr gc174_gv hms hgv; omega)) vc174_FP (by have q0 := b0_4 hBc174; have q1 := b0_8 hBc174; (clear p_lx hkb i14_0_4 i14_2_4 i14_4_4 hsb gc151_pe hk4 hk2 gc156_lx gc156_pe gc156_c hcr hcr0 hcas hcc hszk gc174_lx gc174_pe gc174_sr gc174_gv hms hgv; omega))
            · skip
              skip
              skip
              skip
              skip
              skip
              refine g_iconst dX12_valueRead_90 ?_
              exact g_retI dX12_valueRead_91 rfl (hQ 0 (by decide) _ hBc156 (FrM.c (FrM.c (FrM.c (FrM.c (FrM.s FrM.rf rfl) hFc2 rfl) hE14_4 rfl) hFc151 rfl) hFc156 rfl) (by have q0 := b0_3 hBc156; have q1 := b0_4 hBc156; have q2 := b0_5 hBc156; (clear p_lx hkb i14_0_4 i14_2_4 i14_4_4 hsb gc151_pe hk4 hk2 gc156_pe gc156_c hcr hcr0; omega)) (by have q0 := b0_4 hBc156; (clear p_lx hkb i14_0_4 i14_2_4 i14_4_4 hsb gc151_pe hk4 hk2 gc156_lx gc156_pe gc156_c hcr hcr0; omega)) (by have q0 := b0_8 hBc156; (clear p_lx hkb i14_0_4 i14_2_4 i14_4_4 hsb gc151_pe hk4 hk2 gc156_lx gc156_pe gc156_c hcr hcr0; omega)) (Or.inl ⟨by (clear p_lx hkb i14_0_4 i14_2_4 i14_4_4 hsb gc151_pe hk4 hk2 gc156_lx gc156_pe gc156_c hcr hcr0; omega), by rw [show Pc156 0 8 = (cas T K k9 q9).1 by (clear p_lx hkb i14_0_4 i14_2_4 i14_4_4 hsb gc151_pe hk4 hk2 gc156_lx gc156_pe gc156_c hcr; omega), show Pc156 0 9 = (cas T K k9 q9).2 by (clear p_lx hkb i14_0_4 i14_2_4 i14_4_4 hsb gc151_pe hk4 hk2 gc156_lx gc156_pe gc156_c hcr; omega)]; exact (hR9 _ (VRs.caseF hk2 (by (clear p_lx hkb i14_0_4 i14_2_4 i14_4_4 hsb gc151_pe hk4 hk2 gc156_lx gc156_pe gc156_c hcr; omega)))).val⟩) vc156_FP)
          · skip
            skip
            skip
            have hk1 : k9 = -1 := by (clear i14_4_4 i14_2_4 i14_0_4 hkb p_lx; omega)
            have hnm := num_s T 0 19 q9
            have hz20 : sz K k9 = 20 := by rw [hk1]; rfl
            refine g_aload_n dX12_valueRead_51 rfl ?_
            refine g_iconst dX12_valueRead_52 ?_
            refine g_bipush dX12_valueRead_53 (by decide) ?_
            refine g_vI (av := [vI 0, vI 19]) (o := 0) (st := []) (f_X12_number G Pc151 (T) (q9) 0 19 (by decide) (by decide) hBc151 (by have q0 := (((hFc151.1 3 rfl).trans rfl) : Pc151 0 3 = (H14_4 0 3)); have q1 := b0_3 hB14_4; have q2 := (((hFc151.1 4 rfl).trans rfl) : Pc151 0 4 = (H14_4 0 4)); have q3 := b0_4 hB14_4; have q4 := (((hFc151.1 5 rfl).trans rfl) : Pc151 0 5 = (H14_4 0 5)); have q5 := b0_5 hB14_4; (clear p_lx hkb i14_0_4 i14_2_4 hsb gc151_pe hk4 k155 hnm; omega)) (by have q0 := b0_8 hBc151; (clear p_lx hkb i14_0_4 i14_2_4 i14_4_4 hsb gc151_pe hk4 k155 hnm; omega)) vc151_FP ((MT.fr (F := ([3, 4, 5, 6, 7, 8, 9, 12, 43], [24, 25, 26, 27])) z0 (FrM.c (FrM.c (FrM.c (FrM.s FrM.rf rfl) hFc2 rfl) hE14_4 rfl) hFc151 rfl) rfl)) ((MS.fr (F := ([8, 9], [])) iv148 (FrM.c FrM.rf hFc151 rfl) rfl)) _ (fun rc175 hc175 Pc175 hBc175 hFc175 gc175_lx gc175_mo gc175_pe gc175_ad gc175_n gc175_v vc175_FP ec175_0 => ⟨rc175, rfl, ?_⟩)) cf_X12_number t_1796 rfl (by decide) rfl rfl rfl (Nat.le_of_ble_eq_true rfl) (by decide) rfl dX12_valueRead_55
            have z176 : Pc151 0 4 = (H14_4 0 4) := ((hFc151.1 4 rfl).trans rfl)
            have hn1 := gc175_n
            have hn2 := gc175_v
            have hn3 := ec175_0
            refine g_istore_n (l1 := [(2, vI rc175), (0, vR 0), (3, vI x14_3_4)]) dX12_valueRead_58 (by decide) rfl ?_
            refine g_aload_n dX12_valueRead_59 rfl ?_
            refine g_iload_n dX12_valueRead_60 rfl ?_
            refine g_vI (av := [vI rc175]) (o := 0) (st := []) (f_X12_isMoreOf G Pc175 (T) (K) (s9) (k) (k9) (tE T q9) rc175 ⟨by (clear p_lx hkb i14_0_4 i14_2_4 i14_4_4 hsb gc151_pe hk4 k155 hnm gc175_lx gc175_pe gc175_ad gc175_n gc175_v hn1 hn2; omega), by (clear p_lx hkb i14_0_4 i14_2_4 i14_4_4 hsb gc151_pe hk4 k155 hnm gc175_lx gc175_pe gc175_ad gc175_n gc175_v hn1 hn2; omega)⟩ hBc175 (by have q0 := b0_3 hBc175; have q1 := b0_4 hBc175; have q2 := b0_5 hBc175; (clear p_lx hkb i14_0_4 i14_2_4 i14_4_4 hsb gc151_pe hk4 k155 hnm gc175_pe gc175_ad gc175_n gc175_v hn1 hn2; omega)) ((SR.fr (F := ([3, 4, 5, 6, 7, 8, 9, 12], [])) iv147 (FrM.c (FrM.c FrM.rf hFc151 rfl) hFc175 rfl) rfl)) p_aw (p_ab) (hk3) ((show 0 < Pc175 0 8 ∨ Pc175 0 8 = 0 by have q := b0_8 hBc175; (clear p_lx hkb i14_0_4 i14_2_4 i14_4_4 hsb gc151_pe hk4 k155 hnm gc175_lx gc175_pe gc175_ad gc175_n gc175_v hn1 hn2; omega)).elim Or.inl (fun h => Or.inr ⟨by rw [show tE T q9 = (num T 0 19 q9).2 by (omega)]; exact hn3 (by (clear p_lx hkb i14_0_4 i14_2_4 i14_4_4 hsb gc151_pe hk4 k155 hnm gc175_lx gc175_pe gc175_ad gc175_n gc175_v hn2; omega)), (STW.fr (F := ([3, 4, 5, 6, 7, 8, 9, 12], [])) iv150 (FrM.c (FrM.c FrM.rf hFc151 rfl) hFc175 rfl) rfl), hT9, by (clear p_lx hkb i14_0_4 i14_2_4 i14_4_4 hsb gc151_pe hk4 k155 hnm gc175_lx gc175_pe gc175_n gc175_v hn1 hn2; omega), by (clear p_lx hkb i14_0_4 i14_2_4 i14_4_4 hsb gc151_pe hk4 k155 hnm gc175_lx gc175_pe gc175_n gc175_v hn1 hn2; omega)⟩)) (CF.fr (F := ([3, 4, 5, 6, 7, 8, 9, 12, 43], [24, 25, 26, 27])) v_CF (FrM.c (FrM.c (FrM.c (FrM.c (FrM.s FrM.rf rfl) hFc2 rfl) hE14_4 rfl) hFc151 rfl) hFc175 rfl) rfl) vc175_FP ((MT.fr (F := ([3, 4, 5, 6, 7, 8, 9, 12, 43], [24, 25, 26, 27])) z0 (FrM.c (FrM.c (FrM.c (FrM.c (FrM.s FrM.rf rfl) hFc2 rfl) hE14_4 rfl) hFc151 rfl) hFc175 rfl) rfl)) ((MKB.fr (F := ([3, 4, 5, 6, 7, 8, 9, 12, 43], [24, 25, 26, 27])) z2 (FrM.c (FrM.c (FrM.c (FrM.c (FrM.s FrM.rf rfl) hFc2 rfl) hE14_4 rfl) hFc151 rfl) hFc175 rfl) rfl)) _ (fun rc177 hc177 Pc177 hBc177 hFc177 gc177_lx gc177_mo gc177_pe gc177_sr gc177_gv vc177_FP => ⟨rc177, rfl, ?_⟩)) cf_X12_isMoreOf t_1958 rfl (by decide) rfl rfl rfl (Nat.le_of_ble_eq_true rfl) (by decide) rfl dX12_valueRead_61
            have hms := gc177_sr
            have hvl9 : VL T K k p rc177 Pc177 := gc177_gv.elim (fun h => VL.flt (hR9 _ (VRs.numF hk1 (by (clear p_lx hkb i14_0_4 i14_2_4 i14_4_4 hsb gc151_pe hk4 k155 hnm gc175_lx gc175_pe gc175_ad gc175_n gc175_v hn2 gc177_lx gc177_pe gc177_sr gc177_gv hms; omega)))) (by (clear p_lx hkb i14_0_4 i14_2_4 i14_4_4 hsb gc151_pe hk4 k155 hnm gc175_lx gc175_pe gc175_ad gc175_n gc175_v hn1 hn2 gc177_lx gc177_pe gc177_sr gc177_gv hms; omega)) (by (clear p_lx hkb i14_0_4 i14_2_4 i14_4_4 hsb gc151_pe hk4 k155 hnm gc175_lx gc175_pe gc175_ad gc175_n gc175_v hn2 gc177_lx gc177_pe gc177_sr gc177_gv hms; omega)) (by (clear p_lx hkb i14_0_4 i14_2_4 i14_4_4 hsb gc151_pe hk4 k155 hnm gc175_lx gc175_pe gc175_ad gc175_n gc175_v hn2 gc177_lx gc177_pe gc177_sr gc177_gv hms; omega))) (fun h => VL.more (fun x hx => hR9 x (VRs.nu0 hk1 (by (omega)) (by rw [show rc175 = tV T q9 by (omega)] at hx; exact hx))) h.2)
            refine g_istore_n (l1 := [(3, vI rc177), (2, vI rc175), (0, vR 0)]) dX12_valueRead_64 (by decide) rfl ?_
            refine g_goto (tgt := 14) dX12_valueRead_65 (by decide) ?_
            refine g_forget (l1 := [(0, vR 0), (3, vI rc177)]) (by intro q hq; simp only [List.mem_cons, List.not_mem_nil, or_false] at hq ⊢; rcases hq with rfl | rfl <;> simp) ?_
            exact ih14_4 rc177 ⟨by (clear p_lx hkb i14_0_4 i14_2_4 i14_4_4 hsb gc151_pe hk4 k155 hnm gc175_lx gc175_pe gc175_ad gc175_n gc175_v hn1 hn2 gc177_lx gc177_pe gc177_sr gc177_gv hms; omega), by (clear p_lx hkb i14_0_4 i14_2_4 i14_4_4 hsb gc151_pe hk4 k155 hnm gc175_lx gc175_pe gc175_ad gc175_n gc175_v hn1 hn2 gc177_lx gc177_pe gc177_sr gc177_gv hms; omega)⟩ _ hBc177 (FrM.c (FrM.c (FrM.c (FrM.c FrM.rf hE14_4 rfl) hFc151 rfl) hFc175 rfl) hFc177 rfl) (by first | exact hms | exact Or.inl ⟨by (first | (clear p_lx hkb i14_0_4 i14_2_4 i14_4_4 hsb gc151_pe hk4 k155 hnm gc175_lx gc175_pe gc175_ad gc175_n gc175_v hn1 hn2 gc177_lx gc177_pe gc177_sr gc177_gv hms; omega) | (clear p_lx hkb i14_0_4 i14_2_4 i14_4_4 hsb gc151_pe hk4 k155 hnm gc175_lx gc175_pe gc175_ad gc175_n gc175_v hn1 hn2 gc177_lx gc177_pe gc177_sr gc177_gv; omega) | (clear p_lx hkb i14_0_4 i14_2_4 i14_4_4 hsb gc151_pe hk4 k155 hnm gc175_lx gc175_pe gc175_ad gc175_n gc175_v hn1 hn2 gc177_lx gc177_pe gc177_sr hms; omega) | (clear p_lx hkb i14_0_4 i14_2_4 i14_4_4 hsb gc151_pe hk4 k155 hnm gc175_lx gc175_pe gc175_ad gc175_n gc175_v hn1 hn2 gc177_lx gc177_pe gc177_gv hms; omega) | (clear p_lx hkb i14_0_4 i14_2_4 i14_4_4 hsb gc151_pe hk4 k155 hnm gc175_lx gc175_pe gc175_ad gc175_n gc175_v hn1 hn2 gc177_lx gc177_sr gc177_gv hms; omega) | (clear p_lx hkb i14_0_4 i14_2_4 i14_4_4 hsb gc151_pe hk4 k155 hnm gc175_lx gc175_pe gc175_ad gc175_n gc175_v hn1 hn2 gc177_pe gc177_sr gc177_gv hms; omega) | (clear p_lx hkb i14_0_4 i14_2_4 i14_4_4 hsb gc151_pe hk4 k155 hnm gc175_lx gc175_pe gc175_ad gc175_n gc175_v hn1 gc177_lx gc177_pe gc177_sr gc177_gv hms; omega) | (clear p_lx hkb i14_0_4 i14_2_4 i14_4_4 hsb gc151_pe hk4 k155 hnm gc175_lx gc175_pe gc175_ad gc175_n gc175_v hn2 gc177_lx gc177_pe gc177_sr gc177_gv hms; omega) | (clear p_lx hkb i14_0_4 i14_2_4 i14_4_4 hsb gc151_pe hk4 k155 hnm gc175_lx gc175_pe gc175_ad gc175_n hn1 hn2 gc177_lx gc177_pe gc177_sr gc177_gv hms; omega) | (clear p_lx hkb i14_0_4 i14_2_4 i14_4_4 hsb gc151_pe hk4 k155 hnm gc175_lx gc175_pe gc175_ad gc175_n gc175_v hn1 hn2 gc177_lx gc177_pe gc177_sr; omega) | (clear gc177_lx hn2 hn1 gc175_v gc175_n gc175_ad gc175_pe gc175_lx hnm k155 hk4 gc151_pe hsb i14_4_4 i14_2_4 i14_0_4 hkb p_lx; omega) | omega), hNONE⟩) (by first | exact hvl9 | (rw [show rc177 = 1 by (first | (clear p_lx hkb i14_0_4 i14_2_4 i14_4_4 hsb gc151_pe hk4 k155 hnm gc175_lx gc175_pe gc175_ad gc175_n gc175_v hn1 hn2 gc177_lx gc177_pe gc177_sr gc177_gv hms; omega) | (clear p_lx hkb i14_0_4 i14_2_4 i14_4_4 hsb gc151_pe hk4 k155 hnm gc175_lx gc175_pe gc175_ad gc175_n gc175_v hn1 hn2 gc177_lx gc177_pe gc177_sr gc177_gv; omega) | (clear p_lx hkb i14_0_4 i14_2_4 i14_4_4 hsb gc151_pe hk4 k155 hnm gc175_lx gc175_pe gc175_ad gc175_n gc175_v hn1 hn2 gc177_lx gc177_pe gc177_sr hms; omega) | (clear p_lx hkb i14_0_4 i14_2_4 i14_4_4 hsb gc151_pe hk4 k155 hnm gc175_lx gc175_pe gc175_ad gc175_n gc175_v hn1 hn2 gc177_lx gc177_pe gc177_gv hms; omega) | (clear p_lx hkb i14_0_4 i14_2_4 i14_4_4 hsb gc151_pe hk4 k155 hnm gc175_lx gc175_pe gc175_ad gc175_n gc175_v hn1 hn2 gc177_lx gc177_sr gc177_gv hms; omega) | (clear p_lx hkb i14_0_4 i14_2_4 i14_4_4 hsb gc151_pe hk4 k155 hnm gc175_lx gc175_pe gc175_ad gc175_n gc175_v hn1 hn2 gc177_pe gc177_sr gc177_gv hms; omega) | (clear p_lx hkb i14_0_4 i14_2_4 i14_4_4 hsb gc151_pe hk4 k155 hnm gc175_lx gc175_pe gc175_ad gc175_n gc175_v hn1 gc177_lx gc177_pe gc177_sr gc177_gv hms; omega) | (clear p_lx hkb i14_0_4 i14_2_4 i14_4_4 hsb gc151_pe hk4 k155 hnm gc175_lx gc175_pe gc175_ad gc175_n gc175_v hn2 gc177_lx gc177_pe gc177_sr gc177_gv hms; omega) | (clear p_lx hkb i14_0_4 i14_2_4 i14_4_4 hsb gc151_pe hk4 k155 hnm gc175_lx gc175_pe gc175_ad gc175_n hn1 hn2 gc177_lx gc177_pe gc177_sr gc177_gv hms; omega) | (clear p_lx hkb i14_0_4 i14_2_4 i14_4_4 hsb gc151_pe hk4 k155 hnm gc175_lx gc175_pe gc175_ad gc175_n gc175_v hn1 hn2 gc177_lx gc177_pe gc177_sr; omega) | (clear gc177_lx hn2 hn1 gc175_v gc175_n gc175_ad gc175_pe gc175_lx hnm k155 hk4 gc151_pe hsb i14_4_4 i14_2_4 i14_0_4 hkb p_lx; omega) | omega)]; exact hvl9)) (by have q0 := b0_8 hBc177; (clear p_lx hkb i14_0_4 i14_2_4 i14_4_4 hsb gc151_pe hk4 k155 hnm gc175_lx gc175_pe gc175_ad gc175_n gc175_v hn1 hn2 gc177_lx gc177_pe gc177_sr gc177_gv hms; omega)) (by have q0 := b0_4 hBc177; (clear p_lx hkb i14_0_4 i14_2_4 i14_4_4 hsb gc151_pe hk4 k155 hnm gc175_lx gc175_pe gc175_ad gc175_n gc175_v hn1 hn2 gc177_lx gc177_pe gc177_sr gc177_gv hms; omega)) (by have q0 := b0_3 hBc177; have q1 := b0_4 hBc177; have q2 := b0_5 hBc177; (clear p_lx hkb i14_0_4 i14_2_4 i14_4_4 hsb gc151_pe hk4 k155 hnm gc175_lx gc175_pe gc175_ad gc175_n gc175_v hn1 hn2 gc177_pe gc177_sr gc177_gv hms; omega)) vc177_FP (by have q0 := b0_4 hBc177; have q1 := b0_8 hBc177; (omega))
        · have r_hlx := ((hlx.resolve_left (by (clear p_lx hkb i14_0_4 i14_2_4 i14_4_4 hsb gc151_pe hlx; omega))).resolve_right (by (clear p_lx hkb i14_0_4 i14_2_4 i14_4_4 hsb gc151_pe hlx; omega)))
          skip
          skip
          skip
          have hx : tK T q9 = 4 ∧ Pc151 0 8 = 1 ∧ Pc151 0 9 = tS T q9 := by (clear p_lx hkb i14_0_4 i14_2_4 i14_4_4 hsb gc151_pe hlx; omega)
          refine g_iconst dX12_valueRead_36 ?_
          exact g_retI dX12_valueRead_37 rfl (hQ 0 (by decide) _ hBc151 (FrM.c (FrM.c (FrM.c (FrM.s FrM.rf rfl) hFc2 rfl) hE14_4 rfl) hFc151 rfl) (by have q0 := (((hFc151.1 3 rfl).trans rfl) : Pc151 0 3 = (H14_4 0 3)); have q1 := b0_3 hB14_4; have q2 := (((hFc151.1 4 rfl).trans rfl) : Pc151 0 4 = (H14_4 0 4)); have q3 := b0_4 hB14_4; have q4 := (((hFc151.1 5 rfl).trans rfl) : Pc151 0 5 = (H14_4 0 5)); have q5 := b0_5 hB14_4; (clear p_lx hkb i14_0_4 i14_2_4 hsb gc151_pe hlx; omega)) (by have q0 := (((hFc151.1 4 rfl).trans rfl) : Pc151 0 4 = (H14_4 0 4)); have q1 := b0_4 hB14_4; (clear p_lx hkb i14_0_4 i14_2_4 i14_4_4 hsb gc151_pe hlx; omega)) (by have q0 := b0_8 hBc151; (clear p_lx hkb i14_0_4 i14_2_4 i14_4_4 hsb gc151_pe hlx; omega)) (Or.inl ⟨by (clear p_lx hkb i14_0_4 i14_2_4 i14_4_4 hsb gc151_pe hlx; omega), by rw [hx.2.1, hx.2.2]; exact (hR9 _ (VRs.bad hx.1)).val⟩) vc151_FP)
  refine g_forget (l1 := [(0, vR 0), (3, vI 1)]) (by intro q hq; simp only [List.mem_cons, List.not_mem_nil, or_false] at hq ⊢; rcases hq with rfl | rfl <;> simp) ?_
  exact L14_4 _ 1 (by decide) _ hBc2 FrM.rf (by first | exact hms | exact Or.inl ⟨by (clear p_lx hkb; omega), iv4⟩) (by first | exact hvl9 | (rw [show 1 = 1 by (first | (clear p_lx hkb; omega) | (clear p_lx; omega) | (clear hkb; omega) | omega)]; exact hvl9)) (by have q0 := (((hFc2.1 8 rfl).trans ((up_k (by decide)).trans rfl)) : Pc2 0 8 = (P 0 8)); have q1 := b0_8 hB; (clear p_lx hkb; omega)) (by have q0 := (((hFc2.1 4 rfl).trans ((up_k (by decide)).trans rfl)) : Pc2 0 4 = (P 0 4)); have q1 := b0_4 hB; (clear p_lx hkb; omega)) (by have q0 := (((hFc2.1 3 rfl).trans ((up_k (by decide)).trans rfl)) : Pc2 0 3 = (P 0 3)); have q1 := b0_3 hB; have q2 := (((hFc2.1 4 rfl).trans ((up_k (by decide)).trans rfl)) : Pc2 0 4 = (P 0 4)); have q3 := b0_4 hB; have q4 := (((hFc2.1 5 rfl).trans ((up_k (by decide)).trans rfl)) : Pc2 0 5 = (P 0 5)); have q5 := b0_5 hB; (clear hkb; omega)) (FP.fr (F := ([43], [24, 25])) v_FP (FrM.c (FrM.s FrM.rf rfl) hFc2 rfl) rfl) (Nat.lt_succ_self _)
