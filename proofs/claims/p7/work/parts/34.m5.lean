/-! Contracts of the reference: m5. -/
set_option maxRecDepth 100000 in
set_option maxHeartbeats 4000000 in
theorem m_X12_root (G : GT) (P : PH) (hB : BdM P) (Q : Option PV → PH → Prop) (hQ : ∀ (r : Int) (_ : 0 ≤ r ∧ r ≤ 65535), Q (some (vI r)) P) : Ct WSM G 2 iX12_root [vR 0] P Q := by
  refine Ct.of (by decide) (l0 := [(0, vR 0)]) rfl (Nat.le_of_ble_eq_true rfl) ?_
  refine g_iconst dX12_root_0 ?_
  refine g_aload_n dX12_root_1 rfl ?_
  refine m_g62 (z := (P 0 62)) rfl dX12_root_2 rfl ?_
  refine g_ishl dX12_root_5 ?_
  refine g_nm (fun b1 e_b1 => ?_)
  have h_b1 : 1 ≤ (ishl 1 (P 0 62)) ∧ (ishl 1 (P 0 62)) ≤ 4096 := (ishl1 12 (by decide) (y := (P 0 62)) ⟨by have q0 := b0_62 hB; omega, by have q0 := b0_62 hB; omega⟩).2
  rw [← e_b1] at h_b1
  refine g_iconst dX12_root_6 ?_
  refine g_isub dX12_root_7 ?_
  refine g_iconst dX12_root_8 ?_
  refine g_aload_n dX12_root_9 rfl ?_
  refine g_vI (av := []) (o := 0) (st := [vI 1, vI (b1 - 1)]) (m_X12_columns G P  hB  _ (fun rc2 hc2 gc2_c => ⟨rc2, rfl, ?_⟩)) cf_X12_columns t_1827 rfl (by decide) rfl rfl rfl (Nat.le_of_ble_eq_true rfl) (by decide) rfl dX12_root_10
  refine g_ishl dX12_root_13 ?_
  refine g_nm (fun b3 e_b3 => ?_)
  have h_b3 : 1 ≤ (ishl 1 rc2) ∧ (ishl 1 rc2) ≤ 16 := (ishl1 4 (by decide) (y := rc2) ⟨by omega, by omega⟩).2
  rw [← e_b3] at h_b3
  refine g_iconst dX12_root_14 ?_
  refine g_isub dX12_root_15 ?_
  refine g_sI (av := [vI (b1 - 1), vI (b3 - 1)]) (st := []) (m_X12_leftOf G P (b1 - 1) (b3 - 1) ⟨by omega, by omega⟩ ⟨by omega, by omega⟩ hB  _ (fun rc4 hc4 gc4_v => ⟨rc4, rfl, ?_⟩)) cf_X12_leftOf t_2014 rfl (Nat.le_of_ble_eq_true rfl) (by decide) rfl dX12_root_16
  exact g_retI dX12_root_19 rfl (hQ rc4 ⟨by omega, by omega⟩ )
set_option maxRecDepth 100000 in
set_option maxHeartbeats 4000000 in
theorem m_X12_worthOf (G : GT) (P : PH) (a1 : Int) (a2 : Int) (h_a1 : 0 ≤ a1 ∧ a1 ≤ 4095) (h_a2 : 0 ≤ a2 ∧ a2 ≤ 3) (hB : BdM P) (Q : Option PV → PH → Prop) (hQ : ∀ (r : Int) (_ : (-2147483648) ≤ r ∧ r ≤ 2147483647) (P1 : PH) (_ : BdM P1) (_ : FrM ([78], [50]) P P1), Q (some (vI r)) P1) : Ct WSM G 2 iX12_worthOf [vR 0, vI a1, vI a2] P Q := by
  refine Ct.of (by decide) (l0 := [(0, vR 0), (1, vI a1), (2, vI a2)]) rfl (Nat.le_of_ble_eq_true rfl) ?_
  refine g_iconst dX12_worthOf_0 ?_
  refine g_istore_n (l1 := [(3, vI 0), (0, vR 0), (1, vI a1), (2, vI a2)]) dX12_worthOf_1 (by decide) rfl ?_
  refine g_aload_n dX12_worthOf_2 rfl ?_
  refine m_g76 (z := (P 0 76)) rfl dX12_worthOf_3 rfl ?_
  have f1 := b0_76 hB
  refine g_if_ne (tgt := 11) dX12_worthOf_6 (by decide) ⟨by have q0 := b0_76 hB; omega, by have q0 := b0_76 hB; omega⟩ (fun k2 => ?_) (fun k2 => ?_)
  · refine g_aload_n dX12_worthOf_11 rfl ?_
    refine m_g76 (z := (P 0 76)) rfl dX12_worthOf_12 rfl ?_
    refine g_iconst dX12_worthOf_15 ?_
    refine g_icmp_ne (tgt := 61) dX12_worthOf_16 (by decide) ⟨by have q0 := b0_76 hB; omega, by have q0 := b0_76 hB; omega⟩ (by decide) (fun k3 => ?_) (fun k3 => ?_)
    · refine g_aload_n dX12_worthOf_61 rfl ?_
      refine g_dup dX12_worthOf_62 rfl ?_
      refine m_g78 (z := (P 0 78)) rfl dX12_worthOf_63 rfl ?_
      refine g_iconst dX12_worthOf_66 ?_
      refine g_iadd dX12_worthOf_67 ?_
      refine g_norm (fun r4 h_r4 e_r4 => ?_)
      refine m_p78 rfl dX12_worthOf_68 ?_
      have hB5 := bs_78 (z := r4) hB ⟨by omega, by omega⟩
      refine g_iconst dX12_worthOf_71 ?_
      refine g_istore (l1 := [(4, vI 0), (3, vI 0), (0, vR 0), (1, vI a1), (2, vI a2)]) dX12_worthOf_72 (by decide) rfl ?_
      refine g_iconst dX12_worthOf_74 ?_
      refine g_istore (l1 := [(5, vI 0), (4, vI 0), (3, vI 0), (0, vR 0), (1, vI a1), (2, vI a2)]) dX12_worthOf_75 (by decide) rfl ?_
      have L77_5 : ∀ (n77_5 : Nat) (x77_5_5 : Int) (h_x77_5_5 : 0 ≤ x77_5_5 ∧ x77_5_5 ≤ 2009) (x77_4_5 : Int) (h_x77_4_5 : (-2147483648) ≤ x77_4_5 ∧ x77_4_5 ≤ 2147483647) (x77_3_5 : Int) (h_x77_3_5 : 0 ≤ x77_3_5 ∧ x77_3_5 ≤ 2009) (H77_5 : PH) (hB77_5 : BdM H77_5) (hE77_5 : FrM ([], [50]) (up P 0 78 r4) H77_5) (i77_0_5 : x77_3_5 ≤ x77_5_5) (hm77_5 : ((2010 - x77_5_5) : Int).toNat < n77_5), Go WSM G 2 iX12_worthOf 77 [(0, vR 0), (1, vI a1), (2, vI a2), (3, vI x77_3_5), (4, vI x77_4_5), (5, vI x77_5_5)] [] H77_5 Q := by
        intro n77_5
        induction n77_5 with
        | zero => intro x77_5_5 h_x77_5_5 x77_4_5 h_x77_4_5 x77_3_5 h_x77_3_5 H77_5 hB77_5 hE77_5 i77_0_5 hm77_5; exact absurd hm77_5 (Nat.not_lt_zero _)
        | succ n77_5 ih77_5 =>
        intro x77_5_5 h_x77_5_5 x77_4_5 h_x77_4_5 x77_3_5 h_x77_3_5 H77_5 hB77_5 hE77_5 i77_0_5 hm77_5
        refine g_iload dX12_worthOf_77 rfl ?_
        refine g_aload_n dX12_worthOf_79 rfl ?_
        refine m_g50 rfl dX12_worthOf_80 ?_
        refine g_iload_n dX12_worthOf_83 rfl ?_
        refine m_l33 (z := (P 33 a2)) dX12_worthOf_84 ⟨by omega, by omega⟩ ((congrFun (hE77_5.2 33 rfl rfl) _).trans ((up_o (by decide)).trans rfl)) ?_
        have f278 := bl_33 (k := a2) hB
        refine g_icmp_ge (tgt := 164) dX12_worthOf_85 (by decide) ⟨by omega, by omega⟩ ⟨by have q0 := bl_33 (k := a2) hB; omega, by have q0 := bl_33 (k := a2) hB; omega⟩ (fun k279 => ?_) (fun k279 => ?_)
        · refine g_aload_n dX12_worthOf_164 rfl ?_
          refine m_g76 (z := (P 0 76)) rfl dX12_worthOf_165 ((hE77_5.1 76 rfl).trans ((up_k (by decide)).trans rfl)) ?_
          refine g_iconst dX12_worthOf_168 ?_
          refine g_icmp_ne (tgt := 177) dX12_worthOf_169 (by decide) ⟨by have q0 := b0_76 hB; omega, by have q0 := b0_76 hB; omega⟩ (by decide) (fun k280 => ?_) (fun k280 => ?_)
          · refine g_iload dX12_worthOf_177 rfl ?_
            refine g_ineg dX12_worthOf_179 ?_
            refine g_norm (fun r281 h_r281 e_r281 => ?_)
            exact g_retI dX12_worthOf_180 rfl (hQ r281 ⟨by omega, by omega⟩ _ hB77_5 (FrM.c (FrM.s FrM.rf rfl) hE77_5 rfl) )
          · refine g_iload_n dX12_worthOf_172 rfl ?_
            refine g_ineg dX12_worthOf_173 ?_
            refine g_goto (tgt := 180) dX12_worthOf_174 (by decide) ?_
            exact g_retI dX12_worthOf_180 rfl (hQ (-x77_3_5) ⟨by omega, by omega⟩ _ hB77_5 (FrM.c (FrM.s FrM.rf rfl) hE77_5 rfl) )
        · refine g_aload_n dX12_worthOf_88 rfl ?_
          refine m_g63 rfl dX12_worthOf_89 ?_
          refine g_sipush dX12_worthOf_92 (by decide) ?_
          refine g_iload_n dX12_worthOf_95 rfl ?_
          refine g_imul dX12_worthOf_96 ?_
          refine g_iload dX12_worthOf_97 rfl ?_
          refine g_iadd dX12_worthOf_99 ?_
          refine m_l41 (z := (P 41 ((2010 * a2) + x77_5_5))) dX12_worthOf_100 ⟨by omega, by omega⟩ ((congrFun (hE77_5.2 41 rfl rfl) _).trans ((up_o (by decide)).trans rfl)) ?_
          refine g_iload_n dX12_worthOf_101 rfl ?_
          refine g_iand dX12_worthOf_102 ?_
          refine g_nm (fun b282 e_b282 => ?_)
          have h_b282 := iand_l (x := (P 41 ((2010 * a2) + x77_5_5))) (y := a1) ⟨by have q0 := bl_41 (k := ((2010 * a2) + x77_5_5)) hB; omega, by have q0 := bl_41 (k := ((2010 * a2) + x77_5_5)) hB; omega⟩
          rw [← e_b282] at h_b282
          have f_b282_0 := bl_41 (k := ((2010 * a2) + x77_5_5)) hB
          refine g_istore (l1 := [(6, vI b282), (0, vR 0), (1, vI a1), (2, vI a2), (3, vI x77_3_5), (4, vI x77_4_5), (5, vI x77_5_5)]) dX12_worthOf_103 (by decide) rfl ?_
          refine g_aload_n dX12_worthOf_105 rfl ?_
          refine m_g77 rfl dX12_worthOf_106 ?_
          refine g_iload dX12_worthOf_109 rfl ?_
          refine m_l50 (z := (H77_5 50 b282)) dX12_worthOf_111 ⟨by omega, by omega⟩ rfl ?_
          refine g_aload_n dX12_worthOf_112 rfl ?_
          refine m_g78 (z := r4) rfl dX12_worthOf_113 ((hE77_5.1 78 rfl).trans up_same) ?_
          have f283 := bl_50 (k := b282) hB77_5
          have J158_288 : ∀ (x158_4_288 : Int) (h_x158_4_288 : (-2147483648) ≤ x158_4_288 ∧ x158_4_288 ≤ 2147483647) (x158_3_288 : Int) (h_x158_3_288 : 0 ≤ x158_3_288 ∧ x158_3_288 ≤ 2010) (H158_288 : PH) (hB158_288 : BdM H158_288) (hE158_288 : FrM ([], [50]) H77_5 H158_288) (i158_0_288 : x158_3_288 ≤ x77_5_5 + 1), Go WSM G 2 iX12_worthOf 158 [(0, vR 0), (1, vI a1), (2, vI a2), (3, vI x158_3_288), (4, vI x158_4_288), (5, vI x77_5_5)] [] H158_288 Q := by
            intro x158_4_288 h_x158_4_288 x158_3_288 h_x158_3_288 H158_288 hB158_288 hE158_288 i158_0_288
            refine g_iinc (l1 := [(5, vI (x77_5_5 + 1)), (0, vR 0), (1, vI a1), (2, vI a2), (3, vI x158_3_288), (4, vI x158_4_288)]) dX12_worthOf_158 rfl (by decide) rfl ?_
            refine g_goto (tgt := 77) dX12_worthOf_161 (by decide) ?_
            refine g_forget (l1 := [(0, vR 0), (1, vI a1), (2, vI a2), (3, vI x158_3_288), (4, vI x158_4_288), (5, vI (x77_5_5 + 1))]) (by intro q hq; simp only [List.mem_cons, List.not_mem_nil, or_false] at hq ⊢; rcases hq with rfl | rfl | rfl | rfl | rfl | rfl <;> simp) ?_
            exact ih77_5 (x77_5_5 + 1) ⟨by omega, by omega⟩ x158_4_288 ⟨by omega, by omega⟩ x158_3_288 ⟨by omega, by omega⟩ _ hB158_288 (FrM.c (FrM.c FrM.rf hE77_5 rfl) hE158_288 rfl) (by omega) (by omega)
          refine g_icmp_ne (tgt := 122) dX12_worthOf_116 (by decide) ⟨by have q0 := bl_50 (k := b282) hB77_5; omega, by have q0 := bl_50 (k := b282) hB77_5; omega⟩ ⟨by omega, by omega⟩ (fun k290 => ?_) (fun k290 => ?_)
          · refine g_aload_n dX12_worthOf_122 rfl ?_
            refine m_g77 rfl dX12_worthOf_123 ?_
            refine g_iload dX12_worthOf_126 rfl ?_
            refine g_aload_n dX12_worthOf_128 rfl ?_
            refine m_g78 (z := r4) rfl dX12_worthOf_129 ((hE77_5.1 78 rfl).trans up_same) ?_
            refine m_s50 dX12_worthOf_132 ⟨by omega, by omega⟩ ?_
            have hB291 := ba_50 (z := r4) (k := b282) hB77_5 ⟨by omega, by omega⟩
            refine g_iinc (l1 := [(3, vI (x77_3_5 + 1)), (6, vI b282), (0, vR 0), (1, vI a1), (2, vI a2), (4, vI x77_4_5), (5, vI x77_5_5)]) dX12_worthOf_133 rfl (by decide) rfl ?_
            refine g_iload dX12_worthOf_136 rfl ?_
            refine g_sI (av := [vI b282]) (st := []) (m_X12_bitsOf G (up H77_5 50 b282 r4) b282 ⟨by omega, by omega⟩ hB291  _ (fun rc292 hc292 => ⟨rc292, rfl, ?_⟩)) cf_X12_bitsOf t_2031 rfl (Nat.le_of_ble_eq_true rfl) (by decide) rfl dX12_worthOf_138
            refine g_iload dX12_worthOf_141 rfl ?_
            refine g_icmp_le (tgt := 154) dX12_worthOf_143 (by decide) ⟨by omega, by omega⟩ ⟨by omega, by omega⟩ (fun k293 => ?_) (fun k293 => ?_)
            · refine g_iload dX12_worthOf_154 rfl ?_
              refine g_istore (l1 := [(4, vI x77_4_5), (3, vI (x77_3_5 + 1)), (6, vI b282), (0, vR 0), (1, vI a1), (2, vI a2), (5, vI x77_5_5)]) dX12_worthOf_156 (by decide) rfl ?_
              refine g_forget (l1 := [(0, vR 0), (1, vI a1), (2, vI a2), (3, vI (x77_3_5 + 1)), (4, vI x77_4_5), (5, vI x77_5_5)]) (by intro q hq; simp only [List.mem_cons, List.not_mem_nil, or_false] at hq ⊢; rcases hq with rfl | rfl | rfl | rfl | rfl | rfl <;> simp) ?_
              exact J158_288 x77_4_5 ⟨by omega, by omega⟩ (x77_3_5 + 1) ⟨by omega, by omega⟩ _ hB291 (FrM.a FrM.rf rfl rfl) (by omega)
            · refine g_iload dX12_worthOf_146 rfl ?_
              refine g_sI (av := [vI b282]) (st := []) (m_X12_bitsOf G (up H77_5 50 b282 r4) b282 ⟨by omega, by omega⟩ hB291  _ (fun rc294 hc294 => ⟨rc294, rfl, ?_⟩)) cf_X12_bitsOf t_2031 rfl (Nat.le_of_ble_eq_true rfl) (by decide) rfl dX12_worthOf_148
              refine g_goto (tgt := 156) dX12_worthOf_151 (by decide) ?_
              refine g_istore (l1 := [(4, vI rc294), (3, vI (x77_3_5 + 1)), (6, vI b282), (0, vR 0), (1, vI a1), (2, vI a2), (5, vI x77_5_5)]) dX12_worthOf_156 (by decide) rfl ?_
              refine g_forget (l1 := [(0, vR 0), (1, vI a1), (2, vI a2), (3, vI (x77_3_5 + 1)), (4, vI rc294), (5, vI x77_5_5)]) (by intro q hq; simp only [List.mem_cons, List.not_mem_nil, or_false] at hq ⊢; rcases hq with rfl | rfl | rfl | rfl | rfl | rfl <;> simp) ?_
              exact J158_288 rc294 ⟨by omega, by omega⟩ (x77_3_5 + 1) ⟨by omega, by omega⟩ _ hB291 (FrM.a FrM.rf rfl rfl) (by omega)
          · refine g_goto (tgt := 158) dX12_worthOf_119 (by decide) ?_
            refine g_forget (l1 := [(0, vR 0), (1, vI a1), (2, vI a2), (3, vI x77_3_5), (4, vI x77_4_5), (5, vI x77_5_5)]) (by intro q hq; simp only [List.mem_cons, List.not_mem_nil, or_false] at hq ⊢; rcases hq with rfl | rfl | rfl | rfl | rfl | rfl <;> simp) ?_
            exact J158_288 x77_4_5 ⟨by omega, by omega⟩ x77_3_5 ⟨by omega, by omega⟩ _ hB77_5 FrM.rf (by omega)
      refine g_forget (l1 := [(0, vR 0), (1, vI a1), (2, vI a2), (3, vI 0), (4, vI 0), (5, vI 0)]) (by intro q hq; simp only [List.mem_cons, List.not_mem_nil, or_false] at hq ⊢; rcases hq with rfl | rfl | rfl | rfl | rfl | rfl <;> simp) ?_
      exact L77_5 _ 0 (by decide) 0 (by decide) 0 (by decide) _ hB5 FrM.rf (by omega) (Nat.lt_succ_self _)
    · refine g_iload_n dX12_worthOf_19 rfl ?_
      refine g_istore (l1 := [(4, vI a1), (3, vI 0), (0, vR 0), (1, vI a1), (2, vI a2)]) dX12_worthOf_20 (by decide) rfl ?_
      have L22_294 : ∀ (n22_294 : Nat) (x22_4_294 : Int) (h_x22_4_294 : 0 ≤ x22_4_294 ∧ x22_4_294 ≤ 4095) (x22_3_294 : Int) (h_x22_3_294 : 0 ≤ x22_3_294 ∧ x22_3_294 ≤ 4095) (i22_0_294 : x22_3_294 + x22_4_294 ≤ 4095) (hm22_294 : (x22_4_294 : Int).toNat < n22_294), Go WSM G 2 iX12_worthOf 22 [(0, vR 0), (2, vI a2), (3, vI x22_3_294), (4, vI x22_4_294)] [] P Q := by
        intro n22_294
        induction n22_294 with
        | zero => intro x22_4_294 h_x22_4_294 x22_3_294 h_x22_3_294 i22_0_294 hm22_294; exact absurd hm22_294 (Nat.not_lt_zero _)
        | succ n22_294 ih22_294 =>
        intro x22_4_294 h_x22_4_294 x22_3_294 h_x22_3_294 i22_0_294 hm22_294
        refine g_iload dX12_worthOf_22 rfl ?_
        refine g_if_le (tgt := 59) dX12_worthOf_24 (by decide) ⟨by omega, by omega⟩ (fun k320 => ?_) (fun k320 => ?_)
        · refine g_iload_n dX12_worthOf_59 rfl ?_
          exact g_retI dX12_worthOf_60 rfl (hQ x22_3_294 ⟨by omega, by omega⟩ _ hB FrM.rf )
        · refine g_aload_n dX12_worthOf_27 rfl ?_
          refine m_g64 rfl dX12_worthOf_28 ?_
          refine g_iload_n dX12_worthOf_31 rfl ?_
          refine m_l42 (z := (P 42 a2)) dX12_worthOf_32 ⟨by omega, by omega⟩ rfl ?_
          refine g_iload dX12_worthOf_33 rfl ?_
          refine g_sI (av := [vI x22_4_294]) (st := [vI (P 42 a2)]) (m_X12_lowest G P x22_4_294 ⟨by omega, by omega⟩ hB  _ (fun rc321 hc321 gc321_l gc321_b => ⟨rc321, rfl, ?_⟩)) cf_X12_lowest t_1927 rfl (Nat.le_of_ble_eq_true rfl) (by decide) rfl dX12_worthOf_35
          refine g_ishr dX12_worthOf_38 ?_
          refine g_nm (fun b322 e_b322 => ?_)
          have h_b322 := ishr_ir (P 42 a2) rc321
          rw [← e_b322] at h_b322
          have f_b322_0 := bl_42 (k := a2) hB
          refine g_iconst dX12_worthOf_39 ?_
          refine g_iand dX12_worthOf_40 ?_
          refine g_nm (fun b323 e_b323 => ?_)
          have h_b323 := iand_r (x := b322) (y := 1) ⟨by omega, by omega⟩
          rw [← e_b323] at h_b323
          refine g_if_ne (tgt := 59) dX12_worthOf_41 (by decide) ⟨by omega, by omega⟩ (fun k324 => ?_) (fun k324 => ?_)
          · refine g_iload_n dX12_worthOf_59 rfl ?_
            exact g_retI dX12_worthOf_60 rfl (hQ x22_3_294 ⟨by omega, by omega⟩ _ hB FrM.rf )
          · refine g_iinc (l1 := [(3, vI (x22_3_294 + 1)), (0, vR 0), (2, vI a2), (4, vI x22_4_294)]) dX12_worthOf_44 rfl (by decide) rfl ?_
            refine g_iload dX12_worthOf_47 rfl ?_
            refine g_iload dX12_worthOf_49 rfl ?_
            refine g_iconst dX12_worthOf_51 ?_
            refine g_isub dX12_worthOf_52 ?_
            refine g_iand dX12_worthOf_53 ?_
            refine g_nm (fun b325 e_b325 => ?_)
            have h_b325 := iand_r (x := x22_4_294) (y := (x22_4_294 - 1)) ⟨by omega, by omega⟩
            rw [← e_b325] at h_b325
            refine g_istore (l1 := [(4, vI b325), (3, vI (x22_3_294 + 1)), (0, vR 0), (2, vI a2)]) dX12_worthOf_54 (by decide) rfl ?_
            refine g_goto (tgt := 22) dX12_worthOf_56 (by decide) ?_
            refine g_forget (l1 := [(0, vR 0), (2, vI a2), (3, vI (x22_3_294 + 1)), (4, vI b325)]) (by intro q hq; simp only [List.mem_cons, List.not_mem_nil, or_false] at hq ⊢; rcases hq with rfl | rfl | rfl | rfl <;> simp) ?_
            exact ih22_294 b325 ⟨by omega, by omega⟩ (x22_3_294 + 1) ⟨by omega, by omega⟩ (by omega) (by omega)
      refine g_forget (l1 := [(0, vR 0), (2, vI a2), (3, vI 0), (4, vI a1)]) (by intro q hq; simp only [List.mem_cons, List.not_mem_nil, or_false] at hq ⊢; rcases hq with rfl | rfl | rfl | rfl <;> simp) ?_
      exact L22_294 _ a1 ⟨by omega, by omega⟩ 0 (by decide) (by omega) (Nat.lt_succ_self _)
  · refine g_iconst dX12_worthOf_9 ?_
    exact g_retI dX12_worthOf_10 rfl (hQ 0 (by decide) _ hB FrM.rf )
set_option maxRecDepth 100000 in
set_option maxHeartbeats 4000000 in
theorem m_X12_asksFor (G : GT) (P : PH) (a1 : Int) (h_a1 : 0 ≤ a1 ∧ a1 ≤ 65535) (hB : BdM P) (v_MV : MV P) (Q : Option PV → PH → Prop) (hQ : ∀ (r : Int) (_ : 0 ≤ r ∧ r ≤ 4) (P1 : PH) (_ : BdM P1) (_ : FrM ([78], [49, 50]) P P1) (_ : r = 4 ∨ iand (ishr (a1 / 4096) r) 1 = 1) (_ : MV P1), Q (some (vI r)) P1) : Ct WSM G 3 iX12_asksFor [vR 0, vI a1] P Q := by
  refine Ct.of (by decide) (l0 := [(0, vR 0), (1, vI a1)]) rfl (Nat.le_of_ble_eq_true rfl) ?_
  refine g_aload_n dX12_asksFor_0 rfl ?_
  refine m_g75 rfl dX12_asksFor_1 ?_
  refine g_iload_n dX12_asksFor_4 rfl ?_
  refine m_l49 (z := (P 49 a1)) dX12_asksFor_5 ⟨by omega, by omega⟩ rfl ?_
  refine g_iconst dX12_asksFor_6 ?_
  refine g_ishr dX12_asksFor_7 ?_
  refine g_nm (fun b1 e_b1 => ?_)
  have h_b1 : (ishr (P 49 a1) 3) = (P 49 a1) / 8 := ishr_c 3 (by decide) (x := (P 49 a1)) ⟨by have q0 := bl_49 (k := a1) hB; omega, by have q0 := bl_49 (k := a1) hB; omega⟩
  rw [← e_b1] at h_b1
  have f_b1_0 := bl_49 (k := a1) hB
  refine g_aload_n dX12_asksFor_8 rfl ?_
  refine m_g74 (z := (P 0 74)) rfl dX12_asksFor_9 rfl ?_
  have f2 := b0_74 hB
  refine g_icmp_ne (tgt := 25) dX12_asksFor_12 (by decide) ⟨by omega, by omega⟩ ⟨by have q0 := b0_74 hB; omega, by have q0 := b0_74 hB; omega⟩ (fun k3 => ?_) (fun k3 => ?_)
  · refine g_iload_n dX12_asksFor_25 rfl ?_
    refine g_sI (av := [vI a1]) (st := []) (m_X12_armsIn G P a1 ⟨by omega, by omega⟩ hB  _ (fun rc4 hc4 gc4_v => ⟨rc4, rfl, ?_⟩)) cf_X12_armsIn t_2017 rfl (Nat.le_of_ble_eq_true rfl) (by decide) rfl dX12_asksFor_26
    refine g_istore_n (l1 := [(2, vI rc4), (0, vR 0), (1, vI a1)]) dX12_asksFor_29 (by decide) rfl ?_
    refine g_iload_n dX12_asksFor_30 rfl ?_
    refine g_sI (av := [vI rc4]) (st := []) (m_X12_lowest G P rc4 ⟨by omega, by omega⟩ hB  _ (fun rc5 hc5 gc5_l gc5_b => ⟨rc5, rfl, ?_⟩)) cf_X12_lowest t_1927 rfl (Nat.le_of_ble_eq_true rfl) (by decide) rfl dX12_asksFor_31
    refine g_istore_n (l1 := [(3, vI rc5), (2, vI rc4), (0, vR 0), (1, vI a1)]) dX12_asksFor_34 (by decide) rfl ?_
    refine g_iconst dX12_asksFor_35 ?_
    refine g_istore (l1 := [(4, vI 4), (3, vI rc5), (2, vI rc4), (0, vR 0), (1, vI a1)]) dX12_asksFor_36 (by decide) rfl ?_
    refine g_iconst dX12_asksFor_38 ?_
    refine g_istore (l1 := [(5, vI 0), (4, vI 4), (3, vI rc5), (2, vI rc4), (0, vR 0), (1, vI a1)]) dX12_asksFor_39 (by decide) rfl ?_
    refine g_iconst dX12_asksFor_41 ?_
    refine g_istore (l1 := [(6, vI 0), (5, vI 0), (4, vI 4), (3, vI rc5), (2, vI rc4), (0, vR 0), (1, vI a1)]) dX12_asksFor_42 (by decide) rfl ?_
    have L44_5 : ∀ (n44_5 : Nat) (x44_6_5 : Int) (h_x44_6_5 : 0 ≤ x44_6_5 ∧ x44_6_5 ≤ 4) (x44_5_5 : Int) (h_x44_5_5 : (-2147483648) ≤ x44_5_5 ∧ x44_5_5 ≤ 2147483647) (x44_4_5 : Int) (h_x44_4_5 : 0 ≤ x44_4_5 ∧ x44_4_5 ≤ 4) (H44_5 : PH) (hB44_5 : BdM H44_5) (hE44_5 : FrM ([78], [50]) P H44_5) (i44_0_5 : x44_4_5 = 4 ∨ iand (ishr (a1 / 4096) x44_4_5) 1 = 1) (hm44_5 : ((5 - x44_6_5) : Int).toNat < n44_5), Go WSM G 3 iX12_asksFor 44 [(0, vR 0), (1, vI a1), (2, vI rc4), (3, vI rc5), (4, vI x44_4_5), (5, vI x44_5_5), (6, vI x44_6_5)] [] H44_5 Q := by
      intro n44_5
      induction n44_5 with
      | zero => intro x44_6_5 h_x44_6_5 x44_5_5 h_x44_5_5 x44_4_5 h_x44_4_5 H44_5 hB44_5 hE44_5 i44_0_5 hm44_5; exact absurd hm44_5 (Nat.not_lt_zero _)
      | succ n44_5 ih44_5 =>
      intro x44_6_5 h_x44_6_5 x44_5_5 h_x44_5_5 x44_4_5 h_x44_4_5 H44_5 hB44_5 hE44_5 i44_0_5 hm44_5
      refine g_iload dX12_asksFor_44 rfl ?_
      refine g_aload_n dX12_asksFor_46 rfl ?_
      refine g_vI (av := []) (o := 0) (st := [vI x44_6_5]) (m_X12_columns G H44_5  hB44_5  _ (fun rc254 hc254 gc254_c => ⟨rc254, rfl, ?_⟩)) cf_X12_columns t_1827 rfl (by decide) rfl rfl rfl (Nat.le_of_ble_eq_true rfl) (by decide) rfl dX12_asksFor_47
      have z255 : H44_5 0 13 = (P 0 13) := ((hE44_5.1 13 rfl).trans rfl)
      refine g_icmp_ge (tgt := 127) dX12_asksFor_50 (by decide) ⟨by omega, by omega⟩ ⟨by omega, by omega⟩ (fun k256 => ?_) (fun k256 => ?_)
      · refine g_aload_n dX12_asksFor_127 rfl ?_
        refine m_g75 rfl dX12_asksFor_128 ?_
        refine g_iload_n dX12_asksFor_131 rfl ?_
        refine g_aload_n dX12_asksFor_132 rfl ?_
        refine m_g74 (z := (P 0 74)) rfl dX12_asksFor_133 ((hE44_5.1 74 rfl).trans rfl) ?_
        refine g_iconst dX12_asksFor_136 ?_
        refine g_ishl dX12_asksFor_137 ?_
        refine g_nm (fun b257 e_b257 => ?_)
        have h_b257 : (ishl (P 0 74) 3) = (P 0 74) * 8 := ishl_c 3 (by decide) (x := (P 0 74)) (show IR ((P 0 74) * 8) from ⟨by have q0 := b0_74 hB; omega, by have q0 := b0_74 hB; omega⟩)
        rw [← e_b257] at h_b257
        have f_b257_0 := b0_74 hB
        refine g_iload dX12_asksFor_138 rfl ?_
        refine g_ior dX12_asksFor_140 ?_
        refine g_nm (fun b258 e_b258 => ?_)
        have h_b258 := ior_ir b257 x44_4_5
        rw [← e_b258] at h_b258
        have hz9 : b258 = 8 * (P 0 74) + x44_4_5 := by
          have q := b0_74 hB
          have q1 := ior_hl3 (x := x44_4_5) (y := (P 0 74)) ⟨by omega, by omega⟩ (by omega) (by omega)
          rw [e_b258, h_b257]
          omega
        refine m_s49 dX12_asksFor_141 ⟨by omega, by omega⟩ ?_
        have hB259 := ba_49 (z := b258) (k := a1) hB44_5 ⟨by omega, by omega⟩
        have iv260 : MV (up H44_5 49 a1 b258) := MV.set (F := ([78], [50])) (b := x44_4_5) v_MV (FrM.c FrM.rf hE44_5 rfl) rfl hz9 ⟨by omega, by omega⟩ (b0_74 hB).1 (by unfold mok; omega)
        refine g_iload dX12_asksFor_142 rfl ?_
        exact g_retI dX12_asksFor_144 rfl (hQ x44_4_5 ⟨by omega, by omega⟩ _ hB259 (FrM.a (FrM.c FrM.rf hE44_5 rfl) rfl rfl) (by omega) iv260)
      · refine g_iload_n dX12_asksFor_53 rfl ?_
        refine g_iconst dX12_asksFor_54 ?_
        refine g_icmp_eq (tgt := 127) dX12_asksFor_55 (by decide) ⟨by omega, by omega⟩ (by decide) (fun k261 => ?_) (fun k261 => ?_)
        · refine g_aload_n dX12_asksFor_127 rfl ?_
          refine m_g75 rfl dX12_asksFor_128 ?_
          refine g_iload_n dX12_asksFor_131 rfl ?_
          refine g_aload_n dX12_asksFor_132 rfl ?_
          refine m_g74 (z := (P 0 74)) rfl dX12_asksFor_133 ((hE44_5.1 74 rfl).trans rfl) ?_
          refine g_iconst dX12_asksFor_136 ?_
          refine g_ishl dX12_asksFor_137 ?_
          refine g_nm (fun b262 e_b262 => ?_)
          have h_b262 : (ishl (P 0 74) 3) = (P 0 74) * 8 := ishl_c 3 (by decide) (x := (P 0 74)) (show IR ((P 0 74) * 8) from ⟨by have q0 := b0_74 hB; omega, by have q0 := b0_74 hB; omega⟩)
          rw [← e_b262] at h_b262
          have f_b262_0 := b0_74 hB
          refine g_iload dX12_asksFor_138 rfl ?_
          refine g_ior dX12_asksFor_140 ?_
          refine g_nm (fun b263 e_b263 => ?_)
          have h_b263 := ior_ir b262 x44_4_5
          rw [← e_b263] at h_b263
          have hz9 : b263 = 8 * (P 0 74) + x44_4_5 := by
            have q := b0_74 hB
            have q1 := ior_hl3 (x := x44_4_5) (y := (P 0 74)) ⟨by omega, by omega⟩ (by omega) (by omega)
            rw [e_b263, h_b262]
            omega
          refine m_s49 dX12_asksFor_141 ⟨by omega, by omega⟩ ?_
          have hB264 := ba_49 (z := b263) (k := a1) hB44_5 ⟨by omega, by omega⟩
          have iv265 : MV (up H44_5 49 a1 b263) := MV.set (F := ([78], [50])) (b := x44_4_5) v_MV (FrM.c FrM.rf hE44_5 rfl) rfl hz9 ⟨by omega, by omega⟩ (b0_74 hB).1 (by unfold mok; omega)
          refine g_iload dX12_asksFor_142 rfl ?_
          exact g_retI dX12_asksFor_144 rfl (hQ x44_4_5 ⟨by omega, by omega⟩ _ hB264 (FrM.a (FrM.c FrM.rf hE44_5 rfl) rfl rfl) (by omega) iv265)
        · refine g_iload_n dX12_asksFor_58 rfl ?_
          refine g_sI (av := [vI a1]) (st := []) (m_X12_columnsIn G H44_5 a1 ⟨by omega, by omega⟩ hB44_5  _ (fun rc266 hc266 gc266_v => ⟨rc266, rfl, ?_⟩)) cf_X12_columnsIn t_2024 rfl (Nat.le_of_ble_eq_true rfl) (by decide) rfl dX12_asksFor_59
          have hcol := gc266_v
          refine g_iload dX12_asksFor_62 rfl ?_
          refine g_ishr dX12_asksFor_64 ?_
          refine g_nm (fun b267 e_b267 => ?_)
          have h_b267 := ishr_ir rc266 x44_6_5
          rw [← e_b267] at h_b267
          refine g_iconst dX12_asksFor_65 ?_
          refine g_iand dX12_asksFor_66 ?_
          refine g_nm (fun b268 e_b268 => ?_)
          have h_b268 := iand_r (x := b267) (y := 1) ⟨by omega, by omega⟩
          rw [← e_b268] at h_b268
          have hz := e_b268
          rw [e_b267, hcol] at hz
          have J121_278 : ∀ (x121_4_278 : Int) (h_x121_4_278 : 0 ≤ x121_4_278 ∧ x121_4_278 ≤ 4) (x121_5_278 : Int) (h_x121_5_278 : (-2147483648) ≤ x121_5_278 ∧ x121_5_278 ≤ 2147483647) (H121_278 : PH) (hB121_278 : BdM H121_278) (hE121_278 : FrM ([78], [50]) H44_5 H121_278) (i121_0_278 : x121_4_278 = 4 ∨ iand (ishr (a1 / 4096) x121_4_278) 1 = 1), Go WSM G 3 iX12_asksFor 121 [(0, vR 0), (1, vI a1), (2, vI rc4), (3, vI rc5), (4, vI x121_4_278), (5, vI x121_5_278), (6, vI x44_6_5)] [] H121_278 Q := by
            intro x121_4_278 h_x121_4_278 x121_5_278 h_x121_5_278 H121_278 hB121_278 hE121_278 i121_0_278
            refine g_iinc (l1 := [(6, vI (x44_6_5 + 1)), (0, vR 0), (1, vI a1), (2, vI rc4), (3, vI rc5), (4, vI x121_4_278), (5, vI x121_5_278)]) dX12_asksFor_121 rfl (by decide) rfl ?_
            refine g_goto (tgt := 44) dX12_asksFor_124 (by decide) ?_
            refine g_forget (l1 := [(0, vR 0), (1, vI a1), (2, vI rc4), (3, vI rc5), (4, vI x121_4_278), (5, vI x121_5_278), (6, vI (x44_6_5 + 1))]) (by intro q hq; simp only [List.mem_cons, List.not_mem_nil, or_false] at hq ⊢; rcases hq with rfl | rfl | rfl | rfl | rfl | rfl | rfl <;> simp) ?_
            exact ih44_5 (x44_6_5 + 1) ⟨by omega, by omega⟩ x121_5_278 ⟨by omega, by omega⟩ x121_4_278 ⟨by omega, by omega⟩ _ hB121_278 (FrM.c (FrM.c FrM.rf hE44_5 rfl) hE121_278 rfl) (by omega) (by omega)
          refine g_if_eq (tgt := 121) dX12_asksFor_67 (by decide) ⟨by omega, by omega⟩ (fun k280 => ?_) (fun k280 => ?_)
          · refine g_forget (l1 := [(0, vR 0), (1, vI a1), (2, vI rc4), (3, vI rc5), (4, vI x44_4_5), (5, vI x44_5_5), (6, vI x44_6_5)]) (by intro q hq; simp only [List.mem_cons, List.not_mem_nil, or_false] at hq ⊢; rcases hq with rfl | rfl | rfl | rfl | rfl | rfl | rfl <;> simp) ?_
            exact J121_278 x44_4_5 ⟨by omega, by omega⟩ x44_5_5 ⟨by omega, by omega⟩ _ hB44_5 FrM.rf (by omega)
          · refine g_aload_n dX12_asksFor_70 rfl ?_
            refine m_g64 rfl dX12_asksFor_71 ?_
            refine g_iload dX12_asksFor_74 rfl ?_
            refine m_l42 (z := (P 42 x44_6_5)) dX12_asksFor_76 ⟨by omega, by omega⟩ ((congrFun (hE44_5.2 42 rfl rfl) _).trans rfl) ?_
            refine g_iload_n dX12_asksFor_77 rfl ?_
            refine g_ishr dX12_asksFor_78 ?_
            refine g_nm (fun b281 e_b281 => ?_)
            have h_b281 := ishr_ir (P 42 x44_6_5) rc5
            rw [← e_b281] at h_b281
            have f_b281_0 := bl_42 (k := x44_6_5) hB
            refine g_iconst dX12_asksFor_79 ?_
            refine g_iand dX12_asksFor_80 ?_
            refine g_nm (fun b282 e_b282 => ?_)
            have h_b282 := iand_r (x := b281) (y := 1) ⟨by omega, by omega⟩
            rw [← e_b282] at h_b282
            refine g_iconst dX12_asksFor_81 ?_
            refine g_icmp_ne (tgt := 88) dX12_asksFor_82 (by decide) ⟨by omega, by omega⟩ (by decide) (fun k283 => ?_) (fun k283 => ?_)
            · refine g_aload_n dX12_asksFor_88 rfl ?_
              refine g_iload_n dX12_asksFor_89 rfl ?_
              refine g_iload dX12_asksFor_90 rfl ?_
              refine g_vI (av := [vI rc4, vI x44_6_5]) (o := 0) (st := []) (m_X12_worthOf G H44_5 rc4 x44_6_5 ⟨by omega, by omega⟩ ⟨by omega, by omega⟩ hB44_5  _ (fun rc284 hc284 Pc284 hBc284 hFc284 => ⟨rc284, rfl, ?_⟩)) cf_X12_worthOf t_2027 rfl (by decide) rfl rfl rfl (Nat.le_of_ble_eq_true rfl) (by decide) rfl dX12_asksFor_92
              refine g_istore (l1 := [(7, vI rc284), (0, vR 0), (1, vI a1), (2, vI rc4), (3, vI rc5), (4, vI x44_4_5), (5, vI x44_5_5), (6, vI x44_6_5)]) dX12_asksFor_95 (by decide) rfl ?_
              refine g_iload dX12_asksFor_97 rfl ?_
              refine g_iconst dX12_asksFor_99 ?_
              have J113_286 : ∀ (_ : True), Go WSM G 3 iX12_asksFor 113 [(0, vR 0), (1, vI a1), (2, vI rc4), (3, vI rc5), (6, vI x44_6_5), (7, vI rc284)] [] Pc284 Q := by
                intro _
                refine g_iload dX12_asksFor_113 rfl ?_
                refine g_istore (l1 := [(4, vI x44_6_5), (0, vR 0), (1, vI a1), (2, vI rc4), (3, vI rc5), (6, vI x44_6_5), (7, vI rc284)]) dX12_asksFor_115 (by decide) rfl ?_
                refine g_iload dX12_asksFor_117 rfl ?_
                refine g_istore (l1 := [(5, vI rc284), (4, vI x44_6_5), (0, vR 0), (1, vI a1), (2, vI rc4), (3, vI rc5), (6, vI x44_6_5), (7, vI rc284)]) dX12_asksFor_119 (by decide) rfl ?_
                refine g_forget (l1 := [(0, vR 0), (1, vI a1), (2, vI rc4), (3, vI rc5), (4, vI x44_6_5), (5, vI rc284), (6, vI x44_6_5)]) (by intro q hq; simp only [List.mem_cons, List.not_mem_nil, or_false] at hq ⊢; rcases hq with rfl | rfl | rfl | rfl | rfl | rfl | rfl <;> simp) ?_
                exact J121_278 x44_6_5 ⟨by omega, by omega⟩ rc284 ⟨by omega, by omega⟩ _ hBc284 (FrM.c FrM.rf hFc284 rfl) (by omega)
              refine g_icmp_eq (tgt := 113) dX12_asksFor_100 (by decide) ⟨by omega, by omega⟩ (by decide) (fun k288 => ?_) (fun k288 => ?_)
              · refine g_forget (l1 := [(0, vR 0), (1, vI a1), (2, vI rc4), (3, vI rc5), (6, vI x44_6_5), (7, vI rc284)]) (by intro q hq; simp only [List.mem_cons, List.not_mem_nil, or_false] at hq ⊢; rcases hq with rfl | rfl | rfl | rfl | rfl | rfl <;> simp) ?_
                exact J113_286 trivial
              · refine g_iload dX12_asksFor_103 rfl ?_
                refine g_iload dX12_asksFor_105 rfl ?_
                refine g_icmp_gt (tgt := 113) dX12_asksFor_107 (by decide) ⟨by omega, by omega⟩ ⟨by omega, by omega⟩ (fun k289 => ?_) (fun k289 => ?_)
                · refine g_forget (l1 := [(0, vR 0), (1, vI a1), (2, vI rc4), (3, vI rc5), (6, vI x44_6_5), (7, vI rc284)]) (by intro q hq; simp only [List.mem_cons, List.not_mem_nil, or_false] at hq ⊢; rcases hq with rfl | rfl | rfl | rfl | rfl | rfl <;> simp) ?_
                  exact J113_286 trivial
                · refine g_goto (tgt := 121) dX12_asksFor_110 (by decide) ?_
                  refine g_forget (l1 := [(0, vR 0), (1, vI a1), (2, vI rc4), (3, vI rc5), (4, vI x44_4_5), (5, vI x44_5_5), (6, vI x44_6_5)]) (by intro q hq; simp only [List.mem_cons, List.not_mem_nil, or_false] at hq ⊢; rcases hq with rfl | rfl | rfl | rfl | rfl | rfl | rfl <;> simp) ?_
                  exact J121_278 x44_4_5 ⟨by omega, by omega⟩ x44_5_5 ⟨by omega, by omega⟩ _ hBc284 (FrM.c FrM.rf hFc284 rfl) (by omega)
            · refine g_goto (tgt := 121) dX12_asksFor_85 (by decide) ?_
              refine g_forget (l1 := [(0, vR 0), (1, vI a1), (2, vI rc4), (3, vI rc5), (4, vI x44_4_5), (5, vI x44_5_5), (6, vI x44_6_5)]) (by intro q hq; simp only [List.mem_cons, List.not_mem_nil, or_false] at hq ⊢; rcases hq with rfl | rfl | rfl | rfl | rfl | rfl | rfl <;> simp) ?_
              exact J121_278 x44_4_5 ⟨by omega, by omega⟩ x44_5_5 ⟨by omega, by omega⟩ _ hB44_5 FrM.rf (by omega)
    refine g_forget (l1 := [(0, vR 0), (1, vI a1), (2, vI rc4), (3, vI rc5), (4, vI 4), (5, vI 0), (6, vI 0)]) (by intro q hq; simp only [List.mem_cons, List.not_mem_nil, or_false] at hq ⊢; rcases hq with rfl | rfl | rfl | rfl | rfl | rfl | rfl <;> simp) ?_
    exact L44_5 _ 0 (by decide) 0 (by decide) 4 (by decide) _ hB FrM.rf (by omega) (Nat.lt_succ_self _)
  · refine g_aload_n dX12_asksFor_15 rfl ?_
    refine m_g75 rfl dX12_asksFor_16 ?_
    refine g_iload_n dX12_asksFor_19 rfl ?_
    refine m_l49 (z := (P 49 a1)) dX12_asksFor_20 ⟨by omega, by omega⟩ rfl ?_
    refine g_bipush dX12_asksFor_21 (by decide) ?_
    refine g_iand dX12_asksFor_23 ?_
    refine g_nm (fun b290 e_b290 => ?_)
    have h_b290 := iand_r (x := (P 49 a1)) (y := 7) ⟨by omega, by omega⟩
    rw [← e_b290] at h_b290
    have h8 : b290 = (P 49 a1) % 8 := by rw [e_b290]; have q := bl_49 (k := a1) hB; exact iand7 ⟨(v_MV a1).1, q.2⟩
    have hm := (v_MV a1).2.2 (by omega)
    rw [← h8] at hm
    unfold mok at hm
    exact g_retI dX12_asksFor_24 rfl (hQ b290 ⟨by omega, by omega⟩ _ hB FrM.rf (by omega) v_MV)
set_option maxRecDepth 100000 in
set_option maxHeartbeats 4000000 in
theorem m_X12_throughDoor (G : GT) (P : PH) (a1 : Int) (h_a1 : 0 ≤ a1 ∧ a1 ≤ 65535) (hB : BdM P) (Q : Option PV → PH → Prop) (hQ : ∀ (r : Int) (_ : 0 ≤ r ∧ r ≤ 65535) (_ : a1 % 4096 = 0 ∨ r < a1) (_ : r ≤ a1) (_ : a1 % 4096 = 0 ∨ wgt r + 1 ≤ wgt a1), Q (some (vI r)) P) : Ct WSM G 2 iX12_throughDoor [vI a1] P Q := by
  refine Ct.of (by decide) (l0 := [(0, vI a1)]) rfl (Nat.le_of_ble_eq_true rfl) ?_
  refine g_iload_n dX12_throughDoor_0 rfl ?_
  refine g_sI (av := [vI a1]) (st := []) (m_X12_armsIn G P a1 ⟨by omega, by omega⟩ hB  _ (fun rc1 hc1 gc1_v => ⟨rc1, rfl, ?_⟩)) cf_X12_armsIn t_2017 rfl (Nat.le_of_ble_eq_true rfl) (by decide) rfl dX12_throughDoor_1
  refine g_iload_n dX12_throughDoor_4 rfl ?_
  refine g_sI (av := [vI a1]) (st := [vI rc1]) (m_X12_armsIn G P a1 ⟨by omega, by omega⟩ hB  _ (fun rc2 hc2 gc2_v => ⟨rc2, rfl, ?_⟩)) cf_X12_armsIn t_2017 rfl (Nat.le_of_ble_eq_true rfl) (by decide) rfl dX12_throughDoor_5
  refine g_iconst dX12_throughDoor_8 ?_
  refine g_isub dX12_throughDoor_9 ?_
  refine g_iand dX12_throughDoor_10 ?_
  refine g_nm (fun b3 e_b3 => ?_)
  have h_b3 := iand_l (x := rc1) (y := (rc2 - 1)) ⟨by omega, by omega⟩
  rw [← e_b3] at h_b3
  have hd : 0 < rc1 → b3 ≤ (rc2 - 1) := fun h0 => by rw [e_b3]; exact (iand_r (x := rc1) (y := (rc2 - 1)) ⟨by omega, by omega⟩).2
  have hq9 : a1 % 4096 = 0 ∨ pop b3 + 1 ≤ pop (a1 % 4096) := by
    rcases (show a1 % 4096 = 0 ∨ 1 ≤ a1 % 4096 by omega) with h9 | h9
    · exact Or.inl h9
    · right; rw [e_b3, show rc1 = a1 % 4096 by omega, show (rc2 - 1) = a1 % 4096 - 1 by omega]; exact pop_low ⟨by omega, by omega⟩
  refine g_iload_n dX12_throughDoor_11 rfl ?_
  refine g_sI (av := [vI a1]) (st := [vI b3]) (m_X12_columnsIn G P a1 ⟨by omega, by omega⟩ hB  _ (fun rc4 hc4 gc4_v => ⟨rc4, rfl, ?_⟩)) cf_X12_columnsIn t_2024 rfl (Nat.le_of_ble_eq_true rfl) (by decide) rfl dX12_throughDoor_12
  have hcols := gc4_v
  refine g_sI (av := [vI b3, vI rc4]) (st := []) (m_X12_leftOf G P b3 rc4 ⟨by omega, by omega⟩ ⟨by omega, by omega⟩ hB  _ (fun rc5 hc5 gc5_v => ⟨rc5, rfl, ?_⟩)) cf_X12_leftOf t_2014 rfl (Nat.le_of_ble_eq_true rfl) (by decide) rfl dX12_throughDoor_15
  have hwl : a1 % 4096 = 0 ∨ wgt rc5 + 1 ≤ wgt a1 := by
    rcases hq9 with h9 | h9
    · exact Or.inl h9
    · right; rw [wgt_of (gc5_v) ⟨by omega, by omega⟩, hcols]; unfold wgt; omega
  exact g_retI dX12_throughDoor_18 rfl (hQ rc5 ⟨by omega, by omega⟩ (by omega) (by omega) (by omega))
set_option maxRecDepth 100000 in
set_option maxHeartbeats 4000000 in
theorem m_X12_branchOf (G : GT) (P : PH) (a1 : Int) (a2 : Int) (a3 : Int) (h_a1 : 0 ≤ a1 ∧ a1 ≤ 65535) (h_a2 : 0 ≤ a2 ∧ a2 ≤ 3) (h_a3 : 0 ≤ a3 ∧ a3 ≤ 4095) (hB : BdM P) (Q : Option PV → PH → Prop) (hQ : ∀ (r : Int) (_ : 0 ≤ r ∧ r ≤ 65535) (_ : iand (ishr (a1 / 4096) a2) 1 ≠ 1 ∨ r < a1) (_ : r ≤ a1) (_ : iand (ishr (a1 / 4096) a2) 1 ≠ 1 ∨ wgt r + 1 ≤ wgt a1), Q (some (vI r)) P) : Ct WSM G 2 iX12_branchOf [vR 0, vI a1, vI a2, vI a3] P Q := by
  refine Ct.of (by decide) (l0 := [(0, vR 0), (1, vI a1), (2, vI a2), (3, vI a3)]) rfl (Nat.le_of_ble_eq_true rfl) ?_
  refine g_iload_n dX12_branchOf_0 rfl ?_
  refine g_sI (av := [vI a1]) (st := []) (m_X12_armsIn G P a1 ⟨by omega, by omega⟩ hB  _ (fun rc1 hc1 gc1_v => ⟨rc1, rfl, ?_⟩)) cf_X12_armsIn t_2017 rfl (Nat.le_of_ble_eq_true rfl) (by decide) rfl dX12_branchOf_1
  refine g_iload_n dX12_branchOf_4 rfl ?_
  refine g_iand dX12_branchOf_5 ?_
  refine g_nm (fun b2 e_b2 => ?_)
  have h_b2 := iand_l (x := rc1) (y := a3) ⟨by omega, by omega⟩
  rw [← e_b2] at h_b2
  have hpa : pop b2 ≤ pop (a1 % 4096) := by rw [e_b2, show rc1 = a1 % 4096 by omega]; exact pop_and ⟨by omega, by omega⟩ ⟨by omega, by omega⟩
  refine g_iload_n dX12_branchOf_6 rfl ?_
  refine g_sI (av := [vI a1]) (st := [vI b2]) (m_X12_columnsIn G P a1 ⟨by omega, by omega⟩ hB  _ (fun rc3 hc3 gc3_v => ⟨rc3, rfl, ?_⟩)) cf_X12_columnsIn t_2024 rfl (Nat.le_of_ble_eq_true rfl) (by decide) rfl dX12_branchOf_7
  have hcol := gc3_v
  refine g_iconst dX12_branchOf_10 ?_
  refine g_iload_n dX12_branchOf_11 rfl ?_
  refine g_ishl dX12_branchOf_12 ?_
  refine g_nm (fun b4 e_b4 => ?_)
  have h_b4 : 1 ≤ (ishl 1 a2) ∧ (ishl 1 a2) ≤ 8 := (ishl1 3 (by decide) (y := a2) ⟨by omega, by omega⟩).2
  rw [← e_b4] at h_b4
  refine g_iconst dX12_branchOf_13 ?_
  refine g_ixor dX12_branchOf_14 ?_
  refine g_nm (fun b5 e_b5 => ?_)
  have h_b5 := ixor_ir b4 (-1)
  rw [← e_b5] at h_b5
  refine g_iand dX12_branchOf_15 ?_
  refine g_nm (fun b6 e_b6 => ?_)
  have h_b6 := iand_l (x := rc3) (y := b5) ⟨by omega, by omega⟩
  rw [← e_b6] at h_b6
  have hp9 : iand (ishr (a1 / 4096) a2) 1 = 1 → pop b6 + 1 ≤ pop (a1 / 4096) := fun q => by
    rw [e_b6, e_b5, e_b4, hcol]
    exact pop_clr ⟨by omega, by omega⟩ ⟨by omega, by omega⟩ q
  have hb : iand (ishr (a1 / 4096) a2) 1 = 1 → b6 ≤ rc3 - 1 := fun q => by
    rw [e_b6, e_b5, e_b4]
    exact bclr ⟨by omega, by omega⟩ ⟨by omega, by omega⟩ (by rw [hcol]; exact q)
  refine g_sI (av := [vI b2, vI b6]) (st := []) (m_X12_leftOf G P b2 b6 ⟨by omega, by omega⟩ ⟨by omega, by omega⟩ hB  _ (fun rc7 hc7 gc7_v => ⟨rc7, rfl, ?_⟩)) cf_X12_leftOf t_2014 rfl (Nat.le_of_ble_eq_true rfl) (by decide) rfl dX12_branchOf_16
  have hwl : iand (ishr (a1 / 4096) a2) 1 ≠ 1 ∨ wgt rc7 + 1 ≤ wgt a1 := by
    rcases Classical.em (iand (ishr (a1 / 4096) a2) 1 = 1) with h9 | h9
    · right; have h8 := hp9 h9; rw [wgt_of (gc7_v) ⟨by omega, by omega⟩]; unfold wgt; omega
    · exact Or.inl h9
  exact g_retI dX12_branchOf_19 rfl (hQ rc7 ⟨by omega, by omega⟩ (by omega) (by omega) (by omega))
set_option maxRecDepth 100000 in
set_option maxHeartbeats 4000000 in
theorem m_X12_isDoor (G : GT) (P : PH) (a1 : Int) (h_a1 : 0 ≤ a1 ∧ a1 ≤ 65535) (hB : BdM P) (v_MV : MV P) (Q : Option PV → PH → Prop) (hQ : ∀ (r : Int) (_ : 0 ≤ r ∧ r ≤ 1) (P1 : PH) (_ : BdM P1) (_ : FrM ([78], [49, 50]) P P1) (_ : r = 0 ∨ a1 % 4096 ≠ 0) (_ : MV P1), Q (some (vI r)) P1) : Ct WSM G 4 iX12_isDoor [vR 0, vI a1] P Q := by
  refine Ct.of (by decide) (l0 := [(0, vR 0), (1, vI a1)]) rfl (Nat.le_of_ble_eq_true rfl) ?_
  refine g_iload_n dX12_isDoor_0 rfl ?_
  refine g_sI (av := [vI a1]) (st := []) (m_X12_armsIn G P a1 ⟨by omega, by omega⟩ hB  _ (fun rc1 hc1 gc1_v => ⟨rc1, rfl, ?_⟩)) cf_X12_armsIn t_2017 rfl (Nat.le_of_ble_eq_true rfl) (by decide) rfl dX12_isDoor_1
  refine g_if_eq (tgt := 36) dX12_isDoor_4 (by decide) ⟨by omega, by omega⟩ (fun k2 => ?_) (fun k2 => ?_)
  · refine g_iconst dX12_isDoor_36 ?_
    exact g_retZ dX12_isDoor_37 rfl (by decide) (hQ 0 (by decide) _ hB FrM.rf (by omega) v_MV)
  · refine g_aload_n dX12_isDoor_7 rfl ?_
    refine g_iload_n dX12_isDoor_8 rfl ?_
    refine g_vI (av := [vI a1]) (o := 0) (st := []) (m_X12_asksFor G P a1 ⟨by omega, by omega⟩ hB v_MV _ (fun rc3 hc3 Pc3 hBc3 hFc3 gc3_b vc3_MV => ⟨rc3, rfl, ?_⟩)) cf_X12_asksFor t_2020 rfl (by decide) rfl rfl rfl (Nat.le_of_ble_eq_true rfl) (by decide) rfl dX12_isDoor_9
    refine g_iconst dX12_isDoor_12 ?_
    refine g_icmp_ne (tgt := 36) dX12_isDoor_13 (by decide) ⟨by omega, by omega⟩ (by decide) (fun k4 => ?_) (fun k4 => ?_)
    · refine g_iconst dX12_isDoor_36 ?_
      exact g_retZ dX12_isDoor_37 rfl (by decide) (hQ 0 (by decide) _ hBc3 (FrM.c FrM.rf hFc3 rfl) (by omega) vc3_MV)
    · refine g_aload_n dX12_isDoor_16 rfl ?_
      refine m_g65 rfl dX12_isDoor_17 ?_
      refine g_iload_n dX12_isDoor_20 rfl ?_
      refine g_sI (av := [vI a1]) (st := [vR 43]) (m_X12_armsIn G Pc3 a1 ⟨by omega, by omega⟩ hBc3  _ (fun rc5 hc5 gc5_v => ⟨rc5, rfl, ?_⟩)) cf_X12_armsIn t_2017 rfl (Nat.le_of_ble_eq_true rfl) (by decide) rfl dX12_isDoor_21
      refine g_sI (av := [vI rc5]) (st := [vR 43]) (m_X12_lowest G Pc3 rc5 ⟨by omega, by omega⟩ hBc3  _ (fun rc6 hc6 gc6_l gc6_b => ⟨rc6, rfl, ?_⟩)) cf_X12_lowest t_1927 rfl (Nat.le_of_ble_eq_true rfl) (by decide) rfl dX12_isDoor_24
      refine m_l43 (z := (P 43 rc6)) dX12_isDoor_27 ⟨by omega, by omega⟩ ((congrFun (hFc3.2 43 rfl rfl) _).trans rfl) ?_
      refine g_iconst dX12_isDoor_28 ?_
      have f7 := bl_43 (k := rc6) hB
      refine g_icmp_eq (tgt := 36) dX12_isDoor_29 (by decide) ⟨by have q0 := bl_43 (k := rc6) hB; omega, by have q0 := bl_43 (k := rc6) hB; omega⟩ (by decide) (fun k8 => ?_) (fun k8 => ?_)
      · refine g_iconst dX12_isDoor_36 ?_
        exact g_retZ dX12_isDoor_37 rfl (by decide) (hQ 0 (by decide) _ hBc3 (FrM.c FrM.rf hFc3 rfl) (by omega) vc3_MV)
      · refine g_iconst dX12_isDoor_32 ?_
        refine g_goto (tgt := 37) dX12_isDoor_33 (by decide) ?_
        exact g_retZ dX12_isDoor_37 rfl (by decide) (hQ 1 (by decide) _ hBc3 (FrM.c FrM.rf hFc3 rfl) (by omega) vc3_MV)
set_option maxRecDepth 100000 in
set_option maxHeartbeats 4000000 in
theorem m_X12_testsFor (G : GT) (P : PH) (a1 : Int) (a2 : Int) (h_a1 : 0 ≤ a1 ∧ a1 ≤ 2147483647) (h_a2 : (-2147483648) ≤ a2 ∧ a2 ≤ 2147483647) (hB : BdM P) (v_okC : okC P) (v_MV : MV P) (Q : Option PV → PH → Prop) (hQ : ∀ (r : Int) (_ : 0 ≤ r ∧ r ≤ 65535) (P1 : PH) (_ : BdM P1) (_ : FrM ([78], [44, 49, 50]) P P1) (_ : MV P1), Q (some (vI r)) P1) : Ct WSM G 4 iX12_testsFor [vR 0, vI a1, vI a2] P Q := by
  refine Ct.of (by decide) (l0 := [(0, vR 0), (1, vI a1), (2, vI a2)]) rfl (Nat.le_of_ble_eq_true rfl) ?_
  refine g_aload_n dX12_testsFor_0 rfl ?_
  refine g_iload_n dX12_testsFor_1 rfl ?_
  refine g_vV (av := [vI a1]) (o := 0) (st := []) (m_X12_valuesIn G P a1 ⟨by omega, by omega⟩ hB v_okC _ (fun Pc1 hBc1 hFc1 gc1_vv => ⟨rfl, ?_⟩)) cf_X12_valuesIn t_1903 rfl (by decide) rfl rfl rfl (Nat.le_of_ble_eq_true rfl) (by decide) rfl dX12_testsFor_2
  refine g_aload_n dX12_testsFor_5 rfl ?_
  refine g_vI (av := []) (o := 0) (st := []) (m_X12_root G Pc1  hBc1  _ (fun rc2 hc2 => ⟨rc2, rfl, ?_⟩)) cf_X12_root t_2010 rfl (by decide) rfl rfl rfl (Nat.le_of_ble_eq_true rfl) (by decide) rfl dX12_testsFor_6
  refine g_istore_n (l1 := [(3, vI rc2), (0, vR 0), (1, vI a1), (2, vI a2)]) dX12_testsFor_9 (by decide) rfl ?_
  refine g_iconst dX12_testsFor_10 ?_
  refine g_istore (l1 := [(4, vI 0), (3, vI rc2), (0, vR 0), (1, vI a1), (2, vI a2)]) dX12_testsFor_11 (by decide) rfl ?_
  have L13_2 : ∀ (n13_2 : Nat) (x13_4_2 : Int) (h_x13_4_2 : 0 ≤ x13_4_2 ∧ x13_4_2 ≤ 65535) (x13_3_2 : Int) (h_x13_3_2 : 0 ≤ x13_3_2 ∧ x13_3_2 ≤ 65535) (H13_2 : PH) (hB13_2 : BdM H13_2) (hE13_2 : FrM ([78], [49, 50]) Pc1 H13_2) (i13_0_2 : x13_4_2 + x13_3_2 ≤ 65535) (w13_MV_2 : MV H13_2) (w13_MVw_2 : MVw H13_2) (hm13_2 : (x13_3_2 : Int).toNat < n13_2), Go WSM G 4 iX12_testsFor 13 [(0, vR 0), (2, vI a2), (3, vI x13_3_2), (4, vI x13_4_2)] [] H13_2 Q := by
    intro n13_2
    induction n13_2 with
    | zero => intro x13_4_2 h_x13_4_2 x13_3_2 h_x13_3_2 H13_2 hB13_2 hE13_2 i13_0_2 w13_MV_2 w13_MVw_2 hm13_2; exact absurd hm13_2 (Nat.not_lt_zero _)
    | succ n13_2 ih13_2 =>
    intro x13_4_2 h_x13_4_2 x13_3_2 h_x13_3_2 H13_2 hB13_2 hE13_2 i13_0_2 w13_MV_2 w13_MVw_2 hm13_2
    refine g_iload_n dX12_testsFor_13 rfl ?_
    refine g_sI (av := [vI x13_3_2]) (st := []) (m_X12_armsIn G H13_2 x13_3_2 ⟨by omega, by omega⟩ hB13_2  _ (fun rc56 hc56 gc56_v => ⟨rc56, rfl, ?_⟩)) cf_X12_armsIn t_2017 rfl (Nat.le_of_ble_eq_true rfl) (by decide) rfl dX12_testsFor_14
    refine g_if_eq (tgt := 86) dX12_testsFor_17 (by decide) ⟨by omega, by omega⟩ (fun k57 => ?_) (fun k57 => ?_)
    · refine g_iload dX12_testsFor_86 rfl ?_
      exact g_retI dX12_testsFor_88 rfl (hQ x13_4_2 ⟨by omega, by omega⟩ _ hB13_2 (FrM.c (FrM.c FrM.rf hFc1 rfl) hE13_2 rfl) w13_MV_2)
    · refine g_aload_n dX12_testsFor_20 rfl ?_
      refine g_iload_n dX12_testsFor_21 rfl ?_
      refine g_vI (av := [vI x13_3_2]) (o := 0) (st := []) (m_X12_asksFor G H13_2 x13_3_2 ⟨by omega, by omega⟩ hB13_2 w13_MV_2 _ (fun rc58 hc58 Pc58 hBc58 hFc58 gc58_b vc58_MV => ⟨rc58, rfl, ?_⟩)) cf_X12_asksFor t_2020 rfl (by decide) rfl rfl rfl (Nat.le_of_ble_eq_true rfl) (by decide) rfl dX12_testsFor_22
      refine g_istore (l1 := [(5, vI rc58), (0, vR 0), (2, vI a2), (3, vI x13_3_2), (4, vI x13_4_2)]) dX12_testsFor_25 (by decide) rfl ?_
      refine g_iload dX12_testsFor_27 rfl ?_
      refine g_iconst dX12_testsFor_29 ?_
      refine g_icmp_ne (tgt := 59) dX12_testsFor_30 (by decide) ⟨by omega, by omega⟩ (by decide) (fun k59 => ?_) (fun k59 => ?_)
      · refine g_iinc (l1 := [(4, vI (x13_4_2 + 1)), (5, vI rc58), (0, vR 0), (2, vI a2), (3, vI x13_3_2)]) dX12_testsFor_59 rfl (by decide) rfl ?_
        refine g_aload_n dX12_testsFor_62 rfl ?_
        refine g_iload_n dX12_testsFor_63 rfl ?_
        refine g_iload dX12_testsFor_64 rfl ?_
        refine g_aload_n dX12_testsFor_66 rfl ?_
        refine g_iload dX12_testsFor_67 rfl ?_
        refine g_aload_n dX12_testsFor_69 rfl ?_
        refine m_g67 rfl dX12_testsFor_70 ?_
        refine g_iload dX12_testsFor_73 rfl ?_
        refine m_l44 (z := (Pc1 44 rc58)) dX12_testsFor_75 ⟨by omega, by omega⟩ ((congrFun (hFc58.2 44 rfl rfl) _).trans ((congrFun (hE13_2.2 44 rfl rfl) _).trans rfl)) ?_
        have f60 := bl_44 (k := rc58) hBc1
        refine g_vI (av := [vI rc58, vI (Pc1 44 rc58)]) (o := 0) (st := [vI rc58, vI x13_3_2, vR 0]) (m_X12_setIn G Pc58 rc58 (Pc1 44 rc58) ⟨by omega, by omega⟩ ⟨by have q0 := bl_44 (k := rc58) hBc1; omega, by have q0 := bl_44 (k := rc58) hBc1; omega⟩ hBc58  _ (fun rc61 hc61 => ⟨rc61, rfl, ?_⟩)) cf_X12_setIn t_1907 rfl (by decide) rfl rfl rfl (Nat.le_of_ble_eq_true rfl) (by decide) rfl dX12_testsFor_76
        refine g_vI (av := [vI x13_3_2, vI rc58, vI rc61]) (o := 0) (st := []) (m_X12_branchOf G Pc58 x13_3_2 rc58 rc61 ⟨by omega, by omega⟩ ⟨by omega, by omega⟩ ⟨by omega, by omega⟩ hBc58  _ (fun rc62 hc62 gc62_lt gc62_le gc62_wl => ⟨rc62, rfl, ?_⟩)) cf_X12_branchOf t_2037 rfl (by decide) rfl rfl rfl (Nat.le_of_ble_eq_true rfl) (by decide) rfl dX12_testsFor_79
        refine g_istore_n (l1 := [(3, vI rc62), (4, vI (x13_4_2 + 1)), (5, vI rc58), (0, vR 0), (2, vI a2)]) dX12_testsFor_82 (by decide) rfl ?_
        refine g_goto (tgt := 13) dX12_testsFor_83 (by decide) ?_
        refine g_forget (l1 := [(0, vR 0), (2, vI a2), (3, vI rc62), (4, vI (x13_4_2 + 1))]) (by intro q hq; simp only [List.mem_cons, List.not_mem_nil, or_false] at hq ⊢; rcases hq with rfl | rfl | rfl | rfl <;> simp) ?_
        exact ih13_2 (x13_4_2 + 1) ⟨by omega, by omega⟩ rc62 ⟨by omega, by omega⟩ _ hBc58 (FrM.c (FrM.c FrM.rf hE13_2 rfl) hFc58 rfl) (by omega) vc58_MV (vc58_MV.w) (by omega)
      · refine g_iload_n dX12_testsFor_33 rfl ?_
        refine g_iload_n dX12_testsFor_34 rfl ?_
        refine g_sI (av := [vI x13_3_2]) (st := [vI a2]) (m_X12_armsIn G Pc58 x13_3_2 ⟨by omega, by omega⟩ hBc58  _ (fun rc63 hc63 gc63_v => ⟨rc63, rfl, ?_⟩)) cf_X12_armsIn t_2017 rfl (Nat.le_of_ble_eq_true rfl) (by decide) rfl dX12_testsFor_35
        refine g_sI (av := [vI rc63]) (st := [vI a2]) (m_X12_lowest G Pc58 rc63 ⟨by omega, by omega⟩ hBc58  _ (fun rc64 hc64 gc64_l gc64_b => ⟨rc64, rfl, ?_⟩)) cf_X12_lowest t_1927 rfl (Nat.le_of_ble_eq_true rfl) (by decide) rfl dX12_testsFor_38
        refine g_ishr dX12_testsFor_41 ?_
        refine g_nm (fun b65 e_b65 => ?_)
        have h_b65 := ishr_ir a2 rc64
        rw [← e_b65] at h_b65
        refine g_iconst dX12_testsFor_42 ?_
        refine g_iand dX12_testsFor_43 ?_
        refine g_nm (fun b66 e_b66 => ?_)
        have h_b66 := iand_r (x := b65) (y := 1) ⟨by omega, by omega⟩
        rw [← e_b66] at h_b66
        refine g_iconst dX12_testsFor_44 ?_
        refine g_icmp_ne (tgt := 51) dX12_testsFor_45 (by decide) ⟨by omega, by omega⟩ (by decide) (fun k67 => ?_) (fun k67 => ?_)
        · refine g_iload_n dX12_testsFor_51 rfl ?_
          refine g_sI (av := [vI x13_3_2]) (st := []) (m_X12_throughDoor G Pc58 x13_3_2 ⟨by omega, by omega⟩ hBc58  _ (fun rc68 hc68 gc68_lt gc68_le gc68_wl => ⟨rc68, rfl, ?_⟩)) cf_X12_throughDoor t_2034 rfl (Nat.le_of_ble_eq_true rfl) (by decide) rfl dX12_testsFor_52
          refine g_istore_n (l1 := [(3, vI rc68), (5, vI rc58), (0, vR 0), (2, vI a2), (4, vI x13_4_2)]) dX12_testsFor_55 (by decide) rfl ?_
          refine g_goto (tgt := 13) dX12_testsFor_56 (by decide) ?_
          refine g_forget (l1 := [(0, vR 0), (2, vI a2), (3, vI rc68), (4, vI x13_4_2)]) (by intro q hq; simp only [List.mem_cons, List.not_mem_nil, or_false] at hq ⊢; rcases hq with rfl | rfl | rfl | rfl <;> simp) ?_
          exact ih13_2 x13_4_2 ⟨by omega, by omega⟩ rc68 ⟨by omega, by omega⟩ _ hBc58 (FrM.c (FrM.c FrM.rf hE13_2 rfl) hFc58 rfl) (by omega) vc58_MV (vc58_MV.w) (by omega)
        · refine g_iload dX12_testsFor_48 rfl ?_
          exact g_retI dX12_testsFor_50 rfl (hQ x13_4_2 ⟨by omega, by omega⟩ _ hBc58 (FrM.c (FrM.c (FrM.c FrM.rf hFc1 rfl) hE13_2 rfl) hFc58 rfl) vc58_MV)
  refine g_forget (l1 := [(0, vR 0), (2, vI a2), (3, vI rc2), (4, vI 0)]) (by intro q hq; simp only [List.mem_cons, List.not_mem_nil, or_false] at hq ⊢; rcases hq with rfl | rfl | rfl | rfl <;> simp) ?_
  exact L13_2 _ 0 (by decide) rc2 ⟨by omega, by omega⟩ _ hBc1 FrM.rf (by omega) (MV.fr (F := ([], [44])) v_MV (FrM.c FrM.rf hFc1 rfl) rfl) ((MV.fr (F := ([], [44])) v_MV (FrM.c FrM.rf hFc1 rfl) rfl).w) (Nat.lt_succ_self _)
set_option maxRecDepth 100000 in
set_option maxHeartbeats 4000000 in
theorem m_X12_allTests (G : GT) (P : PH) (a1 : Int) (h_a1 : 0 ≤ a1 ∧ a1 ≤ 21) (hB : BdM P) (v_okC : okC P) (v_MV : MV P) (Q : Option PV → PH → Prop) (hQ : ∀ (r : Int) (_ : (-2147483648) ≤ r ∧ r ≤ 2147483647) (P1 : PH) (_ : BdM P1) (_ : FrM ([78], [44, 49, 50]) P P1) (_ : MV P1), Q (some (vI r)) P1) : Ct WSM G 5 iX12_allTests [vR 0, vI a1] P Q := by
  refine Ct.of (by decide) (l0 := [(0, vR 0), (1, vI a1)]) rfl (Nat.le_of_ble_eq_true rfl) ?_
  refine g_aload_n dX12_allTests_0 rfl ?_
  refine g_aload_n dX12_allTests_1 rfl ?_
  refine m_g55 rfl dX12_allTests_2 ?_
  refine g_iload_n dX12_allTests_5 rfl ?_
  refine m_l37 (z := (P 37 a1)) dX12_allTests_6 ⟨by omega, by omega⟩ rfl ?_
  have f1 := bl_37 (k := a1) hB
  refine g_vI (av := [vI (P 37 a1)]) (o := 0) (st := []) (m_X12_openBy G P (P 37 a1) ⟨by have q0 := bl_37 (k := a1) hB; omega, by have q0 := bl_37 (k := a1) hB; omega⟩ hB  _ (fun rc2 hc2 => ⟨rc2, rfl, ?_⟩)) cf_X12_openBy t_1923 rfl (by decide) rfl rfl rfl (Nat.le_of_ble_eq_true rfl) (by decide) rfl dX12_allTests_7
  refine g_istore_n (l1 := [(2, vI rc2), (0, vR 0), (1, vI a1)]) dX12_allTests_10 (by decide) rfl ?_
  refine g_iconst dX12_allTests_11 ?_
  refine g_istore_n (l1 := [(3, vI 0), (2, vI rc2), (0, vR 0), (1, vI a1)]) dX12_allTests_12 (by decide) rfl ?_
  refine g_iconst dX12_allTests_13 ?_
  refine g_istore (l1 := [(4, vI 0), (3, vI 0), (2, vI rc2), (0, vR 0), (1, vI a1)]) dX12_allTests_14 (by decide) rfl ?_
  have L16_2 : ∀ (n16_2 : Nat) (x16_4_2 : Int) (h_x16_4_2 : 0 ≤ x16_4_2 ∧ x16_4_2 ≤ 20000) (x16_3_2 : Int) (h_x16_3_2 : (-2147483648) ≤ x16_3_2 ∧ x16_3_2 ≤ 2147483647) (H16_2 : PH) (hB16_2 : BdM H16_2) (hE16_2 : FrM ([78], [44, 49, 50]) P H16_2) (w16_MV_2 : MV H16_2) (w16_MVw_2 : MVw H16_2) (hm16_2 : ((20001 - x16_4_2) : Int).toNat < n16_2), Go WSM G 5 iX12_allTests 16 [(0, vR 0), (2, vI rc2), (3, vI x16_3_2), (4, vI x16_4_2)] [] H16_2 Q := by
    intro n16_2
    induction n16_2 with
    | zero => intro x16_4_2 h_x16_4_2 x16_3_2 h_x16_3_2 H16_2 hB16_2 hE16_2 w16_MV_2 w16_MVw_2 hm16_2; exact absurd hm16_2 (Nat.not_lt_zero _)
    | succ n16_2 ih16_2 =>
    intro x16_4_2 h_x16_4_2 x16_3_2 h_x16_3_2 H16_2 hB16_2 hE16_2 w16_MV_2 w16_MVw_2 hm16_2
    refine g_iload dX12_allTests_16 rfl ?_
    refine g_aload_n dX12_allTests_18 rfl ?_
    refine m_g52 (z := (P 0 52)) rfl dX12_allTests_19 ((hE16_2.1 52 rfl).trans rfl) ?_
    have f80 := b0_52 hB
    refine g_icmp_ge (tgt := 41) dX12_allTests_22 (by decide) ⟨by omega, by omega⟩ ⟨by have q0 := b0_52 hB; omega, by have q0 := b0_52 hB; omega⟩ (fun k81 => ?_) (fun k81 => ?_)
    · refine g_iload_n dX12_allTests_41 rfl ?_
      exact g_retI dX12_allTests_42 rfl (hQ x16_3_2 ⟨by omega, by omega⟩ _ hB16_2 (FrM.c FrM.rf hE16_2 rfl) w16_MV_2)
    · refine g_iload_n dX12_allTests_25 rfl ?_
      refine g_aload_n dX12_allTests_26 rfl ?_
      refine g_iload dX12_allTests_27 rfl ?_
      refine g_iload_n dX12_allTests_29 rfl ?_
      refine g_vI (av := [vI x16_4_2, vI rc2]) (o := 0) (st := [vI x16_3_2]) (m_X12_testsFor G H16_2 x16_4_2 rc2 ⟨by omega, by omega⟩ ⟨by omega, by omega⟩ hB16_2 (okC.fr (F := ([78], [44, 49, 50])) v_okC (FrM.c FrM.rf hE16_2 rfl) rfl) w16_MV_2 _ (fun rc82 hc82 Pc82 hBc82 hFc82 vc82_MV => ⟨rc82, rfl, ?_⟩)) cf_X12_testsFor t_2006 rfl (by decide) rfl rfl rfl (Nat.le_of_ble_eq_true rfl) (by decide) rfl dX12_allTests_30
      refine g_iadd dX12_allTests_33 ?_
      refine g_norm (fun r83 h_r83 e_r83 => ?_)
      refine g_istore_n (l1 := [(3, vI r83), (0, vR 0), (2, vI rc2), (4, vI x16_4_2)]) dX12_allTests_34 (by decide) rfl ?_
      refine g_iinc (l1 := [(4, vI (x16_4_2 + 1)), (3, vI r83), (0, vR 0), (2, vI rc2)]) dX12_allTests_35 rfl (by decide) rfl ?_
      refine g_goto (tgt := 16) dX12_allTests_38 (by decide) ?_
      refine g_forget (l1 := [(0, vR 0), (2, vI rc2), (3, vI r83), (4, vI (x16_4_2 + 1))]) (by intro q hq; simp only [List.mem_cons, List.not_mem_nil, or_false] at hq ⊢; rcases hq with rfl | rfl | rfl | rfl <;> simp) ?_
      exact ih16_2 (x16_4_2 + 1) ⟨by omega, by omega⟩ r83 ⟨by omega, by omega⟩ _ hBc82 (FrM.c (FrM.c FrM.rf hE16_2 rfl) hFc82 rfl) vc82_MV (vc82_MV.w) (by omega)
  refine g_forget (l1 := [(0, vR 0), (2, vI rc2), (3, vI 0), (4, vI 0)]) (by intro q hq; simp only [List.mem_cons, List.not_mem_nil, or_false] at hq ⊢; rcases hq with rfl | rfl | rfl | rfl <;> simp) ?_
  exact L16_2 _ 0 (by decide) 0 (by decide) _ hB FrM.rf v_MV (v_MV.w) (Nat.lt_succ_self _)
set_option maxRecDepth 100000 in
set_option maxHeartbeats 4000000 in
theorem m_X12_reaches (G : GT) (P : PH) (a1 : Int) (h_a1 : 0 ≤ a1 ∧ a1 ≤ 65535) (hB : BdM P) (v_MV : MV P) (v_RE : RE P) (v_CN : CN P) (Q : Option PV → PH → Prop) (hQ : ∀ (P1 : PH) (_ : BdM P1) (_ : FrM ([81], [51, 52]) P P1) (_ : MV P1) (_ : RE P1) (_ : CN P1), Q none P1) : Ct WSM G 1 iX12_reaches [vR 0, vI a1] P Q := by
  refine Ct.of (by decide) (l0 := [(0, vR 0), (1, vI a1)]) rfl (Nat.le_of_ble_eq_true rfl) ?_
  refine g_aload_n dX12_reaches_0 rfl ?_
  refine m_g79 rfl dX12_reaches_1 ?_
  refine g_iload_n dX12_reaches_4 rfl ?_
  refine m_l51 (z := (P 51 a1)) dX12_reaches_5 ⟨by omega, by omega⟩ rfl ?_
  refine g_aload_n dX12_reaches_6 rfl ?_
  refine m_g74 (z := (P 0 74)) rfl dX12_reaches_7 rfl ?_
  have f1 := bl_51 (k := a1) hB
  have f2 := b0_74 hB
  refine g_icmp_ne (tgt := 14) dX12_reaches_10 (by decide) ⟨by have q0 := bl_51 (k := a1) hB; omega, by have q0 := bl_51 (k := a1) hB; omega⟩ ⟨by have q0 := b0_74 hB; omega, by have q0 := b0_74 hB; omega⟩ (fun k3 => ?_) (fun k3 => ?_)
  · have hne : P 51 a1 ≠ P 0 74 := by omega
    have hcn := v_CN.lt (k := a1) ⟨by omega, by omega⟩ hne
    refine g_aload_n dX12_reaches_14 rfl ?_
    refine m_g79 rfl dX12_reaches_15 ?_
    refine g_iload_n dX12_reaches_18 rfl ?_
    refine g_aload_n dX12_reaches_19 rfl ?_
    refine m_g74 (z := (P 0 74)) rfl dX12_reaches_20 rfl ?_
    refine m_s51 dX12_reaches_23 ⟨by omega, by omega⟩ ?_
    have hB4 := ba_51 (z := (P 0 74)) (k := a1) hB ⟨by have q0 := b0_74 hB; omega, by have q0 := b0_74 hB; omega⟩
    refine g_aload_n dX12_reaches_24 rfl ?_
    refine m_g80 rfl dX12_reaches_25 ?_
    refine g_aload_n dX12_reaches_28 rfl ?_
    refine m_g81 (z := (P 0 81)) rfl dX12_reaches_29 ((up_o (by decide)).trans rfl) ?_
    refine g_iload_n dX12_reaches_32 rfl ?_
    refine m_s52 dX12_reaches_33 ⟨by have q0 := b0_81 hB; omega, by have q0 := b0_81 hB; omega⟩ ?_
    have hB5 := ba_52 (z := a1) (k := (P 0 81)) hB4 ⟨by omega, by omega⟩
    refine g_aload_n dX12_reaches_34 rfl ?_
    refine g_dup dX12_reaches_35 rfl ?_
    refine m_g81 (z := (P 0 81)) rfl dX12_reaches_36 ((up_o (by decide)).trans ((up_o (by decide)).trans rfl)) ?_
    refine g_iconst dX12_reaches_39 ?_
    refine g_iadd dX12_reaches_40 ?_
    refine m_p81 rfl dX12_reaches_41 ?_
    have hB6 := bs_81 (z := ((P 0 81) + 1)) hB5 ⟨by have q0 := b0_81 hB; omega, by have q0 := b0_81 hB; omega⟩
    have iv7 : RE (up (up (up P 51 a1 (P 0 74)) 52 (P 0 81) a1) 0 81 ((P 0 81) + 1)) := v_RE.step (k := a1) ((up_k (by decide)).trans ((up_o (by decide)).trans ((up_o (by decide)).trans rfl))) ((up_o (by decide)).trans ((up_o (by decide)).trans up_same)) (fun j hj => (congrFun (show (up (up (up P 51 a1 (P 0 74)) 52 (P 0 81) a1) 0 81 ((P 0 81) + 1)) 51 = up P 51 a1 (P 0 74) 51 from by rw [up_row (by decide), up_row (by decide)]) j).trans (up_k hj))
    have iv8 : CN (up (up (up P 51 a1 (P 0 74)) 52 (P 0 81) a1) 0 81 ((P 0 81) + 1)) := v_CN.step (k := a1) ⟨by omega, by omega⟩ hne ((up_k (by decide)).trans ((up_o (by decide)).trans ((up_o (by decide)).trans rfl))) (by have q := (up_same : (up (up (up P 51 a1 (P 0 74)) 52 (P 0 81) a1) 0 81 ((P 0 81) + 1)) 0 81 = ((P 0 81) + 1)); omega) ((up_o (by decide)).trans ((up_o (by decide)).trans up_same)) (fun j hj => (congrFun (show (up (up (up P 51 a1 (P 0 74)) 52 (P 0 81) a1) 0 81 ((P 0 81) + 1)) 51 = up P 51 a1 (P 0 74) 51 from by rw [up_row (by decide), up_row (by decide)]) j).trans (up_k hj))
    exact g_retV dX12_reaches_44 rfl (hQ _ hB6 (FrM.s (FrM.a (FrM.a FrM.rf rfl rfl) rfl rfl) rfl) (MV.fr (F := ([81], [51, 52])) v_MV (FrM.s (FrM.a (FrM.a FrM.rf rfl rfl) rfl rfl) rfl) rfl) iv7 iv8)
  · exact g_retV dX12_reaches_13 rfl (hQ _ hB FrM.rf v_MV v_RE v_CN)
set_option maxRecDepth 100000 in
set_option maxHeartbeats 4000000 in
theorem m_X12_grows (G : GT) (P : PH) (hB : BdM P) (v_MV : MV P) (v_RLt : RLt P) (Q : Option PV → PH → Prop) (hQ : ∀ (P1 : PH) (_ : BdM P1) (_ : FrM ([78, 81], [49, 50, 51, 52]) P P1) (_ : MV P1) (_ : RE P1), Q none P1) : Ct WSM G 5 iX12_grows [vR 0] P Q := by
  refine Ct.of (by decide) (l0 := [(0, vR 0)]) rfl (Nat.le_of_ble_eq_true rfl) ?_
  refine g_aload_n dX12_grows_0 rfl ?_
  refine g_iconst dX12_grows_1 ?_
  refine m_p81 rfl dX12_grows_2 ?_
  have hB1 := bs_81 (z := 0) hB (by decide)
  have iv2 : CN (up P 0 81 0) := CN.zero (F := ([81], [])) v_RLt (FrM.s FrM.rf rfl) rfl (by have q := (up_same : (up P 0 81 0) 0 81 = 0); omega)
  have iv3 : RE (up P 0 81 0) := RE.fr (F := ([81], [])) v_RLt.RE (FrM.s FrM.rf rfl) rfl
  refine g_aload_n dX12_grows_5 rfl ?_
  refine g_aload_n dX12_grows_6 rfl ?_
  refine g_vI (av := []) (o := 0) (st := [vR 0]) (m_X12_root G (up P 0 81 0)  hB1  _ (fun rc4 hc4 => ⟨rc4, rfl, ?_⟩)) cf_X12_root t_2010 rfl (by decide) rfl rfl rfl (Nat.le_of_ble_eq_true rfl) (by decide) rfl dX12_grows_7
  refine g_vV (av := [vI rc4]) (o := 0) (st := []) (m_X12_reaches G (up P 0 81 0) rc4 ⟨by omega, by omega⟩ hB1 (MV.fr (F := ([81], [])) v_MV (FrM.s FrM.rf rfl) rfl) iv3 iv2 _ (fun Pc5 hBc5 hFc5 vc5_MV vc5_RE vc5_CN => ⟨rfl, ?_⟩)) cf_X12_reaches t_2045 rfl (by decide) rfl rfl rfl (Nat.le_of_ble_eq_true rfl) (by decide) rfl dX12_grows_10
  refine g_iconst dX12_grows_13 ?_
  refine g_istore_n (l1 := [(1, vI 0), (0, vR 0)]) dX12_grows_14 (by decide) rfl ?_
  have L15_5 : ∀ (n15_5 : Nat) (x15_1_5 : Int) (h_x15_1_5 : 0 ≤ x15_1_5 ∧ x15_1_5 ≤ 65536) (H15_5 : PH) (hB15_5 : BdM H15_5) (hE15_5 : FrM ([78, 81], [49, 50, 51, 52]) Pc5 H15_5) (w15_MV_5 : MV H15_5) (w15_RE_5 : RE H15_5) (w15_MVw_5 : MVw H15_5) (w15_CN_5 : CN H15_5) (hm15_5 : (65536 - x15_1_5 : Int).toNat < n15_5), Go WSM G 5 iX12_grows 15 [(0, vR 0), (1, vI x15_1_5)] [] H15_5 Q := by
    intro n15_5
    induction n15_5 with
    | zero => intro x15_1_5 h_x15_1_5 H15_5 hB15_5 hE15_5 w15_MV_5 w15_RE_5 w15_MVw_5 w15_CN_5 hm15_5; exact absurd hm15_5 (Nat.not_lt_zero _)
    | succ n15_5 ih15_5 =>
    intro x15_1_5 h_x15_1_5 H15_5 hB15_5 hE15_5 w15_MV_5 w15_RE_5 w15_MVw_5 w15_CN_5 hm15_5
    refine g_iload_n dX12_grows_15 rfl ?_
    refine g_aload_n dX12_grows_16 rfl ?_
    refine m_g81 (z := (H15_5 0 81)) rfl dX12_grows_17 rfl ?_
    have f795 := b0_81 hB15_5
    refine g_icmp_ge (tgt := 109) dX12_grows_20 (by decide) ⟨by omega, by omega⟩ ⟨by have q0 := b0_81 hB15_5; omega, by have q0 := b0_81 hB15_5; omega⟩ (fun k796 => ?_) (fun k796 => ?_)
    · exact g_retV dX12_grows_109 rfl (hQ _ hB15_5 (FrM.c (FrM.c (FrM.s FrM.rf rfl) hFc5 rfl) hE15_5 rfl) w15_MV_5 w15_RE_5)
    · refine g_aload_n dX12_grows_23 rfl ?_
      refine m_g80 rfl dX12_grows_24 ?_
      refine g_iload_n dX12_grows_27 rfl ?_
      refine m_l52 (z := (H15_5 52 x15_1_5)) dX12_grows_28 ⟨by omega, by omega⟩ rfl ?_
      refine g_istore_n (l1 := [(2, vI (H15_5 52 x15_1_5)), (0, vR 0), (1, vI x15_1_5)]) dX12_grows_29 (by decide) rfl ?_
      refine g_aload_n dX12_grows_30 rfl ?_
      refine g_iload_n dX12_grows_31 rfl ?_
      have f797 := bl_52 (k := x15_1_5) hB15_5
      refine g_vI (av := [vI (H15_5 52 x15_1_5)]) (o := 0) (st := []) (m_X12_asksFor G H15_5 (H15_5 52 x15_1_5) ⟨by have q0 := bl_52 (k := x15_1_5) hB15_5; omega, by have q0 := bl_52 (k := x15_1_5) hB15_5; omega⟩ hB15_5 w15_MV_5 _ (fun rc798 hc798 Pc798 hBc798 hFc798 gc798_b vc798_MV => ⟨rc798, rfl, ?_⟩)) cf_X12_asksFor t_2020 rfl (by decide) rfl rfl rfl (Nat.le_of_ble_eq_true rfl) (by decide) rfl dX12_grows_32
      refine g_istore_n (l1 := [(3, vI rc798), (2, vI (H15_5 52 x15_1_5)), (0, vR 0), (1, vI x15_1_5)]) dX12_grows_35 (by decide) rfl ?_
      refine g_iload_n dX12_grows_36 rfl ?_
      refine g_iconst dX12_grows_37 ?_
      have J103_894 : ∀ (H103_894 : PH) (hB103_894 : BdM H103_894) (hE103_894 : FrM ([78, 81], [49, 50, 51, 52]) Pc798 H103_894) (w103_MV_894 : MV H103_894) (w103_RE_894 : RE H103_894) (w103_MVw_894 : MVw H103_894) (w103_CN_894 : CN H103_894), Go WSM G 5 iX12_grows 103 [(0, vR 0), (1, vI x15_1_5)] [] H103_894 Q := by
        intro H103_894 hB103_894 hE103_894 w103_MV_894 w103_RE_894 w103_MVw_894 w103_CN_894
        refine g_iinc (l1 := [(1, vI (x15_1_5 + 1)), (0, vR 0)]) dX12_grows_103 rfl (by decide) rfl ?_
        refine g_goto (tgt := 15) dX12_grows_106 (by decide) ?_
        refine g_forget (l1 := [(0, vR 0), (1, vI (x15_1_5 + 1))]) (by intro q hq; simp only [List.mem_cons, List.not_mem_nil, or_false] at hq ⊢; rcases hq with rfl | rfl <;> simp) ?_
        exact ih15_5 (x15_1_5 + 1) ⟨by omega, by omega⟩ _ hB103_894 (FrM.c (FrM.c (FrM.c FrM.rf hE15_5 rfl) hFc798 rfl) hE103_894 rfl) w103_MV_894 w103_RE_894 w103_MVw_894 w103_CN_894 (by omega)
      refine g_icmp_ne (tgt := 60) dX12_grows_38 (by decide) ⟨by omega, by omega⟩ (by decide) (fun k896 => ?_) (fun k896 => ?_)
      · refine g_iconst dX12_grows_60 ?_
        refine g_istore (l1 := [(4, vI 0), (3, vI rc798), (2, vI (H15_5 52 x15_1_5)), (0, vR 0), (1, vI x15_1_5)]) dX12_grows_61 (by decide) rfl ?_
        have L63_896 : ∀ (n63_896 : Nat) (x63_4_896 : Int) (h_x63_4_896 : 0 ≤ x63_4_896 ∧ x63_4_896 ≤ 2009) (H63_896 : PH) (hB63_896 : BdM H63_896) (hE63_896 : FrM ([81], [51, 52]) Pc798 H63_896) (w63_RE_896 : RE H63_896) (w63_CN_896 : CN H63_896) (hm63_896 : ((2010 - x63_4_896) : Int).toNat < n63_896), Go WSM G 5 iX12_grows 63 [(0, vR 0), (1, vI x15_1_5), (2, vI (H15_5 52 x15_1_5)), (3, vI rc798), (4, vI x63_4_896)] [] H63_896 Q := by
          intro n63_896
          induction n63_896 with
          | zero => intro x63_4_896 h_x63_4_896 H63_896 hB63_896 hE63_896 w63_RE_896 w63_CN_896 hm63_896; exact absurd hm63_896 (Nat.not_lt_zero _)
          | succ n63_896 ih63_896 =>
          intro x63_4_896 h_x63_4_896 H63_896 hB63_896 hE63_896 w63_RE_896 w63_CN_896 hm63_896
          refine g_iload dX12_grows_63 rfl ?_
          refine g_aload_n dX12_grows_65 rfl ?_
          refine m_g50 rfl dX12_grows_66 ?_
          refine g_iload_n dX12_grows_69 rfl ?_
          refine m_l33 (z := (P 33 rc798)) dX12_grows_70 ⟨by omega, by omega⟩ ((congrFun (hE63_896.2 33 rfl rfl) _).trans ((congrFun (hFc798.2 33 rfl rfl) _).trans ((congrFun (hE15_5.2 33 rfl rfl) _).trans ((congrFun (hFc5.2 33 rfl rfl) _).trans ((up_o (by decide)).trans rfl))))) ?_
          have f983 := bl_33 (k := rc798) hB
          refine g_icmp_ge (tgt := 103) dX12_grows_71 (by decide) ⟨by omega, by omega⟩ ⟨by have q0 := bl_33 (k := rc798) hB; omega, by have q0 := bl_33 (k := rc798) hB; omega⟩ (fun k984 => ?_) (fun k984 => ?_)
          · refine g_forget (l1 := [(0, vR 0), (1, vI x15_1_5)]) (by intro q hq; simp only [List.mem_cons, List.not_mem_nil, or_false] at hq ⊢; rcases hq with rfl | rfl <;> simp) ?_
            exact J103_894 _ hB63_896 (FrM.c FrM.rf hE63_896 rfl) (MV.fr (F := ([81], [51, 52])) vc798_MV (FrM.c FrM.rf hE63_896 rfl) rfl) w63_RE_896 ((MV.fr (F := ([81], [51, 52])) vc798_MV (FrM.c FrM.rf hE63_896 rfl) rfl).w) w63_CN_896
          · refine g_aload_n dX12_grows_74 rfl ?_
            refine g_aload_n dX12_grows_75 rfl ?_
            refine g_iload_n dX12_grows_76 rfl ?_
            refine g_iload_n dX12_grows_77 rfl ?_
            refine g_aload_n dX12_grows_78 rfl ?_
            refine m_g63 rfl dX12_grows_79 ?_
            refine g_sipush dX12_grows_82 (by decide) ?_
            refine g_iload_n dX12_grows_85 rfl ?_
            refine g_imul dX12_grows_86 ?_
            refine g_iload dX12_grows_87 rfl ?_
            refine g_iadd dX12_grows_89 ?_
            refine m_l41 (z := (P 41 ((2010 * rc798) + x63_4_896))) dX12_grows_90 ⟨by omega, by omega⟩ ((congrFun (hE63_896.2 41 rfl rfl) _).trans ((congrFun (hFc798.2 41 rfl rfl) _).trans ((congrFun (hE15_5.2 41 rfl rfl) _).trans ((congrFun (hFc5.2 41 rfl rfl) _).trans ((up_o (by decide)).trans rfl))))) ?_
            have f985 := bl_41 (k := ((2010 * rc798) + x63_4_896)) hB
            refine g_vI (av := [vI (H15_5 52 x15_1_5), vI rc798, vI (P 41 ((2010 * rc798) + x63_4_896))]) (o := 0) (st := [vR 0]) (m_X12_branchOf G H63_896 (H15_5 52 x15_1_5) rc798 (P 41 ((2010 * rc798) + x63_4_896)) ⟨by have q0 := bl_52 (k := x15_1_5) hB15_5; omega, by have q0 := bl_52 (k := x15_1_5) hB15_5; omega⟩ ⟨by omega, by omega⟩ ⟨by have q0 := bl_41 (k := ((2010 * rc798) + x63_4_896)) hB; omega, by have q0 := bl_41 (k := ((2010 * rc798) + x63_4_896)) hB; omega⟩ hB63_896  _ (fun rc986 hc986 gc986_lt gc986_le gc986_wl => ⟨rc986, rfl, ?_⟩)) cf_X12_branchOf t_2037 rfl (by decide) rfl rfl rfl (Nat.le_of_ble_eq_true rfl) (by decide) rfl dX12_grows_91
            refine g_vV (av := [vI rc986]) (o := 0) (st := []) (m_X12_reaches G H63_896 rc986 ⟨by omega, by omega⟩ hB63_896 (MV.fr (F := ([81], [51, 52])) vc798_MV (FrM.c FrM.rf hE63_896 rfl) rfl) w63_RE_896 w63_CN_896 _ (fun Pc987 hBc987 hFc987 vc987_MV vc987_RE vc987_CN => ⟨rfl, ?_⟩)) cf_X12_reaches t_2045 rfl (by decide) rfl rfl rfl (Nat.le_of_ble_eq_true rfl) (by decide) rfl dX12_grows_94
            refine g_iinc (l1 := [(4, vI (x63_4_896 + 1)), (0, vR 0), (1, vI x15_1_5), (2, vI (H15_5 52 x15_1_5)), (3, vI rc798)]) dX12_grows_97 rfl (by decide) rfl ?_
            refine g_goto (tgt := 63) dX12_grows_100 (by decide) ?_
            refine g_forget (l1 := [(0, vR 0), (1, vI x15_1_5), (2, vI (H15_5 52 x15_1_5)), (3, vI rc798), (4, vI (x63_4_896 + 1))]) (by intro q hq; simp only [List.mem_cons, List.not_mem_nil, or_false] at hq ⊢; rcases hq with rfl | rfl | rfl | rfl | rfl <;> simp) ?_
            exact ih63_896 (x63_4_896 + 1) ⟨by omega, by omega⟩ _ hBc987 (FrM.c (FrM.c FrM.rf hE63_896 rfl) hFc987 rfl) vc987_RE vc987_CN (by omega)
        refine g_forget (l1 := [(0, vR 0), (1, vI x15_1_5), (2, vI (H15_5 52 x15_1_5)), (3, vI rc798), (4, vI 0)]) (by intro q hq; simp only [List.mem_cons, List.not_mem_nil, or_false] at hq ⊢; rcases hq with rfl | rfl | rfl | rfl | rfl <;> simp) ?_
        exact L63_896 _ 0 (by decide) _ hBc798 FrM.rf (RE.fr (F := ([78], [49, 50])) w15_RE_5 (FrM.c FrM.rf hFc798 rfl) rfl) (CN.fr (F := ([78], [49, 50])) w15_CN_5 (FrM.c FrM.rf hFc798 rfl) rfl) (Nat.lt_succ_self _)
      · refine g_aload_n dX12_grows_41 rfl ?_
        refine g_iload_n dX12_grows_42 rfl ?_
        refine g_vI (av := [vI (H15_5 52 x15_1_5)]) (o := 0) (st := []) (m_X12_isDoor G Pc798 (H15_5 52 x15_1_5) ⟨by have q0 := bl_52 (k := x15_1_5) hB15_5; omega, by have q0 := bl_52 (k := x15_1_5) hB15_5; omega⟩ hBc798 vc798_MV _ (fun rc988 hc988 Pc988 hBc988 hFc988 gc988_d vc988_MV => ⟨rc988, rfl, ?_⟩)) cf_X12_isDoor t_2049 rfl (by decide) rfl rfl rfl (Nat.le_of_ble_eq_true rfl) (by decide) rfl dX12_grows_43
        refine g_if_eq (tgt := 103) dX12_grows_46 (by decide) ⟨by omega, by omega⟩ (fun k989 => ?_) (fun k989 => ?_)
        · refine g_forget (l1 := [(0, vR 0), (1, vI x15_1_5)]) (by intro q hq; simp only [List.mem_cons, List.not_mem_nil, or_false] at hq ⊢; rcases hq with rfl | rfl <;> simp) ?_
          exact J103_894 _ hBc988 (FrM.c FrM.rf hFc988 rfl) vc988_MV (RE.fr (F := ([78], [49, 50])) w15_RE_5 (FrM.c (FrM.c FrM.rf hFc798 rfl) hFc988 rfl) rfl) (vc988_MV.w) (CN.fr (F := ([78], [49, 50])) w15_CN_5 (FrM.c (FrM.c FrM.rf hFc798 rfl) hFc988 rfl) rfl)
        · refine g_aload_n dX12_grows_49 rfl ?_
          refine g_iload_n dX12_grows_50 rfl ?_
          refine g_sI (av := [vI (H15_5 52 x15_1_5)]) (st := [vR 0]) (m_X12_throughDoor G Pc988 (H15_5 52 x15_1_5) ⟨by have q0 := bl_52 (k := x15_1_5) hB15_5; omega, by have q0 := bl_52 (k := x15_1_5) hB15_5; omega⟩ hBc988  _ (fun rc990 hc990 gc990_lt gc990_le gc990_wl => ⟨rc990, rfl, ?_⟩)) cf_X12_throughDoor t_2034 rfl (Nat.le_of_ble_eq_true rfl) (by decide) rfl dX12_grows_51
          refine g_vV (av := [vI rc990]) (o := 0) (st := []) (m_X12_reaches G Pc988 rc990 ⟨by omega, by omega⟩ hBc988 vc988_MV (RE.fr (F := ([78], [49, 50])) w15_RE_5 (FrM.c (FrM.c FrM.rf hFc798 rfl) hFc988 rfl) rfl) (CN.fr (F := ([78], [49, 50])) w15_CN_5 (FrM.c (FrM.c FrM.rf hFc798 rfl) hFc988 rfl) rfl) _ (fun Pc991 hBc991 hFc991 vc991_MV vc991_RE vc991_CN => ⟨rfl, ?_⟩)) cf_X12_reaches t_2045 rfl (by decide) rfl rfl rfl (Nat.le_of_ble_eq_true rfl) (by decide) rfl dX12_grows_54
          refine g_goto (tgt := 103) dX12_grows_57 (by decide) ?_
          refine g_forget (l1 := [(0, vR 0), (1, vI x15_1_5)]) (by intro q hq; simp only [List.mem_cons, List.not_mem_nil, or_false] at hq ⊢; rcases hq with rfl | rfl <;> simp) ?_
          exact J103_894 _ hBc991 (FrM.c (FrM.c FrM.rf hFc988 rfl) hFc991 rfl) vc991_MV vc991_RE (vc991_MV.w) vc991_CN
  refine g_forget (l1 := [(0, vR 0), (1, vI 0)]) (by intro q hq; simp only [List.mem_cons, List.not_mem_nil, or_false] at hq ⊢; rcases hq with rfl | rfl <;> simp) ?_
  exact L15_5 _ 0 (by decide) _ hBc5 FrM.rf vc5_MV vc5_RE (vc5_MV.w) vc5_CN (Nat.lt_succ_self _)
set_option maxRecDepth 100000 in
set_option maxHeartbeats 4000000 in
theorem m_X12_weighs (G : GT) (P : PH) (a1 : Int) (h_a1 : 0 ≤ a1 ∧ a1 ≤ 65535) (hB : BdM P) (v_MV : MV P) (Q : Option PV → PH → Prop) (hQ : ∀ (P1 : PH) (_ : BdM P1) (_ : FrM ([78], [49, 50, 53]) P P1) (_ : MV P1), Q none P1) : Ct WSM G 5 iX12_weighs [vR 0, vI a1] P Q := by
  refine Ct.of (by decide) (l0 := [(0, vR 0), (1, vI a1)]) rfl (Nat.le_of_ble_eq_true rfl) ?_
  refine g_aload_n dX12_weighs_0 rfl ?_
  refine g_iload_n dX12_weighs_1 rfl ?_
  refine g_vI (av := [vI a1]) (o := 0) (st := []) (m_X12_asksFor G P a1 ⟨by omega, by omega⟩ hB v_MV _ (fun rc1 hc1 Pc1 hBc1 hFc1 gc1_b vc1_MV => ⟨rc1, rfl, ?_⟩)) cf_X12_asksFor t_2020 rfl (by decide) rfl rfl rfl (Nat.le_of_ble_eq_true rfl) (by decide) rfl dX12_weighs_2
  refine g_istore_n (l1 := [(2, vI rc1), (0, vR 0), (1, vI a1)]) dX12_weighs_5 (by decide) rfl ?_
  refine g_iconst dX12_weighs_6 ?_
  refine g_istore_n (l1 := [(3, vI 1), (2, vI rc1), (0, vR 0), (1, vI a1)]) dX12_weighs_7 (by decide) rfl ?_
  refine g_iconst dX12_weighs_8 ?_
  refine g_istore (l1 := [(4, vI 0), (3, vI 1), (2, vI rc1), (0, vR 0), (1, vI a1)]) dX12_weighs_9 (by decide) rfl ?_
  refine g_iload_n dX12_weighs_11 rfl ?_
  refine g_iconst dX12_weighs_12 ?_
  have J52_1057 : ∀ (x52_4_1057 : Int) (h_x52_4_1057 : 0 ≤ x52_4_1057 ∧ x52_4_1057 ≤ 7) (x52_3_1057 : Int) (h_x52_3_1057 : (-268435455) ≤ x52_3_1057 ∧ x52_3_1057 ≤ 268435456) (H52_1057 : PH) (hB52_1057 : BdM H52_1057) (hE52_1057 : FrM ([78], [49, 50]) Pc1 H52_1057) (w52_MV_1057 : MV H52_1057) (w52_MVw_1057 : MVw H52_1057), Go WSM G 5 iX12_weighs 52 [(0, vR 0), (1, vI a1), (2, vI rc1), (3, vI x52_3_1057), (4, vI x52_4_1057)] [] H52_1057 Q := by
    intro x52_4_1057 h_x52_4_1057 x52_3_1057 h_x52_3_1057 H52_1057 hB52_1057 hE52_1057 w52_MV_1057 w52_MVw_1057
    refine g_aload_n dX12_weighs_52 rfl ?_
    refine g_dup dX12_weighs_53 rfl ?_
    refine m_g78 (z := (H52_1057 0 78)) rfl dX12_weighs_54 rfl ?_
    refine g_iconst dX12_weighs_57 ?_
    refine g_iadd dX12_weighs_58 ?_
    refine g_norm (fun r1059 h_r1059 e_r1059 => ?_)
    refine m_p78 rfl dX12_weighs_59 ?_
    have hB1060 := bs_78 (z := r1059) hB52_1057 ⟨by omega, by omega⟩
    refine g_iconst dX12_weighs_62 ?_
    refine g_istore (l1 := [(5, vI 0), (0, vR 0), (1, vI a1), (2, vI rc1), (3, vI x52_3_1057), (4, vI x52_4_1057)]) dX12_weighs_63 (by decide) rfl ?_
    have L65_1060 : ∀ (n65_1060 : Nat) (x65_5_1060 : Int) (h_x65_5_1060 : 0 ≤ x65_5_1060 ∧ x65_5_1060 ≤ 2009) (x65_3_1060 : Int) (h_x65_3_1060 : (-2147483648) ≤ x65_3_1060 ∧ x65_3_1060 ≤ 2147483647) (x65_4_1060 : Int) (h_x65_4_1060 : 0 ≤ x65_4_1060 ∧ x65_4_1060 ≤ 8) (H65_1060 : PH) (hB65_1060 : BdM H65_1060) (hE65_1060 : FrM ([], [50]) (up H52_1057 0 78 r1059) H65_1060) (hm65_1060 : ((2010 - x65_5_1060) : Int).toNat < n65_1060), Go WSM G 5 iX12_weighs 65 [(0, vR 0), (1, vI a1), (2, vI rc1), (3, vI x65_3_1060), (4, vI x65_4_1060), (5, vI x65_5_1060)] [] H65_1060 Q := by
      intro n65_1060
      induction n65_1060 with
      | zero => intro x65_5_1060 h_x65_5_1060 x65_3_1060 h_x65_3_1060 x65_4_1060 h_x65_4_1060 H65_1060 hB65_1060 hE65_1060 hm65_1060; exact absurd hm65_1060 (Nat.not_lt_zero _)
      | succ n65_1060 ih65_1060 =>
      intro x65_5_1060 h_x65_5_1060 x65_3_1060 h_x65_3_1060 x65_4_1060 h_x65_4_1060 H65_1060 hB65_1060 hE65_1060 hm65_1060
      refine g_iload_n dX12_weighs_65 rfl ?_
      refine g_iconst dX12_weighs_66 ?_
      have J184_2077 : ∀ (_ : True), Go WSM G 5 iX12_weighs 184 [(0, vR 0), (1, vI a1), (3, vI x65_3_1060), (4, vI x65_4_1060)] [] H65_1060 Q := by
        intro _
        refine g_aload_n dX12_weighs_184 rfl ?_
        refine m_g82 rfl dX12_weighs_185 ?_
        refine g_iload_n dX12_weighs_188 rfl ?_
        refine g_iload_n dX12_weighs_189 rfl ?_
        refine g_ldcw (z := 1000000) dX12_weighs_190 t_2060 (by decide) ?_
        refine g_icmp_le (tgt := 202) dX12_weighs_193 (by decide) ⟨by omega, by omega⟩ (by decide) (fun k2079 => ?_) (fun k2079 => ?_)
        · refine g_iload_n dX12_weighs_202 rfl ?_
          refine g_iconst dX12_weighs_203 ?_
          refine g_ishl dX12_weighs_204 ?_
          refine g_nm (fun b2080 e_b2080 => ?_)
          have h_b2080 := ishl_ir x65_3_1060 3
          rw [← e_b2080] at h_b2080
          refine g_iload dX12_weighs_205 rfl ?_
          refine g_ior dX12_weighs_207 ?_
          refine g_nm (fun b2081 e_b2081 => ?_)
          have h_b2081 := ior_ir b2080 x65_4_1060
          rw [← e_b2081] at h_b2081
          refine m_s53 dX12_weighs_208 ⟨by omega, by omega⟩ ?_
          have hB2082 := ba_53 (z := b2081) (k := a1) hB65_1060 ⟨by omega, by omega⟩
          exact g_retV dX12_weighs_209 rfl (hQ _ hB2082 (FrM.a (FrM.c (FrM.s (FrM.c (FrM.c FrM.rf hFc1 rfl) hE52_1057 rfl) rfl) hE65_1060 rfl) rfl rfl) (MV.fr (F := ([78], [50, 53])) w52_MV_1057 (FrM.a (FrM.c (FrM.s FrM.rf rfl) hE65_1060 rfl) rfl rfl) rfl))
        · refine g_ldcw (z := 1000000) dX12_weighs_196 t_2060 (by decide) ?_
          refine g_goto (tgt := 203) dX12_weighs_199 (by decide) ?_
          refine g_iconst dX12_weighs_203 ?_
          refine g_ishl dX12_weighs_204 ?_
          refine g_nm (fun b2083 e_b2083 => ?_)
          have h_b2083 : (ishl 1000000 3) = 1000000 * 8 := ishl_c 3 (by decide) (x := 1000000) (show IR (1000000 * 8) from ⟨by omega, by omega⟩)
          rw [← e_b2083] at h_b2083
          refine g_iload dX12_weighs_205 rfl ?_
          refine g_ior dX12_weighs_207 ?_
          refine g_nm (fun b2084 e_b2084 => ?_)
          have h_b2084 : 0 ≤ (ior b2083 x65_4_1060) ∧ (ior b2083 x65_4_1060) < 8388608 := ior_b 23 (by decide) (x := b2083) (y := x65_4_1060) (show 0 ≤ b2083 ∧ b2083 < 8388608 from ⟨by omega, by omega⟩) (show 0 ≤ x65_4_1060 ∧ x65_4_1060 < 8388608 from ⟨by omega, by omega⟩)
          rw [← e_b2084] at h_b2084
          refine m_s53 dX12_weighs_208 ⟨by omega, by omega⟩ ?_
          have hB2085 := ba_53 (z := b2084) (k := a1) hB65_1060 ⟨by omega, by omega⟩
          exact g_retV dX12_weighs_209 rfl (hQ _ hB2085 (FrM.a (FrM.c (FrM.s (FrM.c (FrM.c FrM.rf hFc1 rfl) hE52_1057 rfl) rfl) hE65_1060 rfl) rfl rfl) (MV.fr (F := ([78], [50, 53])) w52_MV_1057 (FrM.a (FrM.c (FrM.s FrM.rf rfl) hE65_1060 rfl) rfl rfl) rfl))
      refine g_icmp_ge (tgt := 184) dX12_weighs_67 (by decide) ⟨by omega, by omega⟩ (by decide) (fun k2086 => ?_) (fun k2086 => ?_)
      · refine g_forget (l1 := [(0, vR 0), (1, vI a1), (3, vI x65_3_1060), (4, vI x65_4_1060)]) (by intro q hq; simp only [List.mem_cons, List.not_mem_nil, or_false] at hq ⊢; rcases hq with rfl | rfl | rfl | rfl <;> simp) ?_
        exact J184_2077 trivial
      · refine g_iload dX12_weighs_70 rfl ?_
        refine g_aload_n dX12_weighs_72 rfl ?_
        refine m_g50 rfl dX12_weighs_73 ?_
        refine g_iload_n dX12_weighs_76 rfl ?_
        refine m_l33 (z := (P 33 rc1)) dX12_weighs_77 ⟨by omega, by omega⟩ ((congrFun (hE65_1060.2 33 rfl rfl) _).trans ((up_o (by decide)).trans ((congrFun (hE52_1057.2 33 rfl rfl) _).trans ((congrFun (hFc1.2 33 rfl rfl) _).trans rfl)))) ?_
        have f2087 := bl_33 (k := rc1) hB
        refine g_icmp_ge (tgt := 184) dX12_weighs_78 (by decide) ⟨by omega, by omega⟩ ⟨by have q0 := bl_33 (k := rc1) hB; omega, by have q0 := bl_33 (k := rc1) hB; omega⟩ (fun k2088 => ?_) (fun k2088 => ?_)
        · refine g_forget (l1 := [(0, vR 0), (1, vI a1), (3, vI x65_3_1060), (4, vI x65_4_1060)]) (by intro q hq; simp only [List.mem_cons, List.not_mem_nil, or_false] at hq ⊢; rcases hq with rfl | rfl | rfl | rfl <;> simp) ?_
          exact J184_2077 trivial
        · refine g_aload_n dX12_weighs_81 rfl ?_
          refine g_iload_n dX12_weighs_82 rfl ?_
          refine g_iload_n dX12_weighs_83 rfl ?_
          refine g_aload_n dX12_weighs_84 rfl ?_
          refine m_g63 rfl dX12_weighs_85 ?_
          refine g_sipush dX12_weighs_88 (by decide) ?_
          refine g_iload_n dX12_weighs_91 rfl ?_
          refine g_imul dX12_weighs_92 ?_
          refine g_iload dX12_weighs_93 rfl ?_
          refine g_iadd dX12_weighs_95 ?_
          refine m_l41 (z := (P 41 ((2010 * rc1) + x65_5_1060))) dX12_weighs_96 ⟨by omega, by omega⟩ ((congrFun (hE65_1060.2 41 rfl rfl) _).trans ((up_o (by decide)).trans ((congrFun (hE52_1057.2 41 rfl rfl) _).trans ((congrFun (hFc1.2 41 rfl rfl) _).trans rfl)))) ?_
          have f2089 := bl_41 (k := ((2010 * rc1) + x65_5_1060)) hB
          refine g_vI (av := [vI a1, vI rc1, vI (P 41 ((2010 * rc1) + x65_5_1060))]) (o := 0) (st := []) (m_X12_branchOf G H65_1060 a1 rc1 (P 41 ((2010 * rc1) + x65_5_1060)) ⟨by omega, by omega⟩ ⟨by omega, by omega⟩ ⟨by have q0 := bl_41 (k := ((2010 * rc1) + x65_5_1060)) hB; omega, by have q0 := bl_41 (k := ((2010 * rc1) + x65_5_1060)) hB; omega⟩ hB65_1060  _ (fun rc2090 hc2090 gc2090_lt gc2090_le gc2090_wl => ⟨rc2090, rfl, ?_⟩)) cf_X12_branchOf t_2037 rfl (by decide) rfl rfl rfl (Nat.le_of_ble_eq_true rfl) (by decide) rfl dX12_weighs_97
          refine g_istore (l1 := [(6, vI rc2090), (0, vR 0), (1, vI a1), (2, vI rc1), (3, vI x65_3_1060), (4, vI x65_4_1060), (5, vI x65_5_1060)]) dX12_weighs_100 (by decide) rfl ?_
          refine g_aload_n dX12_weighs_102 rfl ?_
          refine m_g77 rfl dX12_weighs_103 ?_
          refine g_iload dX12_weighs_106 rfl ?_
          refine g_sI (av := [vI rc2090]) (st := [vR 50]) (m_X12_armsIn G H65_1060 rc2090 ⟨by omega, by omega⟩ hB65_1060  _ (fun rc2091 hc2091 gc2091_v => ⟨rc2091, rfl, ?_⟩)) cf_X12_armsIn t_2017 rfl (Nat.le_of_ble_eq_true rfl) (by decide) rfl dX12_weighs_108
          refine m_l50 (z := (H65_1060 50 rc2091)) dX12_weighs_111 ⟨by omega, by omega⟩ rfl ?_
          refine g_aload_n dX12_weighs_112 rfl ?_
          refine m_g78 (z := r1059) rfl dX12_weighs_113 ((hE65_1060.1 78 rfl).trans up_same) ?_
          have f2092 := bl_50 (k := rc2091) hB65_1060
          have J178_2099 : ∀ (x178_4_2099 : Int) (h_x178_4_2099 : 0 ≤ x178_4_2099 ∧ x178_4_2099 ≤ 8) (x178_3_2099 : Int) (h_x178_3_2099 : (-2147483648) ≤ x178_3_2099 ∧ x178_3_2099 ≤ 2147483647) (H178_2099 : PH) (hB178_2099 : BdM H178_2099) (hE178_2099 : FrM ([], [50]) H65_1060 H178_2099), Go WSM G 5 iX12_weighs 178 [(0, vR 0), (1, vI a1), (2, vI rc1), (3, vI x178_3_2099), (4, vI x178_4_2099), (5, vI x65_5_1060)] [] H178_2099 Q := by
            intro x178_4_2099 h_x178_4_2099 x178_3_2099 h_x178_3_2099 H178_2099 hB178_2099 hE178_2099
            refine g_iinc (l1 := [(5, vI (x65_5_1060 + 1)), (0, vR 0), (1, vI a1), (2, vI rc1), (3, vI x178_3_2099), (4, vI x178_4_2099)]) dX12_weighs_178 rfl (by decide) rfl ?_
            refine g_goto (tgt := 65) dX12_weighs_181 (by decide) ?_
            refine g_forget (l1 := [(0, vR 0), (1, vI a1), (2, vI rc1), (3, vI x178_3_2099), (4, vI x178_4_2099), (5, vI (x65_5_1060 + 1))]) (by intro q hq; simp only [List.mem_cons, List.not_mem_nil, or_false] at hq ⊢; rcases hq with rfl | rfl | rfl | rfl | rfl | rfl <;> simp) ?_
            exact ih65_1060 (x65_5_1060 + 1) ⟨by omega, by omega⟩ x178_3_2099 ⟨by omega, by omega⟩ x178_4_2099 ⟨by omega, by omega⟩ _ hB178_2099 (FrM.c (FrM.c FrM.rf hE65_1060 rfl) hE178_2099 rfl) (by omega)
          refine g_icmp_ne (tgt := 122) dX12_weighs_116 (by decide) ⟨by have q0 := bl_50 (k := rc2091) hB65_1060; omega, by have q0 := bl_50 (k := rc2091) hB65_1060; omega⟩ ⟨by omega, by omega⟩ (fun k2101 => ?_) (fun k2101 => ?_)
          · refine g_aload_n dX12_weighs_122 rfl ?_
            refine m_g77 rfl dX12_weighs_123 ?_
            refine g_iload dX12_weighs_126 rfl ?_
            refine g_sI (av := [vI rc2090]) (st := [vR 50]) (m_X12_armsIn G H65_1060 rc2090 ⟨by omega, by omega⟩ hB65_1060  _ (fun rc2102 hc2102 gc2102_v => ⟨rc2102, rfl, ?_⟩)) cf_X12_armsIn t_2017 rfl (Nat.le_of_ble_eq_true rfl) (by decide) rfl dX12_weighs_128
            refine g_aload_n dX12_weighs_131 rfl ?_
            refine m_g78 (z := r1059) rfl dX12_weighs_132 ((hE65_1060.1 78 rfl).trans up_same) ?_
            refine m_s50 dX12_weighs_135 ⟨by omega, by omega⟩ ?_
            have hB2103 := ba_50 (z := r1059) (k := rc2102) hB65_1060 ⟨by omega, by omega⟩
            refine g_iload_n dX12_weighs_136 rfl ?_
            refine g_aload_n dX12_weighs_137 rfl ?_
            refine m_g82 rfl dX12_weighs_138 ?_
            refine g_iload dX12_weighs_141 rfl ?_
            refine m_l53 (z := (P 53 rc2090)) dX12_weighs_143 ⟨by omega, by omega⟩ ((up_o (by decide)).trans ((congrFun (hE65_1060.2 53 rfl rfl) _).trans ((up_o (by decide)).trans ((congrFun (hE52_1057.2 53 rfl rfl) _).trans ((congrFun (hFc1.2 53 rfl rfl) _).trans rfl))))) ?_
            refine g_iconst dX12_weighs_144 ?_
            refine g_ishr dX12_weighs_145 ?_
            refine g_nm (fun b2104 e_b2104 => ?_)
            have h_b2104 : (ishr (P 53 rc2090) 3) = (P 53 rc2090) / 8 := ishr_c 3 (by decide) (x := (P 53 rc2090)) ⟨by have q0 := bl_53 (k := rc2090) hB; omega, by have q0 := bl_53 (k := rc2090) hB; omega⟩
            rw [← e_b2104] at h_b2104
            have f_b2104_0 := bl_53 (k := rc2090) hB
            refine g_iadd dX12_weighs_146 ?_
            refine g_norm (fun r2105 h_r2105 e_r2105 => ?_)
            refine g_istore_n (l1 := [(3, vI r2105), (6, vI rc2090), (0, vR 0), (1, vI a1), (2, vI rc1), (4, vI x65_4_1060), (5, vI x65_5_1060)]) dX12_weighs_147 (by decide) rfl ?_
            refine g_aload_n dX12_weighs_148 rfl ?_
            refine m_g82 rfl dX12_weighs_149 ?_
            refine g_iload dX12_weighs_152 rfl ?_
            refine m_l53 (z := (P 53 rc2090)) dX12_weighs_154 ⟨by omega, by omega⟩ ((up_o (by decide)).trans ((congrFun (hE65_1060.2 53 rfl rfl) _).trans ((up_o (by decide)).trans ((congrFun (hE52_1057.2 53 rfl rfl) _).trans ((congrFun (hFc1.2 53 rfl rfl) _).trans rfl))))) ?_
            refine g_bipush dX12_weighs_155 (by decide) ?_
            refine g_iand dX12_weighs_157 ?_
            refine g_nm (fun b2106 e_b2106 => ?_)
            have h_b2106 := iand_r (x := (P 53 rc2090)) (y := 7) ⟨by omega, by omega⟩
            rw [← e_b2106] at h_b2106
            refine g_iconst dX12_weighs_158 ?_
            refine g_iadd dX12_weighs_159 ?_
            refine g_istore (l1 := [(7, vI (b2106 + 1)), (3, vI r2105), (6, vI rc2090), (0, vR 0), (1, vI a1), (2, vI rc1), (4, vI x65_4_1060), (5, vI x65_5_1060)]) dX12_weighs_160 (by decide) rfl ?_
            refine g_iload dX12_weighs_162 rfl ?_
            refine g_iload dX12_weighs_164 rfl ?_
            refine g_icmp_le (tgt := 174) dX12_weighs_166 (by decide) ⟨by omega, by omega⟩ ⟨by omega, by omega⟩ (fun k2107 => ?_) (fun k2107 => ?_)
            · refine g_iload dX12_weighs_174 rfl ?_
              refine g_istore (l1 := [(4, vI x65_4_1060), (7, vI (b2106 + 1)), (3, vI r2105), (6, vI rc2090), (0, vR 0), (1, vI a1), (2, vI rc1), (5, vI x65_5_1060)]) dX12_weighs_176 (by decide) rfl ?_
              refine g_forget (l1 := [(0, vR 0), (1, vI a1), (2, vI rc1), (3, vI r2105), (4, vI x65_4_1060), (5, vI x65_5_1060)]) (by intro q hq; simp only [List.mem_cons, List.not_mem_nil, or_false] at hq ⊢; rcases hq with rfl | rfl | rfl | rfl | rfl | rfl <;> simp) ?_
              exact J178_2099 x65_4_1060 ⟨by omega, by omega⟩ r2105 ⟨by omega, by omega⟩ _ hB2103 (FrM.a FrM.rf rfl rfl)
            · refine g_iload dX12_weighs_169 rfl ?_
              refine g_goto (tgt := 176) dX12_weighs_171 (by decide) ?_
              refine g_istore (l1 := [(4, vI (b2106 + 1)), (7, vI (b2106 + 1)), (3, vI r2105), (6, vI rc2090), (0, vR 0), (1, vI a1), (2, vI rc1), (5, vI x65_5_1060)]) dX12_weighs_176 (by decide) rfl ?_
              refine g_forget (l1 := [(0, vR 0), (1, vI a1), (2, vI rc1), (3, vI r2105), (4, vI (b2106 + 1)), (5, vI x65_5_1060)]) (by intro q hq; simp only [List.mem_cons, List.not_mem_nil, or_false] at hq ⊢; rcases hq with rfl | rfl | rfl | rfl | rfl | rfl <;> simp) ?_
              exact J178_2099 (b2106 + 1) ⟨by omega, by omega⟩ r2105 ⟨by omega, by omega⟩ _ hB2103 (FrM.a FrM.rf rfl rfl)
          · refine g_goto (tgt := 178) dX12_weighs_119 (by decide) ?_
            refine g_forget (l1 := [(0, vR 0), (1, vI a1), (2, vI rc1), (3, vI x65_3_1060), (4, vI x65_4_1060), (5, vI x65_5_1060)]) (by intro q hq; simp only [List.mem_cons, List.not_mem_nil, or_false] at hq ⊢; rcases hq with rfl | rfl | rfl | rfl | rfl | rfl <;> simp) ?_
            exact J178_2099 x65_4_1060 ⟨by omega, by omega⟩ x65_3_1060 ⟨by omega, by omega⟩ _ hB65_1060 FrM.rf
    refine g_forget (l1 := [(0, vR 0), (1, vI a1), (2, vI rc1), (3, vI x52_3_1057), (4, vI x52_4_1057), (5, vI 0)]) (by intro q hq; simp only [List.mem_cons, List.not_mem_nil, or_false] at hq ⊢; rcases hq with rfl | rfl | rfl | rfl | rfl | rfl <;> simp) ?_
    exact L65_1060 _ 0 (by decide) x52_3_1057 ⟨by omega, by omega⟩ x52_4_1057 ⟨by omega, by omega⟩ _ hB1060 FrM.rf (Nat.lt_succ_self _)
  refine g_icmp_ne (tgt := 52) dX12_weighs_13 (by decide) ⟨by omega, by omega⟩ (by decide) (fun k2108 => ?_) (fun k2108 => ?_)
  · refine g_forget (l1 := [(0, vR 0), (1, vI a1), (2, vI rc1), (3, vI 1), (4, vI 0)]) (by intro q hq; simp only [List.mem_cons, List.not_mem_nil, or_false] at hq ⊢; rcases hq with rfl | rfl | rfl | rfl | rfl <;> simp) ?_
    exact J52_1057 0 (by decide) 1 (by decide) _ hBc1 FrM.rf vc1_MV (vc1_MV.w)
  · refine g_aload_n dX12_weighs_16 rfl ?_
    refine g_iload_n dX12_weighs_17 rfl ?_
    refine g_vI (av := [vI a1]) (o := 0) (st := []) (m_X12_isDoor G Pc1 a1 ⟨by omega, by omega⟩ hBc1 vc1_MV _ (fun rc2109 hc2109 Pc2109 hBc2109 hFc2109 gc2109_d vc2109_MV => ⟨rc2109, rfl, ?_⟩)) cf_X12_isDoor t_2049 rfl (by decide) rfl rfl rfl (Nat.le_of_ble_eq_true rfl) (by decide) rfl dX12_weighs_18
    refine g_if_eq (tgt := 52) dX12_weighs_21 (by decide) ⟨by omega, by omega⟩ (fun k2110 => ?_) (fun k2110 => ?_)
    · refine g_forget (l1 := [(0, vR 0), (1, vI a1), (2, vI rc1), (3, vI 1), (4, vI 0)]) (by intro q hq; simp only [List.mem_cons, List.not_mem_nil, or_false] at hq ⊢; rcases hq with rfl | rfl | rfl | rfl | rfl <;> simp) ?_
      exact J52_1057 0 (by decide) 1 (by decide) _ hBc2109 (FrM.c FrM.rf hFc2109 rfl) vc2109_MV (vc2109_MV.w)
    · refine g_iload_n dX12_weighs_24 rfl ?_
      refine g_aload_n dX12_weighs_25 rfl ?_
      refine m_g82 rfl dX12_weighs_26 ?_
      refine g_iload_n dX12_weighs_29 rfl ?_
      refine g_sI (av := [vI a1]) (st := [vR 53, vI 1]) (m_X12_throughDoor G Pc2109 a1 ⟨by omega, by omega⟩ hBc2109  _ (fun rc2111 hc2111 gc2111_lt gc2111_le gc2111_wl => ⟨rc2111, rfl, ?_⟩)) cf_X12_throughDoor t_2034 rfl (Nat.le_of_ble_eq_true rfl) (by decide) rfl dX12_weighs_30
      refine m_l53 (z := (P 53 rc2111)) dX12_weighs_33 ⟨by omega, by omega⟩ ((congrFun (hFc2109.2 53 rfl rfl) _).trans ((congrFun (hFc1.2 53 rfl rfl) _).trans rfl)) ?_
      refine g_iconst dX12_weighs_34 ?_
      refine g_ishr dX12_weighs_35 ?_
      refine g_nm (fun b2112 e_b2112 => ?_)
      have h_b2112 : (ishr (P 53 rc2111) 3) = (P 53 rc2111) / 8 := ishr_c 3 (by decide) (x := (P 53 rc2111)) ⟨by have q0 := bl_53 (k := rc2111) hB; omega, by have q0 := bl_53 (k := rc2111) hB; omega⟩
      rw [← e_b2112] at h_b2112
      have f_b2112_0 := bl_53 (k := rc2111) hB
      refine g_iadd dX12_weighs_36 ?_
      refine g_istore_n (l1 := [(3, vI (1 + b2112)), (4, vI 0), (2, vI rc1), (0, vR 0), (1, vI a1)]) dX12_weighs_37 (by decide) rfl ?_
      refine g_aload_n dX12_weighs_38 rfl ?_
      refine m_g82 rfl dX12_weighs_39 ?_
      refine g_iload_n dX12_weighs_42 rfl ?_
      refine g_sI (av := [vI a1]) (st := [vR 53]) (m_X12_throughDoor G Pc2109 a1 ⟨by omega, by omega⟩ hBc2109  _ (fun rc2113 hc2113 gc2113_lt gc2113_le gc2113_wl => ⟨rc2113, rfl, ?_⟩)) cf_X12_throughDoor t_2034 rfl (Nat.le_of_ble_eq_true rfl) (by decide) rfl dX12_weighs_43
      refine m_l53 (z := (P 53 rc2113)) dX12_weighs_46 ⟨by omega, by omega⟩ ((congrFun (hFc2109.2 53 rfl rfl) _).trans ((congrFun (hFc1.2 53 rfl rfl) _).trans rfl)) ?_
      refine g_bipush dX12_weighs_47 (by decide) ?_
      refine g_iand dX12_weighs_49 ?_
      refine g_nm (fun b2114 e_b2114 => ?_)
      have h_b2114 := iand_r (x := (P 53 rc2113)) (y := 7) ⟨by omega, by omega⟩
      rw [← e_b2114] at h_b2114
      refine g_istore (l1 := [(4, vI b2114), (3, vI (1 + b2112)), (2, vI rc1), (0, vR 0), (1, vI a1)]) dX12_weighs_50 (by decide) rfl ?_
      refine g_forget (l1 := [(0, vR 0), (1, vI a1), (2, vI rc1), (3, vI (1 + b2112)), (4, vI b2114)]) (by intro q hq; simp only [List.mem_cons, List.not_mem_nil, or_false] at hq ⊢; rcases hq with rfl | rfl | rfl | rfl | rfl <;> simp) ?_
      exact J52_1057 b2114 ⟨by omega, by omega⟩ (1 + b2112) ⟨by omega, by omega⟩ _ hBc2109 (FrM.c FrM.rf hFc2109 rfl) vc2109_MV (vc2109_MV.w)
set_option maxRecDepth 100000 in
set_option maxHeartbeats 4000000 in
theorem m_X12_sizeOf (G : GT) (P : PH) (a1 : Int) (h_a1 : (-2147483648) ≤ a1 ∧ a1 ≤ 2147483647) (hB : BdM P) (Q : Option PV → PH → Prop) (hQ : ∀ (r : Int) (_ : (-2147483648) ≤ r ∧ r ≤ 2147483647), Q (some (vI r)) P) : Ct WSM G 2 iX12_sizeOf [vI a1] P Q := by
  refine Ct.of (by decide) (l0 := [(0, vI a1)]) rfl (Nat.le_of_ble_eq_true rfl) ?_
  refine g_iload_n dX12_sizeOf_0 rfl ?_
  refine g_sI (av := [vI a1]) (st := []) (m_X12_bitsOf G P a1 ⟨by omega, by omega⟩ hB  _ (fun rc1 hc1 => ⟨rc1, rfl, ?_⟩)) cf_X12_bitsOf t_2031 rfl (Nat.le_of_ble_eq_true rfl) (by decide) rfl dX12_sizeOf_1
  exact g_retI dX12_sizeOf_4 rfl (hQ rc1 ⟨by omega, by omega⟩ )
set_option maxRecDepth 100000 in
set_option maxHeartbeats 4000000 in
theorem m_X12_tree (G : GT) (P : PH) (a1 : Int) (a2 : Int) (h_a1 : (-2147483648) ≤ a1 ∧ a1 ≤ 2147483647) (h_a2 : (-2147483648) ≤ a2 ∧ a2 ≤ 2147483647) (hB : BdM P) (p_st : P 0 74 ≤ 199999999) (v_okC : okC P) (v_MVw : MVw P) (v_RE : RE P) (Q : Option PV → PH → Prop) (hQ : ∀ (r : Int) (_ : (-2147483648) ≤ r ∧ r ≤ 2147483647) (P1 : PH) (_ : BdM P1) (_ : FrM ([62, 66, 74, 76, 78, 81], [41, 42, 43, 44, 49, 50, 51, 52, 53]) P P1) (_ : P1 0 74 ≤ P 0 74 + 1) (_ : MVw P1) (_ : RE P1), Q (some (vI r)) P1) : Ct WSM G 6 iX12_tree [vR 0, vI a1, vI a2] P Q := by
  refine Ct.of (by decide) (l0 := [(0, vR 0), (1, vI a1), (2, vI a2)]) rfl (Nat.le_of_ble_eq_true rfl) ?_
  refine g_aload_n dX12_tree_0 rfl ?_
  refine m_g44 (z := (P 0 44)) rfl dX12_tree_1 rfl ?_
  have f1 := b0_44 hB
  refine g_if_eq (tgt := 25) dX12_tree_4 (by decide) ⟨by have q0 := b0_44 hB; omega, by have q0 := b0_44 hB; omega⟩ (fun k2 => ?_) (fun k2 => ?_)
  · refine g_iconst dX12_tree_25 ?_
    exact g_retI dX12_tree_26 rfl (hQ (-1) (by decide) _ hB FrM.rf (by have q0 := b0_74 hB; omega) v_MVw v_RE)
  · refine g_iload_n dX12_tree_7 rfl ?_
    refine g_iconst dX12_tree_8 ?_
    refine g_iconst dX12_tree_9 ?_
    refine g_sI (av := [vI a1, vI 0, vI 3]) (st := []) (m_X12_is G P a1 0 3 ⟨by omega, by omega⟩ (by decide) (by decide) hB  _ (fun rc3 hc3 gc3_is => ⟨rc3, rfl, ?_⟩)) cf_X12_is t_1800 rfl (Nat.le_of_ble_eq_true rfl) (by decide) rfl dX12_tree_10
    refine g_if_eq (tgt := 25) dX12_tree_13 (by decide) ⟨by omega, by omega⟩ (fun k4 => ?_) (fun k4 => ?_)
    · refine g_iconst dX12_tree_25 ?_
      exact g_retI dX12_tree_26 rfl (hQ (-1) (by decide) _ hB FrM.rf (by have q0 := b0_74 hB; omega) v_MVw v_RE)
    · refine g_iload_n dX12_tree_16 rfl ?_
      refine g_iconst dX12_tree_17 ?_
      refine g_iconst dX12_tree_18 ?_
      refine g_sI (av := [vI a2, vI 0, vI 3]) (st := []) (m_X12_is G P a2 0 3 ⟨by omega, by omega⟩ (by decide) (by decide) hB  _ (fun rc5 hc5 gc5_is => ⟨rc5, rfl, ?_⟩)) cf_X12_is t_1800 rfl (Nat.le_of_ble_eq_true rfl) (by decide) rfl dX12_tree_19
      refine g_if_ne (tgt := 27) dX12_tree_22 (by decide) ⟨by omega, by omega⟩ (fun k6 => ?_) (fun k6 => ?_)
      · refine g_aload_n dX12_tree_27 rfl ?_
        refine g_iconst dX12_tree_28 ?_
        refine g_iload_n dX12_tree_29 rfl ?_
        refine g_vV (av := [vI 0, vI a1]) (o := 0) (st := []) (m_X12_plants G P 0 a1 (by decide) ⟨by omega, by omega⟩ hB (by have q0 := b0_74 hB; omega) v_MVw v_RE _ (fun Pc7 hBc7 hFc7 gc7_st vc7_MV vc7_RE vc7_RLt => ⟨rfl, ?_⟩)) cf_X12_plants t_1998 rfl (by decide) rfl rfl rfl (Nat.le_of_ble_eq_true rfl) (by decide) rfl dX12_tree_30
        refine g_iload_n dX12_tree_33 rfl ?_
        refine g_iconst dX12_tree_34 ?_
        refine g_icmp_ne (tgt := 44) dX12_tree_35 (by decide) ⟨by omega, by omega⟩ (by decide) (fun k8 => ?_) (fun k8 => ?_)
        · refine g_aload_n dX12_tree_44 rfl ?_
          refine g_vV (av := []) (o := 0) (st := []) (m_X12_grows G Pc7  hBc7 vc7_MV vc7_RLt _ (fun Pc9 hBc9 hFc9 vc9_MV vc9_RE => ⟨rfl, ?_⟩)) cf_X12_grows t_2041 rfl (by decide) rfl rfl rfl (Nat.le_of_ble_eq_true rfl) (by decide) rfl dX12_tree_45
          refine g_iload_n dX12_tree_48 rfl ?_
          refine g_iconst dX12_tree_49 ?_
          refine g_icmp_ne (tgt := 58) dX12_tree_50 (by decide) ⟨by omega, by omega⟩ (by decide) (fun k10 => ?_) (fun k10 => ?_)
          · refine g_iconst dX12_tree_58 ?_
            refine g_istore_n (l1 := [(3, vI 0), (0, vR 0), (1, vI a1), (2, vI a2)]) dX12_tree_59 (by decide) rfl ?_
            have L60_10 : ∀ (n60_10 : Nat) (x60_3_10 : Int) (h_x60_3_10 : 0 ≤ x60_3_10 ∧ x60_3_10 ≤ 17) (H60_10 : PH) (hB60_10 : BdM H60_10) (hE60_10 : FrM ([78], [49, 50, 53]) Pc9 H60_10) (w60_MV_10 : MV H60_10) (w60_MVw_10 : MVw H60_10) (hm60_10 : ((18 - x60_3_10) : Int).toNat < n60_10), Go WSM G 6 iX12_tree 60 [(0, vR 0), (2, vI a2), (3, vI x60_3_10)] [] H60_10 Q := by
              intro n60_10
              induction n60_10 with
              | zero => intro x60_3_10 h_x60_3_10 H60_10 hB60_10 hE60_10 w60_MV_10 w60_MVw_10 hm60_10; exact absurd hm60_10 (Nat.not_lt_zero _)
              | succ n60_10 ih60_10 =>
              intro x60_3_10 h_x60_3_10 H60_10 hB60_10 hE60_10 w60_MV_10 w60_MVw_10 hm60_10
              refine g_iload_n dX12_tree_60 rfl ?_
              refine g_bipush dX12_tree_61 (by decide) ?_
              refine g_icmp_gt (tgt := 115) dX12_tree_63 (by decide) ⟨by omega, by omega⟩ (by decide) (fun k2524 => ?_) (fun k2524 => ?_)
              · refine g_iload_n dX12_tree_115 rfl ?_
                refine g_if_ne (tgt := 133) dX12_tree_116 (by decide) ⟨by omega, by omega⟩ (fun k2525 => ?_) (fun k2525 => ?_)
                · refine g_aload_n dX12_tree_133 rfl ?_
                  refine m_g82 rfl dX12_tree_134 ?_
                  refine g_aload_n dX12_tree_137 rfl ?_
                  refine g_vI (av := []) (o := 0) (st := [vR 53]) (m_X12_root G H60_10  hB60_10  _ (fun rc2526 hc2526 => ⟨rc2526, rfl, ?_⟩)) cf_X12_root t_2010 rfl (by decide) rfl rfl rfl (Nat.le_of_ble_eq_true rfl) (by decide) rfl dX12_tree_138
                  refine m_l53 (z := (H60_10 53 rc2526)) dX12_tree_141 ⟨by omega, by omega⟩ rfl ?_
                  refine g_bipush dX12_tree_142 (by decide) ?_
                  refine g_iand dX12_tree_144 ?_
                  refine g_nm (fun b2527 e_b2527 => ?_)
                  have h_b2527 := iand_r (x := (H60_10 53 rc2526)) (y := 7) ⟨by omega, by omega⟩
                  rw [← e_b2527] at h_b2527
                  exact g_retI dX12_tree_145 rfl (hQ b2527 ⟨by omega, by omega⟩ _ hB60_10 (FrM.c (FrM.c (FrM.c FrM.rf hFc7 rfl) hFc9 rfl) hE60_10 rfl) (by have q0 := (((hE60_10.1 74 rfl).trans ((hFc9.1 74 rfl).trans rfl)) : H60_10 0 74 = (Pc7 0 74)); have q1 := b0_74 hBc7; omega) w60_MVw_10 (RE.fr (F := ([78], [49, 50, 53])) vc9_RE (FrM.c FrM.rf hE60_10 rfl) rfl))
                · refine g_aload_n dX12_tree_119 rfl ?_
                  refine m_g82 rfl dX12_tree_120 ?_
                  refine g_aload_n dX12_tree_123 rfl ?_
                  refine g_vI (av := []) (o := 0) (st := [vR 53]) (m_X12_root G H60_10  hB60_10  _ (fun rc2528 hc2528 => ⟨rc2528, rfl, ?_⟩)) cf_X12_root t_2010 rfl (by decide) rfl rfl rfl (Nat.le_of_ble_eq_true rfl) (by decide) rfl dX12_tree_124
                  refine m_l53 (z := (H60_10 53 rc2528)) dX12_tree_127 ⟨by omega, by omega⟩ rfl ?_
                  refine g_iconst dX12_tree_128 ?_
                  refine g_ishr dX12_tree_129 ?_
                  refine g_nm (fun b2529 e_b2529 => ?_)
                  have h_b2529 : (ishr (H60_10 53 rc2528) 3) = (H60_10 53 rc2528) / 8 := ishr_c 3 (by decide) (x := (H60_10 53 rc2528)) ⟨by have q0 := bl_53 (k := rc2528) hB60_10; omega, by have q0 := bl_53 (k := rc2528) hB60_10; omega⟩
                  rw [← e_b2529] at h_b2529
                  have f_b2529_0 := bl_53 (k := rc2528) hB60_10
                  refine g_goto (tgt := 145) dX12_tree_130 (by decide) ?_
                  exact g_retI dX12_tree_145 rfl (hQ b2529 ⟨by omega, by omega⟩ _ hB60_10 (FrM.c (FrM.c (FrM.c FrM.rf hFc7 rfl) hFc9 rfl) hE60_10 rfl) (by have q0 := (((hE60_10.1 74 rfl).trans ((hFc9.1 74 rfl).trans rfl)) : H60_10 0 74 = (Pc7 0 74)); have q1 := b0_74 hBc7; omega) w60_MVw_10 (RE.fr (F := ([78], [49, 50, 53])) vc9_RE (FrM.c FrM.rf hE60_10 rfl) rfl))
              · refine g_iconst dX12_tree_66 ?_
                refine g_istore (l1 := [(4, vI 0), (0, vR 0), (2, vI a2), (3, vI x60_3_10)]) dX12_tree_67 (by decide) rfl ?_
                have L69_2529 : ∀ (n69_2529 : Nat) (x69_4_2529 : Int) (h_x69_4_2529 : 0 ≤ x69_4_2529 ∧ x69_4_2529 ≤ 65536) (H69_2529 : PH) (hB69_2529 : BdM H69_2529) (hE69_2529 : FrM ([78], [49, 50, 53]) H60_10 H69_2529) (w69_MV_2529 : MV H69_2529) (w69_MVw_2529 : MVw H69_2529) (hm69_2529 : ((65537 - x69_4_2529) : Int).toNat < n69_2529), Go WSM G 6 iX12_tree 69 [(0, vR 0), (2, vI a2), (3, vI x60_3_10), (4, vI x69_4_2529)] [] H69_2529 Q := by
                  intro n69_2529
                  induction n69_2529 with
                  | zero => intro x69_4_2529 h_x69_4_2529 H69_2529 hB69_2529 hE69_2529 w69_MV_2529 w69_MVw_2529 hm69_2529; exact absurd hm69_2529 (Nat.not_lt_zero _)
                  | succ n69_2529 ih69_2529 =>
                  intro x69_4_2529 h_x69_4_2529 H69_2529 hB69_2529 hE69_2529 w69_MV_2529 w69_MVw_2529 hm69_2529
                  refine g_iload dX12_tree_69 rfl ?_
                  refine g_aload_n dX12_tree_71 rfl ?_
                  refine m_g81 (z := (Pc9 0 81)) rfl dX12_tree_72 ((hE69_2529.1 81 rfl).trans ((hE60_10.1 81 rfl).trans rfl)) ?_
                  have f2747 := b0_81 hBc9
                  refine g_icmp_ge (tgt := 109) dX12_tree_75 (by decide) ⟨by omega, by omega⟩ ⟨by have q0 := b0_81 hBc9; omega, by have q0 := b0_81 hBc9; omega⟩ (fun k2748 => ?_) (fun k2748 => ?_)
                  · refine g_iinc (l1 := [(3, vI (x60_3_10 + 1)), (0, vR 0), (2, vI a2), (4, vI x69_4_2529)]) dX12_tree_109 rfl (by decide) rfl ?_
                    refine g_goto (tgt := 60) dX12_tree_112 (by decide) ?_
                    refine g_forget (l1 := [(0, vR 0), (2, vI a2), (3, vI (x60_3_10 + 1))]) (by intro q hq; simp only [List.mem_cons, List.not_mem_nil, or_false] at hq ⊢; rcases hq with rfl | rfl | rfl <;> simp) ?_
                    exact ih60_10 (x60_3_10 + 1) ⟨by omega, by omega⟩ _ hB69_2529 (FrM.c (FrM.c FrM.rf hE60_10 rfl) hE69_2529 rfl) w69_MV_2529 w69_MVw_2529 (by omega)
                  · refine g_aload_n dX12_tree_78 rfl ?_
                    refine m_g80 rfl dX12_tree_79 ?_
                    refine g_iload dX12_tree_82 rfl ?_
                    refine m_l52 (z := (Pc9 52 x69_4_2529)) dX12_tree_84 ⟨by omega, by omega⟩ ((congrFun (hE69_2529.2 52 rfl rfl) _).trans ((congrFun (hE60_10.2 52 rfl rfl) _).trans rfl)) ?_
                    have f2749 := bl_52 (k := x69_4_2529) hBc9
                    refine g_sI (av := [vI (Pc9 52 x69_4_2529)]) (st := []) (m_X12_sizeOf G H69_2529 (Pc9 52 x69_4_2529) ⟨by have q0 := bl_52 (k := x69_4_2529) hBc9; omega, by have q0 := bl_52 (k := x69_4_2529) hBc9; omega⟩ hB69_2529  _ (fun rc2750 hc2750 => ⟨rc2750, rfl, ?_⟩)) cf_X12_sizeOf t_2053 rfl (Nat.le_of_ble_eq_true rfl) (by decide) rfl dX12_tree_85
                    refine g_iload_n dX12_tree_88 rfl ?_
                    have J103_2752 : ∀ (H103_2752 : PH) (hB103_2752 : BdM H103_2752) (hE103_2752 : FrM ([78], [49, 50, 53]) H69_2529 H103_2752) (w103_MV_2752 : MV H103_2752) (w103_MVw_2752 : MVw H103_2752), Go WSM G 6 iX12_tree 103 [(0, vR 0), (2, vI a2), (3, vI x60_3_10), (4, vI x69_4_2529)] [] H103_2752 Q := by
                      intro H103_2752 hB103_2752 hE103_2752 w103_MV_2752 w103_MVw_2752
                      refine g_iinc (l1 := [(4, vI (x69_4_2529 + 1)), (0, vR 0), (2, vI a2), (3, vI x60_3_10)]) dX12_tree_103 rfl (by decide) rfl ?_
                      refine g_goto (tgt := 69) dX12_tree_106 (by decide) ?_
                      refine g_forget (l1 := [(0, vR 0), (2, vI a2), (3, vI x60_3_10), (4, vI (x69_4_2529 + 1))]) (by intro q hq; simp only [List.mem_cons, List.not_mem_nil, or_false] at hq ⊢; rcases hq with rfl | rfl | rfl | rfl <;> simp) ?_
                      exact ih69_2529 (x69_4_2529 + 1) ⟨by omega, by omega⟩ _ hB103_2752 (FrM.c (FrM.c FrM.rf hE69_2529 rfl) hE103_2752 rfl) w103_MV_2752 w103_MVw_2752 (by omega)
                    refine g_icmp_ne (tgt := 103) dX12_tree_89 (by decide) ⟨by omega, by omega⟩ ⟨by omega, by omega⟩ (fun k2754 => ?_) (fun k2754 => ?_)
                    · refine g_forget (l1 := [(0, vR 0), (2, vI a2), (3, vI x60_3_10), (4, vI x69_4_2529)]) (by intro q hq; simp only [List.mem_cons, List.not_mem_nil, or_false] at hq ⊢; rcases hq with rfl | rfl | rfl | rfl <;> simp) ?_
                      exact J103_2752 _ hB69_2529 FrM.rf w69_MV_2529 w69_MVw_2529
                    · refine g_aload_n dX12_tree_92 rfl ?_
                      refine g_aload_n dX12_tree_93 rfl ?_
                      refine m_g80 rfl dX12_tree_94 ?_
                      refine g_iload dX12_tree_97 rfl ?_
                      refine m_l52 (z := (Pc9 52 x69_4_2529)) dX12_tree_99 ⟨by omega, by omega⟩ ((congrFun (hE69_2529.2 52 rfl rfl) _).trans ((congrFun (hE60_10.2 52 rfl rfl) _).trans rfl)) ?_
                      refine g_vV (av := [vI (Pc9 52 x69_4_2529)]) (o := 0) (st := []) (m_X12_weighs G H69_2529 (Pc9 52 x69_4_2529) ⟨by have q0 := bl_52 (k := x69_4_2529) hBc9; omega, by have q0 := bl_52 (k := x69_4_2529) hBc9; omega⟩ hB69_2529 w69_MV_2529 _ (fun Pc2755 hBc2755 hFc2755 vc2755_MV => ⟨rfl, ?_⟩)) cf_X12_weighs t_2056 rfl (by decide) rfl rfl rfl (Nat.le_of_ble_eq_true rfl) (by decide) rfl dX12_tree_100
                      refine g_forget (l1 := [(0, vR 0), (2, vI a2), (3, vI x60_3_10), (4, vI x69_4_2529)]) (by intro q hq; simp only [List.mem_cons, List.not_mem_nil, or_false] at hq ⊢; rcases hq with rfl | rfl | rfl | rfl <;> simp) ?_
                      exact J103_2752 _ hBc2755 (FrM.c FrM.rf hFc2755 rfl) vc2755_MV (vc2755_MV.w)
                refine g_forget (l1 := [(0, vR 0), (2, vI a2), (3, vI x60_3_10), (4, vI 0)]) (by intro q hq; simp only [List.mem_cons, List.not_mem_nil, or_false] at hq ⊢; rcases hq with rfl | rfl | rfl | rfl <;> simp) ?_
                exact L69_2529 _ 0 (by decide) _ hB60_10 FrM.rf w60_MV_10 w60_MVw_10 (Nat.lt_succ_self _)
            refine g_forget (l1 := [(0, vR 0), (2, vI a2), (3, vI 0)]) (by intro q hq; simp only [List.mem_cons, List.not_mem_nil, or_false] at hq ⊢; rcases hq with rfl | rfl | rfl <;> simp) ?_
            exact L60_10 _ 0 (by decide) _ hBc9 FrM.rf vc9_MV (vc9_MV.w) (Nat.lt_succ_self _)
          · refine g_aload_n dX12_tree_53 rfl ?_
            refine m_g81 (z := (Pc9 0 81)) rfl dX12_tree_54 rfl ?_
            exact g_retI dX12_tree_57 rfl (hQ (Pc9 0 81) ⟨by have q0 := b0_81 hBc9; omega, by have q0 := b0_81 hBc9; omega⟩ _ hBc9 (FrM.c (FrM.c FrM.rf hFc7 rfl) hFc9 rfl) (by have q0 := b0_81 hBc9; have q1 := (((hFc9.1 74 rfl).trans rfl) : Pc9 0 74 = (Pc7 0 74)); have q2 := b0_74 hBc7; omega) (vc9_MV.w) vc9_RE)
        · refine g_aload_n dX12_tree_38 rfl ?_
          refine g_iconst dX12_tree_39 ?_
          refine g_vI (av := [vI 0]) (o := 0) (st := []) (m_X12_allTests G Pc7 0 (by decide) hBc7 (okC.fr (F := ([62, 66, 74, 76], [41, 42, 43])) v_okC (FrM.c FrM.rf hFc7 rfl) rfl) vc7_MV _ (fun rc2756 hc2756 Pc2756 hBc2756 hFc2756 vc2756_MV => ⟨rc2756, rfl, ?_⟩)) cf_X12_allTests t_2002 rfl (by decide) rfl rfl rfl (Nat.le_of_ble_eq_true rfl) (by decide) rfl dX12_tree_40
          exact g_retI dX12_tree_43 rfl (hQ rc2756 ⟨by omega, by omega⟩ _ hBc2756 (FrM.c (FrM.c FrM.rf hFc7 rfl) hFc2756 rfl) (by have q0 := (((hFc2756.1 74 rfl).trans rfl) : Pc2756 0 74 = (Pc7 0 74)); have q1 := b0_74 hBc7; omega) (vc2756_MV.w) (RE.fr (F := ([78], [44, 49, 50])) vc7_RE (FrM.c FrM.rf hFc2756 rfl) rfl))
      · refine g_iconst dX12_tree_25 ?_
        exact g_retI dX12_tree_26 rfl (hQ (-1) (by decide) _ hB FrM.rf (by have q0 := b0_74 hB; omega) v_MVw v_RE)
set_option maxRecDepth 100000 in
set_option maxHeartbeats 4000000 in
theorem m_X12_first (G : GT) (P : PH) (a1 : Int) (h_a1 : (-2147483648) ≤ a1 ∧ a1 ≤ 2147483647) (hB : BdM P) (p_st : P 0 74 ≤ 199999999) (v_okC : okC P) (v_MVw : MVw P) (v_RE : RE P) (Q : Option PV → PH → Prop) (hQ : ∀ (r : Int) (_ : (-2147483648) ≤ r ∧ r ≤ 2147483647) (P1 : PH) (_ : BdM P1) (_ : FrM ([62, 66, 74, 76, 78], [41, 42, 43, 49, 50]) P P1) (_ : P1 0 74 ≤ P 0 74 + 1) (_ : MVw P1) (_ : RE P1), Q (some (vI r)) P1) : Ct WSM G 5 iX12_first [vR 0, vI a1] P Q := by
  refine Ct.of (by decide) (l0 := [(0, vR 0), (1, vI a1)]) rfl (Nat.le_of_ble_eq_true rfl) ?_
  refine g_aload_n dX12_first_0 rfl ?_
  refine m_g44 (z := (P 0 44)) rfl dX12_first_1 rfl ?_
  have f1 := b0_44 hB
  refine g_if_eq (tgt := 16) dX12_first_4 (by decide) ⟨by have q0 := b0_44 hB; omega, by have q0 := b0_44 hB; omega⟩ (fun k2 => ?_) (fun k2 => ?_)
  · refine g_iconst dX12_first_16 ?_
    exact g_retI dX12_first_17 rfl (hQ (-1) (by decide) _ hB FrM.rf (by have q0 := b0_74 hB; omega) v_MVw v_RE)
  · refine g_iload_n dX12_first_7 rfl ?_
    refine g_iconst dX12_first_8 ?_
    refine g_iconst dX12_first_9 ?_
    refine g_sI (av := [vI a1, vI 0, vI 3]) (st := []) (m_X12_is G P a1 0 3 ⟨by omega, by omega⟩ (by decide) (by decide) hB  _ (fun rc3 hc3 gc3_is => ⟨rc3, rfl, ?_⟩)) cf_X12_is t_1800 rfl (Nat.le_of_ble_eq_true rfl) (by decide) rfl dX12_first_10
    refine g_if_ne (tgt := 18) dX12_first_13 (by decide) ⟨by omega, by omega⟩ (fun k4 => ?_) (fun k4 => ?_)
    · refine g_aload_n dX12_first_18 rfl ?_
      refine g_iconst dX12_first_19 ?_
      refine g_iload_n dX12_first_20 rfl ?_
      refine g_vV (av := [vI 0, vI a1]) (o := 0) (st := []) (m_X12_plants G P 0 a1 (by decide) ⟨by omega, by omega⟩ hB (by have q0 := b0_74 hB; omega) v_MVw v_RE _ (fun Pc5 hBc5 hFc5 gc5_st vc5_MV vc5_RE vc5_RLt => ⟨rfl, ?_⟩)) cf_X12_plants t_1998 rfl (by decide) rfl rfl rfl (Nat.le_of_ble_eq_true rfl) (by decide) rfl dX12_first_21
      refine g_aload_n dX12_first_24 rfl ?_
      refine g_vI (av := []) (o := 0) (st := []) (m_X12_root G Pc5  hBc5  _ (fun rc6 hc6 => ⟨rc6, rfl, ?_⟩)) cf_X12_root t_2010 rfl (by decide) rfl rfl rfl (Nat.le_of_ble_eq_true rfl) (by decide) rfl dX12_first_25
      refine g_istore_n (l1 := [(2, vI rc6), (0, vR 0), (1, vI a1)]) dX12_first_28 (by decide) rfl ?_
      have L29_6 : ∀ (n29_6 : Nat) (x29_2_6 : Int) (h_x29_2_6 : 0 ≤ x29_2_6 ∧ x29_2_6 ≤ 65535) (H29_6 : PH) (hB29_6 : BdM H29_6) (hE29_6 : FrM ([78], [49, 50]) Pc5 H29_6) (w29_MV_6 : MV H29_6) (w29_MVw_6 : MVw H29_6) (hm29_6 : (x29_2_6 : Int).toNat < n29_6), Go WSM G 5 iX12_first 29 [(0, vR 0), (2, vI x29_2_6)] [] H29_6 Q := by
        intro n29_6
        induction n29_6 with
        | zero => intro x29_2_6 h_x29_2_6 H29_6 hB29_6 hE29_6 w29_MV_6 w29_MVw_6 hm29_6; exact absurd hm29_6 (Nat.not_lt_zero _)
        | succ n29_6 ih29_6 =>
        intro x29_2_6 h_x29_2_6 H29_6 hB29_6 hE29_6 w29_MV_6 w29_MVw_6 hm29_6
        refine g_aload_n dX12_first_29 rfl ?_
        refine g_iload_n dX12_first_30 rfl ?_
        refine g_vI (av := [vI x29_2_6]) (o := 0) (st := []) (m_X12_isDoor G H29_6 x29_2_6 ⟨by omega, by omega⟩ hB29_6 w29_MV_6 _ (fun rc28 hc28 Pc28 hBc28 hFc28 gc28_d vc28_MV => ⟨rc28, rfl, ?_⟩)) cf_X12_isDoor t_2049 rfl (by decide) rfl rfl rfl (Nat.le_of_ble_eq_true rfl) (by decide) rfl dX12_first_31
        refine g_if_eq (tgt := 45) dX12_first_34 (by decide) ⟨by omega, by omega⟩ (fun k29 => ?_) (fun k29 => ?_)
        · refine g_aload_n dX12_first_45 rfl ?_
          refine g_iload_n dX12_first_46 rfl ?_
          refine g_vI (av := [vI x29_2_6]) (o := 0) (st := []) (m_X12_asksFor G Pc28 x29_2_6 ⟨by omega, by omega⟩ hBc28 vc28_MV _ (fun rc30 hc30 Pc30 hBc30 hFc30 gc30_b vc30_MV => ⟨rc30, rfl, ?_⟩)) cf_X12_asksFor t_2020 rfl (by decide) rfl rfl rfl (Nat.le_of_ble_eq_true rfl) (by decide) rfl dX12_first_47
          refine g_istore_n (l1 := [(3, vI rc30), (0, vR 0), (2, vI x29_2_6)]) dX12_first_50 (by decide) rfl ?_
          refine g_iload_n dX12_first_51 rfl ?_
          refine g_iconst dX12_first_52 ?_
          refine g_icmp_ne (tgt := 60) dX12_first_53 (by decide) ⟨by omega, by omega⟩ (by decide) (fun k31 => ?_) (fun k31 => ?_)
          · refine g_iload_n dX12_first_60 rfl ?_
            exact g_retI dX12_first_61 rfl (hQ rc30 ⟨by omega, by omega⟩ _ hBc30 (FrM.c (FrM.c (FrM.c (FrM.c FrM.rf hFc5 rfl) hE29_6 rfl) hFc28 rfl) hFc30 rfl) (by have q0 := (((hFc30.1 74 rfl).trans ((hFc28.1 74 rfl).trans ((hE29_6.1 74 rfl).trans rfl))) : Pc30 0 74 = (Pc5 0 74)); have q1 := b0_74 hBc5; omega) (vc30_MV.w) (RE.fr (F := ([78], [49, 50])) vc5_RE (FrM.c (FrM.c (FrM.c FrM.rf hE29_6 rfl) hFc28 rfl) hFc30 rfl) rfl))
          · refine g_iconst dX12_first_56 ?_
            refine g_goto (tgt := 61) dX12_first_57 (by decide) ?_
            exact g_retI dX12_first_61 rfl (hQ (-1) (by decide) _ hBc30 (FrM.c (FrM.c (FrM.c (FrM.c FrM.rf hFc5 rfl) hE29_6 rfl) hFc28 rfl) hFc30 rfl) (by have q0 := (((hFc30.1 74 rfl).trans ((hFc28.1 74 rfl).trans ((hE29_6.1 74 rfl).trans rfl))) : Pc30 0 74 = (Pc5 0 74)); have q1 := b0_74 hBc5; omega) (vc30_MV.w) (RE.fr (F := ([78], [49, 50])) vc5_RE (FrM.c (FrM.c (FrM.c FrM.rf hE29_6 rfl) hFc28 rfl) hFc30 rfl) rfl))
        · refine g_iload_n dX12_first_37 rfl ?_
          refine g_sI (av := [vI x29_2_6]) (st := []) (m_X12_throughDoor G Pc28 x29_2_6 ⟨by omega, by omega⟩ hBc28  _ (fun rc32 hc32 gc32_lt gc32_le gc32_wl => ⟨rc32, rfl, ?_⟩)) cf_X12_throughDoor t_2034 rfl (Nat.le_of_ble_eq_true rfl) (by decide) rfl dX12_first_38
          refine g_istore_n (l1 := [(2, vI rc32), (0, vR 0)]) dX12_first_41 (by decide) rfl ?_
          refine g_goto (tgt := 29) dX12_first_42 (by decide) ?_
          refine g_forget (l1 := [(0, vR 0), (2, vI rc32)]) (by intro q hq; simp only [List.mem_cons, List.not_mem_nil, or_false] at hq ⊢; rcases hq with rfl | rfl <;> simp) ?_
          exact ih29_6 rc32 ⟨by omega, by omega⟩ _ hBc28 (FrM.c (FrM.c FrM.rf hE29_6 rfl) hFc28 rfl) vc28_MV (vc28_MV.w) (by omega)
      refine g_forget (l1 := [(0, vR 0), (2, vI rc6)]) (by intro q hq; simp only [List.mem_cons, List.not_mem_nil, or_false] at hq ⊢; rcases hq with rfl | rfl <;> simp) ?_
      exact L29_6 _ rc6 ⟨by omega, by omega⟩ _ hBc5 FrM.rf vc5_MV (vc5_MV.w) (Nat.lt_succ_self _)
    · refine g_iconst dX12_first_16 ?_
      exact g_retI dX12_first_17 rfl (hQ (-1) (by decide) _ hB FrM.rf (by have q0 := b0_74 hB; omega) v_MVw v_RE)
set_option maxRecDepth 100000 in
set_option maxHeartbeats 4000000 in
theorem m_X12_runs (G : GT) (P : PH) (a1 : Int) (h_a1 : 0 ≤ a1 ∧ a1 ≤ 2147483647) (hB : BdM P) (p_st : P 0 74 ≤ 199999999) (v_okC : okC P) (v_MVw : MVw P) (v_RE : RE P) (Q : Option PV → PH → Prop) (hQ : ∀ (r : Int) (_ : (-1) ≤ r ∧ r ≤ 11) (P1 : PH) (_ : BdM P1) (_ : FrM ([62, 66, 74, 76, 78], [39, 40, 41, 42, 43, 44, 49, 50]) P P1) (_ : P1 0 74 = P 0 74 + 1) (_ : MVw P1) (_ : RE P1), Q (some (vI r)) P1) : Ct WSM G 5 iX12_runs [vR 0, vI a1] P Q := by
  refine Ct.of (by decide) (l0 := [(0, vR 0), (1, vI a1)]) rfl (Nat.le_of_ble_eq_true rfl) ?_
  refine g_aload_n dX12_runs_0 rfl ?_
  refine g_iconst dX12_runs_1 ?_
  refine g_aload_n dX12_runs_2 rfl ?_
  refine m_g56 rfl dX12_runs_3 ?_
  refine g_iconst dX12_runs_6 ?_
  refine m_l38 (z := (P 38 0)) dX12_runs_7 (by decide) rfl ?_
  have f1 := bl_38 (k := 0) hB
  refine g_vV (av := [vI 0, vI (P 38 0)]) (o := 0) (st := []) (m_X12_plants G P 0 (P 38 0) (by decide) ⟨by have q0 := bl_38 (k := 0) hB; omega, by have q0 := bl_38 (k := 0) hB; omega⟩ hB (by have q0 := bl_38 (k := 0) hB; have q1 := b0_74 hB; omega) v_MVw v_RE _ (fun Pc2 hBc2 hFc2 gc2_st vc2_MV vc2_RE vc2_RLt => ⟨rfl, ?_⟩)) cf_X12_plants t_1998 rfl (by decide) rfl rfl rfl (Nat.le_of_ble_eq_true rfl) (by decide) rfl dX12_runs_8
  refine g_aload_n dX12_runs_11 rfl ?_
  refine g_aload_n dX12_runs_12 rfl ?_
  refine m_g55 rfl dX12_runs_13 ?_
  refine g_iconst dX12_runs_16 ?_
  refine m_l37 (z := (P 37 0)) dX12_runs_17 (by decide) ((congrFun (hFc2.2 37 rfl rfl) _).trans rfl) ?_
  have f3 := bl_37 (k := 0) hB
  refine g_vI (av := [vI (P 37 0)]) (o := 0) (st := []) (m_X12_openBy G Pc2 (P 37 0) ⟨by have q0 := bl_37 (k := 0) hB; omega, by have q0 := bl_37 (k := 0) hB; omega⟩ hBc2  _ (fun rc4 hc4 => ⟨rc4, rfl, ?_⟩)) cf_X12_openBy t_1923 rfl (by decide) rfl rfl rfl (Nat.le_of_ble_eq_true rfl) (by decide) rfl dX12_runs_18
  refine g_istore_n (l1 := [(2, vI rc4), (0, vR 0), (1, vI a1)]) dX12_runs_21 (by decide) rfl ?_
  refine g_aload_n dX12_runs_22 rfl ?_
  refine g_iload_n dX12_runs_23 rfl ?_
  refine g_vI (av := [vI a1]) (o := 0) (st := []) (m_X12_fitting G Pc2 a1 ⟨by omega, by omega⟩ hBc2 (okC.fr (F := ([62, 66, 74, 76], [41, 42, 43])) v_okC (FrM.c FrM.rf hFc2 rfl) rfl) _ (fun rc5 hc5 Pc5 hBc5 hFc5 => ⟨rc5, rfl, ?_⟩)) cf_X12_fitting t_1899 rfl (by decide) rfl rfl rfl (Nat.le_of_ble_eq_true rfl) (by decide) rfl dX12_runs_24
  refine g_iload_n dX12_runs_27 rfl ?_
  refine g_iand dX12_runs_28 ?_
  refine g_nm (fun b6 e_b6 => ?_)
  have h_b6 := iand_l (x := rc5) (y := rc4) ⟨by omega, by omega⟩
  rw [← e_b6] at h_b6
  refine g_sI (av := [vI b6]) (st := []) (m_X12_lowest G Pc5 b6 ⟨by omega, by omega⟩ hBc5  _ (fun rc7 hc7 gc7_l gc7_b => ⟨rc7, rfl, ?_⟩)) cf_X12_lowest t_1927 rfl (Nat.le_of_ble_eq_true rfl) (by decide) rfl dX12_runs_29
  refine g_istore_n (l1 := [(3, vI rc7), (2, vI rc4), (0, vR 0), (1, vI a1)]) dX12_runs_32 (by decide) rfl ?_
  refine g_aload_n dX12_runs_33 rfl ?_
  refine g_iload_n dX12_runs_34 rfl ?_
  refine g_iload_n dX12_runs_35 rfl ?_
  refine g_vI (av := [vI a1, vI rc4]) (o := 0) (st := []) (m_X12_testsFor G Pc5 a1 rc4 ⟨by omega, by omega⟩ ⟨by omega, by omega⟩ hBc5 (okC.fr (F := ([62, 66, 74, 76], [41, 42, 43, 44])) v_okC (FrM.c (FrM.c FrM.rf hFc2 rfl) hFc5 rfl) rfl) (MV.fr (F := ([], [44])) vc2_MV (FrM.c FrM.rf hFc5 rfl) rfl) _ (fun rc8 hc8 Pc8 hBc8 hFc8 vc8_MV => ⟨rc8, rfl, ?_⟩)) cf_X12_testsFor t_2006 rfl (by decide) rfl rfl rfl (Nat.le_of_ble_eq_true rfl) (by decide) rfl dX12_runs_36
  refine g_istore (l1 := [(4, vI rc8), (3, vI rc7), (2, vI rc4), (0, vR 0), (1, vI a1)]) dX12_runs_39 (by decide) rfl ?_
  refine g_aload_n dX12_runs_41 rfl ?_
  refine m_g57 rfl dX12_runs_42 ?_
  refine g_iconst dX12_runs_45 ?_
  refine m_l39 (z := (P 39 0)) dX12_runs_46 (by decide) ((congrFun (hFc8.2 39 rfl rfl) _).trans ((congrFun (hFc5.2 39 rfl rfl) _).trans ((congrFun (hFc2.2 39 rfl rfl) _).trans rfl))) ?_
  refine g_bipush dX12_runs_47 (by decide) ?_
  have f9 := bl_39 (k := 0) hB
  have J94_55 : ∀ (H94_55 : PH) (hB94_55 : BdM H94_55) (hE94_55 : FrM ([], [39, 40]) Pc8 H94_55) (i94_0_55 : H94_55 39 0 ≤ 39), Go WSM G 5 iX12_runs 94 [(0, vR 0), (1, vI a1), (3, vI rc7), (4, vI rc8)] [] H94_55 Q := by
    intro H94_55 hB94_55 hE94_55 i94_0_55
    refine g_iconst dX12_runs_94 ?_
    refine g_aload_n dX12_runs_95 rfl ?_
    refine m_g57 rfl dX12_runs_96 ?_
    refine g_iconst dX12_runs_99 ?_
    refine m_l39 (z := (H94_55 39 0)) dX12_runs_100 (by decide) rfl ?_
    refine g_imul dX12_runs_101 ?_
    refine g_istore (l1 := [(5, vI (3 * (H94_55 39 0))), (0, vR 0), (1, vI a1), (3, vI rc7), (4, vI rc8)]) dX12_runs_102 (by decide) rfl ?_
    refine g_aload_n dX12_runs_104 rfl ?_
    refine m_g58 rfl dX12_runs_105 ?_
    refine g_iload dX12_runs_108 rfl ?_
    refine g_iload_n dX12_runs_110 rfl ?_
    refine m_s40 dX12_runs_111 ⟨by have q0 := bl_39 (k := 0) hB94_55; omega, by have q0 := bl_39 (k := 0) hB94_55; omega⟩ ?_
    have hB57 := ba_40 (z := a1) (k := (3 * (H94_55 39 0))) hB94_55 ⟨by omega, by omega⟩
    refine g_aload_n dX12_runs_112 rfl ?_
    refine m_g58 rfl dX12_runs_113 ?_
    refine g_iload dX12_runs_116 rfl ?_
    refine g_iconst dX12_runs_118 ?_
    refine g_iadd dX12_runs_119 ?_
    refine g_iload_n dX12_runs_120 rfl ?_
    refine g_iconst dX12_runs_121 ?_
    refine g_icmp_ne (tgt := 129) dX12_runs_122 (by decide) ⟨by omega, by omega⟩ (by decide) (fun k58 => ?_) (fun k58 => ?_)
    · refine g_aload_n dX12_runs_129 rfl ?_
      refine m_g54 rfl dX12_runs_130 ?_
      refine g_iload_n dX12_runs_133 rfl ?_
      refine m_l36 (z := (P 36 rc7)) dX12_runs_134 ⟨by omega, by omega⟩ ((up_o (by decide)).trans ((congrFun (hE94_55.2 36 rfl rfl) _).trans ((congrFun (hFc8.2 36 rfl rfl) _).trans ((congrFun (hFc5.2 36 rfl rfl) _).trans ((congrFun (hFc2.2 36 rfl rfl) _).trans rfl))))) ?_
      refine m_s40 dX12_runs_135 ⟨by have q0 := bl_39 (k := 0) hB94_55; omega, by have q0 := bl_39 (k := 0) hB94_55; omega⟩ ?_
      have hB59 := ba_40 (z := (P 36 rc7)) (k := ((3 * (H94_55 39 0)) + 1)) hB57 ⟨by have q0 := bl_36 (k := rc7) hB; omega, by have q0 := bl_36 (k := rc7) hB; omega⟩
      refine g_aload_n dX12_runs_136 rfl ?_
      refine m_g58 rfl dX12_runs_137 ?_
      refine g_iload dX12_runs_140 rfl ?_
      refine g_iconst dX12_runs_142 ?_
      refine g_iadd dX12_runs_143 ?_
      refine g_iload dX12_runs_144 rfl ?_
      refine m_s40 dX12_runs_146 ⟨by have q0 := bl_39 (k := 0) hB94_55; omega, by have q0 := bl_39 (k := 0) hB94_55; omega⟩ ?_
      have hB60 := ba_40 (z := rc8) (k := ((3 * (H94_55 39 0)) + 2)) hB59 ⟨by omega, by omega⟩
      refine g_aload_n dX12_runs_147 rfl ?_
      refine m_g57 rfl dX12_runs_148 ?_
      refine g_iconst dX12_runs_151 ?_
      refine g_dup2 dX12_runs_152 rfl rfl ?_
      refine m_l39 (z := (H94_55 39 0)) dX12_runs_153 (by decide) ((up_o (by decide)).trans ((up_o (by decide)).trans ((up_o (by decide)).trans rfl))) ?_
      refine g_iconst dX12_runs_154 ?_
      refine g_iadd dX12_runs_155 ?_
      refine m_s39 dX12_runs_156 (by decide) ?_
      have hB61 := ba_39 (z := ((H94_55 39 0) + 1)) (k := 0) hB60 ⟨by have q0 := bl_39 (k := 0) hB94_55; omega, by have q0 := bl_39 (k := 0) hB94_55; omega⟩
      refine g_iload_n dX12_runs_157 rfl ?_
      exact g_retI dX12_runs_158 rfl (hQ rc7 ⟨by omega, by omega⟩ _ hB61 (FrM.a (FrM.a (FrM.a (FrM.a (FrM.c (FrM.c (FrM.c (FrM.c FrM.rf hFc2 rfl) hFc5 rfl) hFc8 rfl) hE94_55 rfl) rfl rfl) rfl rfl) rfl rfl) rfl rfl) (by have q0 := (((up_o (by decide)).trans ((up_o (by decide)).trans ((up_o (by decide)).trans ((up_o (by decide)).trans ((hE94_55.1 74 rfl).trans ((hFc8.1 74 rfl).trans ((hFc5.1 74 rfl).trans rfl))))))) : (up (up (up (up H94_55 40 (3 * (H94_55 39 0)) a1) 40 ((3 * (H94_55 39 0)) + 1) (P 36 rc7)) 40 ((3 * (H94_55 39 0)) + 2) rc8) 39 0 ((H94_55 39 0) + 1)) 0 74 = (Pc2 0 74)); have q1 := b0_74 hBc2; omega) ((MV.fr (F := ([], [39, 40])) vc8_MV (FrM.a (FrM.a (FrM.a (FrM.a (FrM.c FrM.rf hE94_55 rfl) rfl rfl) rfl rfl) rfl rfl) rfl rfl) rfl).w) (RE.fr (F := ([78], [39, 40, 44, 49, 50])) vc2_RE (FrM.a (FrM.a (FrM.a (FrM.a (FrM.c (FrM.c (FrM.c FrM.rf hFc5 rfl) hFc8 rfl) hE94_55 rfl) rfl rfl) rfl rfl) rfl rfl) rfl rfl) rfl))
    · refine g_iconst dX12_runs_125 ?_
      refine g_goto (tgt := 135) dX12_runs_126 (by decide) ?_
      refine m_s40 dX12_runs_135 ⟨by have q0 := bl_39 (k := 0) hB94_55; omega, by have q0 := bl_39 (k := 0) hB94_55; omega⟩ ?_
      have hB62 := ba_40 (z := (-1)) (k := ((3 * (H94_55 39 0)) + 1)) hB57 (by decide)
      refine g_aload_n dX12_runs_136 rfl ?_
      refine m_g58 rfl dX12_runs_137 ?_
      refine g_iload dX12_runs_140 rfl ?_
      refine g_iconst dX12_runs_142 ?_
      refine g_iadd dX12_runs_143 ?_
      refine g_iload dX12_runs_144 rfl ?_
      refine m_s40 dX12_runs_146 ⟨by have q0 := bl_39 (k := 0) hB94_55; omega, by have q0 := bl_39 (k := 0) hB94_55; omega⟩ ?_
      have hB63 := ba_40 (z := rc8) (k := ((3 * (H94_55 39 0)) + 2)) hB62 ⟨by omega, by omega⟩
      refine g_aload_n dX12_runs_147 rfl ?_
      refine m_g57 rfl dX12_runs_148 ?_
      refine g_iconst dX12_runs_151 ?_
      refine g_dup2 dX12_runs_152 rfl rfl ?_
      refine m_l39 (z := (H94_55 39 0)) dX12_runs_153 (by decide) ((up_o (by decide)).trans ((up_o (by decide)).trans ((up_o (by decide)).trans rfl))) ?_
      refine g_iconst dX12_runs_154 ?_
      refine g_iadd dX12_runs_155 ?_
      refine m_s39 dX12_runs_156 (by decide) ?_
      have hB64 := ba_39 (z := ((H94_55 39 0) + 1)) (k := 0) hB63 ⟨by have q0 := bl_39 (k := 0) hB94_55; omega, by have q0 := bl_39 (k := 0) hB94_55; omega⟩
      refine g_iload_n dX12_runs_157 rfl ?_
      exact g_retI dX12_runs_158 rfl (hQ rc7 ⟨by omega, by omega⟩ _ hB64 (FrM.a (FrM.a (FrM.a (FrM.a (FrM.c (FrM.c (FrM.c (FrM.c FrM.rf hFc2 rfl) hFc5 rfl) hFc8 rfl) hE94_55 rfl) rfl rfl) rfl rfl) rfl rfl) rfl rfl) (by have q0 := (((up_o (by decide)).trans ((up_o (by decide)).trans ((up_o (by decide)).trans ((up_o (by decide)).trans ((hE94_55.1 74 rfl).trans ((hFc8.1 74 rfl).trans ((hFc5.1 74 rfl).trans rfl))))))) : (up (up (up (up H94_55 40 (3 * (H94_55 39 0)) a1) 40 ((3 * (H94_55 39 0)) + 1) (-1)) 40 ((3 * (H94_55 39 0)) + 2) rc8) 39 0 ((H94_55 39 0) + 1)) 0 74 = (Pc2 0 74)); have q1 := b0_74 hBc2; omega) ((MV.fr (F := ([], [39, 40])) vc8_MV (FrM.a (FrM.a (FrM.a (FrM.a (FrM.c FrM.rf hE94_55 rfl) rfl rfl) rfl rfl) rfl rfl) rfl rfl) rfl).w) (RE.fr (F := ([78], [39, 40, 44, 49, 50])) vc2_RE (FrM.a (FrM.a (FrM.a (FrM.a (FrM.c (FrM.c (FrM.c FrM.rf hFc5 rfl) hFc8 rfl) hE94_55 rfl) rfl rfl) rfl rfl) rfl rfl) rfl rfl) rfl))
  refine g_icmp_ne (tgt := 94) dX12_runs_49 (by decide) ⟨by have q0 := bl_39 (k := 0) hB; omega, by have q0 := bl_39 (k := 0) hB; omega⟩ (by decide) (fun k65 => ?_) (fun k65 => ?_)
  · refine g_forget (l1 := [(0, vR 0), (1, vI a1), (3, vI rc7), (4, vI rc8)]) (by intro q hq; simp only [List.mem_cons, List.not_mem_nil, or_false] at hq ⊢; rcases hq with rfl | rfl | rfl | rfl <;> simp) ?_
    exact J94_55 _ hBc8 FrM.rf (by have q0 := (((congrFun (hFc8.2 39 rfl rfl) _).trans ((congrFun (hFc5.2 39 rfl rfl) _).trans ((congrFun (hFc2.2 39 rfl rfl) _).trans rfl))) : Pc8 39 0 = (P 39 0)); have q1 := bl_39 (k := 0) hB; omega)
  · refine g_iconst dX12_runs_52 ?_
    refine g_istore (l1 := [(5, vI 0), (4, vI rc8), (3, vI rc7), (2, vI rc4), (0, vR 0), (1, vI a1)]) dX12_runs_53 (by decide) rfl ?_
    have L55_65 : ∀ (n55_65 : Nat) (x55_5_65 : Int) (h_x55_5_65 : 0 ≤ x55_5_65 ∧ x55_5_65 ≤ 117) (H55_65 : PH) (hB55_65 : BdM H55_65) (hE55_65 : FrM ([], [40]) Pc8 H55_65) (hm55_65 : ((118 - x55_5_65) : Int).toNat < n55_65), Go WSM G 5 iX12_runs 55 [(0, vR 0), (1, vI a1), (3, vI rc7), (4, vI rc8), (5, vI x55_5_65)] [] H55_65 Q := by
      intro n55_65
      induction n55_65 with
      | zero => intro x55_5_65 h_x55_5_65 H55_65 hB55_65 hE55_65 hm55_65; exact absurd hm55_65 (Nat.not_lt_zero _)
      | succ n55_65 ih55_65 =>
      intro x55_5_65 h_x55_5_65 H55_65 hB55_65 hE55_65 hm55_65
      refine g_iload dX12_runs_55 rfl ?_
      refine g_bipush dX12_runs_57 (by decide) ?_
      refine g_icmp_ge (tgt := 84) dX12_runs_59 (by decide) ⟨by omega, by omega⟩ (by decide) (fun k100 => ?_) (fun k100 => ?_)
      · refine g_aload_n dX12_runs_84 rfl ?_
        refine m_g57 rfl dX12_runs_85 ?_
        refine g_iconst dX12_runs_88 ?_
        refine g_dup2 dX12_runs_89 rfl rfl ?_
        refine m_l39 (z := (P 39 0)) dX12_runs_90 (by decide) ((congrFun (hE55_65.2 39 rfl rfl) _).trans ((congrFun (hFc8.2 39 rfl rfl) _).trans ((congrFun (hFc5.2 39 rfl rfl) _).trans ((congrFun (hFc2.2 39 rfl rfl) _).trans rfl)))) ?_
        refine g_iconst dX12_runs_91 ?_
        refine g_isub dX12_runs_92 ?_
        refine m_s39 dX12_runs_93 (by decide) ?_
        have hB101 := ba_39 (z := ((P 39 0) - 1)) (k := 0) hB55_65 ⟨by have q0 := bl_39 (k := 0) hB; omega, by have q0 := bl_39 (k := 0) hB; omega⟩
        refine g_forget (l1 := [(0, vR 0), (1, vI a1), (3, vI rc7), (4, vI rc8)]) (by intro q hq; simp only [List.mem_cons, List.not_mem_nil, or_false] at hq ⊢; rcases hq with rfl | rfl | rfl | rfl <;> simp) ?_
        exact J94_55 _ hB101 (FrM.a (FrM.c FrM.rf hE55_65 rfl) rfl rfl) (by have q0 := (up_same : (up H55_65 39 0 ((P 39 0) - 1)) 39 0 = ((P 39 0) - 1)); have q1 := bl_39 (k := 0) hB; omega)
      · refine g_aload_n dX12_runs_62 rfl ?_
        refine m_g58 rfl dX12_runs_63 ?_
        refine g_iload dX12_runs_66 rfl ?_
        refine g_aload_n dX12_runs_68 rfl ?_
        refine m_g58 rfl dX12_runs_69 ?_
        refine g_iload dX12_runs_72 rfl ?_
        refine g_iconst dX12_runs_74 ?_
        refine g_iadd dX12_runs_75 ?_
        refine m_l40 (z := (H55_65 40 (x55_5_65 + 3))) dX12_runs_76 ⟨by omega, by omega⟩ rfl ?_
        refine m_s40 dX12_runs_77 ⟨by omega, by omega⟩ ?_
        have hB102 := ba_40 (z := (H55_65 40 (x55_5_65 + 3))) (k := x55_5_65) hB55_65 ⟨by have q0 := bl_40 (k := (x55_5_65 + 3)) hB55_65; omega, by have q0 := bl_40 (k := (x55_5_65 + 3)) hB55_65; omega⟩
        refine g_iinc (l1 := [(5, vI (x55_5_65 + 1)), (0, vR 0), (1, vI a1), (3, vI rc7), (4, vI rc8)]) dX12_runs_78 rfl (by decide) rfl ?_
        refine g_goto (tgt := 55) dX12_runs_81 (by decide) ?_
        refine g_forget (l1 := [(0, vR 0), (1, vI a1), (3, vI rc7), (4, vI rc8), (5, vI (x55_5_65 + 1))]) (by intro q hq; simp only [List.mem_cons, List.not_mem_nil, or_false] at hq ⊢; rcases hq with rfl | rfl | rfl | rfl | rfl <;> simp) ?_
        exact ih55_65 (x55_5_65 + 1) ⟨by omega, by omega⟩ _ hB102 (FrM.a (FrM.c FrM.rf hE55_65 rfl) rfl rfl) (by omega)
    refine g_forget (l1 := [(0, vR 0), (1, vI a1), (3, vI rc7), (4, vI rc8), (5, vI 0)]) (by intro q hq; simp only [List.mem_cons, List.not_mem_nil, or_false] at hq ⊢; rcases hq with rfl | rfl | rfl | rfl | rfl <;> simp) ?_
    exact L55_65 _ 0 (by decide) _ hBc8 FrM.rf (Nat.lt_succ_self _)
set_option maxRecDepth 100000 in
set_option maxHeartbeats 4000000 in
theorem m_X12_run (G : GT) (P : PH) (a1 : Int) (h_a1 : (-2147483648) ≤ a1 ∧ a1 ≤ 2147483647) (hB : BdM P) (p_st : P 0 74 ≤ 199999999) (v_okC : okC P) (v_MVw : MVw P) (v_RE : RE P) (Q : Option PV → PH → Prop) (hQ : ∀ (r : Int) (_ : (-2147483648) ≤ r ∧ r ≤ 2147483647) (P1 : PH) (_ : BdM P1) (_ : FrM ([59, 60, 62, 66, 74, 76, 78], [28, 35, 36, 37, 38, 39, 40, 41, 42, 43, 44, 49, 50]) P P1) (_ : P1 0 74 ≤ P 0 74 + 1) (_ : MVw P1) (_ : RE P1), Q (some (vI r)) P1) : Ct WSM G 6 iX12_run [vR 0, vI a1] P Q := by
  refine Ct.of (by decide) (l0 := [(0, vR 0), (1, vI a1)]) rfl (Nat.le_of_ble_eq_true rfl) ?_
  refine g_aload_n dX12_run_0 rfl ?_
  refine g_iload_n dX12_run_1 rfl ?_
  refine g_vI (av := [vI a1]) (o := 0) (st := []) (m_X12_isRow G P a1 ⟨by omega, by omega⟩ hB  _ (fun rc1 hc1 gc1_p => ⟨rc1, rfl, ?_⟩)) cf_X12_isRow t_1946 rfl (by decide) rfl rfl rfl (Nat.le_of_ble_eq_true rfl) (by decide) rfl dX12_run_2
  have f2 := b0_44 hB
  have f3 := b0_52 hB
  refine g_if_ne (tgt := 14) dX12_run_5 (by decide) ⟨by omega, by omega⟩ (fun k4 => ?_) (fun k4 => ?_)
  · refine g_aload_n dX12_run_14 rfl ?_
    refine g_vV (av := []) (o := 0) (st := []) (m_X12_keeps G P  hB  _ (fun Pc5 hBc5 hFc5 gc5_o => ⟨rfl, ?_⟩)) cf_X12_keeps t_2132 rfl (by decide) rfl rfl rfl (Nat.le_of_ble_eq_true rfl) (by decide) rfl dX12_run_15
    refine g_aload_n dX12_run_18 rfl ?_
    refine g_iload_n dX12_run_19 rfl ?_
    refine g_vI (av := [vI a1]) (o := 0) (st := []) (m_X12_runs G Pc5 a1 ⟨by omega, by omega⟩ hBc5 (by have q0 := (((hFc5.1 74 rfl).trans rfl) : Pc5 0 74 = (P 0 74)); have q1 := b0_74 hB; omega) (okC.fr (F := ([59, 60], [35, 36, 37, 38, 39, 40])) v_okC (FrM.c FrM.rf hFc5 rfl) rfl) (MVw.fr (F := ([59, 60], [35, 36, 37, 38, 39, 40])) v_MVw (FrM.c FrM.rf hFc5 rfl) rfl) (RE.fr (F := ([59, 60], [35, 36, 37, 38, 39, 40])) v_RE (FrM.c FrM.rf hFc5 rfl) rfl) _ (fun rc6 hc6 Pc6 hBc6 hFc6 gc6_st vc6_MVw vc6_RE => ⟨rc6, rfl, ?_⟩)) cf_X12_runs t_2136 rfl (by decide) rfl rfl rfl (Nat.le_of_ble_eq_true rfl) (by decide) rfl dX12_run_20
    have z7 : Pc5 0 74 = (P 0 74) := ((hFc5.1 74 rfl).trans rfl)
    exact g_retI dX12_run_23 rfl (hQ rc6 ⟨by omega, by omega⟩ _ hBc6 (FrM.c (FrM.c FrM.rf hFc5 rfl) hFc6 rfl) (by have q0 := b0_74 hBc6; omega) vc6_MVw vc6_RE)
  · refine g_aload_n dX12_run_8 rfl ?_
    refine g_iconst dX12_run_9 ?_
    refine g_vI (av := [vI 2]) (o := 0) (st := []) (m_X12_refuses G P 2 (by decide) hB  _ (fun rc8 hc8 Pc8 hBc8 hFc8 => ⟨rc8, rfl, ?_⟩)) cf_X12_refuses t_1667 rfl (by decide) rfl rfl rfl (Nat.le_of_ble_eq_true rfl) (by decide) rfl dX12_run_10
    exact g_retI dX12_run_13 rfl (hQ rc8 ⟨by omega, by omega⟩ _ hBc8 (FrM.c FrM.rf hFc8 rfl) (by have q0 := (((hFc8.1 74 rfl).trans rfl) : Pc8 0 74 = (P 0 74)); have q1 := b0_74 hB; omega) (MVw.fr (F := ([], [28])) v_MVw (FrM.c FrM.rf hFc8 rfl) rfl) (RE.fr (F := ([], [28])) v_RE (FrM.c FrM.rf hFc8 rfl) rfl))
set_option maxRecDepth 100000 in
set_option maxHeartbeats 4000000 in
theorem m_X12_chance (G : GT) (P : PH) (a1 : Int) (h_a1 : (-2147483648) ≤ a1 ∧ a1 ≤ 2147483647) (hB : BdM P) (p_st : P 0 74 ≤ 199999900) (v_okC : okC P) (v_okR : okR P) (v_MVw : MVw P) (v_RE : RE P) (Q : Option PV → PH → Prop) (hQ : ∀ (r : Int) (_ : (-2147483648) ≤ r ∧ r ≤ 2147483647) (P1 : PH) (_ : BdM P1) (_ : FrM ([59, 60, 61, 62, 66, 74, 76, 78], [28, 35, 36, 37, 38, 39, 40, 41, 42, 43, 44, 49, 50]) P P1) (_ : P1 0 74 ≤ P 0 74 + 40) (_ : MVw P1) (_ : RE P1), Q (some (vI r)) P1) : Ct WSM G 6 iX12_chance [vR 0, vI a1] P Q := by
  refine Ct.of (by decide) (l0 := [(0, vR 0), (1, vI a1)]) rfl (Nat.le_of_ble_eq_true rfl) ?_
  refine g_aload_n dX12_chance_0 rfl ?_
  refine m_g44 (z := (P 0 44)) rfl dX12_chance_1 rfl ?_
  have f1 := b0_44 hB
  refine g_if_eq (tgt := 17) dX12_chance_4 (by decide) ⟨by have q0 := b0_44 hB; omega, by have q0 := b0_44 hB; omega⟩ (fun k2 => ?_) (fun k2 => ?_)
  · refine g_aload_n dX12_chance_17 rfl ?_
    refine g_iconst dX12_chance_18 ?_
    refine g_vI (av := [vI 2]) (o := 0) (st := []) (m_X12_refuses G P 2 (by decide) hB  _ (fun rc3 hc3 Pc3 hBc3 hFc3 => ⟨rc3, rfl, ?_⟩)) cf_X12_refuses t_1667 rfl (by decide) rfl rfl rfl (Nat.le_of_ble_eq_true rfl) (by decide) rfl dX12_chance_19
    exact g_retI dX12_chance_22 rfl (hQ rc3 ⟨by omega, by omega⟩ _ hBc3 (FrM.c FrM.rf hFc3 rfl) (by have q0 := (((hFc3.1 74 rfl).trans rfl) : Pc3 0 74 = (P 0 74)); have q1 := b0_74 hB; omega) (MVw.fr (F := ([], [28])) v_MVw (FrM.c FrM.rf hFc3 rfl) rfl) (RE.fr (F := ([], [28])) v_RE (FrM.c FrM.rf hFc3 rfl) rfl))
  · refine g_iload_n dX12_chance_7 rfl ?_
    refine g_iconst dX12_chance_8 ?_
    refine g_bipush dX12_chance_9 (by decide) ?_
    refine g_sI (av := [vI a1, vI 1, vI 40]) (st := []) (m_X12_is G P a1 1 40 ⟨by omega, by omega⟩ (by decide) (by decide) hB  _ (fun rc4 hc4 gc4_is => ⟨rc4, rfl, ?_⟩)) cf_X12_is t_1800 rfl (Nat.le_of_ble_eq_true rfl) (by decide) rfl dX12_chance_11
    refine g_if_ne (tgt := 23) dX12_chance_14 (by decide) ⟨by omega, by omega⟩ (fun k5 => ?_) (fun k5 => ?_)
    · refine g_aload_n dX12_chance_23 rfl ?_
      refine g_vV (av := []) (o := 0) (st := []) (m_X12_keeps G P  hB  _ (fun Pc6 hBc6 hFc6 gc6_o => ⟨rfl, ?_⟩)) cf_X12_keeps t_2132 rfl (by decide) rfl rfl rfl (Nat.le_of_ble_eq_true rfl) (by decide) rfl dX12_chance_24
      refine g_iconst dX12_chance_27 ?_
      refine g_istore_n (l1 := [(2, vI 0), (0, vR 0), (1, vI a1)]) dX12_chance_28 (by decide) rfl ?_
      have ho := v_okR
      unfold okR at ho
      refine g_iconst dX12_chance_29 ?_
      refine g_istore_n (l1 := [(3, vI 0), (2, vI 0), (0, vR 0), (1, vI a1)]) dX12_chance_30 (by decide) rfl ?_
      have L31_6 : ∀ (n31_6 : Nat) (x31_3_6 : Int) (h_x31_3_6 : 0 ≤ x31_3_6 ∧ x31_3_6 ≤ 40) (x31_2_6 : Int) (h_x31_2_6 : (-2147483648) ≤ x31_2_6 ∧ x31_2_6 ≤ 2147483647) (H31_6 : PH) (hB31_6 : BdM H31_6) (hE31_6 : FrM ([61, 62, 66, 74, 76, 78], [39, 40, 41, 42, 43, 44, 49, 50]) Pc6 H31_6) (i31_0_6 : H31_6 0 74 ≤ P 0 74 + x31_3_6) (w31_RE_6 : RE H31_6) (w31_MVw_6 : MVw H31_6) (hm31_6 : ((41 - x31_3_6) : Int).toNat < n31_6), Go WSM G 6 iX12_chance 31 [(0, vR 0), (1, vI a1), (2, vI x31_2_6), (3, vI x31_3_6)] [] H31_6 Q := by
        intro n31_6
        induction n31_6 with
        | zero => intro x31_3_6 h_x31_3_6 x31_2_6 h_x31_2_6 H31_6 hB31_6 hE31_6 i31_0_6 w31_RE_6 w31_MVw_6 hm31_6; exact absurd hm31_6 (Nat.not_lt_zero _)
        | succ n31_6 ih31_6 =>
        intro x31_3_6 h_x31_3_6 x31_2_6 h_x31_2_6 H31_6 hB31_6 hE31_6 i31_0_6 w31_RE_6 w31_MVw_6 hm31_6
        refine g_iload_n dX12_chance_31 rfl ?_
        refine g_iload_n dX12_chance_32 rfl ?_
        refine g_icmp_ge (tgt := 66) dX12_chance_33 (by decide) ⟨by omega, by omega⟩ ⟨by omega, by omega⟩ (fun k150 => ?_) (fun k150 => ?_)
        · refine g_iload_n dX12_chance_66 rfl ?_
          exact g_retI dX12_chance_67 rfl (hQ x31_2_6 ⟨by omega, by omega⟩ _ hB31_6 (FrM.c (FrM.c FrM.rf hFc6 rfl) hE31_6 rfl) (by have q0 := b0_74 hB31_6; omega) w31_MVw_6 w31_RE_6)
        · refine g_iload_n dX12_chance_36 rfl ?_
          refine g_aload_n dX12_chance_37 rfl ?_
          refine g_aload_n dX12_chance_38 rfl ?_
          refine g_aload_n dX12_chance_39 rfl ?_
          refine m_g52 (z := (P 0 52)) rfl dX12_chance_40 ((hE31_6.1 52 rfl).trans ((hFc6.1 52 rfl).trans rfl)) ?_
          have f151 := b0_52 hB
          refine g_vI (av := [vI (P 0 52)]) (o := 0) (st := [vR 0, vI x31_2_6]) (m_X12_draw G H31_6 (P 0 52) ⟨by have q0 := b0_52 hB; omega, by have q0 := b0_52 hB; omega⟩ hB31_6  _ (fun rc152 hc152 Pc152 hBc152 hFc152 gc152_d => ⟨rc152, rfl, ?_⟩)) cf_X12_draw t_2144 rfl (by decide) rfl rfl rfl (Nat.le_of_ble_eq_true rfl) (by decide) rfl dX12_chance_43
          refine g_vI (av := [vI rc152]) (o := 0) (st := [vI x31_2_6]) (m_X12_runs G Pc152 rc152 ⟨by omega, by omega⟩ hBc152 (by have q0 := (((hFc152.1 74 rfl).trans rfl) : Pc152 0 74 = (H31_6 0 74)); have q1 := b0_74 hB31_6; omega) (okC.fr (F := ([59, 60, 61, 62, 66, 74, 76, 78], [35, 36, 37, 38, 39, 40, 41, 42, 43, 44, 49, 50])) v_okC (FrM.c (FrM.c (FrM.c FrM.rf hFc6 rfl) hE31_6 rfl) hFc152 rfl) rfl) (MVw.fr (F := ([61], [])) w31_MVw_6 (FrM.c FrM.rf hFc152 rfl) rfl) (RE.fr (F := ([61], [])) w31_RE_6 (FrM.c FrM.rf hFc152 rfl) rfl) _ (fun rc153 hc153 Pc153 hBc153 hFc153 gc153_st vc153_MVw vc153_RE => ⟨rc153, rfl, ?_⟩)) cf_X12_runs t_2136 rfl (by decide) rfl rfl rfl (Nat.le_of_ble_eq_true rfl) (by decide) rfl dX12_chance_46
          have z154 : Pc152 0 74 = (H31_6 0 74) := ((hFc152.1 74 rfl).trans rfl)
          refine g_iconst dX12_chance_49 ?_
          refine g_icmp_ne (tgt := 57) dX12_chance_50 (by decide) ⟨by omega, by omega⟩ (by decide) (fun k155 => ?_) (fun k155 => ?_)
          · refine g_iconst dX12_chance_57 ?_
            refine g_iadd dX12_chance_58 ?_
            refine g_istore_n (l1 := [(2, vI (x31_2_6 + 0)), (0, vR 0), (1, vI a1), (3, vI x31_3_6)]) dX12_chance_59 (by decide) rfl ?_
            refine g_iinc (l1 := [(3, vI (x31_3_6 + 1)), (2, vI (x31_2_6 + 0)), (0, vR 0), (1, vI a1)]) dX12_chance_60 rfl (by decide) rfl ?_
            refine g_goto (tgt := 31) dX12_chance_63 (by decide) ?_
            refine g_forget (l1 := [(0, vR 0), (1, vI a1), (2, vI (x31_2_6 + 0)), (3, vI (x31_3_6 + 1))]) (by intro q hq; simp only [List.mem_cons, List.not_mem_nil, or_false] at hq ⊢; rcases hq with rfl | rfl | rfl | rfl <;> simp) ?_
            exact ih31_6 (x31_3_6 + 1) ⟨by omega, by omega⟩ (x31_2_6 + 0) ⟨by omega, by omega⟩ _ hBc153 (FrM.c (FrM.c (FrM.c FrM.rf hE31_6 rfl) hFc152 rfl) hFc153 rfl) (by have q0 := b0_74 hBc153; omega) vc153_RE vc153_MVw (by omega)
          · refine g_iconst dX12_chance_53 ?_
            refine g_goto (tgt := 58) dX12_chance_54 (by decide) ?_
            refine g_iadd dX12_chance_58 ?_
            refine g_norm (fun r156 h_r156 e_r156 => ?_)
            refine g_istore_n (l1 := [(2, vI r156), (0, vR 0), (1, vI a1), (3, vI x31_3_6)]) dX12_chance_59 (by decide) rfl ?_
            refine g_iinc (l1 := [(3, vI (x31_3_6 + 1)), (2, vI r156), (0, vR 0), (1, vI a1)]) dX12_chance_60 rfl (by decide) rfl ?_
            refine g_goto (tgt := 31) dX12_chance_63 (by decide) ?_
            refine g_forget (l1 := [(0, vR 0), (1, vI a1), (2, vI r156), (3, vI (x31_3_6 + 1))]) (by intro q hq; simp only [List.mem_cons, List.not_mem_nil, or_false] at hq ⊢; rcases hq with rfl | rfl | rfl | rfl <;> simp) ?_
            exact ih31_6 (x31_3_6 + 1) ⟨by omega, by omega⟩ r156 ⟨by omega, by omega⟩ _ hBc153 (FrM.c (FrM.c (FrM.c FrM.rf hE31_6 rfl) hFc152 rfl) hFc153 rfl) (by have q0 := b0_74 hBc153; omega) vc153_RE vc153_MVw (by omega)
      refine g_forget (l1 := [(0, vR 0), (1, vI a1), (2, vI 0), (3, vI 0)]) (by intro q hq; simp only [List.mem_cons, List.not_mem_nil, or_false] at hq ⊢; rcases hq with rfl | rfl | rfl | rfl <;> simp) ?_
      exact L31_6 _ 0 (by decide) 0 (by decide) _ hBc6 FrM.rf (by have q0 := (((hFc6.1 74 rfl).trans rfl) : Pc6 0 74 = (P 0 74)); have q1 := b0_74 hB; omega) (RE.fr (F := ([59, 60], [35, 36, 37, 38, 39, 40])) v_RE (FrM.c FrM.rf hFc6 rfl) rfl) (MVw.fr (F := ([59, 60], [35, 36, 37, 38, 39, 40])) v_MVw (FrM.c FrM.rf hFc6 rfl) rfl) (Nat.lt_succ_self _)
    · refine g_aload_n dX12_chance_17 rfl ?_
      refine g_iconst dX12_chance_18 ?_
      refine g_vI (av := [vI 2]) (o := 0) (st := []) (m_X12_refuses G P 2 (by decide) hB  _ (fun rc157 hc157 Pc157 hBc157 hFc157 => ⟨rc157, rfl, ?_⟩)) cf_X12_refuses t_1667 rfl (by decide) rfl rfl rfl (Nat.le_of_ble_eq_true rfl) (by decide) rfl dX12_chance_19
      exact g_retI dX12_chance_22 rfl (hQ rc157 ⟨by omega, by omega⟩ _ hBc157 (FrM.c FrM.rf hFc157 rfl) (by have q0 := (((hFc157.1 74 rfl).trans rfl) : Pc157 0 74 = (P 0 74)); have q1 := b0_74 hB; omega) (MVw.fr (F := ([], [28])) v_MVw (FrM.c FrM.rf hFc157 rfl) rfl) (RE.fr (F := ([], [28])) v_RE (FrM.c FrM.rf hFc157 rfl) rfl))
set_option maxRecDepth 100000 in
set_option maxHeartbeats 4000000 in
theorem m_X12_best (G : GT) (P : PH) (a1 : Int) (h_a1 : (-2147483648) ≤ a1 ∧ a1 ≤ 2147483647) (hB : BdM P) (p_st : P 0 74 ≤ 199999900) (v_okC : okC P) (v_MVw : MVw P) (v_RE : RE P) (Q : Option PV → PH → Prop) (hQ : ∀ (r : Int) (_ : (-2147483648) ≤ r ∧ r ≤ 2147483647) (P1 : PH) (_ : BdM P1) (_ : FrM ([62, 66, 74, 76, 78], [35, 36, 37, 38, 39, 40, 41, 42, 43, 44, 45, 49, 50, 58]) P P1) (_ : P1 0 74 ≤ P 0 74 + 14) (_ : MVw P1) (_ : RE P1), Q (some (vI r)) P1) : Ct WSM G 6 iX12_best [vR 0, vI a1] P Q := by
  refine Ct.of (by decide) (l0 := [(0, vR 0), (1, vI a1)]) rfl (Nat.le_of_ble_eq_true rfl) ?_
  refine g_aload_n dX12_best_0 rfl ?_
  refine m_g44 (z := (P 0 44)) rfl dX12_best_1 rfl ?_
  have f1 := b0_44 hB
  refine g_if_eq (tgt := 16) dX12_best_4 (by decide) ⟨by have q0 := b0_44 hB; omega, by have q0 := b0_44 hB; omega⟩ (fun k2 => ?_) (fun k2 => ?_)
  · refine g_iconst dX12_best_16 ?_
    exact g_retI dX12_best_17 rfl (hQ (-1) (by decide) _ hB FrM.rf (by have q0 := b0_74 hB; omega) v_MVw v_RE)
  · refine g_iload_n dX12_best_7 rfl ?_
    refine g_iconst dX12_best_8 ?_
    refine g_iconst dX12_best_9 ?_
    refine g_sI (av := [vI a1, vI 0, vI 1]) (st := []) (m_X12_is G P a1 0 1 ⟨by omega, by omega⟩ (by decide) (by decide) hB  _ (fun rc3 hc3 gc3_is => ⟨rc3, rfl, ?_⟩)) cf_X12_is t_1800 rfl (Nat.le_of_ble_eq_true rfl) (by decide) rfl dX12_best_10
    refine g_if_ne (tgt := 18) dX12_best_13 (by decide) ⟨by omega, by omega⟩ (fun k4 => ?_) (fun k4 => ?_)
    · refine g_aload_n dX12_best_18 rfl ?_
      refine g_iconst dX12_best_19 ?_
      refine g_vV (av := [vI 0]) (o := 0) (st := []) (m_X12_arranges G P 0 (by decide) hB (by have q0 := b0_74 hB; omega) v_MVw v_RE _ (fun Pc5 hBc5 hFc5 gc5_st vc5_MV vc5_RE vc5_RLt => ⟨rfl, ?_⟩)) cf_X12_arranges t_1887 rfl (by decide) rfl rfl rfl (Nat.le_of_ble_eq_true rfl) (by decide) rfl dX12_best_20
      refine g_aload_n dX12_best_23 rfl ?_
      refine g_vV (av := []) (o := 0) (st := []) (m_X12_countsRows G Pc5  hBc5 (okC.fr (F := ([62, 66, 74], [41, 42, 43])) v_okC (FrM.c FrM.rf hFc5 rfl) rfl) _ (fun Pc6 hBc6 hFc6 => ⟨rfl, ?_⟩)) cf_X12_countsRows t_1895 rfl (by decide) rfl rfl rfl (Nat.le_of_ble_eq_true rfl) (by decide) rfl dX12_best_24
      refine g_iconst dX12_best_27 ?_
      refine g_istore_n (l1 := [(2, vI 0), (0, vR 0), (1, vI a1)]) dX12_best_28 (by decide) rfl ?_
      have L29_6 : ∀ (n29_6 : Nat) (x29_2_6 : Int) (h_x29_2_6 : 0 ≤ x29_2_6 ∧ x29_2_6 ≤ 11) (H29_6 : PH) (hB29_6 : BdM H29_6) (hE29_6 : FrM ([], [58]) Pc6 H29_6) (hm29_6 : ((12 - x29_2_6) : Int).toNat < n29_6), Go WSM G 6 iX12_best 29 [(0, vR 0), (1, vI a1), (2, vI x29_2_6)] [] H29_6 Q := by
        intro n29_6
        induction n29_6 with
        | zero => intro x29_2_6 h_x29_2_6 H29_6 hB29_6 hE29_6 hm29_6; exact absurd hm29_6 (Nat.not_lt_zero _)
        | succ n29_6 ih29_6 =>
        intro x29_2_6 h_x29_2_6 H29_6 hB29_6 hE29_6 hm29_6
        refine g_iload_n dX12_best_29 rfl ?_
        refine g_iconst dX12_best_30 ?_
        refine g_iadd dX12_best_31 ?_
        refine g_aload_n dX12_best_32 rfl ?_
        refine m_g53 rfl dX12_best_33 ?_
        refine g_iconst dX12_best_36 ?_
        refine m_l35 (z := (P 35 0)) dX12_best_37 (by decide) ((congrFun (hE29_6.2 35 rfl rfl) _).trans ((congrFun (hFc6.2 35 rfl rfl) _).trans ((congrFun (hFc5.2 35 rfl rfl) _).trans rfl))) ?_
        have f993 := bl_35 (k := 0) hB
        refine g_icmp_ge (tgt := 69) dX12_best_38 (by decide) ⟨by omega, by omega⟩ ⟨by have q0 := bl_35 (k := 0) hB; omega, by have q0 := bl_35 (k := 0) hB; omega⟩ (fun k994 => ?_) (fun k994 => ?_)
        · refine g_aload_n dX12_best_69 rfl ?_
          refine g_iconst dX12_best_70 ?_
          refine g_aload_n dX12_best_71 rfl ?_
          refine m_g56 rfl dX12_best_72 ?_
          refine g_iconst dX12_best_75 ?_
          refine m_l38 (z := (P 38 0)) dX12_best_76 (by decide) ((congrFun (hE29_6.2 38 rfl rfl) _).trans ((congrFun (hFc6.2 38 rfl rfl) _).trans ((congrFun (hFc5.2 38 rfl rfl) _).trans rfl))) ?_
          have f995 := bl_38 (k := 0) hB
          refine g_vV (av := [vI 0, vI (P 38 0)]) (o := 0) (st := []) (m_X12_plants G H29_6 0 (P 38 0) (by decide) ⟨by have q0 := bl_38 (k := 0) hB; omega, by have q0 := bl_38 (k := 0) hB; omega⟩ hB29_6 (by have q0 := bl_38 (k := 0) hB; have q1 := (((hE29_6.1 74 rfl).trans ((hFc6.1 74 rfl).trans rfl)) : H29_6 0 74 = (Pc5 0 74)); have q2 := b0_74 hBc5; omega) ((MV.fr (F := ([], [44, 45, 58])) vc5_MV (FrM.c (FrM.c FrM.rf hFc6 rfl) hE29_6 rfl) rfl).w) (RE.fr (F := ([], [44, 45, 58])) vc5_RE (FrM.c (FrM.c FrM.rf hFc6 rfl) hE29_6 rfl) rfl) _ (fun Pc996 hBc996 hFc996 gc996_st vc996_MV vc996_RE vc996_RLt => ⟨rfl, ?_⟩)) cf_X12_plants t_1998 rfl (by decide) rfl rfl rfl (Nat.le_of_ble_eq_true rfl) (by decide) rfl dX12_best_77
          have z997 : H29_6 0 74 = (Pc5 0 74) := ((hE29_6.1 74 rfl).trans ((hFc6.1 74 rfl).trans rfl))
          refine g_aload_n dX12_best_80 rfl ?_
          refine g_iconst dX12_best_81 ?_
          refine g_vI (av := [vI 0]) (o := 0) (st := []) (m_X12_allTests G Pc996 0 (by decide) hBc996 (okC.fr (F := ([62, 66, 74, 76], [41, 42, 43, 44, 45, 58])) v_okC (FrM.c (FrM.c (FrM.c (FrM.c FrM.rf hFc5 rfl) hFc6 rfl) hE29_6 rfl) hFc996 rfl) rfl) vc996_MV _ (fun rc998 hc998 Pc998 hBc998 hFc998 vc998_MV => ⟨rc998, rfl, ?_⟩)) cf_X12_allTests t_2002 rfl (by decide) rfl rfl rfl (Nat.le_of_ble_eq_true rfl) (by decide) rfl dX12_best_82
          refine g_istore_n (l1 := [(2, vI rc998), (0, vR 0), (1, vI a1)]) dX12_best_85 (by decide) rfl ?_
          refine g_iconst dX12_best_86 ?_
          refine g_istore_n (l1 := [(3, vI (-1)), (2, vI rc998), (0, vR 0), (1, vI a1)]) dX12_best_87 (by decide) rfl ?_
          refine g_iconst dX12_best_88 ?_
          refine g_istore (l1 := [(4, vI 0), (3, vI (-1)), (2, vI rc998), (0, vR 0), (1, vI a1)]) dX12_best_89 (by decide) rfl ?_
          have L91_998 : ∀ (n91_998 : Nat) (x91_4_998 : Int) (h_x91_4_998 : 0 ≤ x91_4_998 ∧ x91_4_998 ≤ 11) (x91_3_998 : Int) (h_x91_3_998 : (-1) ≤ x91_3_998 ∧ x91_3_998 ≤ 11) (x91_2_998 : Int) (h_x91_2_998 : (-2147483648) ≤ x91_2_998 ∧ x91_2_998 ≤ 2147483647) (H91_998 : PH) (hB91_998 : BdM H91_998) (hE91_998 : FrM ([62, 66, 74, 76, 78], [35, 36, 37, 38, 39, 40, 41, 42, 43, 44, 49, 50]) Pc998 H91_998) (i91_0_998 : H91_998 0 74 ≤ P 0 74 + 2 + x91_4_998) (w91_MV_998 : MV H91_998) (w91_RE_998 : RE H91_998) (w91_MVw_998 : MVw H91_998) (w91_RLt_998 : RLt H91_998) (hm91_998 : ((12 - x91_4_998) : Int).toNat < n91_998), Go WSM G 6 iX12_best 91 [(0, vR 0), (1, vI a1), (2, vI x91_2_998), (3, vI x91_3_998), (4, vI x91_4_998)] [] H91_998 Q := by
            intro n91_998
            induction n91_998 with
            | zero => intro x91_4_998 h_x91_4_998 x91_3_998 h_x91_3_998 x91_2_998 h_x91_2_998 H91_998 hB91_998 hE91_998 i91_0_998 w91_MV_998 w91_RE_998 w91_MVw_998 w91_RLt_998 hm91_998; exact absurd hm91_998 (Nat.not_lt_zero _)
            | succ n91_998 ih91_998 =>
            intro x91_4_998 h_x91_4_998 x91_3_998 h_x91_3_998 x91_2_998 h_x91_2_998 H91_998 hB91_998 hE91_998 i91_0_998 w91_MV_998 w91_RE_998 w91_MVw_998 w91_RLt_998 hm91_998
            refine g_iload dX12_best_91 rfl ?_
            refine g_iconst dX12_best_93 ?_
            refine g_iadd dX12_best_94 ?_
            refine g_aload_n dX12_best_95 rfl ?_
            refine m_g53 rfl dX12_best_96 ?_
            refine g_iconst dX12_best_99 ?_
            refine m_l35 (z := (H91_998 35 0)) dX12_best_100 (by decide) rfl ?_
            have f1106 := bl_35 (k := 0) hB91_998
            refine g_icmp_ge (tgt := 173) dX12_best_101 (by decide) ⟨by omega, by omega⟩ ⟨by have q0 := bl_35 (k := 0) hB91_998; omega, by have q0 := bl_35 (k := 0) hB91_998; omega⟩ (fun k1107 => ?_) (fun k1107 => ?_)
            · refine g_iload_n dX12_best_173 rfl ?_
              refine g_if_ne (tgt := 181) dX12_best_174 (by decide) ⟨by omega, by omega⟩ (fun k1108 => ?_) (fun k1108 => ?_)
              · refine g_iload_n dX12_best_181 rfl ?_
                exact g_retI dX12_best_182 rfl (hQ x91_2_998 ⟨by omega, by omega⟩ _ hB91_998 (FrM.c (FrM.c (FrM.c (FrM.c (FrM.c (FrM.c FrM.rf hFc5 rfl) hFc6 rfl) hE29_6 rfl) hFc996 rfl) hFc998 rfl) hE91_998 rfl) (by have q0 := b0_74 hB91_998; omega) w91_MVw_998 w91_RE_998)
              · refine g_iload_n dX12_best_177 rfl ?_
                refine g_goto (tgt := 182) dX12_best_178 (by decide) ?_
                exact g_retI dX12_best_182 rfl (hQ x91_3_998 ⟨by omega, by omega⟩ _ hB91_998 (FrM.c (FrM.c (FrM.c (FrM.c (FrM.c (FrM.c FrM.rf hFc5 rfl) hFc6 rfl) hE29_6 rfl) hFc996 rfl) hFc998 rfl) hE91_998 rfl) (by have q0 := b0_74 hB91_998; omega) w91_MVw_998 w91_RE_998)
            · refine g_aload_n dX12_best_104 rfl ?_
              refine m_g91 rfl dX12_best_105 ?_
              refine g_iload dX12_best_108 rfl ?_
              refine m_l58 (z := (H29_6 58 x91_4_998)) dX12_best_110 ⟨by omega, by omega⟩ ((congrFun (hE91_998.2 58 rfl rfl) _).trans ((congrFun (hFc998.2 58 rfl rfl) _).trans ((congrFun (hFc996.2 58 rfl rfl) _).trans rfl))) ?_
              have f1109 := bl_58 (k := x91_4_998) hB29_6
              have J167_1117 : ∀ (x167_3_1117 : Int) (h_x167_3_1117 : (-1) ≤ x167_3_1117 ∧ x167_3_1117 ≤ 11) (x167_2_1117 : Int) (h_x167_2_1117 : (-2147483648) ≤ x167_2_1117 ∧ x167_2_1117 ≤ 2147483647) (H167_1117 : PH) (hB167_1117 : BdM H167_1117) (hE167_1117 : FrM ([62, 66, 74, 76, 78], [35, 36, 37, 38, 39, 40, 41, 42, 43, 44, 49, 50]) H91_998 H167_1117) (i167_0_1117 : H167_1117 0 74 ≤ P 0 74 + 3 + x91_4_998) (w167_MV_1117 : MV H167_1117) (w167_RE_1117 : RE H167_1117) (w167_MVw_1117 : MVw H167_1117) (w167_RLt_1117 : RLt H167_1117), Go WSM G 6 iX12_best 167 [(0, vR 0), (1, vI a1), (2, vI x167_2_1117), (3, vI x167_3_1117), (4, vI x91_4_998)] [] H167_1117 Q := by
                intro x167_3_1117 h_x167_3_1117 x167_2_1117 h_x167_2_1117 H167_1117 hB167_1117 hE167_1117 i167_0_1117 w167_MV_1117 w167_RE_1117 w167_MVw_1117 w167_RLt_1117
                refine g_iinc (l1 := [(4, vI (x91_4_998 + 1)), (0, vR 0), (1, vI a1), (2, vI x167_2_1117), (3, vI x167_3_1117)]) dX12_best_167 rfl (by decide) rfl ?_
                refine g_goto (tgt := 91) dX12_best_170 (by decide) ?_
                refine g_forget (l1 := [(0, vR 0), (1, vI a1), (2, vI x167_2_1117), (3, vI x167_3_1117), (4, vI (x91_4_998 + 1))]) (by intro q hq; simp only [List.mem_cons, List.not_mem_nil, or_false] at hq ⊢; rcases hq with rfl | rfl | rfl | rfl | rfl <;> simp) ?_
                exact ih91_998 (x91_4_998 + 1) ⟨by omega, by omega⟩ x167_3_1117 ⟨by omega, by omega⟩ x167_2_1117 ⟨by omega, by omega⟩ _ hB167_1117 (FrM.c (FrM.c FrM.rf hE91_998 rfl) hE167_1117 rfl) (by have q0 := b0_74 hB167_1117; omega) w167_MV_1117 w167_RE_1117 w167_MVw_1117 w167_RLt_1117 (by omega)
              refine g_if_ne (tgt := 117) dX12_best_111 (by decide) ⟨by have q0 := bl_58 (k := x91_4_998) hB29_6; omega, by have q0 := bl_58 (k := x91_4_998) hB29_6; omega⟩ (fun k1119 => ?_) (fun k1119 => ?_)
              · refine g_aload_n dX12_best_117 rfl ?_
                refine g_iconst dX12_best_118 ?_
                refine g_iconst dX12_best_119 ?_
                refine g_vV (av := [vI 1, vI 0]) (o := 0) (st := []) (m_X12_copies G H91_998 1 0 (by decide) (by decide) hB91_998  _ (fun Pc1120 hBc1120 hFc1120 gc1120_o => ⟨rfl, ?_⟩)) cf_X12_copies t_1859 rfl (by decide) rfl rfl rfl (Nat.le_of_ble_eq_true rfl) (by decide) rfl dX12_best_120
                refine g_aload_n dX12_best_123 rfl ?_
                refine g_iconst dX12_best_124 ?_
                refine g_iload dX12_best_125 rfl ?_
                refine g_iload dX12_best_127 rfl ?_
                refine g_iconst dX12_best_129 ?_
                refine g_iadd dX12_best_130 ?_
                refine g_vV (av := [vI 1, vI x91_4_998, vI (x91_4_998 + 1)]) (o := 0) (st := []) (m_X12_exchanges G Pc1120 1 x91_4_998 (x91_4_998 + 1) (by decide) ⟨by omega, by omega⟩ ⟨by omega, by omega⟩ hBc1120  _ (fun Pc1121 hBc1121 hFc1121 => ⟨rfl, ?_⟩)) cf_X12_exchanges t_2103 rfl (by decide) rfl rfl rfl (Nat.le_of_ble_eq_true rfl) (by decide) rfl dX12_best_131
                refine g_aload_n dX12_best_134 rfl ?_
                refine g_iconst dX12_best_135 ?_
                refine g_aload_n dX12_best_136 rfl ?_
                refine m_g56 rfl dX12_best_137 ?_
                refine g_iconst dX12_best_140 ?_
                refine m_l38 (z := (Pc1120 38 1)) dX12_best_141 (by decide) ((congrFun (hFc1121.2 38 rfl rfl) _).trans rfl) ?_
                have f1122 := bl_38 (k := 1) hBc1120
                refine g_vV (av := [vI 1, vI (Pc1120 38 1)]) (o := 0) (st := []) (m_X12_plants G Pc1121 1 (Pc1120 38 1) (by decide) ⟨by have q0 := bl_38 (k := 1) hBc1120; omega, by have q0 := bl_38 (k := 1) hBc1120; omega⟩ hBc1121 (by have q0 := bl_38 (k := 1) hBc1120; have q1 := (((hFc1121.1 74 rfl).trans ((hFc1120.1 74 rfl).trans rfl)) : Pc1121 0 74 = (H91_998 0 74)); have q2 := b0_74 hB91_998; omega) (MVw.fr (F := ([], [35, 36, 37, 38, 39, 40])) w91_MVw_998 (FrM.c (FrM.c FrM.rf hFc1120 rfl) hFc1121 rfl) rfl) (RE.fr (F := ([], [35, 36, 37, 38, 39, 40])) w91_RE_998 (FrM.c (FrM.c FrM.rf hFc1120 rfl) hFc1121 rfl) rfl) _ (fun Pc1123 hBc1123 hFc1123 gc1123_st vc1123_MV vc1123_RE vc1123_RLt => ⟨rfl, ?_⟩)) cf_X12_plants t_1998 rfl (by decide) rfl rfl rfl (Nat.le_of_ble_eq_true rfl) (by decide) rfl dX12_best_142
                have z1124 : Pc1121 0 74 = (H91_998 0 74) := ((hFc1121.1 74 rfl).trans ((hFc1120.1 74 rfl).trans rfl))
                refine g_aload_n dX12_best_145 rfl ?_
                refine g_iconst dX12_best_146 ?_
                refine g_vI (av := [vI 1]) (o := 0) (st := []) (m_X12_allTests G Pc1123 1 (by decide) hBc1123 (okC.fr (F := ([62, 66, 74, 76, 78], [35, 36, 37, 38, 39, 40, 41, 42, 43, 44, 45, 49, 50, 58])) v_okC (FrM.c (FrM.c (FrM.c (FrM.c (FrM.c (FrM.c (FrM.c (FrM.c (FrM.c FrM.rf hFc5 rfl) hFc6 rfl) hE29_6 rfl) hFc996 rfl) hFc998 rfl) hE91_998 rfl) hFc1120 rfl) hFc1121 rfl) hFc1123 rfl) rfl) vc1123_MV _ (fun rc1125 hc1125 Pc1125 hBc1125 hFc1125 vc1125_MV => ⟨rc1125, rfl, ?_⟩)) cf_X12_allTests t_2002 rfl (by decide) rfl rfl rfl (Nat.le_of_ble_eq_true rfl) (by decide) rfl dX12_best_147
                refine g_istore (l1 := [(5, vI rc1125), (0, vR 0), (1, vI a1), (2, vI x91_2_998), (3, vI x91_3_998), (4, vI x91_4_998)]) dX12_best_150 (by decide) rfl ?_
                refine g_iload dX12_best_152 rfl ?_
                refine g_iload_n dX12_best_154 rfl ?_
                refine g_icmp_lt (tgt := 161) dX12_best_155 (by decide) ⟨by omega, by omega⟩ ⟨by omega, by omega⟩ (fun k1126 => ?_) (fun k1126 => ?_)
                · refine g_iload dX12_best_161 rfl ?_
                  refine g_istore_n (l1 := [(2, vI rc1125), (5, vI rc1125), (0, vR 0), (1, vI a1), (3, vI x91_3_998), (4, vI x91_4_998)]) dX12_best_163 (by decide) rfl ?_
                  refine g_iload dX12_best_164 rfl ?_
                  refine g_istore_n (l1 := [(3, vI x91_4_998), (2, vI rc1125), (5, vI rc1125), (0, vR 0), (1, vI a1), (4, vI x91_4_998)]) dX12_best_166 (by decide) rfl ?_
                  refine g_forget (l1 := [(0, vR 0), (1, vI a1), (2, vI rc1125), (3, vI x91_4_998), (4, vI x91_4_998)]) (by intro q hq; simp only [List.mem_cons, List.not_mem_nil, or_false] at hq ⊢; rcases hq with rfl | rfl | rfl | rfl | rfl <;> simp) ?_
                  exact J167_1117 x91_4_998 ⟨by omega, by omega⟩ rc1125 ⟨by omega, by omega⟩ _ hBc1125 (FrM.c (FrM.c (FrM.c (FrM.c FrM.rf hFc1120 rfl) hFc1121 rfl) hFc1123 rfl) hFc1125 rfl) (by have q0 := (((hFc1125.1 74 rfl).trans rfl) : Pc1125 0 74 = (Pc1123 0 74)); have q1 := b0_74 hBc1123; omega) vc1125_MV (RE.fr (F := ([78], [44, 49, 50])) vc1123_RE (FrM.c FrM.rf hFc1125 rfl) rfl) (vc1125_MV.w) (RLt.fr (F := ([78], [44, 49, 50])) vc1123_RLt (FrM.c FrM.rf hFc1125 rfl) rfl)
                · refine g_goto (tgt := 167) dX12_best_158 (by decide) ?_
                  refine g_forget (l1 := [(0, vR 0), (1, vI a1), (2, vI x91_2_998), (3, vI x91_3_998), (4, vI x91_4_998)]) (by intro q hq; simp only [List.mem_cons, List.not_mem_nil, or_false] at hq ⊢; rcases hq with rfl | rfl | rfl | rfl | rfl <;> simp) ?_
                  exact J167_1117 x91_3_998 ⟨by omega, by omega⟩ x91_2_998 ⟨by omega, by omega⟩ _ hBc1125 (FrM.c (FrM.c (FrM.c (FrM.c FrM.rf hFc1120 rfl) hFc1121 rfl) hFc1123 rfl) hFc1125 rfl) (by have q0 := (((hFc1125.1 74 rfl).trans rfl) : Pc1125 0 74 = (Pc1123 0 74)); have q1 := b0_74 hBc1123; omega) vc1125_MV (RE.fr (F := ([78], [44, 49, 50])) vc1123_RE (FrM.c FrM.rf hFc1125 rfl) rfl) (vc1125_MV.w) (RLt.fr (F := ([78], [44, 49, 50])) vc1123_RLt (FrM.c FrM.rf hFc1125 rfl) rfl)
              · refine g_goto (tgt := 167) dX12_best_114 (by decide) ?_
                refine g_forget (l1 := [(0, vR 0), (1, vI a1), (2, vI x91_2_998), (3, vI x91_3_998), (4, vI x91_4_998)]) (by intro q hq; simp only [List.mem_cons, List.not_mem_nil, or_false] at hq ⊢; rcases hq with rfl | rfl | rfl | rfl | rfl <;> simp) ?_
                exact J167_1117 x91_3_998 ⟨by omega, by omega⟩ x91_2_998 ⟨by omega, by omega⟩ _ hB91_998 FrM.rf (by have q0 := b0_74 hB91_998; omega) w91_MV_998 w91_RE_998 w91_MVw_998 w91_RLt_998
          refine g_forget (l1 := [(0, vR 0), (1, vI a1), (2, vI rc998), (3, vI (-1)), (4, vI 0)]) (by intro q hq; simp only [List.mem_cons, List.not_mem_nil, or_false] at hq ⊢; rcases hq with rfl | rfl | rfl | rfl | rfl <;> simp) ?_
          exact L91_998 _ 0 (by decide) (-1) (by decide) rc998 ⟨by omega, by omega⟩ _ hBc998 FrM.rf (by have q0 := (((hFc998.1 74 rfl).trans rfl) : Pc998 0 74 = (Pc996 0 74)); have q1 := b0_74 hBc996; omega) vc998_MV (RE.fr (F := ([78], [44, 49, 50])) vc996_RE (FrM.c FrM.rf hFc998 rfl) rfl) (vc998_MV.w) (RLt.fr (F := ([78], [44, 49, 50])) vc996_RLt (FrM.c FrM.rf hFc998 rfl) rfl) (Nat.lt_succ_self _)
        · refine g_aload_n dX12_best_41 rfl ?_
          refine m_g91 rfl dX12_best_42 ?_
          refine g_iload_n dX12_best_45 rfl ?_
          refine g_aload_n dX12_best_46 rfl ?_
          refine g_iload_n dX12_best_47 rfl ?_
          refine g_iload_n dX12_best_48 rfl ?_
          refine g_iconst dX12_best_49 ?_
          refine g_iadd dX12_best_50 ?_
          refine g_vI (av := [vI x29_2_6, vI (x29_2_6 + 1)]) (o := 0) (st := [vI x29_2_6, vR 58]) (m_X12_isSafe G H29_6 x29_2_6 (x29_2_6 + 1) ⟨by omega, by omega⟩ ⟨by omega, by omega⟩ hB29_6  _ (fun rc1127 hc1127 => ⟨rc1127, rfl, ?_⟩)) cf_X12_isSafe t_2089 rfl (by decide) rfl rfl rfl (Nat.le_of_ble_eq_true rfl) (by decide) rfl dX12_best_51
          refine g_if_eq (tgt := 61) dX12_best_54 (by decide) ⟨by omega, by omega⟩ (fun k1128 => ?_) (fun k1128 => ?_)
          · refine g_iconst dX12_best_61 ?_
            refine m_s58 dX12_best_62 ⟨by omega, by omega⟩ ?_
            have hB1129 := ba_58 (z := 0) (k := x29_2_6) hB29_6 (by decide)
            refine g_iinc (l1 := [(2, vI (x29_2_6 + 1)), (0, vR 0), (1, vI a1)]) dX12_best_63 rfl (by decide) rfl ?_
            refine g_goto (tgt := 29) dX12_best_66 (by decide) ?_
            refine g_forget (l1 := [(0, vR 0), (1, vI a1), (2, vI (x29_2_6 + 1))]) (by intro q hq; simp only [List.mem_cons, List.not_mem_nil, or_false] at hq ⊢; rcases hq with rfl | rfl | rfl <;> simp) ?_
            exact ih29_6 (x29_2_6 + 1) ⟨by omega, by omega⟩ _ hB1129 (FrM.a (FrM.c FrM.rf hE29_6 rfl) rfl rfl) (by omega)
          · refine g_iconst dX12_best_57 ?_
            refine g_goto (tgt := 62) dX12_best_58 (by decide) ?_
            refine m_s58 dX12_best_62 ⟨by omega, by omega⟩ ?_
            have hB1130 := ba_58 (z := 1) (k := x29_2_6) hB29_6 (by decide)
            refine g_iinc (l1 := [(2, vI (x29_2_6 + 1)), (0, vR 0), (1, vI a1)]) dX12_best_63 rfl (by decide) rfl ?_
            refine g_goto (tgt := 29) dX12_best_66 (by decide) ?_
            refine g_forget (l1 := [(0, vR 0), (1, vI a1), (2, vI (x29_2_6 + 1))]) (by intro q hq; simp only [List.mem_cons, List.not_mem_nil, or_false] at hq ⊢; rcases hq with rfl | rfl | rfl <;> simp) ?_
            exact ih29_6 (x29_2_6 + 1) ⟨by omega, by omega⟩ _ hB1130 (FrM.a (FrM.c FrM.rf hE29_6 rfl) rfl rfl) (by omega)
      refine g_forget (l1 := [(0, vR 0), (1, vI a1), (2, vI 0)]) (by intro q hq; simp only [List.mem_cons, List.not_mem_nil, or_false] at hq ⊢; rcases hq with rfl | rfl | rfl <;> simp) ?_
      exact L29_6 _ 0 (by decide) _ hBc6 FrM.rf (Nat.lt_succ_self _)
    · refine g_iconst dX12_best_16 ?_
      exact g_retI dX12_best_17 rfl (hQ (-1) (by decide) _ hB FrM.rf (by have q0 := b0_74 hB; omega) v_MVw v_RE)
