/-! Contracts of the reference: mg. -/
set_option maxRecDepth 100000 in
set_option maxHeartbeats 4000000 in
theorem m_X12_fieldOf (G : GT) (P : PH) (a1 : Int) (a2 : Int) (a3 : Int) (h_a1 : (-2147483648) ≤ a1 ∧ a1 ≤ 2147483647) (h_a2 : 0 ≤ a2 ∧ a2 ≤ 23) (h_a3 : 0 ≤ a3 ∧ a3 ≤ 19) (hB : BdM P) (p_zv : ZV P (P 0 13) (24 * P 0 13 + a2)) (p_fl : a3 < P 7 (24 * P 0 13 + a2)) (Q : Option PV → PH → Prop) (hQ : ∀ (r : Int) (_ : (-2147483648) ≤ r ∧ r ≤ 2147483647) (_ : (a1 < P 9 (24 * P 0 13 + a2) ∨ P 9 (24 * P 0 13 + a2) + P 10 (24 * P 0 13 + a2) ≤ a1) ∨ (0 ≤ r ∧ (a3 = 0 → r < vals P (P 0 13) (P 8 (2 * (24 * P 0 13 + a2)))) ∧ (a3 = 1 → r < vals P (P 0 13) (P 8 (2 * (24 * P 0 13 + a2) + 1))))), Q (some (vI r)) P) : Ct WSM G 2 iX12_fieldOf [vR 0, vI a1, vI a2, vI a3] P Q := by
  refine Ct.of (by decide) (l0 := [(0, vR 0), (1, vI a1), (2, vI a2), (3, vI a3)]) rfl (Nat.le_of_ble_eq_true rfl) ?_
  refine g_bipush dX12_fieldOf_0 (by decide) ?_
  refine g_aload_n dX12_fieldOf_2 rfl ?_
  refine m_g13 (z := (P 0 13)) rfl dX12_fieldOf_3 rfl ?_
  refine g_imul dX12_fieldOf_6 ?_
  refine g_iload_n dX12_fieldOf_7 rfl ?_
  refine g_iadd dX12_fieldOf_8 ?_
  refine g_istore (l1 := [(4, vI ((24 * (P 0 13)) + a2)), (0, vR 0), (1, vI a1), (2, vI a2), (3, vI a3)]) dX12_fieldOf_9 (by decide) rfl ?_
  refine g_iload_n dX12_fieldOf_11 rfl ?_
  refine g_aload_n dX12_fieldOf_12 rfl ?_
  refine m_g21 rfl dX12_fieldOf_13 ?_
  refine g_iload dX12_fieldOf_16 rfl ?_
  refine m_l9 (z := (P 9 ((24 * (P 0 13)) + a2))) dX12_fieldOf_18 ⟨by have q0 := b0_13 hB; omega, by have q0 := b0_13 hB; omega⟩ rfl ?_
  have f1 := bl_9 (k := ((24 * (P 0 13)) + a2)) hB
  refine g_icmp_lt (tgt := 41) dX12_fieldOf_19 (by decide) ⟨by omega, by omega⟩ ⟨by have q0 := bl_9 (k := ((24 * (P 0 13)) + a2)) hB; omega, by have q0 := bl_9 (k := ((24 * (P 0 13)) + a2)) hB; omega⟩ (fun k2 => ?_) (fun k2 => ?_)
  · refine g_iconst dX12_fieldOf_41 ?_
    exact g_retI dX12_fieldOf_42 rfl (hQ (-1) (by decide) (by have hzv := p_zv; unfold ZV at hzv; omega))
  · refine g_iload_n dX12_fieldOf_22 rfl ?_
    refine g_aload_n dX12_fieldOf_23 rfl ?_
    refine m_g21 rfl dX12_fieldOf_24 ?_
    refine g_iload dX12_fieldOf_27 rfl ?_
    refine m_l9 (z := (P 9 ((24 * (P 0 13)) + a2))) dX12_fieldOf_29 ⟨by have q0 := b0_13 hB; omega, by have q0 := b0_13 hB; omega⟩ rfl ?_
    refine g_aload_n dX12_fieldOf_30 rfl ?_
    refine m_g22 rfl dX12_fieldOf_31 ?_
    refine g_iload dX12_fieldOf_34 rfl ?_
    refine m_l10 (z := (P 10 ((24 * (P 0 13)) + a2))) dX12_fieldOf_36 ⟨by have q0 := b0_13 hB; omega, by have q0 := b0_13 hB; omega⟩ rfl ?_
    refine g_iadd dX12_fieldOf_37 ?_
    have f3 := bl_10 (k := ((24 * (P 0 13)) + a2)) hB
    refine g_icmp_lt (tgt := 43) dX12_fieldOf_38 (by decide) ⟨by omega, by omega⟩ ⟨by have q0 := bl_9 (k := ((24 * (P 0 13)) + a2)) hB; have q1 := bl_10 (k := ((24 * (P 0 13)) + a2)) hB; omega, by have q0 := bl_9 (k := ((24 * (P 0 13)) + a2)) hB; have q1 := bl_10 (k := ((24 * (P 0 13)) + a2)) hB; omega⟩ (fun k4 => ?_) (fun k4 => ?_)
    · refine g_iload_n dX12_fieldOf_43 rfl ?_
      refine g_aload_n dX12_fieldOf_44 rfl ?_
      refine m_g21 rfl dX12_fieldOf_45 ?_
      refine g_iload dX12_fieldOf_48 rfl ?_
      refine m_l9 (z := (P 9 ((24 * (P 0 13)) + a2))) dX12_fieldOf_50 ⟨by have q0 := b0_13 hB; omega, by have q0 := b0_13 hB; omega⟩ rfl ?_
      refine g_isub dX12_fieldOf_51 ?_
      refine g_istore (l1 := [(5, vI (a1 - (P 9 ((24 * (P 0 13)) + a2)))), (4, vI ((24 * (P 0 13)) + a2)), (0, vR 0), (1, vI a1), (2, vI a2), (3, vI a3)]) dX12_fieldOf_52 (by decide) rfl ?_
      refine g_aload_n dX12_fieldOf_54 rfl ?_
      refine m_g19 rfl dX12_fieldOf_55 ?_
      refine g_iload dX12_fieldOf_58 rfl ?_
      refine m_l7 (z := (P 7 ((24 * (P 0 13)) + a2))) dX12_fieldOf_60 ⟨by have q0 := b0_13 hB; omega, by have q0 := b0_13 hB; omega⟩ rfl ?_
      refine g_iconst dX12_fieldOf_61 ?_
      have f5 := bl_7 (k := ((24 * (P 0 13)) + a2)) hB
      refine g_icmp_ne (tgt := 68) dX12_fieldOf_62 (by decide) ⟨by have q0 := bl_7 (k := ((24 * (P 0 13)) + a2)) hB; omega, by have q0 := bl_7 (k := ((24 * (P 0 13)) + a2)) hB; omega⟩ (by decide) (fun k6 => ?_) (fun k6 => ?_)
      · refine g_aload_n dX12_fieldOf_68 rfl ?_
        refine g_aload_n dX12_fieldOf_69 rfl ?_
        refine m_g13 (z := (P 0 13)) rfl dX12_fieldOf_70 rfl ?_
        refine g_aload_n dX12_fieldOf_73 rfl ?_
        refine m_g20 rfl dX12_fieldOf_74 ?_
        refine g_iconst dX12_fieldOf_77 ?_
        refine g_iload dX12_fieldOf_78 rfl ?_
        refine g_imul dX12_fieldOf_80 ?_
        refine g_iconst dX12_fieldOf_81 ?_
        refine g_iadd dX12_fieldOf_82 ?_
        refine m_l8 (z := (P 8 ((2 * ((24 * (P 0 13)) + a2)) + 1))) dX12_fieldOf_83 ⟨by have q0 := b0_13 hB; omega, by have q0 := b0_13 hB; omega⟩ rfl ?_
        have f7 := b0_13 hB
        have f8 := bl_8 (k := ((2 * ((24 * (P 0 13)) + a2)) + 1)) hB
        refine g_vI (av := [vI (P 0 13), vI (P 8 ((2 * ((24 * (P 0 13)) + a2)) + 1))]) (o := 0) (st := []) (m_X12_valuesOf G P (P 0 13) (P 8 ((2 * ((24 * (P 0 13)) + a2)) + 1)) ⟨by have q0 := b0_13 hB; omega, by have q0 := b0_13 hB; omega⟩ ⟨by have q0 := bl_8 (k := ((2 * ((24 * (P 0 13)) + a2)) + 1)) hB; omega, by have q0 := bl_8 (k := ((2 * ((24 * (P 0 13)) + a2)) + 1)) hB; omega⟩ hB  _ (fun rc9 hc9 gc9_v => ⟨rc9, rfl, ?_⟩)) cf_X12_valuesOf t_1756 rfl (by decide) rfl rfl rfl (Nat.le_of_ble_eq_true rfl) (by decide) rfl dX12_fieldOf_84
        have hsd := vals_of gc9_v
        have hzv := p_zv
        unfold ZV at hzv
        have hz2 := (hzv.resolve_left (by omega)).resolve_left (by omega)
        have hz3 : 1 ≤ rc9 := by omega
        refine g_istore (l1 := [(6, vI rc9), (5, vI (a1 - (P 9 ((24 * (P 0 13)) + a2)))), (4, vI ((24 * (P 0 13)) + a2)), (0, vR 0), (1, vI a1), (2, vI a2), (3, vI a3)]) dX12_fieldOf_87 (by decide) rfl ?_
        refine g_iload_n dX12_fieldOf_89 rfl ?_
        refine g_if_ne (tgt := 101) dX12_fieldOf_90 (by decide) ⟨by omega, by omega⟩ (fun k10 => ?_) (fun k10 => ?_)
        · refine g_iload dX12_fieldOf_101 rfl ?_
          refine g_iload dX12_fieldOf_103 rfl ?_
          refine g_irem dX12_fieldOf_105 ⟨⟨by omega, by omega⟩, by omega⟩ ?_
          refine g_nm (fun b11 e_b11 => ?_)
          have h_b11 := irem_ir (a1 - (P 9 ((24 * (P 0 13)) + a2))) rc9
          rw [← e_b11] at h_b11
          have hrm9 : a3 = 0 ∨ (0 ≤ b11 ∧ b11 < rc9) := by first | (left; omega) | (right; rw [e_b11]; exact irem_b ⟨by omega, by omega⟩ ⟨by omega, by omega⟩)
          exact g_retI dX12_fieldOf_106 rfl (hQ b11 ⟨by omega, by omega⟩ (by have hzv := p_zv; unfold ZV at hzv; omega))
        · refine g_iload dX12_fieldOf_93 rfl ?_
          refine g_iload dX12_fieldOf_95 rfl ?_
          refine g_idiv dX12_fieldOf_97 ⟨⟨by omega, by omega⟩, by omega⟩ ?_
          refine g_nm (fun b12 e_b12 => ?_)
          have h_b12 := idiv_ir (a1 - (P 9 ((24 * (P 0 13)) + a2))) rc9
          rw [← e_b12] at h_b12
          have f_b12_0 := bl_9 (k := ((24 * (P 0 13)) + a2)) hB
          have hi9 : b12 = (a1 - (P 9 ((24 * (P 0 13)) + a2))) / rc9 := by rw [e_b12]; exact idiv_p ⟨by omega, by omega⟩ ⟨by omega, by omega⟩
          have hlt9 : b12 < vals P (P 0 13) (P 8 (2 * (24 * P 0 13 + a2))) := by rw [hi9]; exact Int.ediv_lt_of_lt_mul (by omega) (by rw [hsd]; have q := hz2.2.2.2; omega)
          have hnn9 : 0 ≤ b12 := by rw [hi9]; exact Int.ediv_nonneg (by omega) (by omega)
          refine g_goto (tgt := 106) dX12_fieldOf_98 (by decide) ?_
          have hrm9 : a3 = 0 ∨ (0 ≤ b12 ∧ b12 < rc9) := by first | (left; omega) | (right; rw [e_b12]; exact irem_b ⟨by omega, by omega⟩ ⟨by omega, by omega⟩)
          exact g_retI dX12_fieldOf_106 rfl (hQ b12 ⟨by omega, by omega⟩ (by have hzv := p_zv; unfold ZV at hzv; omega))
      · refine g_iload dX12_fieldOf_65 rfl ?_
        exact g_retI dX12_fieldOf_67 rfl (hQ (a1 - (P 9 ((24 * (P 0 13)) + a2))) ⟨by have q0 := bl_9 (k := ((24 * (P 0 13)) + a2)) hB; omega, by have q0 := bl_9 (k := ((24 * (P 0 13)) + a2)) hB; omega⟩ (by have hzv := p_zv; unfold ZV at hzv; omega))
    · refine g_iconst dX12_fieldOf_41 ?_
      exact g_retI dX12_fieldOf_42 rfl (hQ (-1) (by decide) (by have hzv := p_zv; unfold ZV at hzv; omega))
set_option maxRecDepth 100000 in
set_option maxHeartbeats 4000000 in
theorem m_X12_isFitting (G : GT) (P : PH) (a1 : Int) (a2 : Int) (a3 : Int) (h_a1 : 0 ≤ a1 ∧ a1 ≤ 11) (h_a2 : 0 ≤ a2 ∧ a2 ≤ 3) (h_a3 : (-2147483648) ≤ a3 ∧ a3 ≤ 2147483647) (hB : BdM P) (p_a : a1 < P 13 (P 0 13)) (p_c : a2 < P 11 (P 0 13)) (v_ZT : ZT P) (v_ZS : ZS P) (Q : Option PV → PH → Prop) (hQ : ∀ (r : Int) (_ : 0 ≤ r ∧ r ≤ 1) (P1 : PH) (_ : BdM P1) (_ : FrM ([], [29, 30]) P P1), Q (some (vI r)) P1) : Ct WSM G 3 iX12_isFitting [vR 0, vI a1, vI a2, vI a3] P Q := by
  refine Ct.of (by decide) (l0 := [(0, vR 0), (1, vI a1), (2, vI a2), (3, vI a3)]) rfl (Nat.le_of_ble_eq_true rfl) ?_
  refine g_iconst dX12_isFitting_0 ?_
  refine g_istore (l1 := [(4, vI 0), (0, vR 0), (1, vI a1), (2, vI a2), (3, vI a3)]) dX12_isFitting_1 (by decide) rfl ?_
  refine g_iconst dX12_isFitting_3 ?_
  refine g_istore (l1 := [(5, vI 0), (4, vI 0), (0, vR 0), (1, vI a1), (2, vI a2), (3, vI a3)]) dX12_isFitting_4 (by decide) rfl ?_
  refine g_aload_n dX12_isFitting_6 rfl ?_
  refine m_g46 rfl dX12_isFitting_7 ?_
  refine g_iconst dX12_isFitting_10 ?_
  refine g_iload_n dX12_isFitting_11 rfl ?_
  refine m_s29 dX12_isFitting_12 (by decide) ?_
  have hB1 := ba_29 (z := a3) (k := 0) hB ⟨by omega, by omega⟩
  refine g_iconst dX12_isFitting_13 ?_
  refine g_bipush dX12_isFitting_14 (by decide) ?_
  refine g_aload_n dX12_isFitting_16 rfl ?_
  refine m_g13 (z := (P 0 13)) rfl dX12_isFitting_17 ((up_o (by decide)).trans rfl) ?_
  refine g_imul dX12_isFitting_20 ?_
  refine g_iload_n dX12_isFitting_21 rfl ?_
  refine g_iadd dX12_isFitting_22 ?_
  refine g_imul dX12_isFitting_23 ?_
  refine g_iload_n dX12_isFitting_24 rfl ?_
  refine g_iadd dX12_isFitting_25 ?_
  refine g_istore (l1 := [(6, vI ((4 * ((12 * (P 0 13)) + a1)) + a2)), (5, vI 0), (4, vI 0), (0, vR 0), (1, vI a1), (2, vI a2), (3, vI a3)]) dX12_isFitting_26 (by decide) rfl ?_
  refine g_sipush dX12_isFitting_28 (by decide) ?_
  refine g_aload_n dX12_isFitting_31 rfl ?_
  refine m_g13 (z := (P 0 13)) rfl dX12_isFitting_32 ((up_o (by decide)).trans rfl) ?_
  refine g_imul dX12_isFitting_35 ?_
  refine g_aload_n dX12_isFitting_36 rfl ?_
  refine m_g29 rfl dX12_isFitting_37 ?_
  refine g_iload dX12_isFitting_40 rfl ?_
  refine m_l17 (z := (P 17 ((4 * ((12 * (P 0 13)) + a1)) + a2))) dX12_isFitting_42 ⟨by have q0 := b0_13 hB; omega, by have q0 := b0_13 hB; omega⟩ ((up_o (by decide)).trans rfl) ?_
  refine g_iadd dX12_isFitting_43 ?_
  obtain ⟨f9, hf9⟩ : ∃ f, f = ((2800 * (P 0 13)) + (P 17 ((4 * ((12 * (P 0 13)) + a1)) + a2))) := ⟨_, rfl⟩
  have hwf := (v_ZS (P 0 13) a1 a2 (by have q := b0_13 hB; omega) (by have q := b0_13 hB; omega) (by omega) p_a (by omega) p_c).1
  rw [← hf9] at hwf
  have q13b := b0_13 hB
  refine g_nm (fun v2 e_v2 => ?_)
  have f_v2_0 := b0_13 hB
  have f_v2_1 := bl_17 (k := ((4 * ((12 * (P 0 13)) + a1)) + a2)) hB
  refine g_istore (l1 := [(7, vI v2), (6, vI ((4 * ((12 * (P 0 13)) + a1)) + a2)), (5, vI 0), (4, vI 0), (0, vR 0), (1, vI a1), (2, vI a2), (3, vI a3)]) dX12_isFitting_44 (by decide) rfl ?_
  have L46_2 : ∀ (n46_2 : Nat) (x46_7_2 : Int) (h_x46_7_2 : 0 ≤ x46_7_2 ∧ x46_7_2 ≤ 5600) (x46_5_2 : Int) (h_x46_5_2 : 0 ≤ x46_5_2 ∧ x46_5_2 ≤ 11) (x46_4_2 : Int) (h_x46_4_2 : 0 ≤ x46_4_2 ∧ x46_4_2 ≤ 802) (H46_2 : PH) (hB46_2 : BdM H46_2) (hE46_2 : FrM ([], [29, 30]) (up P 29 0 a3) H46_2) (i46_0_2 : x46_4_2 = hN P f9 x46_7_2) (i46_1_2 : x46_5_2 = hD P f9 x46_7_2) (i46_2_2 : f9 ≤ x46_7_2) (hm46_2 : (5601 - x46_7_2 : Int).toNat < n46_2), Go WSM G 3 iX12_isFitting 46 [(0, vR 0), (4, vI x46_4_2), (5, vI x46_5_2), (6, vI ((4 * ((12 * (P 0 13)) + a1)) + a2)), (7, vI x46_7_2)] [] H46_2 Q := by
    intro n46_2
    induction n46_2 with
    | zero => intro x46_7_2 h_x46_7_2 x46_5_2 h_x46_5_2 x46_4_2 h_x46_4_2 H46_2 hB46_2 hE46_2 i46_0_2 i46_1_2 i46_2_2 hm46_2; exact absurd hm46_2 (Nat.not_lt_zero _)
    | succ n46_2 ih46_2 =>
    intro x46_7_2 h_x46_7_2 x46_5_2 h_x46_5_2 x46_4_2 h_x46_4_2 H46_2 hB46_2 hE46_2 i46_0_2 i46_1_2 i46_2_2 hm46_2
    refine g_iload dX12_isFitting_46 rfl ?_
    refine g_sipush dX12_isFitting_48 (by decide) ?_
    refine g_aload_n dX12_isFitting_51 rfl ?_
    refine m_g13 (z := (P 0 13)) rfl dX12_isFitting_52 ((hE46_2.1 13 rfl).trans ((up_o (by decide)).trans rfl)) ?_
    refine g_imul dX12_isFitting_55 ?_
    refine g_aload_n dX12_isFitting_56 rfl ?_
    refine m_g30 rfl dX12_isFitting_57 ?_
    refine g_iload dX12_isFitting_60 rfl ?_
    refine m_l18 (z := (P 18 ((4 * ((12 * (P 0 13)) + a1)) + a2))) dX12_isFitting_62 ⟨by have q0 := b0_13 hB; omega, by have q0 := b0_13 hB; omega⟩ ((congrFun (hE46_2.2 18 rfl rfl) _).trans ((up_o (by decide)).trans rfl)) ?_
    refine g_iadd dX12_isFitting_63 ?_
    have f145 := b0_13 hB
    have f146 := bl_18 (k := ((4 * ((12 * (P 0 13)) + a1)) + a2)) hB
    refine g_icmp_ge (tgt := 347) dX12_isFitting_64 (by decide) ⟨by omega, by omega⟩ ⟨by have q0 := b0_13 hB; have q1 := bl_18 (k := ((4 * ((12 * (P 0 13)) + a1)) + a2)) hB; omega, by have q0 := b0_13 hB; have q1 := bl_18 (k := ((4 * ((12 * (P 0 13)) + a1)) + a2)) hB; omega⟩ (fun k147 => ?_) (fun k147 => ?_)
    · refine g_aload_n dX12_isFitting_347 rfl ?_
      refine m_g47 rfl dX12_isFitting_348 ?_
      refine g_iconst dX12_isFitting_351 ?_
      refine m_l30 (z := (H46_2 30 0)) dX12_isFitting_352 (by decide) rfl ?_
      refine g_iconst dX12_isFitting_353 ?_
      have f148 := bl_30 (k := 0) hB46_2
      refine g_icmp_ne (tgt := 361) dX12_isFitting_354 (by decide) ⟨by have q0 := bl_30 (k := 0) hB46_2; omega, by have q0 := bl_30 (k := 0) hB46_2; omega⟩ (by decide) (fun k149 => ?_) (fun k149 => ?_)
      · refine g_iconst dX12_isFitting_361 ?_
        exact g_retZ dX12_isFitting_362 rfl (by decide) (hQ 0 (by decide) _ hB46_2 (FrM.c (FrM.a FrM.rf rfl rfl) hE46_2 rfl) )
      · refine g_iconst dX12_isFitting_357 ?_
        refine g_goto (tgt := 362) dX12_isFitting_358 (by decide) ?_
        exact g_retZ dX12_isFitting_362 rfl (by decide) (hQ 1 (by decide) _ hB46_2 (FrM.c (FrM.a FrM.rf rfl rfl) hE46_2 rfl) )
    · have hat := hwf.at (c := x46_7_2) (by omega) (by omega)
      have hst := hts_at (P := P) (f := f9) (c := x46_7_2) (by omega)
      have q19 := bl_19 (k := x46_7_2) hB
      have q21 := bl_21 (k := x46_7_2) hB
      refine g_aload_n dX12_isFitting_67 rfl ?_
      refine m_g32 rfl dX12_isFitting_68 ?_
      refine g_iload dX12_isFitting_71 rfl ?_
      refine m_l20 (z := (P 20 x46_7_2)) dX12_isFitting_73 ⟨by omega, by omega⟩ ((congrFun (hE46_2.2 20 rfl rfl) _).trans ((up_o (by decide)).trans rfl)) ?_
      refine g_istore (l1 := [(8, vI (P 20 x46_7_2)), (0, vR 0), (4, vI x46_4_2), (5, vI x46_5_2), (6, vI ((4 * ((12 * (P 0 13)) + a1)) + a2)), (7, vI x46_7_2)]) dX12_isFitting_74 (by decide) rfl ?_
      refine g_aload_n dX12_isFitting_76 rfl ?_
      refine m_g31 rfl dX12_isFitting_77 ?_
      refine g_iload dX12_isFitting_80 rfl ?_
      refine m_l19 (z := (P 19 x46_7_2)) dX12_isFitting_82 ⟨by omega, by omega⟩ ((congrFun (hE46_2.2 19 rfl rfl) _).trans ((up_o (by decide)).trans rfl)) ?_
      by_cases k150 : (P 19 x46_7_2) = 0
      · refine g_tswI (tgt := 120) 0 dX12_isFitting_83 ⟨by have q0 := bl_19 (k := x46_7_2) hB; omega, by have q0 := bl_19 (k := x46_7_2) hB; omega⟩ (by omega) (by omega) rfl (by decide) ?_
        refine g_aload_n dX12_isFitting_120 rfl ?_
        refine m_g47 rfl dX12_isFitting_121 ?_
        refine g_iload dX12_isFitting_124 rfl ?_
        refine g_iconst dX12_isFitting_126 ?_
        refine m_s30 dX12_isFitting_127 ⟨by omega, by omega⟩ ?_
        have hB151 := ba_30 (z := 1) (k := x46_4_2) hB46_2 (by decide)
        refine g_iinc (l1 := [(4, vI (x46_4_2 + 1)), (8, vI (P 20 x46_7_2)), (0, vR 0), (5, vI x46_5_2), (6, vI ((4 * ((12 * (P 0 13)) + a1)) + a2)), (7, vI x46_7_2)]) dX12_isFitting_128 rfl (by decide) rfl ?_
        refine g_goto (tgt := 341) dX12_isFitting_131 (by decide) ?_
        refine g_iinc (l1 := [(7, vI (x46_7_2 + 1)), (4, vI (x46_4_2 + 1)), (8, vI (P 20 x46_7_2)), (0, vR 0), (5, vI x46_5_2), (6, vI ((4 * ((12 * (P 0 13)) + a1)) + a2))]) dX12_isFitting_341 rfl (by decide) rfl ?_
        refine g_goto (tgt := 46) dX12_isFitting_344 (by decide) ?_
        refine g_forget (l1 := [(0, vR 0), (4, vI (x46_4_2 + 1)), (5, vI x46_5_2), (6, vI ((4 * ((12 * (P 0 13)) + a1)) + a2)), (7, vI (x46_7_2 + 1))]) (by intro q hq; simp only [List.mem_cons, List.not_mem_nil, or_false] at hq ⊢; rcases hq with rfl | rfl | rfl | rfl | rfl <;> simp) ?_
        exact ih46_2 (x46_7_2 + 1) ⟨by omega, by omega⟩ x46_5_2 ⟨by omega, by omega⟩ (x46_4_2 + 1) ⟨by omega, by omega⟩ _ hB151 (FrM.a (FrM.c FrM.rf hE46_2 rfl) rfl rfl) (by first | omega | (rw [show (x46_7_2 + 1) = f9 by omega]; exact hN_0)) (by first | omega | (rw [show (x46_7_2 + 1) = f9 by omega]; exact hD_0)) (by omega) (by omega)
      by_cases k152 : (P 19 x46_7_2) = 1
      · refine g_tswI (tgt := 134) 1 dX12_isFitting_83 ⟨by have q0 := bl_19 (k := x46_7_2) hB; omega, by have q0 := bl_19 (k := x46_7_2) hB; omega⟩ (by omega) (by omega) rfl (by decide) ?_
        refine g_aload_n dX12_isFitting_134 rfl ?_
        refine m_g47 rfl dX12_isFitting_135 ?_
        refine g_iload dX12_isFitting_138 rfl ?_
        refine g_aload_n dX12_isFitting_140 rfl ?_
        refine m_g46 rfl dX12_isFitting_141 ?_
        refine g_iload dX12_isFitting_144 rfl ?_
        refine m_l29 (z := (H46_2 29 x46_5_2)) dX12_isFitting_146 ⟨by omega, by omega⟩ rfl ?_
        refine g_iload dX12_isFitting_147 rfl ?_
        refine g_aload_n dX12_isFitting_149 rfl ?_
        refine m_g33 rfl dX12_isFitting_150 ?_
        refine g_iload dX12_isFitting_153 rfl ?_
        refine m_l21 (z := (P 21 x46_7_2)) dX12_isFitting_155 ⟨by omega, by omega⟩ ((congrFun (hE46_2.2 21 rfl rfl) _).trans ((up_o (by decide)).trans rfl)) ?_
        have f153 := bl_29 (k := x46_5_2) hB46_2
        have f154 := bl_20 (k := x46_7_2) hB
        have f155 := bl_21 (k := x46_7_2) hB
        refine g_sI (av := [vI (H46_2 29 x46_5_2), vI (P 20 x46_7_2), vI (P 21 x46_7_2)]) (st := [vI x46_4_2, vR 30]) (m_X12_is G H46_2 (H46_2 29 x46_5_2) (P 20 x46_7_2) (P 21 x46_7_2) ⟨by have q0 := bl_29 (k := x46_5_2) hB46_2; omega, by have q0 := bl_29 (k := x46_5_2) hB46_2; omega⟩ ⟨by have q0 := bl_20 (k := x46_7_2) hB; omega, by have q0 := bl_20 (k := x46_7_2) hB; omega⟩ ⟨by have q0 := bl_21 (k := x46_7_2) hB; omega, by have q0 := bl_21 (k := x46_7_2) hB; omega⟩ hB46_2  _ (fun rc156 hc156 gc156_is => ⟨rc156, rfl, ?_⟩)) cf_X12_is t_1800 rfl (Nat.le_of_ble_eq_true rfl) (by decide) rfl dX12_isFitting_156
        refine g_if_eq (tgt := 166) dX12_isFitting_159 (by decide) ⟨by omega, by omega⟩ (fun k157 => ?_) (fun k157 => ?_)
        · refine g_iconst dX12_isFitting_166 ?_
          refine m_s30 dX12_isFitting_167 ⟨by omega, by omega⟩ ?_
          have hB158 := ba_30 (z := 0) (k := x46_4_2) hB46_2 (by decide)
          refine g_iinc (l1 := [(4, vI (x46_4_2 + 1)), (8, vI (P 20 x46_7_2)), (0, vR 0), (5, vI x46_5_2), (6, vI ((4 * ((12 * (P 0 13)) + a1)) + a2)), (7, vI x46_7_2)]) dX12_isFitting_168 rfl (by decide) rfl ?_
          refine g_goto (tgt := 341) dX12_isFitting_171 (by decide) ?_
          refine g_iinc (l1 := [(7, vI (x46_7_2 + 1)), (4, vI (x46_4_2 + 1)), (8, vI (P 20 x46_7_2)), (0, vR 0), (5, vI x46_5_2), (6, vI ((4 * ((12 * (P 0 13)) + a1)) + a2))]) dX12_isFitting_341 rfl (by decide) rfl ?_
          refine g_goto (tgt := 46) dX12_isFitting_344 (by decide) ?_
          refine g_forget (l1 := [(0, vR 0), (4, vI (x46_4_2 + 1)), (5, vI x46_5_2), (6, vI ((4 * ((12 * (P 0 13)) + a1)) + a2)), (7, vI (x46_7_2 + 1))]) (by intro q hq; simp only [List.mem_cons, List.not_mem_nil, or_false] at hq ⊢; rcases hq with rfl | rfl | rfl | rfl | rfl <;> simp) ?_
          exact ih46_2 (x46_7_2 + 1) ⟨by omega, by omega⟩ x46_5_2 ⟨by omega, by omega⟩ (x46_4_2 + 1) ⟨by omega, by omega⟩ _ hB158 (FrM.a (FrM.c FrM.rf hE46_2 rfl) rfl rfl) (by first | omega | (rw [show (x46_7_2 + 1) = f9 by omega]; exact hN_0)) (by first | omega | (rw [show (x46_7_2 + 1) = f9 by omega]; exact hD_0)) (by omega) (by omega)
        · refine g_iconst dX12_isFitting_162 ?_
          refine g_goto (tgt := 167) dX12_isFitting_163 (by decide) ?_
          refine m_s30 dX12_isFitting_167 ⟨by omega, by omega⟩ ?_
          have hB159 := ba_30 (z := 1) (k := x46_4_2) hB46_2 (by decide)
          refine g_iinc (l1 := [(4, vI (x46_4_2 + 1)), (8, vI (P 20 x46_7_2)), (0, vR 0), (5, vI x46_5_2), (6, vI ((4 * ((12 * (P 0 13)) + a1)) + a2)), (7, vI x46_7_2)]) dX12_isFitting_168 rfl (by decide) rfl ?_
          refine g_goto (tgt := 341) dX12_isFitting_171 (by decide) ?_
          refine g_iinc (l1 := [(7, vI (x46_7_2 + 1)), (4, vI (x46_4_2 + 1)), (8, vI (P 20 x46_7_2)), (0, vR 0), (5, vI x46_5_2), (6, vI ((4 * ((12 * (P 0 13)) + a1)) + a2))]) dX12_isFitting_341 rfl (by decide) rfl ?_
          refine g_goto (tgt := 46) dX12_isFitting_344 (by decide) ?_
          refine g_forget (l1 := [(0, vR 0), (4, vI (x46_4_2 + 1)), (5, vI x46_5_2), (6, vI ((4 * ((12 * (P 0 13)) + a1)) + a2)), (7, vI (x46_7_2 + 1))]) (by intro q hq; simp only [List.mem_cons, List.not_mem_nil, or_false] at hq ⊢; rcases hq with rfl | rfl | rfl | rfl | rfl <;> simp) ?_
          exact ih46_2 (x46_7_2 + 1) ⟨by omega, by omega⟩ x46_5_2 ⟨by omega, by omega⟩ (x46_4_2 + 1) ⟨by omega, by omega⟩ _ hB159 (FrM.a (FrM.c FrM.rf hE46_2 rfl) rfl rfl) (by first | omega | (rw [show (x46_7_2 + 1) = f9 by omega]; exact hN_0)) (by first | omega | (rw [show (x46_7_2 + 1) = f9 by omega]; exact hD_0)) (by omega) (by omega)
      by_cases k160 : (P 19 x46_7_2) = 2
      · refine g_tswI (tgt := 174) 2 dX12_isFitting_83 ⟨by have q0 := bl_19 (k := x46_7_2) hB; omega, by have q0 := bl_19 (k := x46_7_2) hB; omega⟩ (by omega) (by omega) rfl (by decide) ?_
        refine g_aload_n dX12_isFitting_174 rfl ?_
        refine m_g47 rfl dX12_isFitting_175 ?_
        refine g_iload dX12_isFitting_178 rfl ?_
        refine g_aload_n dX12_isFitting_180 rfl ?_
        refine m_g46 rfl dX12_isFitting_181 ?_
        refine g_iload dX12_isFitting_184 rfl ?_
        refine m_l29 (z := (H46_2 29 x46_5_2)) dX12_isFitting_186 ⟨by omega, by omega⟩ rfl ?_
        refine g_aload_n dX12_isFitting_187 rfl ?_
        refine m_g21 rfl dX12_isFitting_188 ?_
        refine g_bipush dX12_isFitting_191 (by decide) ?_
        refine g_aload_n dX12_isFitting_193 rfl ?_
        refine m_g13 (z := (P 0 13)) rfl dX12_isFitting_194 ((hE46_2.1 13 rfl).trans ((up_o (by decide)).trans rfl)) ?_
        refine g_imul dX12_isFitting_197 ?_
        refine g_iload dX12_isFitting_198 rfl ?_
        refine g_iadd dX12_isFitting_200 ?_
        refine m_l9 (z := (P 9 ((24 * (P 0 13)) + (P 20 x46_7_2)))) dX12_isFitting_201 ⟨by have q0 := b0_13 hB; have q1 := bl_20 (k := x46_7_2) hB; omega, by have q0 := b0_13 hB; have q1 := bl_20 (k := x46_7_2) hB; omega⟩ ((congrFun (hE46_2.2 9 rfl rfl) _).trans ((up_o (by decide)).trans rfl)) ?_
        refine g_aload_n dX12_isFitting_202 rfl ?_
        refine m_g21 rfl dX12_isFitting_203 ?_
        refine g_bipush dX12_isFitting_206 (by decide) ?_
        refine g_aload_n dX12_isFitting_208 rfl ?_
        refine m_g13 (z := (P 0 13)) rfl dX12_isFitting_209 ((hE46_2.1 13 rfl).trans ((up_o (by decide)).trans rfl)) ?_
        refine g_imul dX12_isFitting_212 ?_
        refine g_iload dX12_isFitting_213 rfl ?_
        refine g_iadd dX12_isFitting_215 ?_
        refine m_l9 (z := (P 9 ((24 * (P 0 13)) + (P 20 x46_7_2)))) dX12_isFitting_216 ⟨by have q0 := b0_13 hB; have q1 := bl_20 (k := x46_7_2) hB; omega, by have q0 := b0_13 hB; have q1 := bl_20 (k := x46_7_2) hB; omega⟩ ((congrFun (hE46_2.2 9 rfl rfl) _).trans ((up_o (by decide)).trans rfl)) ?_
        refine g_aload_n dX12_isFitting_217 rfl ?_
        refine m_g22 rfl dX12_isFitting_218 ?_
        refine g_bipush dX12_isFitting_221 (by decide) ?_
        refine g_aload_n dX12_isFitting_223 rfl ?_
        refine m_g13 (z := (P 0 13)) rfl dX12_isFitting_224 ((hE46_2.1 13 rfl).trans ((up_o (by decide)).trans rfl)) ?_
        refine g_imul dX12_isFitting_227 ?_
        refine g_iload dX12_isFitting_228 rfl ?_
        refine g_iadd dX12_isFitting_230 ?_
        refine m_l10 (z := (P 10 ((24 * (P 0 13)) + (P 20 x46_7_2)))) dX12_isFitting_231 ⟨by have q0 := b0_13 hB; have q1 := bl_20 (k := x46_7_2) hB; omega, by have q0 := b0_13 hB; have q1 := bl_20 (k := x46_7_2) hB; omega⟩ ((congrFun (hE46_2.2 10 rfl rfl) _).trans ((up_o (by decide)).trans rfl)) ?_
        refine g_iadd dX12_isFitting_232 ?_
        refine g_iconst dX12_isFitting_233 ?_
        refine g_isub dX12_isFitting_234 ?_
        have f161 := bl_29 (k := x46_5_2) hB46_2
        have f162 := bl_9 (k := ((24 * (P 0 13)) + (P 20 x46_7_2))) hB
        have f163 := bl_10 (k := ((24 * (P 0 13)) + (P 20 x46_7_2))) hB
        refine g_sI (av := [vI (H46_2 29 x46_5_2), vI (P 9 ((24 * (P 0 13)) + (P 20 x46_7_2))), vI (((P 9 ((24 * (P 0 13)) + (P 20 x46_7_2))) + (P 10 ((24 * (P 0 13)) + (P 20 x46_7_2)))) - 1)]) (st := [vI x46_4_2, vR 30]) (m_X12_is G H46_2 (H46_2 29 x46_5_2) (P 9 ((24 * (P 0 13)) + (P 20 x46_7_2))) (((P 9 ((24 * (P 0 13)) + (P 20 x46_7_2))) + (P 10 ((24 * (P 0 13)) + (P 20 x46_7_2)))) - 1) ⟨by have q0 := bl_29 (k := x46_5_2) hB46_2; omega, by have q0 := bl_29 (k := x46_5_2) hB46_2; omega⟩ ⟨by have q0 := bl_9 (k := ((24 * (P 0 13)) + (P 20 x46_7_2))) hB; omega, by have q0 := bl_9 (k := ((24 * (P 0 13)) + (P 20 x46_7_2))) hB; omega⟩ ⟨by have q0 := bl_9 (k := ((24 * (P 0 13)) + (P 20 x46_7_2))) hB; have q1 := bl_10 (k := ((24 * (P 0 13)) + (P 20 x46_7_2))) hB; omega, by have q0 := bl_9 (k := ((24 * (P 0 13)) + (P 20 x46_7_2))) hB; have q1 := bl_10 (k := ((24 * (P 0 13)) + (P 20 x46_7_2))) hB; omega⟩ hB46_2  _ (fun rc164 hc164 gc164_is => ⟨rc164, rfl, ?_⟩)) cf_X12_is t_1800 rfl (Nat.le_of_ble_eq_true rfl) (by decide) rfl dX12_isFitting_235
        refine g_if_eq (tgt := 245) dX12_isFitting_238 (by decide) ⟨by omega, by omega⟩ (fun k165 => ?_) (fun k165 => ?_)
        · refine g_iconst dX12_isFitting_245 ?_
          refine m_s30 dX12_isFitting_246 ⟨by omega, by omega⟩ ?_
          have hB166 := ba_30 (z := 0) (k := x46_4_2) hB46_2 (by decide)
          refine g_iinc (l1 := [(4, vI (x46_4_2 + 1)), (8, vI (P 20 x46_7_2)), (0, vR 0), (5, vI x46_5_2), (6, vI ((4 * ((12 * (P 0 13)) + a1)) + a2)), (7, vI x46_7_2)]) dX12_isFitting_247 rfl (by decide) rfl ?_
          refine g_goto (tgt := 341) dX12_isFitting_250 (by decide) ?_
          refine g_iinc (l1 := [(7, vI (x46_7_2 + 1)), (4, vI (x46_4_2 + 1)), (8, vI (P 20 x46_7_2)), (0, vR 0), (5, vI x46_5_2), (6, vI ((4 * ((12 * (P 0 13)) + a1)) + a2))]) dX12_isFitting_341 rfl (by decide) rfl ?_
          refine g_goto (tgt := 46) dX12_isFitting_344 (by decide) ?_
          refine g_forget (l1 := [(0, vR 0), (4, vI (x46_4_2 + 1)), (5, vI x46_5_2), (6, vI ((4 * ((12 * (P 0 13)) + a1)) + a2)), (7, vI (x46_7_2 + 1))]) (by intro q hq; simp only [List.mem_cons, List.not_mem_nil, or_false] at hq ⊢; rcases hq with rfl | rfl | rfl | rfl | rfl <;> simp) ?_
          exact ih46_2 (x46_7_2 + 1) ⟨by omega, by omega⟩ x46_5_2 ⟨by omega, by omega⟩ (x46_4_2 + 1) ⟨by omega, by omega⟩ _ hB166 (FrM.a (FrM.c FrM.rf hE46_2 rfl) rfl rfl) (by first | omega | (rw [show (x46_7_2 + 1) = f9 by omega]; exact hN_0)) (by first | omega | (rw [show (x46_7_2 + 1) = f9 by omega]; exact hD_0)) (by omega) (by omega)
        · refine g_iconst dX12_isFitting_241 ?_
          refine g_goto (tgt := 246) dX12_isFitting_242 (by decide) ?_
          refine m_s30 dX12_isFitting_246 ⟨by omega, by omega⟩ ?_
          have hB167 := ba_30 (z := 1) (k := x46_4_2) hB46_2 (by decide)
          refine g_iinc (l1 := [(4, vI (x46_4_2 + 1)), (8, vI (P 20 x46_7_2)), (0, vR 0), (5, vI x46_5_2), (6, vI ((4 * ((12 * (P 0 13)) + a1)) + a2)), (7, vI x46_7_2)]) dX12_isFitting_247 rfl (by decide) rfl ?_
          refine g_goto (tgt := 341) dX12_isFitting_250 (by decide) ?_
          refine g_iinc (l1 := [(7, vI (x46_7_2 + 1)), (4, vI (x46_4_2 + 1)), (8, vI (P 20 x46_7_2)), (0, vR 0), (5, vI x46_5_2), (6, vI ((4 * ((12 * (P 0 13)) + a1)) + a2))]) dX12_isFitting_341 rfl (by decide) rfl ?_
          refine g_goto (tgt := 46) dX12_isFitting_344 (by decide) ?_
          refine g_forget (l1 := [(0, vR 0), (4, vI (x46_4_2 + 1)), (5, vI x46_5_2), (6, vI ((4 * ((12 * (P 0 13)) + a1)) + a2)), (7, vI (x46_7_2 + 1))]) (by intro q hq; simp only [List.mem_cons, List.not_mem_nil, or_false] at hq ⊢; rcases hq with rfl | rfl | rfl | rfl | rfl <;> simp) ?_
          exact ih46_2 (x46_7_2 + 1) ⟨by omega, by omega⟩ x46_5_2 ⟨by omega, by omega⟩ (x46_4_2 + 1) ⟨by omega, by omega⟩ _ hB167 (FrM.a (FrM.c FrM.rf hE46_2 rfl) rfl rfl) (by first | omega | (rw [show (x46_7_2 + 1) = f9 by omega]; exact hN_0)) (by first | omega | (rw [show (x46_7_2 + 1) = f9 by omega]; exact hD_0)) (by omega) (by omega)
      by_cases k168 : (P 19 x46_7_2) = 3
      · refine g_tswI (tgt := 253) 3 dX12_isFitting_83 ⟨by have q0 := bl_19 (k := x46_7_2) hB; omega, by have q0 := bl_19 (k := x46_7_2) hB; omega⟩ (by omega) (by omega) rfl (by decide) ?_
        refine g_aload_n dX12_isFitting_253 rfl ?_
        refine m_g46 rfl dX12_isFitting_254 ?_
        refine g_iload dX12_isFitting_257 rfl ?_
        refine g_iconst dX12_isFitting_259 ?_
        refine g_iadd dX12_isFitting_260 ?_
        refine g_aload_n dX12_isFitting_261 rfl ?_
        refine g_aload_n dX12_isFitting_262 rfl ?_
        refine m_g46 rfl dX12_isFitting_263 ?_
        refine g_iload dX12_isFitting_266 rfl ?_
        refine m_l29 (z := (H46_2 29 x46_5_2)) dX12_isFitting_268 ⟨by omega, by omega⟩ rfl ?_
        refine g_iload dX12_isFitting_269 rfl ?_
        refine g_aload_n dX12_isFitting_271 rfl ?_
        refine m_g33 rfl dX12_isFitting_272 ?_
        refine g_iload dX12_isFitting_275 rfl ?_
        refine m_l21 (z := (P 21 x46_7_2)) dX12_isFitting_277 ⟨by omega, by omega⟩ ((congrFun (hE46_2.2 21 rfl rfl) _).trans ((up_o (by decide)).trans rfl)) ?_
        have f169 := bl_29 (k := x46_5_2) hB46_2
        have f170 := bl_20 (k := x46_7_2) hB
        have f171 := bl_21 (k := x46_7_2) hB
        refine g_vI (av := [vI (H46_2 29 x46_5_2), vI (P 20 x46_7_2), vI (P 21 x46_7_2)]) (o := 0) (st := [vI (x46_5_2 + 1), vR 29]) (m_X12_fieldOf G H46_2 (H46_2 29 x46_5_2) (P 20 x46_7_2) (P 21 x46_7_2) ⟨by have q0 := bl_29 (k := x46_5_2) hB46_2; omega, by have q0 := bl_29 (k := x46_5_2) hB46_2; omega⟩ ⟨by have q0 := bl_20 (k := x46_7_2) hB; omega, by have q0 := bl_20 (k := x46_7_2) hB; omega⟩ ⟨by have q0 := bl_21 (k := x46_7_2) hB; omega, by have q0 := bl_21 (k := x46_7_2) hB; omega⟩ hB46_2 (by rw [show H46_2 0 13 = _ from ((hE46_2.1 13 rfl).trans ((up_o (by decide)).trans rfl))]; exact (((ZT.fr (F := ([], [29, 30])) v_ZT (FrM.c (FrM.a FrM.rf rfl rfl) hE46_2 rfl) rfl)) (P 0 13) (P 20 x46_7_2) (by omega) (by omega) (by omega) (by rw [show H46_2 5 (P 0 13) = _ from ((congrFun (hE46_2.2 5 rfl rfl) _).trans ((up_o (by decide)).trans rfl))]; omega)).2) (by rw [show H46_2 0 13 = _ from ((hE46_2.1 13 rfl).trans ((up_o (by decide)).trans rfl)), show H46_2 7 ((24 * (P 0 13)) + (P 20 x46_7_2)) = _ from ((congrFun (hE46_2.2 7 rfl rfl) _).trans ((up_o (by decide)).trans rfl))]; omega) _ (fun rc172 hc172 gc172_rg => ⟨rc172, rfl, ?_⟩)) cf_X12_fieldOf t_1839 rfl (by decide) rfl rfl rfl (Nat.le_of_ble_eq_true rfl) (by decide) rfl dX12_isFitting_278
        have z173 : H46_2 0 13 = (P 0 13) := ((hE46_2.1 13 rfl).trans ((up_o (by decide)).trans rfl))
        refine m_s29 dX12_isFitting_281 ⟨by omega, by omega⟩ ?_
        have hB174 := ba_29 (z := rc172) (k := (x46_5_2 + 1)) hB46_2 ⟨by omega, by omega⟩
        refine g_iinc (l1 := [(5, vI (x46_5_2 + 1)), (8, vI (P 20 x46_7_2)), (0, vR 0), (4, vI x46_4_2), (6, vI ((4 * ((12 * (P 0 13)) + a1)) + a2)), (7, vI x46_7_2)]) dX12_isFitting_282 rfl (by decide) rfl ?_
        refine g_goto (tgt := 341) dX12_isFitting_285 (by decide) ?_
        refine g_iinc (l1 := [(7, vI (x46_7_2 + 1)), (5, vI (x46_5_2 + 1)), (8, vI (P 20 x46_7_2)), (0, vR 0), (4, vI x46_4_2), (6, vI ((4 * ((12 * (P 0 13)) + a1)) + a2))]) dX12_isFitting_341 rfl (by decide) rfl ?_
        refine g_goto (tgt := 46) dX12_isFitting_344 (by decide) ?_
        refine g_forget (l1 := [(0, vR 0), (4, vI x46_4_2), (5, vI (x46_5_2 + 1)), (6, vI ((4 * ((12 * (P 0 13)) + a1)) + a2)), (7, vI (x46_7_2 + 1))]) (by intro q hq; simp only [List.mem_cons, List.not_mem_nil, or_false] at hq ⊢; rcases hq with rfl | rfl | rfl | rfl | rfl <;> simp) ?_
        exact ih46_2 (x46_7_2 + 1) ⟨by omega, by omega⟩ (x46_5_2 + 1) ⟨by omega, by omega⟩ x46_4_2 ⟨by omega, by omega⟩ _ hB174 (FrM.a (FrM.c FrM.rf hE46_2 rfl) rfl rfl) (by first | omega | (rw [show (x46_7_2 + 1) = f9 by omega]; exact hN_0)) (by first | omega | (rw [show (x46_7_2 + 1) = f9 by omega]; exact hD_0)) (by omega) (by omega)
      by_cases k175 : (P 19 x46_7_2) = 4
      · refine g_tswI (tgt := 288) 4 dX12_isFitting_83 ⟨by have q0 := bl_19 (k := x46_7_2) hB; omega, by have q0 := bl_19 (k := x46_7_2) hB; omega⟩ (by omega) (by omega) rfl (by decide) ?_
        refine g_iinc (l1 := [(5, vI (x46_5_2 + (-1))), (8, vI (P 20 x46_7_2)), (0, vR 0), (4, vI x46_4_2), (6, vI ((4 * ((12 * (P 0 13)) + a1)) + a2)), (7, vI x46_7_2)]) dX12_isFitting_288 rfl (by decide) rfl ?_
        refine g_goto (tgt := 341) dX12_isFitting_291 (by decide) ?_
        refine g_iinc (l1 := [(7, vI (x46_7_2 + 1)), (5, vI (x46_5_2 + (-1))), (8, vI (P 20 x46_7_2)), (0, vR 0), (4, vI x46_4_2), (6, vI ((4 * ((12 * (P 0 13)) + a1)) + a2))]) dX12_isFitting_341 rfl (by decide) rfl ?_
        refine g_goto (tgt := 46) dX12_isFitting_344 (by decide) ?_
        refine g_forget (l1 := [(0, vR 0), (4, vI x46_4_2), (5, vI (x46_5_2 + (-1))), (6, vI ((4 * ((12 * (P 0 13)) + a1)) + a2)), (7, vI (x46_7_2 + 1))]) (by intro q hq; simp only [List.mem_cons, List.not_mem_nil, or_false] at hq ⊢; rcases hq with rfl | rfl | rfl | rfl | rfl <;> simp) ?_
        exact ih46_2 (x46_7_2 + 1) ⟨by omega, by omega⟩ (x46_5_2 + (-1)) ⟨by omega, by omega⟩ x46_4_2 ⟨by omega, by omega⟩ _ hB46_2 (FrM.c FrM.rf hE46_2 rfl) (by first | omega | (rw [show (x46_7_2 + 1) = f9 by omega]; exact hN_0)) (by first | omega | (rw [show (x46_7_2 + 1) = f9 by omega]; exact hD_0)) (by omega) (by omega)
      by_cases k176 : (P 19 x46_7_2) = 5
      · refine g_tswI (tgt := 294) 5 dX12_isFitting_83 ⟨by have q0 := bl_19 (k := x46_7_2) hB; omega, by have q0 := bl_19 (k := x46_7_2) hB; omega⟩ (by omega) (by omega) rfl (by decide) ?_
        refine g_iinc (l1 := [(4, vI (x46_4_2 + (-1))), (8, vI (P 20 x46_7_2)), (0, vR 0), (5, vI x46_5_2), (6, vI ((4 * ((12 * (P 0 13)) + a1)) + a2)), (7, vI x46_7_2)]) dX12_isFitting_294 rfl (by decide) rfl ?_
        refine g_aload_n dX12_isFitting_297 rfl ?_
        refine m_g47 rfl dX12_isFitting_298 ?_
        refine g_iload dX12_isFitting_301 rfl ?_
        refine g_iconst dX12_isFitting_303 ?_
        refine g_isub dX12_isFitting_304 ?_
        refine g_dup2 dX12_isFitting_305 rfl rfl ?_
        refine m_l30 (z := (H46_2 30 ((x46_4_2 + (-1)) - 1))) dX12_isFitting_306 ⟨by omega, by omega⟩ rfl ?_
        refine g_aload_n dX12_isFitting_307 rfl ?_
        refine m_g47 rfl dX12_isFitting_308 ?_
        refine g_iload dX12_isFitting_311 rfl ?_
        refine m_l30 (z := (H46_2 30 (x46_4_2 + (-1)))) dX12_isFitting_313 ⟨by omega, by omega⟩ rfl ?_
        refine g_iand dX12_isFitting_314 ?_
        refine g_nm (fun b177 e_b177 => ?_)
        have h_b177 := iand_l (x := (H46_2 30 ((x46_4_2 + (-1)) - 1))) (y := (H46_2 30 (x46_4_2 + (-1)))) ⟨by have q0 := bl_30 (k := ((x46_4_2 + (-1)) - 1)) hB46_2; omega, by have q0 := bl_30 (k := ((x46_4_2 + (-1)) - 1)) hB46_2; omega⟩
        rw [← e_b177] at h_b177
        have f_b177_0 := bl_30 (k := ((x46_4_2 + (-1)) - 1)) hB46_2
        refine m_s30 dX12_isFitting_315 ⟨by omega, by omega⟩ ?_
        have hB178 := ba_30 (z := b177) (k := ((x46_4_2 + (-1)) - 1)) hB46_2 ⟨by omega, by omega⟩
        refine g_goto (tgt := 341) dX12_isFitting_316 (by decide) ?_
        refine g_iinc (l1 := [(7, vI (x46_7_2 + 1)), (4, vI (x46_4_2 + (-1))), (8, vI (P 20 x46_7_2)), (0, vR 0), (5, vI x46_5_2), (6, vI ((4 * ((12 * (P 0 13)) + a1)) + a2))]) dX12_isFitting_341 rfl (by decide) rfl ?_
        refine g_goto (tgt := 46) dX12_isFitting_344 (by decide) ?_
        refine g_forget (l1 := [(0, vR 0), (4, vI (x46_4_2 + (-1))), (5, vI x46_5_2), (6, vI ((4 * ((12 * (P 0 13)) + a1)) + a2)), (7, vI (x46_7_2 + 1))]) (by intro q hq; simp only [List.mem_cons, List.not_mem_nil, or_false] at hq ⊢; rcases hq with rfl | rfl | rfl | rfl | rfl <;> simp) ?_
        exact ih46_2 (x46_7_2 + 1) ⟨by omega, by omega⟩ x46_5_2 ⟨by omega, by omega⟩ (x46_4_2 + (-1)) ⟨by omega, by omega⟩ _ hB178 (FrM.a (FrM.c FrM.rf hE46_2 rfl) rfl rfl) (by first | omega | (rw [show (x46_7_2 + 1) = f9 by omega]; exact hN_0)) (by first | omega | (rw [show (x46_7_2 + 1) = f9 by omega]; exact hD_0)) (by omega) (by omega)
      refine g_tswO (tgt := 319) dX12_isFitting_83 ⟨by have q0 := bl_19 (k := x46_7_2) hB; omega, by have q0 := bl_19 (k := x46_7_2) hB; omega⟩ (by omega) (by decide) ?_
      refine g_iinc (l1 := [(4, vI (x46_4_2 + (-1))), (8, vI (P 20 x46_7_2)), (0, vR 0), (5, vI x46_5_2), (6, vI ((4 * ((12 * (P 0 13)) + a1)) + a2)), (7, vI x46_7_2)]) dX12_isFitting_319 rfl (by decide) rfl ?_
      refine g_aload_n dX12_isFitting_322 rfl ?_
      refine m_g47 rfl dX12_isFitting_323 ?_
      refine g_iload dX12_isFitting_326 rfl ?_
      refine g_iconst dX12_isFitting_328 ?_
      refine g_isub dX12_isFitting_329 ?_
      refine g_dup2 dX12_isFitting_330 rfl rfl ?_
      refine m_l30 (z := (H46_2 30 ((x46_4_2 + (-1)) - 1))) dX12_isFitting_331 ⟨by omega, by omega⟩ rfl ?_
      refine g_aload_n dX12_isFitting_332 rfl ?_
      refine m_g47 rfl dX12_isFitting_333 ?_
      refine g_iload dX12_isFitting_336 rfl ?_
      refine m_l30 (z := (H46_2 30 (x46_4_2 + (-1)))) dX12_isFitting_338 ⟨by omega, by omega⟩ rfl ?_
      refine g_ior dX12_isFitting_339 ?_
      refine g_nm (fun b179 e_b179 => ?_)
      have h_b179 : 0 ≤ (ior (H46_2 30 ((x46_4_2 + (-1)) - 1)) (H46_2 30 (x46_4_2 + (-1)))) ∧ (ior (H46_2 30 ((x46_4_2 + (-1)) - 1)) (H46_2 30 (x46_4_2 + (-1)))) < 2 := ior_b 1 (by decide) (x := (H46_2 30 ((x46_4_2 + (-1)) - 1))) (y := (H46_2 30 (x46_4_2 + (-1)))) (show 0 ≤ (H46_2 30 ((x46_4_2 + (-1)) - 1)) ∧ (H46_2 30 ((x46_4_2 + (-1)) - 1)) < 2 from ⟨by have q0 := bl_30 (k := ((x46_4_2 + (-1)) - 1)) hB46_2; omega, by have q0 := bl_30 (k := ((x46_4_2 + (-1)) - 1)) hB46_2; omega⟩) (show 0 ≤ (H46_2 30 (x46_4_2 + (-1))) ∧ (H46_2 30 (x46_4_2 + (-1))) < 2 from ⟨by have q0 := bl_30 (k := (x46_4_2 + (-1))) hB46_2; omega, by have q0 := bl_30 (k := (x46_4_2 + (-1))) hB46_2; omega⟩)
      rw [← e_b179] at h_b179
      refine m_s30 dX12_isFitting_340 ⟨by omega, by omega⟩ ?_
      have hB180 := ba_30 (z := b179) (k := ((x46_4_2 + (-1)) - 1)) hB46_2 ⟨by omega, by omega⟩
      refine g_iinc (l1 := [(7, vI (x46_7_2 + 1)), (4, vI (x46_4_2 + (-1))), (8, vI (P 20 x46_7_2)), (0, vR 0), (5, vI x46_5_2), (6, vI ((4 * ((12 * (P 0 13)) + a1)) + a2))]) dX12_isFitting_341 rfl (by decide) rfl ?_
      refine g_goto (tgt := 46) dX12_isFitting_344 (by decide) ?_
      refine g_forget (l1 := [(0, vR 0), (4, vI (x46_4_2 + (-1))), (5, vI x46_5_2), (6, vI ((4 * ((12 * (P 0 13)) + a1)) + a2)), (7, vI (x46_7_2 + 1))]) (by intro q hq; simp only [List.mem_cons, List.not_mem_nil, or_false] at hq ⊢; rcases hq with rfl | rfl | rfl | rfl | rfl <;> simp) ?_
      exact ih46_2 (x46_7_2 + 1) ⟨by omega, by omega⟩ x46_5_2 ⟨by omega, by omega⟩ (x46_4_2 + (-1)) ⟨by omega, by omega⟩ _ hB180 (FrM.a (FrM.c FrM.rf hE46_2 rfl) rfl rfl) (by first | omega | (rw [show (x46_7_2 + 1) = f9 by omega]; exact hN_0)) (by first | omega | (rw [show (x46_7_2 + 1) = f9 by omega]; exact hD_0)) (by omega) (by omega)
  refine g_forget (l1 := [(0, vR 0), (4, vI 0), (5, vI 0), (6, vI ((4 * ((12 * (P 0 13)) + a1)) + a2)), (7, vI v2)]) (by intro q hq; simp only [List.mem_cons, List.not_mem_nil, or_false] at hq ⊢; rcases hq with rfl | rfl | rfl | rfl | rfl <;> simp) ?_
  exact L46_2 _ v2 ⟨by omega, by omega⟩ 0 (by decide) 0 (by decide) _ hB1 FrM.rf (by first | omega | (rw [show v2 = f9 by omega]; exact hN_0)) (by first | omega | (rw [show v2 = f9 by omega]; exact hD_0)) (by omega) (Nat.lt_succ_self _)
set_option maxRecDepth 100000 in
set_option maxHeartbeats 4000000 in
theorem m_X12_lays (G : GT) (P : PH) (hB : BdM P) (p_pr : prdU P (P 0 13) (P 11 (P 0 13)).toNat ≤ 20000) (v_ZT : ZT P) (v_ZS : ZS P) (v_ZC : ZC P) (v_okC : okC P) (Q : Option PV → PH → Prop) (hQ : ∀ (P1 : PH) (_ : BdM P1) (_ : FrM ([52], [29, 30, 31, 32, 33, 34]) P P1) (_ : 1 ≤ P1 0 52), Q none P1) : Ct WSM G 4 iX12_lays [vR 0] P Q := by
  refine Ct.of (by decide) (l0 := [(0, vR 0)]) rfl (Nat.le_of_ble_eq_true rfl) ?_
  refine g_aload_n dX12_lays_0 rfl ?_
  refine g_iconst dX12_lays_1 ?_
  refine m_p52 rfl dX12_lays_2 ?_
  have hB1 := bs_52 (z := 1) hB (by decide)
  refine g_iconst dX12_lays_5 ?_
  refine g_istore_n (l1 := [(1, vI 0), (0, vR 0)]) dX12_lays_6 (by decide) rfl ?_
  have L7_1 : ∀ (n7_1 : Nat) (x7_1_1 : Int) (h_x7_1_1 : 0 ≤ x7_1_1 ∧ x7_1_1 ≤ 4) (H7_1 : PH) (hB7_1 : BdM H7_1) (hE7_1 : FrM ([52], [29, 30, 31, 32, 33, 34]) (up P 0 52 1) H7_1) (i7_0_1 : H7_1 0 52 = prdU P (P 0 13) (x7_1_1).toNat) (i7_1_1 : 1 ≤ H7_1 0 52) (hm7_1 : ((5 - x7_1_1) : Int).toNat < n7_1), Go WSM G 4 iX12_lays 7 [(0, vR 0), (1, vI x7_1_1)] [] H7_1 Q := by
    intro n7_1
    induction n7_1 with
    | zero => intro x7_1_1 h_x7_1_1 H7_1 hB7_1 hE7_1 i7_0_1 i7_1_1 hm7_1; exact absurd hm7_1 (Nat.not_lt_zero _)
    | succ n7_1 ih7_1 =>
    intro x7_1_1 h_x7_1_1 H7_1 hB7_1 hE7_1 i7_0_1 i7_1_1 hm7_1
    refine g_iload_n dX12_lays_7 rfl ?_
    refine g_aload_n dX12_lays_8 rfl ?_
    refine g_vI (av := []) (o := 0) (st := [vI x7_1_1]) (m_X12_columns G H7_1  hB7_1  _ (fun rc8419 hc8419 gc8419_c => ⟨rc8419, rfl, ?_⟩)) cf_X12_columns t_1827 rfl (by decide) rfl rfl rfl (Nat.le_of_ble_eq_true rfl) (by decide) rfl dX12_lays_9
    have z8420 : H7_1 0 13 = (P 0 13) := ((hE7_1.1 13 rfl).trans ((up_k (by decide)).trans rfl))
    have hcl : rc8419 = P 11 (P 0 13) := by have q := gc8419_c; rw [show H7_1 0 13 = _ from ((hE7_1.1 13 rfl).trans ((up_k (by decide)).trans rfl)), show H7_1 11 (P 0 13) = _ from ((congrFun (hE7_1.2 11 rfl rfl) _).trans ((up_o (by decide)).trans rfl))] at q; exact q
    refine g_icmp_ge (tgt := 196) dX12_lays_12 (by decide) ⟨by omega, by omega⟩ ⟨by omega, by omega⟩ (fun k8421 => ?_) (fun k8421 => ?_)
    · exact g_retV dX12_lays_196 rfl (hQ _ hB7_1 (FrM.c (FrM.s FrM.rf rfl) hE7_1 rfl) (by have q0 := b0_52 hB7_1; omega))
    · refine g_iconst dX12_lays_15 ?_
      refine g_istore_n (l1 := [(2, vI 0), (0, vR 0), (1, vI x7_1_1)]) dX12_lays_16 (by decide) rfl ?_
      have L17_8421 : ∀ (n17_8421 : Nat) (x17_2_8421 : Int) (h_x17_2_8421 : 0 ≤ x17_2_8421 ∧ x17_2_8421 ≤ 4096) (H17_8421 : PH) (hB17_8421 : BdM H17_8421) (hE17_8421 : FrM ([], [34]) H7_1 H17_8421) (hm17_8421 : ((4097 - x17_2_8421) : Int).toNat < n17_8421), Go WSM G 4 iX12_lays 17 [(0, vR 0), (1, vI x7_1_1), (2, vI x17_2_8421)] [] H17_8421 Q := by
        intro n17_8421
        induction n17_8421 with
        | zero => intro x17_2_8421 h_x17_2_8421 H17_8421 hB17_8421 hE17_8421 hm17_8421; exact absurd hm17_8421 (Nat.not_lt_zero _)
        | succ n17_8421 ih17_8421 =>
        intro x17_2_8421 h_x17_2_8421 H17_8421 hB17_8421 hE17_8421 hm17_8421
        refine g_iload_n dX12_lays_17 rfl ?_
        refine g_sipush dX12_lays_18 (by decide) ?_
        refine g_icmp_ge (tgt := 37) dX12_lays_21 (by decide) ⟨by omega, by omega⟩ (by decide) (fun k10008 => ?_) (fun k10008 => ?_)
        · refine g_aload_n dX12_lays_37 rfl ?_
          refine m_g50 rfl dX12_lays_38 ?_
          refine g_iload_n dX12_lays_41 rfl ?_
          refine g_iconst dX12_lays_42 ?_
          refine m_s33 dX12_lays_43 ⟨by omega, by omega⟩ ?_
          have hB10009 := ba_33 (z := 0) (k := x7_1_1) hB17_8421 (by decide)
          refine g_iconst dX12_lays_44 ?_
          refine g_istore_n (l1 := [(2, vI 0), (0, vR 0), (1, vI x7_1_1)]) dX12_lays_45 (by decide) rfl ?_
          have L46_10009 : ∀ (n46_10009 : Nat) (x46_2_10009 : Int) (h_x46_2_10009 : 0 ≤ x46_2_10009 ∧ x46_2_10009 ≤ 2006) (H46_10009 : PH) (hB46_10009 : BdM H46_10009) (hE46_10009 : FrM ([], [29, 30, 31, 32, 33, 34]) (up H17_8421 33 x7_1_1 0) H46_10009) (i46_0_10009 : H46_10009 33 x7_1_1 ≤ x46_2_10009) (hm46_10009 : ((2007 - x46_2_10009) : Int).toNat < n46_10009), Go WSM G 4 iX12_lays 46 [(0, vR 0), (1, vI x7_1_1), (2, vI x46_2_10009)] [] H46_10009 Q := by
            intro n46_10009
            induction n46_10009 with
            | zero => intro x46_2_10009 h_x46_2_10009 H46_10009 hB46_10009 hE46_10009 i46_0_10009 hm46_10009; exact absurd hm46_10009 (Nat.not_lt_zero _)
            | succ n46_10009 ih46_10009 =>
            intro x46_2_10009 h_x46_2_10009 H46_10009 hB46_10009 hE46_10009 i46_0_10009 hm46_10009
            refine g_iload_n dX12_lays_46 rfl ?_
            refine g_aload_n dX12_lays_47 rfl ?_
            refine g_iload_n dX12_lays_48 rfl ?_
            refine g_vI (av := [vI x7_1_1]) (o := 0) (st := [vI x46_2_10009]) (m_X12_columnValues G H46_10009 x7_1_1 ⟨by omega, by omega⟩ hB46_10009 (by have q0 := (((congrFun (hE46_10009.2 11 rfl rfl) _).trans ((up_o (by decide)).trans ((congrFun (hE17_8421.2 11 rfl rfl) _).trans ((congrFun (hE7_1.2 11 rfl rfl) _).trans ((up_o (by decide)).trans rfl))))) : H46_10009 11 (H46_10009 0 13) = (P 11 (H46_10009 0 13))); have q1 := bl_11 (k := (H46_10009 0 13)) hB; have q2 := ((congrArg (H46_10009 11) ((hE46_10009.1 13 rfl).trans ((up_o (by decide)).trans ((hE17_8421.1 13 rfl).trans ((hE7_1.1 13 rfl).trans ((up_k (by decide)).trans rfl)))))).trans ((congrFun (hE46_10009.2 11 rfl rfl) _).trans ((up_o (by decide)).trans ((congrFun (hE17_8421.2 11 rfl rfl) _).trans ((congrFun (hE7_1.2 11 rfl rfl) _).trans ((up_o (by decide)).trans rfl))))) : H46_10009 11 (H46_10009 0 13) = (P 11 (P 0 13))); have q3 := bl_11 (k := (P 0 13)) hB; omega) (okC.fr (F := ([52], [29, 30, 31, 32, 33, 34])) v_okC (FrM.c (FrM.a (FrM.c (FrM.c (FrM.s FrM.rf rfl) hE7_1 rfl) hE17_8421 rfl) rfl rfl) hE46_10009 rfl) rfl) _ (fun rc10419 hc10419 gc10419_v => ⟨rc10419, rfl, ?_⟩)) cf_X12_columnValues t_1831 rfl (by decide) rfl rfl rfl (Nat.le_of_ble_eq_true rfl) (by decide) rfl dX12_lays_49
            have z10420 : H46_10009 0 13 = (P 0 13) := ((hE46_10009.1 13 rfl).trans ((up_o (by decide)).trans ((hE17_8421.1 13 rfl).trans ((hE7_1.1 13 rfl).trans ((up_k (by decide)).trans rfl)))))
            refine g_icmp_ge (tgt := 176) dX12_lays_52 (by decide) ⟨by omega, by omega⟩ ⟨by omega, by omega⟩ (fun k10421 => ?_) (fun k10421 => ?_)
            · refine g_aload_n dX12_lays_176 rfl ?_
              refine g_dup dX12_lays_177 rfl ?_
              have hpl := prdU_lt v_ZC (b := P 0 13) (c := x7_1_1) (b0_13 hB) ⟨by omega, by omega⟩ p_pr
              refine m_g52 (z := (H7_1 0 52)) rfl dX12_lays_178 ((hE46_10009.1 52 rfl).trans ((up_o (by decide)).trans ((hE17_8421.1 52 rfl).trans rfl))) ?_
              refine g_aload_n dX12_lays_181 rfl ?_
              refine g_iload_n dX12_lays_182 rfl ?_
              refine g_vI (av := [vI x7_1_1]) (o := 0) (st := [vI (H7_1 0 52), vR 0]) (m_X12_columnValues G H46_10009 x7_1_1 ⟨by omega, by omega⟩ hB46_10009 (by have q0 := (((congrFun (hE46_10009.2 11 rfl rfl) _).trans ((up_o (by decide)).trans ((congrFun (hE17_8421.2 11 rfl rfl) _).trans ((congrFun (hE7_1.2 11 rfl rfl) _).trans ((up_o (by decide)).trans rfl))))) : H46_10009 11 (H46_10009 0 13) = (P 11 (H46_10009 0 13))); have q1 := bl_11 (k := (H46_10009 0 13)) hB; have q2 := ((congrArg (H46_10009 11) ((hE46_10009.1 13 rfl).trans ((up_o (by decide)).trans ((hE17_8421.1 13 rfl).trans ((hE7_1.1 13 rfl).trans ((up_k (by decide)).trans rfl)))))).trans ((congrFun (hE46_10009.2 11 rfl rfl) _).trans ((up_o (by decide)).trans ((congrFun (hE17_8421.2 11 rfl rfl) _).trans ((congrFun (hE7_1.2 11 rfl rfl) _).trans ((up_o (by decide)).trans rfl))))) : H46_10009 11 (H46_10009 0 13) = (P 11 (P 0 13))); have q3 := bl_11 (k := (P 0 13)) hB; omega) (okC.fr (F := ([52], [29, 30, 31, 32, 33, 34])) v_okC (FrM.c (FrM.a (FrM.c (FrM.c (FrM.s FrM.rf rfl) hE7_1 rfl) hE17_8421 rfl) rfl rfl) hE46_10009 rfl) rfl) _ (fun rc10422 hc10422 gc10422_v => ⟨rc10422, rfl, ?_⟩)) cf_X12_columnValues t_1831 rfl (by decide) rfl rfl rfl (Nat.le_of_ble_eq_true rfl) (by decide) rfl dX12_lays_183
              have z10423 : H46_10009 0 13 = (P 0 13) := ((hE46_10009.1 13 rfl).trans ((up_o (by decide)).trans ((hE17_8421.1 13 rfl).trans ((hE7_1.1 13 rfl).trans ((up_k (by decide)).trans rfl)))))
              have hcv : rc10422 = vals P (P 0 13) (P 12 (4 * P 0 13 + x7_1_1)) := by have q := gc10422_v; rw [show H46_10009 0 13 = _ from ((hE46_10009.1 13 rfl).trans ((up_o (by decide)).trans ((hE17_8421.1 13 rfl).trans ((hE7_1.1 13 rfl).trans ((up_k (by decide)).trans rfl))))), show H46_10009 12 (4 * P 0 13 + x7_1_1) = _ from ((congrFun (hE46_10009.2 12 rfl rfl) _).trans ((up_o (by decide)).trans ((congrFun (hE17_8421.2 12 rfl rfl) _).trans ((congrFun (hE7_1.2 12 rfl rfl) _).trans ((up_o (by decide)).trans rfl))))), vals_eq (P := P) (fun _ => ((congrFun (hE46_10009.2 3 rfl rfl) _).trans ((up_o (by decide)).trans ((congrFun (hE17_8421.2 3 rfl rfl) _).trans ((congrFun (hE7_1.2 3 rfl rfl) _).trans ((up_o (by decide)).trans rfl))))))] at q; exact q
              refine g_imul dX12_lays_186 ?_
              refine g_nm (fun w10424 e_w10424 => ?_)
              have hrm8 : w10424 = prdU P (P 0 13) (x7_1_1 + 1).toNat := by rw [e_w10424, hpl.1, ← hcv]; congr 1
              have hrm7 : 1 ≤ w10424 ∧ w10424 ≤ 20000 := by rw [hrm8]; exact hpl.2
              refine m_p52 rfl dX12_lays_187 ?_
              have hB10425 := bs_52 (z := w10424) hB46_10009 ⟨by omega, by omega⟩
              refine g_iinc (l1 := [(1, vI (x7_1_1 + 1)), (0, vR 0), (2, vI x46_2_10009)]) dX12_lays_190 rfl (by decide) rfl ?_
              refine g_goto (tgt := 7) dX12_lays_193 (by decide) ?_
              refine g_forget (l1 := [(0, vR 0), (1, vI (x7_1_1 + 1))]) (by intro q hq; simp only [List.mem_cons, List.not_mem_nil, or_false] at hq ⊢; rcases hq with rfl | rfl <;> simp) ?_
              exact ih7_1 (x7_1_1 + 1) ⟨by omega, by omega⟩ _ hB10425 (FrM.s (FrM.c (FrM.a (FrM.c (FrM.c FrM.rf hE7_1 rfl) hE17_8421 rfl) rfl rfl) hE46_10009 rfl) rfl) (by first | exact (up_same).trans hrm8 | exact up_same) (by have q0 := (up_same : (up H46_10009 0 52 w10424) 0 52 = w10424); omega) (by omega)
            · refine g_iconst dX12_lays_55 ?_
              refine g_istore_n (l1 := [(3, vI 0), (0, vR 0), (1, vI x7_1_1), (2, vI x46_2_10009)]) dX12_lays_56 (by decide) rfl ?_
              refine g_iconst dX12_lays_57 ?_
              refine g_istore (l1 := [(4, vI 0), (3, vI 0), (0, vR 0), (1, vI x7_1_1), (2, vI x46_2_10009)]) dX12_lays_58 (by decide) rfl ?_
              have L60_10425 : ∀ (n60_10425 : Nat) (x60_4_10425 : Int) (h_x60_4_10425 : 0 ≤ x60_4_10425 ∧ x60_4_10425 ≤ 12) (x60_3_10425 : Int) (h_x60_3_10425 : 0 ≤ x60_3_10425 ∧ x60_3_10425 ≤ 4095) (H60_10425 : PH) (hB60_10425 : BdM H60_10425) (hE60_10425 : FrM ([], [29, 30]) H46_10009 H60_10425) (hm60_10425 : ((13 - x60_4_10425) : Int).toNat < n60_10425), Go WSM G 4 iX12_lays 60 [(0, vR 0), (1, vI x7_1_1), (2, vI x46_2_10009), (3, vI x60_3_10425), (4, vI x60_4_10425)] [] H60_10425 Q := by
                intro n60_10425
                induction n60_10425 with
                | zero => intro x60_4_10425 h_x60_4_10425 x60_3_10425 h_x60_3_10425 H60_10425 hB60_10425 hE60_10425 hm60_10425; exact absurd hm60_10425 (Nat.not_lt_zero _)
                | succ n60_10425 ih60_10425 =>
                intro x60_4_10425 h_x60_4_10425 x60_3_10425 h_x60_3_10425 H60_10425 hB60_10425 hE60_10425 hm60_10425
                refine g_iload dX12_lays_60 rfl ?_
                refine g_aload_n dX12_lays_62 rfl ?_
                refine m_g25 rfl dX12_lays_63 ?_
                refine g_aload_n dX12_lays_66 rfl ?_
                refine m_g13 (z := (P 0 13)) rfl dX12_lays_67 ((hE60_10425.1 13 rfl).trans ((hE46_10009.1 13 rfl).trans ((up_o (by decide)).trans ((hE17_8421.1 13 rfl).trans ((hE7_1.1 13 rfl).trans ((up_k (by decide)).trans rfl)))))) ?_
                refine m_l13 (z := (P 13 (P 0 13))) dX12_lays_70 ⟨by have q0 := b0_13 hB; omega, by have q0 := b0_13 hB; omega⟩ ((congrFun (hE60_10425.2 13 rfl rfl) _).trans ((congrFun (hE46_10009.2 13 rfl rfl) _).trans ((up_o (by decide)).trans ((congrFun (hE17_8421.2 13 rfl rfl) _).trans ((congrFun (hE7_1.2 13 rfl rfl) _).trans ((up_o (by decide)).trans rfl)))))) ?_
                have f10503 := bl_13 (k := (P 0 13)) hB
                refine g_icmp_ge (tgt := 102) dX12_lays_71 (by decide) ⟨by omega, by omega⟩ ⟨by have q0 := bl_13 (k := (P 0 13)) hB; omega, by have q0 := bl_13 (k := (P 0 13)) hB; omega⟩ (fun k10504 => ?_) (fun k10504 => ?_)
                · refine g_aload_n dX12_lays_102 rfl ?_
                  refine m_g51 rfl dX12_lays_103 ?_
                  refine g_iload_n dX12_lays_106 rfl ?_
                  refine m_l34 (z := (H46_10009 34 x60_3_10425)) dX12_lays_107 ⟨by omega, by omega⟩ ((congrFun (hE60_10425.2 34 rfl rfl) _).trans rfl) ?_
                  refine g_iconst dX12_lays_108 ?_
                  have f10505 := bl_34 (k := x60_3_10425) hB46_10009
                  have J152_10510 : ∀ (H152_10510 : PH) (hB152_10510 : BdM H152_10510) (hE152_10510 : FrM ([], [32, 33, 34]) H60_10425 H152_10510) (i152_0_10510 : 0 ≤ H152_10510 34 x60_3_10425) (i152_1_10510 : H152_10510 33 x7_1_1 ≤ x46_2_10009 + 1), Go WSM G 4 iX12_lays 152 [(0, vR 0), (1, vI x7_1_1), (2, vI x46_2_10009), (3, vI x60_3_10425)] [] H152_10510 Q := by
                    intro H152_10510 hB152_10510 hE152_10510 i152_0_10510 i152_1_10510
                    refine g_aload_n dX12_lays_152 rfl ?_
                    refine m_g48 rfl dX12_lays_153 ?_
                    refine g_sipush dX12_lays_156 (by decide) ?_
                    refine g_iload_n dX12_lays_159 rfl ?_
                    refine g_imul dX12_lays_160 ?_
                    refine g_iload_n dX12_lays_161 rfl ?_
                    refine g_iadd dX12_lays_162 ?_
                    refine g_aload_n dX12_lays_163 rfl ?_
                    refine m_g51 rfl dX12_lays_164 ?_
                    refine g_iload_n dX12_lays_167 rfl ?_
                    refine m_l34 (z := (H152_10510 34 x60_3_10425)) dX12_lays_168 ⟨by omega, by omega⟩ rfl ?_
                    refine m_s31 dX12_lays_169 ⟨by omega, by omega⟩ ?_
                    have hB10512 := ba_31 (z := (H152_10510 34 x60_3_10425)) (k := ((2010 * x7_1_1) + x46_2_10009)) hB152_10510 ⟨by have q0 := bl_34 (k := x60_3_10425) hB152_10510; omega, by have q0 := bl_34 (k := x60_3_10425) hB152_10510; omega⟩
                    refine g_iinc (l1 := [(2, vI (x46_2_10009 + 1)), (0, vR 0), (1, vI x7_1_1), (3, vI x60_3_10425)]) dX12_lays_170 rfl (by decide) rfl ?_
                    refine g_goto (tgt := 46) dX12_lays_173 (by decide) ?_
                    refine g_forget (l1 := [(0, vR 0), (1, vI x7_1_1), (2, vI (x46_2_10009 + 1))]) (by intro q hq; simp only [List.mem_cons, List.not_mem_nil, or_false] at hq ⊢; rcases hq with rfl | rfl | rfl <;> simp) ?_
                    exact ih46_10009 (x46_2_10009 + 1) ⟨by omega, by omega⟩ _ hB10512 (FrM.a (FrM.c (FrM.c (FrM.c FrM.rf hE46_10009 rfl) hE60_10425 rfl) hE152_10510 rfl) rfl rfl) (by have q0 := (((up_o (by decide)).trans rfl) : (up H152_10510 31 ((2010 * x7_1_1) + x46_2_10009) (H152_10510 34 x60_3_10425)) 33 x7_1_1 = (H152_10510 33 x7_1_1)); have q1 := bl_33 (k := x7_1_1) hB152_10510; omega) (by omega)
                  refine g_icmp_ne (tgt := 152) dX12_lays_109 (by decide) ⟨by have q0 := bl_34 (k := x60_3_10425) hB46_10009; omega, by have q0 := bl_34 (k := x60_3_10425) hB46_10009; omega⟩ (by decide) (fun k10513 => ?_) (fun k10513 => ?_)
                  · refine g_forget (l1 := [(0, vR 0), (1, vI x7_1_1), (2, vI x46_2_10009), (3, vI x60_3_10425)]) (by intro q hq; simp only [List.mem_cons, List.not_mem_nil, or_false] at hq ⊢; rcases hq with rfl | rfl | rfl | rfl <;> simp) ?_
                    exact J152_10510 _ hB60_10425 FrM.rf (by have q0 := (((congrFun (hE60_10425.2 34 rfl rfl) _).trans rfl) : H60_10425 34 x60_3_10425 = (H46_10009 34 x60_3_10425)); have q1 := bl_34 (k := x60_3_10425) hB46_10009; omega) (by have q0 := (((congrFun (hE60_10425.2 33 rfl rfl) _).trans rfl) : H60_10425 33 x7_1_1 = (H46_10009 33 x7_1_1)); have q1 := bl_33 (k := x7_1_1) hB46_10009; omega)
                  · refine g_aload_n dX12_lays_112 rfl ?_
                    refine m_g51 rfl dX12_lays_113 ?_
                    refine g_iload_n dX12_lays_116 rfl ?_
                    refine g_aload_n dX12_lays_117 rfl ?_
                    refine m_g50 rfl dX12_lays_118 ?_
                    refine g_iload_n dX12_lays_121 rfl ?_
                    refine m_l33 (z := (H46_10009 33 x7_1_1)) dX12_lays_122 ⟨by omega, by omega⟩ ((congrFun (hE60_10425.2 33 rfl rfl) _).trans rfl) ?_
                    refine m_s34 dX12_lays_123 ⟨by omega, by omega⟩ ?_
                    have hB10514 := ba_34 (z := (H46_10009 33 x7_1_1)) (k := x60_3_10425) hB60_10425 ⟨by have q0 := bl_33 (k := x7_1_1) hB46_10009; omega, by have q0 := bl_33 (k := x7_1_1) hB46_10009; omega⟩
                    refine g_aload_n dX12_lays_124 rfl ?_
                    refine m_g49 rfl dX12_lays_125 ?_
                    refine g_sipush dX12_lays_128 (by decide) ?_
                    refine g_iload_n dX12_lays_131 rfl ?_
                    refine g_imul dX12_lays_132 ?_
                    refine g_aload_n dX12_lays_133 rfl ?_
                    refine m_g50 rfl dX12_lays_134 ?_
                    refine g_iload_n dX12_lays_137 rfl ?_
                    refine m_l33 (z := (H46_10009 33 x7_1_1)) dX12_lays_138 ⟨by omega, by omega⟩ ((up_o (by decide)).trans ((congrFun (hE60_10425.2 33 rfl rfl) _).trans rfl)) ?_
                    refine g_iadd dX12_lays_139 ?_
                    refine g_iload_n dX12_lays_140 rfl ?_
                    refine m_s32 dX12_lays_141 ⟨by have q0 := bl_33 (k := x7_1_1) hB46_10009; omega, by have q0 := bl_33 (k := x7_1_1) hB46_10009; omega⟩ ?_
                    have hB10515 := ba_32 (z := x60_3_10425) (k := ((2010 * x7_1_1) + (H46_10009 33 x7_1_1))) hB10514 ⟨by omega, by omega⟩
                    refine g_aload_n dX12_lays_142 rfl ?_
                    refine m_g50 rfl dX12_lays_143 ?_
                    refine g_iload_n dX12_lays_146 rfl ?_
                    refine g_dup2 dX12_lays_147 rfl rfl ?_
                    refine m_l33 (z := (H46_10009 33 x7_1_1)) dX12_lays_148 ⟨by omega, by omega⟩ ((up_o (by decide)).trans ((up_o (by decide)).trans ((congrFun (hE60_10425.2 33 rfl rfl) _).trans rfl))) ?_
                    refine g_iconst dX12_lays_149 ?_
                    refine g_iadd dX12_lays_150 ?_
                    refine m_s33 dX12_lays_151 ⟨by omega, by omega⟩ ?_
                    have hB10516 := ba_33 (z := ((H46_10009 33 x7_1_1) + 1)) (k := x7_1_1) hB10515 ⟨by have q0 := bl_33 (k := x7_1_1) hB46_10009; omega, by have q0 := bl_33 (k := x7_1_1) hB46_10009; omega⟩
                    refine g_forget (l1 := [(0, vR 0), (1, vI x7_1_1), (2, vI x46_2_10009), (3, vI x60_3_10425)]) (by intro q hq; simp only [List.mem_cons, List.not_mem_nil, or_false] at hq ⊢; rcases hq with rfl | rfl | rfl | rfl <;> simp) ?_
                    exact J152_10510 _ hB10516 (FrM.a (FrM.a (FrM.a FrM.rf rfl rfl) rfl rfl) rfl rfl) (by have q0 := (((up_o (by decide)).trans ((up_o (by decide)).trans up_same)) : (up (up (up H60_10425 34 x60_3_10425 (H46_10009 33 x7_1_1)) 32 ((2010 * x7_1_1) + (H46_10009 33 x7_1_1)) x60_3_10425) 33 x7_1_1 ((H46_10009 33 x7_1_1) + 1)) 34 x60_3_10425 = (H46_10009 33 x7_1_1)); have q1 := bl_33 (k := x7_1_1) hB46_10009; omega) (by have q0 := (up_same : (up (up (up H60_10425 34 x60_3_10425 (H46_10009 33 x7_1_1)) 32 ((2010 * x7_1_1) + (H46_10009 33 x7_1_1)) x60_3_10425) 33 x7_1_1 ((H46_10009 33 x7_1_1) + 1)) 33 x7_1_1 = ((H46_10009 33 x7_1_1) + 1)); have q1 := bl_33 (k := x7_1_1) hB46_10009; omega)
                · refine g_iload_n dX12_lays_74 rfl ?_
                  refine g_aload_n dX12_lays_75 rfl ?_
                  refine g_iload dX12_lays_76 rfl ?_
                  refine g_iload_n dX12_lays_78 rfl ?_
                  refine g_iload_n dX12_lays_79 rfl ?_
                  refine g_vI (av := [vI x60_4_10425, vI x7_1_1, vI x46_2_10009]) (o := 0) (st := [vI x60_3_10425]) (m_X12_isFitting G H60_10425 x60_4_10425 x7_1_1 x46_2_10009 ⟨by omega, by omega⟩ ⟨by omega, by omega⟩ ⟨by omega, by omega⟩ hB60_10425 (by have q0 := (((congrFun (hE60_10425.2 13 rfl rfl) _).trans ((congrFun (hE46_10009.2 13 rfl rfl) _).trans ((up_o (by decide)).trans ((congrFun (hE17_8421.2 13 rfl rfl) _).trans ((congrFun (hE7_1.2 13 rfl rfl) _).trans ((up_o (by decide)).trans rfl)))))) : H60_10425 13 (H60_10425 0 13) = (P 13 (H60_10425 0 13))); have q1 := bl_13 (k := (H60_10425 0 13)) hB; have q2 := ((congrArg (H60_10425 13) ((hE60_10425.1 13 rfl).trans ((hE46_10009.1 13 rfl).trans ((up_o (by decide)).trans ((hE17_8421.1 13 rfl).trans ((hE7_1.1 13 rfl).trans ((up_k (by decide)).trans rfl))))))).trans ((congrFun (hE60_10425.2 13 rfl rfl) _).trans ((congrFun (hE46_10009.2 13 rfl rfl) _).trans ((up_o (by decide)).trans ((congrFun (hE17_8421.2 13 rfl rfl) _).trans ((congrFun (hE7_1.2 13 rfl rfl) _).trans ((up_o (by decide)).trans rfl)))))) : H60_10425 13 (H60_10425 0 13) = (P 13 (P 0 13))); have q3 := bl_13 (k := (P 0 13)) hB; omega) (by have q0 := (((congrFun (hE60_10425.2 11 rfl rfl) _).trans ((congrFun (hE46_10009.2 11 rfl rfl) _).trans ((up_o (by decide)).trans ((congrFun (hE17_8421.2 11 rfl rfl) _).trans ((congrFun (hE7_1.2 11 rfl rfl) _).trans ((up_o (by decide)).trans rfl)))))) : H60_10425 11 (H60_10425 0 13) = (P 11 (H60_10425 0 13))); have q1 := bl_11 (k := (H60_10425 0 13)) hB; have q2 := ((congrArg (H60_10425 11) ((hE60_10425.1 13 rfl).trans ((hE46_10009.1 13 rfl).trans ((up_o (by decide)).trans ((hE17_8421.1 13 rfl).trans ((hE7_1.1 13 rfl).trans ((up_k (by decide)).trans rfl))))))).trans ((congrFun (hE60_10425.2 11 rfl rfl) _).trans ((congrFun (hE46_10009.2 11 rfl rfl) _).trans ((up_o (by decide)).trans ((congrFun (hE17_8421.2 11 rfl rfl) _).trans ((congrFun (hE7_1.2 11 rfl rfl) _).trans ((up_o (by decide)).trans rfl)))))) : H60_10425 11 (H60_10425 0 13) = (P 11 (P 0 13))); have q3 := bl_11 (k := (P 0 13)) hB; omega) (ZT.fr (F := ([52], [29, 30, 31, 32, 33, 34])) v_ZT (FrM.c (FrM.c (FrM.a (FrM.c (FrM.c (FrM.s FrM.rf rfl) hE7_1 rfl) hE17_8421 rfl) rfl rfl) hE46_10009 rfl) hE60_10425 rfl) rfl) (ZS.fr (F := ([52], [29, 30, 31, 32, 33, 34])) v_ZS (FrM.c (FrM.c (FrM.a (FrM.c (FrM.c (FrM.s FrM.rf rfl) hE7_1 rfl) hE17_8421 rfl) rfl rfl) hE46_10009 rfl) hE60_10425 rfl) rfl) _ (fun rc10517 hc10517 Pc10517 hBc10517 hFc10517 => ⟨rc10517, rfl, ?_⟩)) cf_X12_isFitting t_1835 rfl (by decide) rfl rfl rfl (Nat.le_of_ble_eq_true rfl) (by decide) rfl dX12_lays_80
                  refine g_if_eq (tgt := 93) dX12_lays_83 (by decide) ⟨by omega, by omega⟩ (fun k10518 => ?_) (fun k10518 => ?_)
                  · refine g_iconst dX12_lays_93 ?_
                    refine g_ior dX12_lays_94 ?_
                    refine g_nm (fun b10519 e_b10519 => ?_)
                    have h_b10519 : 0 ≤ (ior x60_3_10425 0) ∧ (ior x60_3_10425 0) < 4096 := ior_b 12 (by decide) (x := x60_3_10425) (y := 0) (show 0 ≤ x60_3_10425 ∧ x60_3_10425 < 4096 from ⟨by omega, by omega⟩) (show 0 ≤ 0 ∧ 0 < 4096 from ⟨by omega, by omega⟩)
                    rw [← e_b10519] at h_b10519
                    refine g_istore_n (l1 := [(3, vI b10519), (0, vR 0), (1, vI x7_1_1), (2, vI x46_2_10009), (4, vI x60_4_10425)]) dX12_lays_95 (by decide) rfl ?_
                    refine g_iinc (l1 := [(4, vI (x60_4_10425 + 1)), (3, vI b10519), (0, vR 0), (1, vI x7_1_1), (2, vI x46_2_10009)]) dX12_lays_96 rfl (by decide) rfl ?_
                    refine g_goto (tgt := 60) dX12_lays_99 (by decide) ?_
                    refine g_forget (l1 := [(0, vR 0), (1, vI x7_1_1), (2, vI x46_2_10009), (3, vI b10519), (4, vI (x60_4_10425 + 1))]) (by intro q hq; simp only [List.mem_cons, List.not_mem_nil, or_false] at hq ⊢; rcases hq with rfl | rfl | rfl | rfl | rfl <;> simp) ?_
                    exact ih60_10425 (x60_4_10425 + 1) ⟨by omega, by omega⟩ b10519 ⟨by omega, by omega⟩ _ hBc10517 (FrM.c (FrM.c FrM.rf hE60_10425 rfl) hFc10517 rfl) (by omega)
                  · refine g_iconst dX12_lays_86 ?_
                    refine g_iload dX12_lays_87 rfl ?_
                    refine g_ishl dX12_lays_89 ?_
                    refine g_nm (fun b10520 e_b10520 => ?_)
                    have h_b10520 : 1 ≤ (ishl 1 x60_4_10425) ∧ (ishl 1 x60_4_10425) ≤ 2048 := (ishl1 11 (by decide) (y := x60_4_10425) ⟨by omega, by omega⟩).2
                    rw [← e_b10520] at h_b10520
                    refine g_goto (tgt := 94) dX12_lays_90 (by decide) ?_
                    refine g_ior dX12_lays_94 ?_
                    refine g_nm (fun b10521 e_b10521 => ?_)
                    have h_b10521 : 0 ≤ (ior x60_3_10425 b10520) ∧ (ior x60_3_10425 b10520) < 4096 := ior_b 12 (by decide) (x := x60_3_10425) (y := b10520) (show 0 ≤ x60_3_10425 ∧ x60_3_10425 < 4096 from ⟨by omega, by omega⟩) (show 0 ≤ b10520 ∧ b10520 < 4096 from ⟨by omega, by omega⟩)
                    rw [← e_b10521] at h_b10521
                    refine g_istore_n (l1 := [(3, vI b10521), (0, vR 0), (1, vI x7_1_1), (2, vI x46_2_10009), (4, vI x60_4_10425)]) dX12_lays_95 (by decide) rfl ?_
                    refine g_iinc (l1 := [(4, vI (x60_4_10425 + 1)), (3, vI b10521), (0, vR 0), (1, vI x7_1_1), (2, vI x46_2_10009)]) dX12_lays_96 rfl (by decide) rfl ?_
                    refine g_goto (tgt := 60) dX12_lays_99 (by decide) ?_
                    refine g_forget (l1 := [(0, vR 0), (1, vI x7_1_1), (2, vI x46_2_10009), (3, vI b10521), (4, vI (x60_4_10425 + 1))]) (by intro q hq; simp only [List.mem_cons, List.not_mem_nil, or_false] at hq ⊢; rcases hq with rfl | rfl | rfl | rfl | rfl <;> simp) ?_
                    exact ih60_10425 (x60_4_10425 + 1) ⟨by omega, by omega⟩ b10521 ⟨by omega, by omega⟩ _ hBc10517 (FrM.c (FrM.c FrM.rf hE60_10425 rfl) hFc10517 rfl) (by omega)
              refine g_forget (l1 := [(0, vR 0), (1, vI x7_1_1), (2, vI x46_2_10009), (3, vI 0), (4, vI 0)]) (by intro q hq; simp only [List.mem_cons, List.not_mem_nil, or_false] at hq ⊢; rcases hq with rfl | rfl | rfl | rfl | rfl <;> simp) ?_
              exact L60_10425 _ 0 (by decide) 0 (by decide) _ hB46_10009 FrM.rf (Nat.lt_succ_self _)
          refine g_forget (l1 := [(0, vR 0), (1, vI x7_1_1), (2, vI 0)]) (by intro q hq; simp only [List.mem_cons, List.not_mem_nil, or_false] at hq ⊢; rcases hq with rfl | rfl | rfl <;> simp) ?_
          exact L46_10009 _ 0 (by decide) _ hB10009 FrM.rf (by have q0 := (up_same : (up H17_8421 33 x7_1_1 0) 33 x7_1_1 = 0); omega) (Nat.lt_succ_self _)
        · refine g_aload_n dX12_lays_24 rfl ?_
          refine m_g51 rfl dX12_lays_25 ?_
          refine g_iload_n dX12_lays_28 rfl ?_
          refine g_iconst dX12_lays_29 ?_
          refine m_s34 dX12_lays_30 ⟨by omega, by omega⟩ ?_
          have hB10522 := ba_34 (z := (-1)) (k := x17_2_8421) hB17_8421 (by decide)
          refine g_iinc (l1 := [(2, vI (x17_2_8421 + 1)), (0, vR 0), (1, vI x7_1_1)]) dX12_lays_31 rfl (by decide) rfl ?_
          refine g_goto (tgt := 17) dX12_lays_34 (by decide) ?_
          refine g_forget (l1 := [(0, vR 0), (1, vI x7_1_1), (2, vI (x17_2_8421 + 1))]) (by intro q hq; simp only [List.mem_cons, List.not_mem_nil, or_false] at hq ⊢; rcases hq with rfl | rfl | rfl <;> simp) ?_
          exact ih17_8421 (x17_2_8421 + 1) ⟨by omega, by omega⟩ _ hB10522 (FrM.a (FrM.c FrM.rf hE17_8421 rfl) rfl rfl) (by omega)
      refine g_forget (l1 := [(0, vR 0), (1, vI x7_1_1), (2, vI 0)]) (by intro q hq; simp only [List.mem_cons, List.not_mem_nil, or_false] at hq ⊢; rcases hq with rfl | rfl | rfl <;> simp) ?_
      exact L17_8421 _ 0 (by decide) _ hB7_1 FrM.rf (Nat.lt_succ_self _)
  refine g_forget (l1 := [(0, vR 0), (1, vI 0)]) (by intro q hq; simp only [List.mem_cons, List.not_mem_nil, or_false] at hq ⊢; rcases hq with rfl | rfl <;> simp) ?_
  exact L7_1 _ 0 (by decide) _ hB1 FrM.rf (by first | exact (up_same).trans hrm8 | exact up_same) (by have q0 := (up_same : (up P 0 52 1) 0 52 = 1); omega) (Nat.lt_succ_self _)
