/-! What the reference answers: X12_isFitting. -/
set_option maxRecDepth 100000 in
set_option maxHeartbeats 4000000 in
theorem f_X12_isFitting (G : GT) (P : PH) (K : PH) (M : PH) (F : FT) (a1 : Int) (a2 : Int) (a3 : Int) (h_a1 : 0 ≤ a1 ∧ a1 ≤ 11) (h_a2 : 0 ≤ a2 ∧ a2 ≤ 3) (h_a3 : (-2147483648) ≤ a3 ∧ a3 ≤ 2147483647) (hB : BdM P) (p_a : a1 < P 13 (P 0 13)) (p_c : a2 < P 11 (P 0 13)) (p_aw : AW K) (v_ZT : ZT P) (v_ZS : ZS P) (z0 : MKB K P) (z1 : MMB M P) (z2 : MCB K M F P) (Q : Option PV → PH → Prop) (hQ : ∀ (r : Int) (_ : 0 ≤ r ∧ r ≤ 1) (P1 : PH) (_ : BdM P1) (_ : FrM ([], [29, 30]) P P1) (_ : (r = 1 ∧ tv K (F a1 a2) a3 = 1) ∨ (r = 0 ∧ tv K (F a1 a2) a3 ≠ 1)), Q (some (vI r)) P1) : Ct WSM G 3 iX12_isFitting [vR 0, vI a1, vI a2, vI a3] P Q := by
  refine Ct.of (by decide) (l0 := [(0, vR 0), (1, vI a1), (2, vI a2), (3, vI a3)]) rfl (Nat.le_of_ble_eq_true rfl) ?_
  have hmb := z1.b
  have hkb := z0.b
  refine g_iconst dX12_isFitting_0 ?_
  refine g_istore (l1 := [(4, vI 0), (0, vR 0), (1, vI a1), (2, vI a2), (3, vI a3)]) dX12_isFitting_1 (by decide) rfl ?_
  refine g_iconst dX12_isFitting_3 ?_
  refine g_istore (l1 := [(5, vI 0), (4, vI 0), (0, vR 0), (1, vI a1), (2, vI a2), (3, vI a3)]) dX12_isFitting_4 (by decide) rfl ?_
  refine g_aload_n dX12_isFitting_6 rfl ?_
  refine m_g46 rfl dX12_isFitting_7 ?_
  refine g_iconst dX12_isFitting_10 ?_
  refine g_iload_n dX12_isFitting_11 rfl ?_
  refine m_s29 dX12_isFitting_12 (by decide) ?_
  have hB1 := ba_29 (z := a3) (k := 0) hB ⟨by (clear hmb hkb; omega), by (clear hmb hkb; omega)⟩
  refine g_iconst dX12_isFitting_13 ?_
  refine g_bipush dX12_isFitting_14 (by decide) ?_
  refine g_aload_n dX12_isFitting_16 rfl ?_
  refine m_g13 (z := (P 0 13)) rfl dX12_isFitting_17 ((up_o (by decide)).trans rfl) ?_
  refine g_imul dX12_isFitting_20 ?_
  refine g_iload_n dX12_isFitting_21 rfl ?_
  refine g_iadd dX12_isFitting_22 ?_
  refine g_imul dX12_isFitting_23 ?_
  refine g_iload_n dX12_isFitting_24 rfl ?_
  refine g_iadd dX12_isFitting_25 ?_
  refine g_istore (l1 := [(6, vI ((4 * ((12 * (P 0 13)) + a1)) + a2)), (5, vI 0), (4, vI 0), (0, vR 0), (1, vI a1), (2, vI a2), (3, vI a3)]) dX12_isFitting_26 (by decide) rfl ?_
  refine g_sipush dX12_isFitting_28 (by decide) ?_
  refine g_aload_n dX12_isFitting_31 rfl ?_
  refine m_g13 (z := (P 0 13)) rfl dX12_isFitting_32 ((up_o (by decide)).trans rfl) ?_
  refine g_imul dX12_isFitting_35 ?_
  refine g_aload_n dX12_isFitting_36 rfl ?_
  refine m_g29 rfl dX12_isFitting_37 ?_
  refine g_iload dX12_isFitting_40 rfl ?_
  refine m_l17 (z := (P 17 ((4 * ((12 * (P 0 13)) + a1)) + a2))) dX12_isFitting_42 ⟨by have q0 := b0_13 hB; (clear hmb hkb; omega), by have q0 := b0_13 hB; (clear hmb hkb; omega)⟩ ((up_o (by decide)).trans rfl) ?_
  refine g_iadd dX12_isFitting_43 ?_
  obtain ⟨f9, hf9⟩ : ∃ f, f = ((2800 * (P 0 13)) + (P 17 ((4 * ((12 * (P 0 13)) + a1)) + a2))) := ⟨_, rfl⟩
  have hwf := (v_ZS (P 0 13) a1 a2 (by have q := b0_13 hB; (clear hmb hkb; omega)) (by have q := b0_13 hB; (clear hmb hkb; omega)) (by (clear hmb hkb; omega)) p_a (by (clear hmb hkb; omega)) p_c).1
  rw [← hf9] at hwf
  have q13b := b0_13 hB
  have hcd9 := z2.2 a1 a2 (by (clear hmb hkb; omega)) (by (clear hkb; omega)) (by (clear hmb hkb; omega)) (by (clear hkb; omega))
  have hfw9 := z2.1 a1 a2 (by (clear hmb hkb; omega)) (by (clear hkb; omega)) (by (clear hmb hkb; omega)) (by (clear hkb; omega))
  refine g_nm (fun v2 e_v2 => ?_)
  have f_v2_0 := b0_13 hB
  have f_v2_1 := bl_17 (k := ((4 * ((12 * (P 0 13)) + a1)) + a2)) hB
  refine g_istore (l1 := [(7, vI v2), (6, vI ((4 * ((12 * (P 0 13)) + a1)) + a2)), (5, vI 0), (4, vI 0), (0, vR 0), (1, vI a1), (2, vI a2), (3, vI a3)]) dX12_isFitting_44 (by decide) rfl ?_
  have L46_2 : ∀ (n46_2 : Nat) (x46_7_2 : Int) (h_x46_7_2 : 0 ≤ x46_7_2 ∧ x46_7_2 ≤ 5600) (x46_5_2 : Int) (h_x46_5_2 : 0 ≤ x46_5_2 ∧ x46_5_2 ≤ 11) (x46_4_2 : Int) (h_x46_4_2 : 0 ≤ x46_4_2 ∧ x46_4_2 ≤ 802) (H46_2 : PH) (hB46_2 : BdM H46_2) (hE46_2 : FrM ([], [29, 30]) (up P 29 0 a3) H46_2) (i46_0_2 : x46_4_2 = hN P f9 x46_7_2) (i46_1_2 : x46_5_2 = hD P f9 x46_7_2) (i46_2_2 : f9 ≤ x46_7_2) (i46_3_2 : EVx K (F a1 a2) a3 (x46_7_2 - f9) x46_4_2 x46_5_2 H46_2) (i46_4_2 : x46_7_2 ≤ (2800 * (P 0 13)) + (P 18 ((4 * ((12 * (P 0 13)) + a1)) + a2))) (hm46_2 : (5601 - x46_7_2 : Int).toNat < n46_2), Go WSM G 3 iX12_isFitting 46 [(0, vR 0), (4, vI x46_4_2), (5, vI x46_5_2), (6, vI ((4 * ((12 * (P 0 13)) + a1)) + a2)), (7, vI x46_7_2)] [] H46_2 Q := by
    intro n46_2
    induction n46_2 with
    | zero => intro x46_7_2 h_x46_7_2 x46_5_2 h_x46_5_2 x46_4_2 h_x46_4_2 H46_2 hB46_2 hE46_2 i46_0_2 i46_1_2 i46_2_2 i46_3_2 i46_4_2 hm46_2; exact absurd hm46_2 (Nat.not_lt_zero _)
    | succ n46_2 ih46_2 =>
    intro x46_7_2 h_x46_7_2 x46_5_2 h_x46_5_2 x46_4_2 h_x46_4_2 H46_2 hB46_2 hE46_2 i46_0_2 i46_1_2 i46_2_2 i46_3_2 i46_4_2 hm46_2
    refine g_iload dX12_isFitting_46 rfl ?_
    refine g_sipush dX12_isFitting_48 (by decide) ?_
    refine g_aload_n dX12_isFitting_51 rfl ?_
    refine m_g13 (z := (P 0 13)) rfl dX12_isFitting_52 ((hE46_2.1 13 rfl).trans ((up_o (by decide)).trans rfl)) ?_
    refine g_imul dX12_isFitting_55 ?_
    refine g_aload_n dX12_isFitting_56 rfl ?_
    refine m_g30 rfl dX12_isFitting_57 ?_
    refine g_iload dX12_isFitting_60 rfl ?_
    refine m_l18 (z := (P 18 ((4 * ((12 * (P 0 13)) + a1)) + a2))) dX12_isFitting_62 ⟨by have q0 := b0_13 hB; (clear hmb hkb; omega), by have q0 := b0_13 hB; (clear hmb hkb; omega)⟩ ((congrFun (hE46_2.2 18 rfl rfl) _).trans ((up_o (by decide)).trans rfl)) ?_
    refine g_iadd dX12_isFitting_63 ?_
    have f145 := b0_13 hB
    have f146 := bl_18 (k := ((4 * ((12 * (P 0 13)) + a1)) + a2)) hB
    refine g_icmp_ge (tgt := 347) dX12_isFitting_64 (by decide) ⟨by (clear hmb hkb; omega), by (clear hmb hkb; omega)⟩ ⟨by have q0 := b0_13 hB; have q1 := bl_18 (k := ((4 * ((12 * (P 0 13)) + a1)) + a2)) hB; (clear hmb hkb; omega), by have q0 := b0_13 hB; have q1 := bl_18 (k := ((4 * ((12 * (P 0 13)) + a1)) + a2)) hB; (clear hmb hkb; omega)⟩ (fun k147 => ?_) (fun k147 => ?_)
    · refine g_aload_n dX12_isFitting_347 rfl ?_
      refine m_g47 rfl dX12_isFitting_348 ?_
      refine g_iconst dX12_isFitting_351 ?_
      refine m_l30 (z := (H46_2 30 0)) dX12_isFitting_352 (by decide) rfl ?_
      refine g_iconst dX12_isFitting_353 ?_
      have f148 := bl_30 (k := 0) hB46_2
      refine g_icmp_ne (tgt := 361) dX12_isFitting_354 (by decide) ⟨by have q0 := bl_30 (k := 0) hB46_2; (clear hmb hkb; omega), by have q0 := bl_30 (k := 0) hB46_2; (clear hmb hkb; omega)⟩ (by decide) (fun k149 => ?_) (fun k149 => ?_)
      · have k149n : (H46_2 30 0) ≤ 0 := by have q0 := bl_30 (k := 0) hB46_2; (clear hmb hkb; omega)
        clear k149
        refine g_iconst dX12_isFitting_361 ?_
        exact g_retZ dX12_isFitting_362 rfl (by decide) (hQ 0 (by decide) _ hB46_2 (FrM.c (FrM.a FrM.rf rfl rfl) hE46_2 rfl) (by have q := EVx.fin i46_3_2 (by (clear hmb hkb; omega)) hfw9.2; (clear hmb hkb; omega)))
      · refine g_iconst dX12_isFitting_357 ?_
        refine g_goto (tgt := 362) dX12_isFitting_358 (by decide) ?_
        exact g_retZ dX12_isFitting_362 rfl (by decide) (hQ 1 (by decide) _ hB46_2 (FrM.c (FrM.a FrM.rf rfl rfl) hE46_2 rfl) (by have q := EVx.fin i46_3_2 (by (clear hmb hkb; omega)) hfw9.2; (clear hmb hkb; omega)))
    · have hat := hwf.at (c := x46_7_2) (by (clear hmb hkb; omega)) (by (clear hmb hkb; omega))
      have hst := hts_at (P := P) (f := f9) (c := x46_7_2) (by (clear hmb hkb hat; omega))
      have q19 := bl_19 (k := x46_7_2) hB
      have q21 := bl_21 (k := x46_7_2) hB
      have hev := i46_3_2
      obtain ⟨x9, hx9, hm9, hr19, hr20, hr21⟩ := CDL.dr _ _ ((x46_7_2 - f9).toNat) hcd9.2 (by (clear hmb hkb hat hst; omega))
      rw [show 2800 * P 0 13 + (P 18 (4 * (12 * P 0 13 + a1) + a2) - ((F a1 a2).length : Int) + (((x46_7_2 - f9).toNat : Nat) : Int)) = x46_7_2 by (clear hmb hkb hat hst; omega)] at hr19 hr20 hr21
      refine g_aload_n dX12_isFitting_67 rfl ?_
      refine m_g32 rfl dX12_isFitting_68 ?_
      refine g_iload dX12_isFitting_71 rfl ?_
      refine m_l20 (z := (P 20 x46_7_2)) dX12_isFitting_73 ⟨by (clear hmb hkb hat hst; omega), by (clear hmb hkb hat hst; omega)⟩ ((congrFun (hE46_2.2 20 rfl rfl) _).trans ((up_o (by decide)).trans rfl)) ?_
      refine g_istore (l1 := [(8, vI (P 20 x46_7_2)), (0, vR 0), (4, vI x46_4_2), (5, vI x46_5_2), (6, vI ((4 * ((12 * (P 0 13)) + a1)) + a2)), (7, vI x46_7_2)]) dX12_isFitting_74 (by decide) rfl ?_
      refine g_aload_n dX12_isFitting_76 rfl ?_
      refine m_g31 rfl dX12_isFitting_77 ?_
      refine g_iload dX12_isFitting_80 rfl ?_
      refine m_l19 (z := (P 19 x46_7_2)) dX12_isFitting_82 ⟨by (clear hmb hkb hat hst; omega), by (clear hmb hkb hat hst; omega)⟩ ((congrFun (hE46_2.2 19 rfl rfl) _).trans ((up_o (by decide)).trans rfl)) ?_
      by_cases k150 : (P 19 x46_7_2) = 0
      · have r_hst := (((hst.resolve_left (by (clear hmb hkb hat hst; omega))).resolve_left (by (clear hmb hkb hat hst; omega))).resolve_left (by (clear hmb hkb hat hst; omega)))
        refine g_tswI (tgt := 120) 0 dX12_isFitting_83 ⟨by have q0 := bl_19 (k := x46_7_2) hB; (clear hmb hkb hat hst; omega), by have q0 := bl_19 (k := x46_7_2) hB; (clear hmb hkb hat hst; omega)⟩ (by (clear hmb hkb hat hst; omega)) (by (clear hmb hkb hat hst; omega)) rfl (by decide) ?_
        have he9 : x9.1 = 0 := by (clear hmb hkb hat hst; omega)
        refine g_aload_n dX12_isFitting_120 rfl ?_
        refine m_g47 rfl dX12_isFitting_121 ?_
        refine g_iload dX12_isFitting_124 rfl ?_
        refine g_iconst dX12_isFitting_126 ?_
        refine m_s30 dX12_isFitting_127 ⟨by (clear hmb hkb hat hst; omega), by (clear hmb hkb hat hst; omega)⟩ ?_
        have hB151 := ba_30 (z := 1) (k := x46_4_2) hB46_2 (by decide)
        have hev8 := EVx.o0 (P1 := (up H46_2 30 x46_4_2 1)) hev hx9 he9 up_same (fun j hj => ((up_k hj).trans rfl)) (fun j => ((up_o (by decide)).trans rfl))
        refine g_iinc (l1 := [(4, vI (x46_4_2 + 1)), (8, vI (P 20 x46_7_2)), (0, vR 0), (5, vI x46_5_2), (6, vI ((4 * ((12 * (P 0 13)) + a1)) + a2)), (7, vI x46_7_2)]) dX12_isFitting_128 rfl (by decide) rfl ?_
        refine g_goto (tgt := 341) dX12_isFitting_131 (by decide) ?_
        refine g_iinc (l1 := [(7, vI (x46_7_2 + 1)), (4, vI (x46_4_2 + 1)), (8, vI (P 20 x46_7_2)), (0, vR 0), (5, vI x46_5_2), (6, vI ((4 * ((12 * (P 0 13)) + a1)) + a2))]) dX12_isFitting_341 rfl (by decide) rfl ?_
        refine g_goto (tgt := 46) dX12_isFitting_344 (by decide) ?_
        refine g_forget (l1 := [(0, vR 0), (4, vI (x46_4_2 + 1)), (5, vI x46_5_2), (6, vI ((4 * ((12 * (P 0 13)) + a1)) + a2)), (7, vI (x46_7_2 + 1))]) (by intro q hq; simp only [List.mem_cons, List.not_mem_nil, or_false] at hq ⊢; rcases hq with rfl | rfl | rfl | rfl | rfl <;> simp) ?_
        exact ih46_2 (x46_7_2 + 1) ⟨by (clear hmb hkb hat hst; omega), by (clear hmb hkb hat hst; omega)⟩ x46_5_2 ⟨by (clear hmb hkb hat hst; omega), by (clear hmb hkb hat hst; omega)⟩ (x46_4_2 + 1) ⟨by (clear hmb hkb hat hst; omega), by (omega)⟩ _ hB151 (FrM.a (FrM.c FrM.rf hE46_2 rfl) rfl rfl) (by first | (clear hmb hkb hat hst; omega) | (rw [show (x46_7_2 + 1) = f9 by (first | (clear hmb hkb hat hst; omega) | (clear hmb hkb hat; omega) | (clear hmb hkb hst; omega) | (clear hmb hat hst; omega) | (clear hkb hat hst; omega) | (clear hmb hkb; omega) | omega)]; exact hN_0)) (by first | (clear hmb hkb hat hst; omega) | (rw [show (x46_7_2 + 1) = f9 by (first | (clear hmb hkb hat hst; omega) | (clear hmb hkb hat; omega) | (clear hmb hkb hst; omega) | (clear hmb hat hst; omega) | (clear hkb hat hst; omega) | (clear hmb hkb; omega) | omega)]; exact hD_0)) (by (clear hmb hkb hat hst; omega)) (by first | exact EVx.cg hev8 (by (clear hmb hkb hat hst; omega)) (by (clear hmb hkb hat hst; omega)) (by (clear hmb hkb hat hst; omega)) | exact EVx.cg (EVx.start ((up_o (by decide)).trans rfl)) (by (first | (clear hmb hkb hat hst; omega) | (clear hmb hkb hat; omega) | (clear hmb hkb hst; omega) | (clear hmb hat hst; omega) | (clear hkb hat hst; omega) | (clear hmb hkb; omega) | omega)) rfl rfl | exact EVx.cg (EVx.o6l (P1 := (up H46_2 30 x46_4_2 1)) (EVx.cg hev rfl (show _ = (x46_4_2 + 1) + 1 by (first | (clear hmb hkb hat hst; omega) | (clear hmb hkb hat; omega) | (clear hmb hkb hst; omega) | (clear hmb hat hst; omega) | (clear hkb hat hst; omega) | (clear hmb hkb; omega) | omega)) rfl) hx9 he9 (by (first | (clear hmb hkb hat hst; omega) | (clear hmb hkb hat; omega) | (clear hmb hkb hst; omega) | (clear hmb hat hst; omega) | (clear hkb hat hst; omega) | (clear hmb hkb; omega) | omega)) ((up_same).trans hio9) (fun j hj => ((up_k hj).trans rfl)) (fun j => ((up_o (by decide)).trans rfl))) (by (first | (clear hmb hkb hat hst; omega) | (clear hmb hkb hat; omega) | (clear hmb hkb hst; omega) | (clear hmb hat hst; omega) | (clear hkb hat hst; omega) | (clear hmb hkb; omega) | omega)) (by (first | (clear hmb hkb hat hst; omega) | (clear hmb hkb hat; omega) | (clear hmb hkb hst; omega) | (clear hmb hat hst; omega) | (clear hkb hat hst; omega) | (clear hmb hkb; omega) | omega)) (by (first | (clear hmb hkb hat hst; omega) | (clear hmb hkb hat; omega) | (clear hmb hkb hst; omega) | (clear hmb hat hst; omega) | (clear hkb hat hst; omega) | (clear hmb hkb; omega) | omega))) (by first | (clear hmb hkb hat hst; omega) | (have q := hcd9.1; (first | (clear hmb hkb hat hst; omega) | (clear hmb hkb hat; omega) | (clear hmb hkb hst; omega) | (clear hmb hat hst; omega) | (clear hkb hat hst; omega) | (clear hmb hkb; omega) | omega))) (by (clear hmb hkb hat hst; omega))
      by_cases k152 : (P 19 x46_7_2) = 1
      · have r_hst := (((hst.resolve_left (by (clear hmb hkb hat hst; omega))).resolve_left (by (clear hmb hkb hat hst; omega))).resolve_left (by (clear hmb hkb hat hst; omega)))
        refine g_tswI (tgt := 134) 1 dX12_isFitting_83 ⟨by have q0 := bl_19 (k := x46_7_2) hB; (clear hmb hkb hat hst; omega), by have q0 := bl_19 (k := x46_7_2) hB; (clear hmb hkb hat hst; omega)⟩ (by (clear hmb hkb hat hst; omega)) (by (clear hmb hkb hat hst; omega)) rfl (by decide) ?_
        have he9 : x9.1 = 1 := by (clear hmb hkb hat hst; omega)
        refine g_aload_n dX12_isFitting_134 rfl ?_
        refine m_g47 rfl dX12_isFitting_135 ?_
        refine g_iload dX12_isFitting_138 rfl ?_
        refine g_aload_n dX12_isFitting_140 rfl ?_
        refine m_g46 rfl dX12_isFitting_141 ?_
        refine g_iload dX12_isFitting_144 rfl ?_
        refine m_l29 (z := (H46_2 29 x46_5_2)) dX12_isFitting_146 ⟨by (clear hmb hkb hat hst; omega), by (clear hmb hkb hat hst; omega)⟩ rfl ?_
        refine g_iload dX12_isFitting_147 rfl ?_
        refine g_aload_n dX12_isFitting_149 rfl ?_
        refine m_g33 rfl dX12_isFitting_150 ?_
        refine g_iload dX12_isFitting_153 rfl ?_
        refine m_l21 (z := (P 21 x46_7_2)) dX12_isFitting_155 ⟨by (clear hmb hkb hat hst; omega), by (clear hmb hkb hat hst; omega)⟩ ((congrFun (hE46_2.2 21 rfl rfl) _).trans ((up_o (by decide)).trans rfl)) ?_
        have f153 := bl_29 (k := x46_5_2) hB46_2
        have f154 := bl_20 (k := x46_7_2) hB
        have f155 := bl_21 (k := x46_7_2) hB
        refine g_sI (av := [vI (H46_2 29 x46_5_2), vI (P 20 x46_7_2), vI (P 21 x46_7_2)]) (st := [vI x46_4_2, vR 30]) (m_X12_is G H46_2 (H46_2 29 x46_5_2) (P 20 x46_7_2) (P 21 x46_7_2) ⟨by have q0 := bl_29 (k := x46_5_2) hB46_2; (clear hmb hkb hat hst; omega), by have q0 := bl_29 (k := x46_5_2) hB46_2; (clear hmb hkb hat hst; omega)⟩ ⟨by have q0 := bl_20 (k := x46_7_2) hB; (clear hmb hkb hat hst; omega), by have q0 := bl_20 (k := x46_7_2) hB; (clear hmb hkb hat hst; omega)⟩ ⟨by have q0 := bl_21 (k := x46_7_2) hB; (clear hmb hkb hat hst; omega), by have q0 := bl_21 (k := x46_7_2) hB; (clear hmb hkb hat hst; omega)⟩ hB46_2  _ (fun rc156 hc156 gc156_is => ⟨rc156, rfl, ?_⟩)) cf_X12_is t_1800 rfl (Nat.le_of_ble_eq_true rfl) (by decide) rfl dX12_isFitting_156
        refine g_if_eq (tgt := 166) dX12_isFitting_159 (by decide) ⟨by (clear hmb hkb hat hst gc156_is; omega), by (clear hmb hkb hat hst gc156_is; omega)⟩ (fun k157 => ?_) (fun k157 => ?_)
        · have r_gc156_is := (gc156_is.resolve_left (by (clear hmb hkb hat hst gc156_is; omega)))
          skip
          refine g_iconst dX12_isFitting_166 ?_
          refine m_s30 dX12_isFitting_167 ⟨by (clear hmb hkb hat hst gc156_is; omega), by (clear hmb hkb hat hst gc156_is; omega)⟩ ?_
          have hB158 := ba_30 (z := 0) (k := x46_4_2) hB46_2 (by decide)
          have hev8 := EVx.o1 (P1 := (up H46_2 30 x46_4_2 0)) hev hx9 he9 (by (clear hmb hkb hat hst gc156_is; omega)) (by first | exact Or.inl ⟨up_same, by (first | (clear hmb hkb hat hst gc156_is; omega) | (clear hmb hkb hat hst; omega) | (clear hmb hkb hat gc156_is; omega) | (clear hmb hkb hst gc156_is; omega) | (clear hmb hat hst gc156_is; omega) | (clear hkb hat hst gc156_is; omega) | (clear hmb hkb hat; omega) | (clear hmb; omega) | omega), by (first | (clear hmb hkb hat hst gc156_is; omega) | (clear hmb hkb hat hst; omega) | (clear hmb hkb hat gc156_is; omega) | (clear hmb hkb hst gc156_is; omega) | (clear hmb hat hst gc156_is; omega) | (clear hkb hat hst gc156_is; omega) | (clear hmb hkb hat; omega) | (clear hmb; omega) | omega)⟩ | exact Or.inr ⟨up_same, by (clear hmb hkb hat hst gc156_is; omega)⟩) (fun j hj => ((up_k hj).trans rfl)) (fun j => ((up_o (by decide)).trans rfl))
          refine g_iinc (l1 := [(4, vI (x46_4_2 + 1)), (8, vI (P 20 x46_7_2)), (0, vR 0), (5, vI x46_5_2), (6, vI ((4 * ((12 * (P 0 13)) + a1)) + a2)), (7, vI x46_7_2)]) dX12_isFitting_168 rfl (by decide) rfl ?_
          refine g_goto (tgt := 341) dX12_isFitting_171 (by decide) ?_
          refine g_iinc (l1 := [(7, vI (x46_7_2 + 1)), (4, vI (x46_4_2 + 1)), (8, vI (P 20 x46_7_2)), (0, vR 0), (5, vI x46_5_2), (6, vI ((4 * ((12 * (P 0 13)) + a1)) + a2))]) dX12_isFitting_341 rfl (by decide) rfl ?_
          refine g_goto (tgt := 46) dX12_isFitting_344 (by decide) ?_
          refine g_forget (l1 := [(0, vR 0), (4, vI (x46_4_2 + 1)), (5, vI x46_5_2), (6, vI ((4 * ((12 * (P 0 13)) + a1)) + a2)), (7, vI (x46_7_2 + 1))]) (by intro q hq; simp only [List.mem_cons, List.not_mem_nil, or_false] at hq ⊢; rcases hq with rfl | rfl | rfl | rfl | rfl <;> simp) ?_
          exact ih46_2 (x46_7_2 + 1) ⟨by (clear hmb hkb hat hst gc156_is; omega), by (clear hmb hkb hat hst gc156_is; omega)⟩ x46_5_2 ⟨by (clear hmb hkb hat hst gc156_is; omega), by (clear hmb hkb hat hst gc156_is; omega)⟩ (x46_4_2 + 1) ⟨by (clear hmb hkb hat hst gc156_is; omega), by (omega)⟩ _ hB158 (FrM.a (FrM.c FrM.rf hE46_2 rfl) rfl rfl) (by first | (clear hmb hkb hat hst gc156_is; omega) | (rw [show (x46_7_2 + 1) = f9 by (first | (clear hmb hkb hat hst gc156_is; omega) | (clear hmb hkb hat hst; omega) | (clear hmb hkb hat gc156_is; omega) | (clear hmb hkb hst gc156_is; omega) | (clear hmb hat hst gc156_is; omega) | (clear hkb hat hst gc156_is; omega) | (clear hmb hkb hat; omega) | (clear hmb; omega) | omega)]; exact hN_0)) (by first | (clear hmb hkb hat hst gc156_is; omega) | (rw [show (x46_7_2 + 1) = f9 by (first | (clear hmb hkb hat hst gc156_is; omega) | (clear hmb hkb hat hst; omega) | (clear hmb hkb hat gc156_is; omega) | (clear hmb hkb hst gc156_is; omega) | (clear hmb hat hst gc156_is; omega) | (clear hkb hat hst gc156_is; omega) | (clear hmb hkb hat; omega) | (clear hmb; omega) | omega)]; exact hD_0)) (by (clear hmb hkb hat hst gc156_is; omega)) (by first | exact EVx.cg hev8 (by (clear hmb hkb hat hst gc156_is; omega)) (by (clear hmb hkb hat hst gc156_is; omega)) (by (clear hmb hkb hat hst gc156_is; omega)) | exact EVx.cg (EVx.start ((up_o (by decide)).trans rfl)) (by (first | (clear hmb hkb hat hst gc156_is; omega) | (clear hmb hkb hat hst; omega) | (clear hmb hkb hat gc156_is; omega) | (clear hmb hkb hst gc156_is; omega) | (clear hmb hat hst gc156_is; omega) | (clear hkb hat hst gc156_is; omega) | (clear hmb hkb hat; omega) | (clear hmb; omega) | omega)) rfl rfl | exact EVx.cg (EVx.o6l (P1 := (up H46_2 30 x46_4_2 0)) (EVx.cg hev rfl (show _ = (x46_4_2 + 1) + 1 by (first | (clear hmb hkb hat hst gc156_is; omega) | (clear hmb hkb hat hst; omega) | (clear hmb hkb hat gc156_is; omega) | (clear hmb hkb hst gc156_is; omega) | (clear hmb hat hst gc156_is; omega) | (clear hkb hat hst gc156_is; omega) | (clear hmb hkb hat; omega) | (clear hmb; omega) | omega)) rfl) hx9 he9 (by (first | (clear hmb hkb hat hst gc156_is; omega) | (clear hmb hkb hat hst; omega) | (clear hmb hkb hat gc156_is; omega) | (clear hmb hkb hst gc156_is; omega) | (clear hmb hat hst gc156_is; omega) | (clear hkb hat hst gc156_is; omega) | (clear hmb hkb hat; omega) | (clear hmb; omega) | omega)) ((up_same).trans hio9) (fun j hj => ((up_k hj).trans rfl)) (fun j => ((up_o (by decide)).trans rfl))) (by (first | (clear hmb hkb hat hst gc156_is; omega) | (clear hmb hkb hat hst; omega) | (clear hmb hkb hat gc156_is; omega) | (clear hmb hkb hst gc156_is; omega) | (clear hmb hat hst gc156_is; omega) | (clear hkb hat hst gc156_is; omega) | (clear hmb hkb hat; omega) | (clear hmb; omega) | omega)) (by (first | (clear hmb hkb hat hst gc156_is; omega) | (clear hmb hkb hat hst; omega) | (clear hmb hkb hat gc156_is; omega) | (clear hmb hkb hst gc156_is; omega) | (clear hmb hat hst gc156_is; omega) | (clear hkb hat hst gc156_is; omega) | (clear hmb hkb hat; omega) | (clear hmb; omega) | omega)) (by (first | (clear hmb hkb hat hst gc156_is; omega) | (clear hmb hkb hat hst; omega) | (clear hmb hkb hat gc156_is; omega) | (clear hmb hkb hst gc156_is; omega) | (clear hmb hat hst gc156_is; omega) | (clear hkb hat hst gc156_is; omega) | (clear hmb hkb hat; omega) | (clear hmb; omega) | omega))) (by first | (clear hmb hkb hat hst gc156_is; omega) | (have q := hcd9.1; (first | (clear hmb hkb hat hst gc156_is; omega) | (clear hmb hkb hat hst; omega) | (clear hmb hkb hat gc156_is; omega) | (clear hmb hkb hst gc156_is; omega) | (clear hmb hat hst gc156_is; omega) | (clear hkb hat hst gc156_is; omega) | (clear hmb hkb hat; omega) | (clear hmb; omega) | omega))) (by (clear hmb hkb hat hst gc156_is; omega))
        · have k157n : 1 ≤ rc156 := by (clear hmb hkb hat hst gc156_is; omega)
          clear k157
          have r_gc156_is := (gc156_is.resolve_right (by (clear hmb hkb hat hst gc156_is; omega)))
          skip
          refine g_iconst dX12_isFitting_162 ?_
          refine g_goto (tgt := 167) dX12_isFitting_163 (by decide) ?_
          refine m_s30 dX12_isFitting_167 ⟨by (clear hmb hkb hat hst gc156_is; omega), by (clear hmb hkb hat hst gc156_is; omega)⟩ ?_
          have hB159 := ba_30 (z := 1) (k := x46_4_2) hB46_2 (by decide)
          have hev8 := EVx.o1 (P1 := (up H46_2 30 x46_4_2 1)) hev hx9 he9 (by (clear hmb hkb hat hst gc156_is; omega)) (by first | exact Or.inl ⟨up_same, by (clear hmb hkb hat hst gc156_is; omega), by (clear hmb hkb hat hst gc156_is; omega)⟩ | exact Or.inr ⟨up_same, by (first | (clear hmb hkb hat hst gc156_is; omega) | (clear hmb hkb hat hst; omega) | (clear hmb hkb hat gc156_is; omega) | (clear hmb hkb hst gc156_is; omega) | (clear hmb hat hst gc156_is; omega) | (clear hkb hat hst gc156_is; omega) | (clear hmb hkb hat; omega) | (clear hmb; omega) | omega)⟩) (fun j hj => ((up_k hj).trans rfl)) (fun j => ((up_o (by decide)).trans rfl))
          refine g_iinc (l1 := [(4, vI (x46_4_2 + 1)), (8, vI (P 20 x46_7_2)), (0, vR 0), (5, vI x46_5_2), (6, vI ((4 * ((12 * (P 0 13)) + a1)) + a2)), (7, vI x46_7_2)]) dX12_isFitting_168 rfl (by decide) rfl ?_
          refine g_goto (tgt := 341) dX12_isFitting_171 (by decide) ?_
          refine g_iinc (l1 := [(7, vI (x46_7_2 + 1)), (4, vI (x46_4_2 + 1)), (8, vI (P 20 x46_7_2)), (0, vR 0), (5, vI x46_5_2), (6, vI ((4 * ((12 * (P 0 13)) + a1)) + a2))]) dX12_isFitting_341 rfl (by decide) rfl ?_
          refine g_goto (tgt := 46) dX12_isFitting_344 (by decide) ?_
          refine g_forget (l1 := [(0, vR 0), (4, vI (x46_4_2 + 1)), (5, vI x46_5_2), (6, vI ((4 * ((12 * (P 0 13)) + a1)) + a2)), (7, vI (x46_7_2 + 1))]) (by intro q hq; simp only [List.mem_cons, List.not_mem_nil, or_false] at hq ⊢; rcases hq with rfl | rfl | rfl | rfl | rfl <;> simp) ?_
          exact ih46_2 (x46_7_2 + 1) ⟨by (clear hmb hkb hat hst gc156_is; omega), by (clear hmb hkb hat hst gc156_is; omega)⟩ x46_5_2 ⟨by (clear hmb hkb hat hst gc156_is; omega), by (clear hmb hkb hat hst gc156_is; omega)⟩ (x46_4_2 + 1) ⟨by (clear hmb hkb hat hst gc156_is; omega), by (omega)⟩ _ hB159 (FrM.a (FrM.c FrM.rf hE46_2 rfl) rfl rfl) (by first | (clear hmb hkb hat hst gc156_is; omega) | (rw [show (x46_7_2 + 1) = f9 by (first | (clear hmb hkb hat hst gc156_is; omega) | (clear hmb hkb hat hst; omega) | (clear hmb hkb hat gc156_is; omega) | (clear hmb hkb hst gc156_is; omega) | (clear hmb hat hst gc156_is; omega) | (clear hkb hat hst gc156_is; omega) | (clear hmb hkb hat; omega) | (clear hmb; omega) | omega)]; exact hN_0)) (by first | (clear hmb hkb hat hst gc156_is; omega) | (rw [show (x46_7_2 + 1) = f9 by (first | (clear hmb hkb hat hst gc156_is; omega) | (clear hmb hkb hat hst; omega) | (clear hmb hkb hat gc156_is; omega) | (clear hmb hkb hst gc156_is; omega) | (clear hmb hat hst gc156_is; omega) | (clear hkb hat hst gc156_is; omega) | (clear hmb hkb hat; omega) | (clear hmb; omega) | omega)]; exact hD_0)) (by (clear hmb hkb hat hst gc156_is; omega)) (by first | exact EVx.cg hev8 (by (clear hmb hkb hat hst gc156_is; omega)) (by (clear hmb hkb hat hst gc156_is; omega)) (by (clear hmb hkb hat hst gc156_is; omega)) | exact EVx.cg (EVx.start ((up_o (by decide)).trans rfl)) (by (first | (clear hmb hkb hat hst gc156_is; omega) | (clear hmb hkb hat hst; omega) | (clear hmb hkb hat gc156_is; omega) | (clear hmb hkb hst gc156_is; omega) | (clear hmb hat hst gc156_is; omega) | (clear hkb hat hst gc156_is; omega) | (clear hmb hkb hat; omega) | (clear hmb; omega) | omega)) rfl rfl | exact EVx.cg (EVx.o6l (P1 := (up H46_2 30 x46_4_2 1)) (EVx.cg hev rfl (show _ = (x46_4_2 + 1) + 1 by (first | (clear hmb hkb hat hst gc156_is; omega) | (clear hmb hkb hat hst; omega) | (clear hmb hkb hat gc156_is; omega) | (clear hmb hkb hst gc156_is; omega) | (clear hmb hat hst gc156_is; omega) | (clear hkb hat hst gc156_is; omega) | (clear hmb hkb hat; omega) | (clear hmb; omega) | omega)) rfl) hx9 he9 (by (first | (clear hmb hkb hat hst gc156_is; omega) | (clear hmb hkb hat hst; omega) | (clear hmb hkb hat gc156_is; omega) | (clear hmb hkb hst gc156_is; omega) | (clear hmb hat hst gc156_is; omega) | (clear hkb hat hst gc156_is; omega) | (clear hmb hkb hat; omega) | (clear hmb; omega) | omega)) ((up_same).trans hio9) (fun j hj => ((up_k hj).trans rfl)) (fun j => ((up_o (by decide)).trans rfl))) (by (first | (clear hmb hkb hat hst gc156_is; omega) | (clear hmb hkb hat hst; omega) | (clear hmb hkb hat gc156_is; omega) | (clear hmb hkb hst gc156_is; omega) | (clear hmb hat hst gc156_is; omega) | (clear hkb hat hst gc156_is; omega) | (clear hmb hkb hat; omega) | (clear hmb; omega) | omega)) (by (first | (clear hmb hkb hat hst gc156_is; omega) | (clear hmb hkb hat hst; omega) | (clear hmb hkb hat gc156_is; omega) | (clear hmb hkb hst gc156_is; omega) | (clear hmb hat hst gc156_is; omega) | (clear hkb hat hst gc156_is; omega) | (clear hmb hkb hat; omega) | (clear hmb; omega) | omega)) (by (first | (clear hmb hkb hat hst gc156_is; omega) | (clear hmb hkb hat hst; omega) | (clear hmb hkb hat gc156_is; omega) | (clear hmb hkb hst gc156_is; omega) | (clear hmb hat hst gc156_is; omega) | (clear hkb hat hst gc156_is; omega) | (clear hmb hkb hat; omega) | (clear hmb; omega) | omega))) (by first | (clear hmb hkb hat hst gc156_is; omega) | (have q := hcd9.1; (first | (clear hmb hkb hat hst gc156_is; omega) | (clear hmb hkb hat hst; omega) | (clear hmb hkb hat gc156_is; omega) | (clear hmb hkb hst gc156_is; omega) | (clear hmb hat hst gc156_is; omega) | (clear hkb hat hst gc156_is; omega) | (clear hmb hkb hat; omega) | (clear hmb; omega) | omega))) (by (clear hmb hkb hat hst gc156_is; omega))
      by_cases k160 : (P 19 x46_7_2) = 2
      · have r_hst := (((hst.resolve_left (by (clear hmb hkb hat hst; omega))).resolve_left (by (clear hmb hkb hat hst; omega))).resolve_left (by (clear hmb hkb hat hst; omega)))
        refine g_tswI (tgt := 174) 2 dX12_isFitting_83 ⟨by have q0 := bl_19 (k := x46_7_2) hB; (clear hmb hkb hat hst; omega), by have q0 := bl_19 (k := x46_7_2) hB; (clear hmb hkb hat hst; omega)⟩ (by (clear hmb hkb hat hst; omega)) (by (clear hmb hkb hat hst; omega)) rfl (by decide) ?_
        have he9 : x9.1 = 2 := by (clear hmb hkb hat hst; omega)
        have hop9 := hfw9.1 x9 hm9 (Or.inl he9)
        have hcc9 := z0.cc hop9.1 hop9.2
        have hct9 := z0.c10v p_aw hop9.1 hop9.2 (((v_ZT) (P 0 13) x9.2.1 (by (clear hmb hkb hat hst hcc9; omega)) (by (clear hmb hkb hat hst hcc9; omega)) hop9.1 (by (clear hmb hat hst hcc9; omega))).2)
        rw [← hr20] at hcc9 hct9
        refine g_aload_n dX12_isFitting_174 rfl ?_
        refine m_g47 rfl dX12_isFitting_175 ?_
        refine g_iload dX12_isFitting_178 rfl ?_
        refine g_aload_n dX12_isFitting_180 rfl ?_
        refine m_g46 rfl dX12_isFitting_181 ?_
        refine g_iload dX12_isFitting_184 rfl ?_
        refine m_l29 (z := (H46_2 29 x46_5_2)) dX12_isFitting_186 ⟨by (clear hmb hkb hat hst hcc9; omega), by (clear hmb hkb hat hst hcc9; omega)⟩ rfl ?_
        refine g_aload_n dX12_isFitting_187 rfl ?_
        refine m_g21 rfl dX12_isFitting_188 ?_
        refine g_bipush dX12_isFitting_191 (by decide) ?_
        refine g_aload_n dX12_isFitting_193 rfl ?_
        refine m_g13 (z := (P 0 13)) rfl dX12_isFitting_194 ((hE46_2.1 13 rfl).trans ((up_o (by decide)).trans rfl)) ?_
        refine g_imul dX12_isFitting_197 ?_
        refine g_iload dX12_isFitting_198 rfl ?_
        refine g_iadd dX12_isFitting_200 ?_
        refine m_l9 (z := (P 9 ((24 * (P 0 13)) + (P 20 x46_7_2)))) dX12_isFitting_201 ⟨by have q0 := b0_13 hB; have q1 := bl_20 (k := x46_7_2) hB; (clear hmb hkb hat hst hcc9; omega), by have q0 := b0_13 hB; have q1 := bl_20 (k := x46_7_2) hB; (clear hmb hkb hat hst hcc9; omega)⟩ ((congrFun (hE46_2.2 9 rfl rfl) _).trans ((up_o (by decide)).trans rfl)) ?_
        refine g_aload_n dX12_isFitting_202 rfl ?_
        refine m_g21 rfl dX12_isFitting_203 ?_
        refine g_bipush dX12_isFitting_206 (by decide) ?_
        refine g_aload_n dX12_isFitting_208 rfl ?_
        refine m_g13 (z := (P 0 13)) rfl dX12_isFitting_209 ((hE46_2.1 13 rfl).trans ((up_o (by decide)).trans rfl)) ?_
        refine g_imul dX12_isFitting_212 ?_
        refine g_iload dX12_isFitting_213 rfl ?_
        refine g_iadd dX12_isFitting_215 ?_
        refine m_l9 (z := (P 9 ((24 * (P 0 13)) + (P 20 x46_7_2)))) dX12_isFitting_216 ⟨by have q0 := b0_13 hB; have q1 := bl_20 (k := x46_7_2) hB; (clear hmb hkb hat hst hcc9; omega), by have q0 := b0_13 hB; have q1 := bl_20 (k := x46_7_2) hB; (clear hmb hkb hat hst hcc9; omega)⟩ ((congrFun (hE46_2.2 9 rfl rfl) _).trans ((up_o (by decide)).trans rfl)) ?_
        refine g_aload_n dX12_isFitting_217 rfl ?_
        refine m_g22 rfl dX12_isFitting_218 ?_
        refine g_bipush dX12_isFitting_221 (by decide) ?_
        refine g_aload_n dX12_isFitting_223 rfl ?_
        refine m_g13 (z := (P 0 13)) rfl dX12_isFitting_224 ((hE46_2.1 13 rfl).trans ((up_o (by decide)).trans rfl)) ?_
        refine g_imul dX12_isFitting_227 ?_
        refine g_iload dX12_isFitting_228 rfl ?_
        refine g_iadd dX12_isFitting_230 ?_
        refine m_l10 (z := (P 10 ((24 * (P 0 13)) + (P 20 x46_7_2)))) dX12_isFitting_231 ⟨by have q0 := b0_13 hB; have q1 := bl_20 (k := x46_7_2) hB; (clear hmb hkb hat hst hcc9; omega), by have q0 := b0_13 hB; have q1 := bl_20 (k := x46_7_2) hB; (clear hmb hkb hat hst hcc9; omega)⟩ ((congrFun (hE46_2.2 10 rfl rfl) _).trans ((up_o (by decide)).trans rfl)) ?_
        refine g_iadd dX12_isFitting_232 ?_
        refine g_iconst dX12_isFitting_233 ?_
        refine g_isub dX12_isFitting_234 ?_
        have f161 := bl_29 (k := x46_5_2) hB46_2
        have f162 := bl_9 (k := ((24 * (P 0 13)) + (P 20 x46_7_2))) hB
        have f163 := bl_10 (k := ((24 * (P 0 13)) + (P 20 x46_7_2))) hB
        refine g_sI (av := [vI (H46_2 29 x46_5_2), vI (P 9 ((24 * (P 0 13)) + (P 20 x46_7_2))), vI (((P 9 ((24 * (P 0 13)) + (P 20 x46_7_2))) + (P 10 ((24 * (P 0 13)) + (P 20 x46_7_2)))) - 1)]) (st := [vI x46_4_2, vR 30]) (m_X12_is G H46_2 (H46_2 29 x46_5_2) (P 9 ((24 * (P 0 13)) + (P 20 x46_7_2))) (((P 9 ((24 * (P 0 13)) + (P 20 x46_7_2))) + (P 10 ((24 * (P 0 13)) + (P 20 x46_7_2)))) - 1) ⟨by have q0 := bl_29 (k := x46_5_2) hB46_2; (clear hmb hkb hat hst hcc9; omega), by have q0 := bl_29 (k := x46_5_2) hB46_2; (clear hmb hkb hat hst hcc9; omega)⟩ ⟨by have q0 := bl_9 (k := ((24 * (P 0 13)) + (P 20 x46_7_2))) hB; (clear hmb hkb hat hst hcc9; omega), by have q0 := bl_9 (k := ((24 * (P 0 13)) + (P 20 x46_7_2))) hB; (clear hmb hkb hat hst hcc9; omega)⟩ ⟨by have q0 := bl_9 (k := ((24 * (P 0 13)) + (P 20 x46_7_2))) hB; have q1 := bl_10 (k := ((24 * (P 0 13)) + (P 20 x46_7_2))) hB; (clear hmb hkb hat hst hcc9; omega), by have q0 := bl_9 (k := ((24 * (P 0 13)) + (P 20 x46_7_2))) hB; have q1 := bl_10 (k := ((24 * (P 0 13)) + (P 20 x46_7_2))) hB; (clear hmb hkb hat hst hcc9; omega)⟩ hB46_2  _ (fun rc164 hc164 gc164_is => ⟨rc164, rfl, ?_⟩)) cf_X12_is t_1800 rfl (Nat.le_of_ble_eq_true rfl) (by decide) rfl dX12_isFitting_235
        refine g_if_eq (tgt := 245) dX12_isFitting_238 (by decide) ⟨by (clear hmb hkb hat hst hcc9 gc164_is; omega), by (clear hmb hkb hat hst hcc9 gc164_is; omega)⟩ (fun k165 => ?_) (fun k165 => ?_)
        · skip
          skip
          refine g_iconst dX12_isFitting_245 ?_
          refine m_s30 dX12_isFitting_246 ⟨by (clear hmb hkb hat hst hcc9 gc164_is k165; omega), by (clear hmb hkb hat hst hcc9 gc164_is k165; omega)⟩ ?_
          have hB166 := ba_30 (z := 0) (k := x46_4_2) hB46_2 (by decide)
          have hev8 := EVx.o2 (P1 := (up H46_2 30 x46_4_2 0)) hev hx9 he9 (by (clear hmb hkb hat hst hcc9 gc164_is k165; omega)) (by rw [← hr20]; first | exact Or.inl ⟨up_same, by (first | (clear hmb hkb hat hst hcc9 gc164_is k165; omega) | (clear hmb hkb hat hst hcc9 gc164_is; omega) | (clear hmb hkb hat hst hcc9 k165; omega) | (clear hmb hkb hat hst gc164_is k165; omega) | (clear hmb hkb hat hcc9 gc164_is k165; omega) | (clear hmb hkb hst hcc9 gc164_is k165; omega) | (clear hmb hat hst hcc9 gc164_is k165; omega) | (clear hkb hat hst hcc9 gc164_is k165; omega) | (clear hmb hkb hat hst hcc9; omega) | (clear hat hkb hmb; omega) | omega), by (first | (clear hmb hkb hat hst hcc9 gc164_is k165; omega) | (clear hmb hkb hat hst hcc9 gc164_is; omega) | (clear hmb hkb hat hst hcc9 k165; omega) | (clear hmb hkb hat hst gc164_is k165; omega) | (clear hmb hkb hat hcc9 gc164_is k165; omega) | (clear hmb hkb hst hcc9 gc164_is k165; omega) | (clear hmb hat hst hcc9 gc164_is k165; omega) | (clear hkb hat hst hcc9 gc164_is k165; omega) | (clear hmb hkb hat hst hcc9; omega) | (clear hat hkb hmb; omega) | omega)⟩ | exact Or.inr ⟨up_same, by (clear hat hkb hmb; omega)⟩) (fun j hj => ((up_k hj).trans rfl)) (fun j => ((up_o (by decide)).trans rfl))
          refine g_iinc (l1 := [(4, vI (x46_4_2 + 1)), (8, vI (P 20 x46_7_2)), (0, vR 0), (5, vI x46_5_2), (6, vI ((4 * ((12 * (P 0 13)) + a1)) + a2)), (7, vI x46_7_2)]) dX12_isFitting_247 rfl (by decide) rfl ?_
          refine g_goto (tgt := 341) dX12_isFitting_250 (by decide) ?_
          refine g_iinc (l1 := [(7, vI (x46_7_2 + 1)), (4, vI (x46_4_2 + 1)), (8, vI (P 20 x46_7_2)), (0, vR 0), (5, vI x46_5_2), (6, vI ((4 * ((12 * (P 0 13)) + a1)) + a2))]) dX12_isFitting_341 rfl (by decide) rfl ?_
          refine g_goto (tgt := 46) dX12_isFitting_344 (by decide) ?_
          refine g_forget (l1 := [(0, vR 0), (4, vI (x46_4_2 + 1)), (5, vI x46_5_2), (6, vI ((4 * ((12 * (P 0 13)) + a1)) + a2)), (7, vI (x46_7_2 + 1))]) (by intro q hq; simp only [List.mem_cons, List.not_mem_nil, or_false] at hq ⊢; rcases hq with rfl | rfl | rfl | rfl | rfl <;> simp) ?_
          exact ih46_2 (x46_7_2 + 1) ⟨by (clear hmb hkb hat hst hcc9 gc164_is k165; omega), by (clear hmb hkb hat hst hcc9 gc164_is k165; omega)⟩ x46_5_2 ⟨by (clear hmb hkb hat hst hcc9 gc164_is k165; omega), by (clear hmb hkb hat hst hcc9 gc164_is k165; omega)⟩ (x46_4_2 + 1) ⟨by (clear hmb hkb hat hst hcc9 gc164_is k165; omega), by (omega)⟩ _ hB166 (FrM.a (FrM.c FrM.rf hE46_2 rfl) rfl rfl) (by first | (clear hmb hkb hat hst hcc9 gc164_is k165; omega) | (rw [show (x46_7_2 + 1) = f9 by (first | (clear hmb hkb hat hst hcc9 gc164_is k165; omega) | (clear hmb hkb hat hst hcc9 gc164_is; omega) | (clear hmb hkb hat hst hcc9 k165; omega) | (clear hmb hkb hat hst gc164_is k165; omega) | (clear hmb hkb hat hcc9 gc164_is k165; omega) | (clear hmb hkb hst hcc9 gc164_is k165; omega) | (clear hmb hat hst hcc9 gc164_is k165; omega) | (clear hkb hat hst hcc9 gc164_is k165; omega) | (clear hmb hkb hat hst hcc9; omega) | (clear hat hkb hmb; omega) | omega)]; exact hN_0)) (by first | (clear hmb hkb hat hst hcc9 gc164_is k165; omega) | (rw [show (x46_7_2 + 1) = f9 by (first | (clear hmb hkb hat hst hcc9 gc164_is k165; omega) | (clear hmb hkb hat hst hcc9 gc164_is; omega) | (clear hmb hkb hat hst hcc9 k165; omega) | (clear hmb hkb hat hst gc164_is k165; omega) | (clear hmb hkb hat hcc9 gc164_is k165; omega) | (clear hmb hkb hst hcc9 gc164_is k165; omega) | (clear hmb hat hst hcc9 gc164_is k165; omega) | (clear hkb hat hst hcc9 gc164_is k165; omega) | (clear hmb hkb hat hst hcc9; omega) | (clear hat hkb hmb; omega) | omega)]; exact hD_0)) (by (clear hmb hkb hat hst hcc9 gc164_is k165; omega)) (by first | exact EVx.cg hev8 (by (clear hmb hkb hat hst hcc9 gc164_is k165; omega)) (by (clear hmb hkb hat hst hcc9 gc164_is k165; omega)) (by (clear hmb hkb hat hst hcc9 gc164_is k165; omega)) | exact EVx.cg (EVx.start ((up_o (by decide)).trans rfl)) (by (first | (clear hmb hkb hat hst hcc9 gc164_is k165; omega) | (clear hmb hkb hat hst hcc9 gc164_is; omega) | (clear hmb hkb hat hst hcc9 k165; omega) | (clear hmb hkb hat hst gc164_is k165; omega) | (clear hmb hkb hat hcc9 gc164_is k165; omega) | (clear hmb hkb hst hcc9 gc164_is k165; omega) | (clear hmb hat hst hcc9 gc164_is k165; omega) | (clear hkb hat hst hcc9 gc164_is k165; omega) | (clear hmb hkb hat hst hcc9; omega) | (clear hat hkb hmb; omega) | omega)) rfl rfl | exact EVx.cg (EVx.o6l (P1 := (up H46_2 30 x46_4_2 0)) (EVx.cg hev rfl (show _ = (x46_4_2 + 1) + 1 by (first | (clear hmb hkb hat hst hcc9 gc164_is k165; omega) | (clear hmb hkb hat hst hcc9 gc164_is; omega) | (clear hmb hkb hat hst hcc9 k165; omega) | (clear hmb hkb hat hst gc164_is k165; omega) | (clear hmb hkb hat hcc9 gc164_is k165; omega) | (clear hmb hkb hst hcc9 gc164_is k165; omega) | (clear hmb hat hst hcc9 gc164_is k165; omega) | (clear hkb hat hst hcc9 gc164_is k165; omega) | (clear hmb hkb hat hst hcc9; omega) | (clear hat hkb hmb; omega) | omega)) rfl) hx9 he9 (by (first | (clear hmb hkb hat hst hcc9 gc164_is k165; omega) | (clear hmb hkb hat hst hcc9 gc164_is; omega) | (clear hmb hkb hat hst hcc9 k165; omega) | (clear hmb hkb hat hst gc164_is k165; omega) | (clear hmb hkb hat hcc9 gc164_is k165; omega) | (clear hmb hkb hst hcc9 gc164_is k165; omega) | (clear hmb hat hst hcc9 gc164_is k165; omega) | (clear hkb hat hst hcc9 gc164_is k165; omega) | (clear hmb hkb hat hst hcc9; omega) | (clear hat hkb hmb; omega) | omega)) ((up_same).trans hio9) (fun j hj => ((up_k hj).trans rfl)) (fun j => ((up_o (by decide)).trans rfl))) (by (first | (clear hmb hkb hat hst hcc9 gc164_is k165; omega) | (clear hmb hkb hat hst hcc9 gc164_is; omega) | (clear hmb hkb hat hst hcc9 k165; omega) | (clear hmb hkb hat hst gc164_is k165; omega) | (clear hmb hkb hat hcc9 gc164_is k165; omega) | (clear hmb hkb hst hcc9 gc164_is k165; omega) | (clear hmb hat hst hcc9 gc164_is k165; omega) | (clear hkb hat hst hcc9 gc164_is k165; omega) | (clear hmb hkb hat hst hcc9; omega) | (clear hat hkb hmb; omega) | omega)) (by (first | (clear hmb hkb hat hst hcc9 gc164_is k165; omega) | (clear hmb hkb hat hst hcc9 gc164_is; omega) | (clear hmb hkb hat hst hcc9 k165; omega) | (clear hmb hkb hat hst gc164_is k165; omega) | (clear hmb hkb hat hcc9 gc164_is k165; omega) | (clear hmb hkb hst hcc9 gc164_is k165; omega) | (clear hmb hat hst hcc9 gc164_is k165; omega) | (clear hkb hat hst hcc9 gc164_is k165; omega) | (clear hmb hkb hat hst hcc9; omega) | (clear hat hkb hmb; omega) | omega)) (by (first | (clear hmb hkb hat hst hcc9 gc164_is k165; omega) | (clear hmb hkb hat hst hcc9 gc164_is; omega) | (clear hmb hkb hat hst hcc9 k165; omega) | (clear hmb hkb hat hst gc164_is k165; omega) | (clear hmb hkb hat hcc9 gc164_is k165; omega) | (clear hmb hkb hst hcc9 gc164_is k165; omega) | (clear hmb hat hst hcc9 gc164_is k165; omega) | (clear hkb hat hst hcc9 gc164_is k165; omega) | (clear hmb hkb hat hst hcc9; omega) | (clear hat hkb hmb; omega) | omega))) (by first | (clear hmb hkb hat hst hcc9 gc164_is k165; omega) | (have q := hcd9.1; (first | (clear hmb hkb hat hst hcc9 gc164_is k165; omega) | (clear hmb hkb hat hst hcc9 gc164_is; omega) | (clear hmb hkb hat hst hcc9 k165; omega) | (clear hmb hkb hat hst gc164_is k165; omega) | (clear hmb hkb hat hcc9 gc164_is k165; omega) | (clear hmb hkb hst hcc9 gc164_is k165; omega) | (clear hmb hat hst hcc9 gc164_is k165; omega) | (clear hkb hat hst hcc9 gc164_is k165; omega) | (clear hmb hkb hat hst hcc9; omega) | (clear hat hkb hmb; omega) | omega))) (by (clear hmb hkb hat hst hcc9 gc164_is k165; omega))
        · have k165n : 1 ≤ rc164 := by (clear hmb hkb hat hst hcc9 gc164_is; omega)
          clear k165
          have r_gc164_is := (gc164_is.resolve_right (by (clear hmb hkb hat hst hcc9 gc164_is; omega)))
          skip
          refine g_iconst dX12_isFitting_241 ?_
          refine g_goto (tgt := 246) dX12_isFitting_242 (by decide) ?_
          refine m_s30 dX12_isFitting_246 ⟨by (clear hmb hkb hat hst hcc9 gc164_is; omega), by (clear hmb hkb hat hst hcc9 gc164_is; omega)⟩ ?_
          have hB167 := ba_30 (z := 1) (k := x46_4_2) hB46_2 (by decide)
          have hev8 := EVx.o2 (P1 := (up H46_2 30 x46_4_2 1)) hev hx9 he9 (by (clear hmb hkb hat hst hcc9 gc164_is; omega)) (by rw [← hr20]; first | exact Or.inl ⟨up_same, by (clear hmb hkb hat hst gc164_is; omega), by (clear hmb hkb hat hst gc164_is; omega)⟩ | exact Or.inr ⟨up_same, by (first | (clear hmb hkb hat hst hcc9 gc164_is; omega) | (clear hmb hkb hat hst hcc9; omega) | (clear hmb hkb hat hst gc164_is; omega) | (clear hmb hkb hat hcc9 gc164_is; omega) | (clear hmb hkb hst hcc9 gc164_is; omega) | (clear hmb hat hst hcc9 gc164_is; omega) | (clear hkb hat hst hcc9 gc164_is; omega) | (clear hmb hkb hat hst; omega) | (clear hkb hmb; omega) | omega)⟩) (fun j hj => ((up_k hj).trans rfl)) (fun j => ((up_o (by decide)).trans rfl))
          refine g_iinc (l1 := [(4, vI (x46_4_2 + 1)), (8, vI (P 20 x46_7_2)), (0, vR 0), (5, vI x46_5_2), (6, vI ((4 * ((12 * (P 0 13)) + a1)) + a2)), (7, vI x46_7_2)]) dX12_isFitting_247 rfl (by decide) rfl ?_
          refine g_goto (tgt := 341) dX12_isFitting_250 (by decide) ?_
          refine g_iinc (l1 := [(7, vI (x46_7_2 + 1)), (4, vI (x46_4_2 + 1)), (8, vI (P 20 x46_7_2)), (0, vR 0), (5, vI x46_5_2), (6, vI ((4 * ((12 * (P 0 13)) + a1)) + a2))]) dX12_isFitting_341 rfl (by decide) rfl ?_
          refine g_goto (tgt := 46) dX12_isFitting_344 (by decide) ?_
          refine g_forget (l1 := [(0, vR 0), (4, vI (x46_4_2 + 1)), (5, vI x46_5_2), (6, vI ((4 * ((12 * (P 0 13)) + a1)) + a2)), (7, vI (x46_7_2 + 1))]) (by intro q hq; simp only [List.mem_cons, List.not_mem_nil, or_false] at hq ⊢; rcases hq with rfl | rfl | rfl | rfl | rfl <;> simp) ?_
          exact ih46_2 (x46_7_2 + 1) ⟨by (clear hmb hkb hat hst hcc9 gc164_is; omega), by (clear hmb hkb hat hst hcc9 gc164_is; omega)⟩ x46_5_2 ⟨by (clear hmb hkb hat hst hcc9 gc164_is; omega), by (clear hmb hkb hat hst hcc9 gc164_is; omega)⟩ (x46_4_2 + 1) ⟨by (clear hmb hkb hat hst hcc9 gc164_is; omega), by (omega)⟩ _ hB167 (FrM.a (FrM.c FrM.rf hE46_2 rfl) rfl rfl) (by first | (clear hmb hkb hat hst hcc9 gc164_is; omega) | (rw [show (x46_7_2 + 1) = f9 by (first | (clear hmb hkb hat hst hcc9 gc164_is; omega) | (clear hmb hkb hat hst hcc9; omega) | (clear hmb hkb hat hst gc164_is; omega) | (clear hmb hkb hat hcc9 gc164_is; omega) | (clear hmb hkb hst hcc9 gc164_is; omega) | (clear hmb hat hst hcc9 gc164_is; omega) | (clear hkb hat hst hcc9 gc164_is; omega) | (clear hmb hkb hat hst; omega) | (clear hkb hmb; omega) | omega)]; exact hN_0)) (by first | (clear hmb hkb hat hst hcc9 gc164_is; omega) | (rw [show (x46_7_2 + 1) = f9 by (first | (clear hmb hkb hat hst hcc9 gc164_is; omega) | (clear hmb hkb hat hst hcc9; omega) | (clear hmb hkb hat hst gc164_is; omega) | (clear hmb hkb hat hcc9 gc164_is; omega) | (clear hmb hkb hst hcc9 gc164_is; omega) | (clear hmb hat hst hcc9 gc164_is; omega) | (clear hkb hat hst hcc9 gc164_is; omega) | (clear hmb hkb hat hst; omega) | (clear hkb hmb; omega) | omega)]; exact hD_0)) (by (clear hmb hkb hat hst hcc9 gc164_is; omega)) (by first | exact EVx.cg hev8 (by (clear hmb hkb hat hst hcc9 gc164_is; omega)) (by (clear hmb hkb hat hst hcc9 gc164_is; omega)) (by (clear hmb hkb hat hst hcc9 gc164_is; omega)) | exact EVx.cg (EVx.start ((up_o (by decide)).trans rfl)) (by (first | (clear hmb hkb hat hst hcc9 gc164_is; omega) | (clear hmb hkb hat hst hcc9; omega) | (clear hmb hkb hat hst gc164_is; omega) | (clear hmb hkb hat hcc9 gc164_is; omega) | (clear hmb hkb hst hcc9 gc164_is; omega) | (clear hmb hat hst hcc9 gc164_is; omega) | (clear hkb hat hst hcc9 gc164_is; omega) | (clear hmb hkb hat hst; omega) | (clear hkb hmb; omega) | omega)) rfl rfl | exact EVx.cg (EVx.o6l (P1 := (up H46_2 30 x46_4_2 1)) (EVx.cg hev rfl (show _ = (x46_4_2 + 1) + 1 by (first | (clear hmb hkb hat hst hcc9 gc164_is; omega) | (clear hmb hkb hat hst hcc9; omega) | (clear hmb hkb hat hst gc164_is; omega) | (clear hmb hkb hat hcc9 gc164_is; omega) | (clear hmb hkb hst hcc9 gc164_is; omega) | (clear hmb hat hst hcc9 gc164_is; omega) | (clear hkb hat hst hcc9 gc164_is; omega) | (clear hmb hkb hat hst; omega) | (clear hkb hmb; omega) | omega)) rfl) hx9 he9 (by (first | (clear hmb hkb hat hst hcc9 gc164_is; omega) | (clear hmb hkb hat hst hcc9; omega) | (clear hmb hkb hat hst gc164_is; omega) | (clear hmb hkb hat hcc9 gc164_is; omega) | (clear hmb hkb hst hcc9 gc164_is; omega) | (clear hmb hat hst hcc9 gc164_is; omega) | (clear hkb hat hst hcc9 gc164_is; omega) | (clear hmb hkb hat hst; omega) | (clear hkb hmb; omega) | omega)) ((up_same).trans hio9) (fun j hj => ((up_k hj).trans rfl)) (fun j => ((up_o (by decide)).trans rfl))) (by (first | (clear hmb hkb hat hst hcc9 gc164_is; omega) | (clear hmb hkb hat hst hcc9; omega) | (clear hmb hkb hat hst gc164_is; omega) | (clear hmb hkb hat hcc9 gc164_is; omega) | (clear hmb hkb hst hcc9 gc164_is; omega) | (clear hmb hat hst hcc9 gc164_is; omega) | (clear hkb hat hst hcc9 gc164_is; omega) | (clear hmb hkb hat hst; omega) | (clear hkb hmb; omega) | omega)) (by (first | (clear hmb hkb hat hst hcc9 gc164_is; omega) | (clear hmb hkb hat hst hcc9; omega) | (clear hmb hkb hat hst gc164_is; omega) | (clear hmb hkb hat hcc9 gc164_is; omega) | (clear hmb hkb hst hcc9 gc164_is; omega) | (clear hmb hat hst hcc9 gc164_is; omega) | (clear hkb hat hst hcc9 gc164_is; omega) | (clear hmb hkb hat hst; omega) | (clear hkb hmb; omega) | omega)) (by (first | (clear hmb hkb hat hst hcc9 gc164_is; omega) | (clear hmb hkb hat hst hcc9; omega) | (clear hmb hkb hat hst gc164_is; omega) | (clear hmb hkb hat hcc9 gc164_is; omega) | (clear hmb hkb hst hcc9 gc164_is; omega) | (clear hmb hat hst hcc9 gc164_is; omega) | (clear hkb hat hst hcc9 gc164_is; omega) | (clear hmb hkb hat hst; omega) | (clear hkb hmb; omega) | omega))) (by first | (clear hmb hkb hat hst hcc9 gc164_is; omega) | (have q := hcd9.1; (first | (clear hmb hkb hat hst hcc9 gc164_is; omega) | (clear hmb hkb hat hst hcc9; omega) | (clear hmb hkb hat hst gc164_is; omega) | (clear hmb hkb hat hcc9 gc164_is; omega) | (clear hmb hkb hst hcc9 gc164_is; omega) | (clear hmb hat hst hcc9 gc164_is; omega) | (clear hkb hat hst hcc9 gc164_is; omega) | (clear hmb hkb hat hst; omega) | (clear hkb hmb; omega) | omega))) (by (clear hmb hkb hat hst hcc9 gc164_is; omega))
      by_cases k168 : (P 19 x46_7_2) = 3
      · have r_hst := (hst.resolve_right (by (clear hmb hkb hat hst; omega)))
        refine g_tswI (tgt := 253) 3 dX12_isFitting_83 ⟨by have q0 := bl_19 (k := x46_7_2) hB; (clear hmb hkb hat hst; omega), by have q0 := bl_19 (k := x46_7_2) hB; (clear hmb hkb hat hst; omega)⟩ (by (clear hmb hkb hat hst; omega)) (by (clear hmb hkb hat hst; omega)) rfl (by decide) ?_
        have he9 : x9.1 = 3 := by (clear hmb hkb hat hst; omega)
        have hop9 := hfw9.1 x9 hm9 (Or.inr he9)
        refine g_aload_n dX12_isFitting_253 rfl ?_
        refine m_g46 rfl dX12_isFitting_254 ?_
        refine g_iload dX12_isFitting_257 rfl ?_
        refine g_iconst dX12_isFitting_259 ?_
        refine g_iadd dX12_isFitting_260 ?_
        refine g_aload_n dX12_isFitting_261 rfl ?_
        refine g_aload_n dX12_isFitting_262 rfl ?_
        refine m_g46 rfl dX12_isFitting_263 ?_
        refine g_iload dX12_isFitting_266 rfl ?_
        refine m_l29 (z := (H46_2 29 x46_5_2)) dX12_isFitting_268 ⟨by (clear hmb hkb hat hst; omega), by (clear hmb hkb hat hst; omega)⟩ rfl ?_
        refine g_iload dX12_isFitting_269 rfl ?_
        refine g_aload_n dX12_isFitting_271 rfl ?_
        refine m_g33 rfl dX12_isFitting_272 ?_
        refine g_iload dX12_isFitting_275 rfl ?_
        refine m_l21 (z := (P 21 x46_7_2)) dX12_isFitting_277 ⟨by (clear hmb hkb hat hst; omega), by (clear hmb hkb hat hst; omega)⟩ ((congrFun (hE46_2.2 21 rfl rfl) _).trans ((up_o (by decide)).trans rfl)) ?_
        have f169 := bl_29 (k := x46_5_2) hB46_2
        have f170 := bl_20 (k := x46_7_2) hB
        have f171 := bl_21 (k := x46_7_2) hB
        refine g_vI (av := [vI (H46_2 29 x46_5_2), vI (P 20 x46_7_2), vI (P 21 x46_7_2)]) (o := 0) (st := [vI (x46_5_2 + 1), vR 29]) (f_X12_fieldOf G H46_2 (K) (H46_2 29 x46_5_2) (P 20 x46_7_2) (P 21 x46_7_2) ⟨by have q0 := bl_29 (k := x46_5_2) hB46_2; (clear hmb hkb hat hst; omega), by have q0 := bl_29 (k := x46_5_2) hB46_2; (clear hmb hkb hat hst; omega)⟩ ⟨by have q0 := bl_20 (k := x46_7_2) hB; (clear hmb hkb hat hst; omega), by have q0 := bl_20 (k := x46_7_2) hB; (clear hmb hkb hat hst; omega)⟩ ⟨by have q0 := bl_21 (k := x46_7_2) hB; (clear hmb hkb hat hst; omega), by have q0 := bl_21 (k := x46_7_2) hB; (clear hmb hkb hat hst; omega)⟩ hB46_2 (by rw [show H46_2 0 13 = _ from ((hE46_2.1 13 rfl).trans ((up_o (by decide)).trans rfl))]; exact (((ZT.fr (F := ([], [29, 30])) v_ZT (FrM.c (FrM.a FrM.rf rfl rfl) hE46_2 rfl) rfl)) (P 0 13) (P 20 x46_7_2) (by (clear hmb hkb hat hst; omega)) (by (clear hmb hkb hat hst; omega)) (by (clear hmb hkb hat hst; omega)) (by rw [show H46_2 5 (P 0 13) = _ from ((congrFun (hE46_2.2 5 rfl rfl) _).trans ((up_o (by decide)).trans rfl))]; (clear hmb hkb hst; omega))).2) (by rw [show H46_2 0 13 = _ from ((hE46_2.1 13 rfl).trans ((up_o (by decide)).trans rfl)), show H46_2 7 ((24 * (P 0 13)) + (P 20 x46_7_2)) = _ from ((congrFun (hE46_2.2 7 rfl rfl) _).trans ((up_o (by decide)).trans rfl))]; (clear hmb hkb hst; omega)) p_aw (by (clear hmb hkb hat hst; omega)) ((MKB.fr (F := ([], [29, 30])) z0 (FrM.c (FrM.a FrM.rf rfl rfl) hE46_2 rfl) rfl)) _ (fun rc172 hc172 gc172_rg gc172_fd => ⟨rc172, rfl, ?_⟩)) cf_X12_fieldOf t_1839 rfl (by decide) rfl rfl rfl (Nat.le_of_ble_eq_true rfl) (by decide) rfl dX12_isFitting_278
        have z173 : H46_2 0 13 = (P 0 13) := ((hE46_2.1 13 rfl).trans ((up_o (by decide)).trans rfl))
        have hfd9 := gc172_fd
        refine m_s29 dX12_isFitting_281 ⟨by (clear hmb hkb hat hst gc172_rg; omega), by (omega)⟩ ?_
        have hB174 := ba_29 (z := rc172) (k := (x46_5_2 + 1)) hB46_2 ⟨by (clear hmb hkb hat hst gc172_rg; omega), by (clear hmb hkb hat hst gc172_rg; omega)⟩
        have hev8 := EVx.o3 (P1 := (up H46_2 29 (x46_5_2 + 1) rc172)) hev hx9 he9 (by (clear hmb hkb hat hst gc172_rg; omega)) ((up_same).trans (by rw [hfd9, hr20, hr21])) (fun j hj => ((up_k hj).trans rfl)) (fun j => ((up_o (by decide)).trans rfl))
        refine g_iinc (l1 := [(5, vI (x46_5_2 + 1)), (8, vI (P 20 x46_7_2)), (0, vR 0), (4, vI x46_4_2), (6, vI ((4 * ((12 * (P 0 13)) + a1)) + a2)), (7, vI x46_7_2)]) dX12_isFitting_282 rfl (by decide) rfl ?_
        refine g_goto (tgt := 341) dX12_isFitting_285 (by decide) ?_
        refine g_iinc (l1 := [(7, vI (x46_7_2 + 1)), (5, vI (x46_5_2 + 1)), (8, vI (P 20 x46_7_2)), (0, vR 0), (4, vI x46_4_2), (6, vI ((4 * ((12 * (P 0 13)) + a1)) + a2))]) dX12_isFitting_341 rfl (by decide) rfl ?_
        refine g_goto (tgt := 46) dX12_isFitting_344 (by decide) ?_
        refine g_forget (l1 := [(0, vR 0), (4, vI x46_4_2), (5, vI (x46_5_2 + 1)), (6, vI ((4 * ((12 * (P 0 13)) + a1)) + a2)), (7, vI (x46_7_2 + 1))]) (by intro q hq; simp only [List.mem_cons, List.not_mem_nil, or_false] at hq ⊢; rcases hq with rfl | rfl | rfl | rfl | rfl <;> simp) ?_
        exact ih46_2 (x46_7_2 + 1) ⟨by (clear hmb hkb hat hst gc172_rg; omega), by (clear hmb hkb hat hst gc172_rg; omega)⟩ (x46_5_2 + 1) ⟨by (clear hmb hkb hat hst gc172_rg; omega), by (omega)⟩ x46_4_2 ⟨by (clear hmb hkb hat hst gc172_rg; omega), by (clear hmb hkb hat hst gc172_rg; omega)⟩ _ hB174 (FrM.a (FrM.c FrM.rf hE46_2 rfl) rfl rfl) (by first | (clear hmb hkb hat hst gc172_rg; omega) | (rw [show (x46_7_2 + 1) = f9 by (first | (clear hmb hkb hat hst gc172_rg; omega) | (clear hmb hkb hat hst; omega) | (clear hmb hkb hat gc172_rg; omega) | (clear hmb hkb hst gc172_rg; omega) | (clear hmb hat hst gc172_rg; omega) | (clear hkb hat hst gc172_rg; omega) | (clear hmb hkb hat; omega) | (clear hmb; omega) | omega)]; exact hN_0)) (by first | (clear hmb hkb hat hst gc172_rg; omega) | (rw [show (x46_7_2 + 1) = f9 by (first | (clear hmb hkb hat hst gc172_rg; omega) | (clear hmb hkb hat hst; omega) | (clear hmb hkb hat gc172_rg; omega) | (clear hmb hkb hst gc172_rg; omega) | (clear hmb hat hst gc172_rg; omega) | (clear hkb hat hst gc172_rg; omega) | (clear hmb hkb hat; omega) | (clear hmb; omega) | omega)]; exact hD_0)) (by (clear hmb hkb hat hst gc172_rg; omega)) (by first | exact EVx.cg hev8 (by (clear hmb hkb hat hst gc172_rg; omega)) (by (clear hmb hkb hat hst gc172_rg; omega)) (by (clear hmb hkb hat hst gc172_rg; omega)) | exact EVx.cg (EVx.start rfl) (by (first | (clear hmb hkb hat hst gc172_rg; omega) | (clear hmb hkb hat hst; omega) | (clear hmb hkb hat gc172_rg; omega) | (clear hmb hkb hst gc172_rg; omega) | (clear hmb hat hst gc172_rg; omega) | (clear hkb hat hst gc172_rg; omega) | (clear hmb hkb hat; omega) | (clear hmb; omega) | omega)) rfl rfl | exact EVx.cg (EVx.o6l (P1 := (up H46_2 29 (x46_5_2 + 1) rc172)) (EVx.cg hev rfl (show _ = x46_4_2 + 1 by (first | (clear hmb hkb hat hst gc172_rg; omega) | (clear hmb hkb hat hst; omega) | (clear hmb hkb hat gc172_rg; omega) | (clear hmb hkb hst gc172_rg; omega) | (clear hmb hat hst gc172_rg; omega) | (clear hkb hat hst gc172_rg; omega) | (clear hmb hkb hat; omega) | (clear hmb; omega) | omega)) rfl) hx9 he9 (by (first | (clear hmb hkb hat hst gc172_rg; omega) | (clear hmb hkb hat hst; omega) | (clear hmb hkb hat gc172_rg; omega) | (clear hmb hkb hst gc172_rg; omega) | (clear hmb hat hst gc172_rg; omega) | (clear hkb hat hst gc172_rg; omega) | (clear hmb hkb hat; omega) | (clear hmb; omega) | omega)) ((((up_o (by decide)).trans rfl)).trans hio9) (fun j hj => ((up_o (by decide)).trans rfl)) (fun j => ((up_k hj).trans rfl))) (by (first | (clear hmb hkb hat hst gc172_rg; omega) | (clear hmb hkb hat hst; omega) | (clear hmb hkb hat gc172_rg; omega) | (clear hmb hkb hst gc172_rg; omega) | (clear hmb hat hst gc172_rg; omega) | (clear hkb hat hst gc172_rg; omega) | (clear hmb hkb hat; omega) | (clear hmb; omega) | omega)) (by (first | (clear hmb hkb hat hst gc172_rg; omega) | (clear hmb hkb hat hst; omega) | (clear hmb hkb hat gc172_rg; omega) | (clear hmb hkb hst gc172_rg; omega) | (clear hmb hat hst gc172_rg; omega) | (clear hkb hat hst gc172_rg; omega) | (clear hmb hkb hat; omega) | (clear hmb; omega) | omega)) (by (first | (clear hmb hkb hat hst gc172_rg; omega) | (clear hmb hkb hat hst; omega) | (clear hmb hkb hat gc172_rg; omega) | (clear hmb hkb hst gc172_rg; omega) | (clear hmb hat hst gc172_rg; omega) | (clear hkb hat hst gc172_rg; omega) | (clear hmb hkb hat; omega) | (clear hmb; omega) | omega))) (by first | (clear hmb hkb hat hst gc172_rg; omega) | (have q := hcd9.1; (first | (clear hmb hkb hat hst gc172_rg; omega) | (clear hmb hkb hat hst; omega) | (clear hmb hkb hat gc172_rg; omega) | (clear hmb hkb hst gc172_rg; omega) | (clear hmb hat hst gc172_rg; omega) | (clear hkb hat hst gc172_rg; omega) | (clear hmb hkb hat; omega) | (clear hmb; omega) | omega))) (by (clear hmb hkb hat hst gc172_rg; omega))
      by_cases k175 : (P 19 x46_7_2) = 4
      · have r_hst := ((hst.resolve_left (by (clear hmb hkb hat hst; omega))).resolve_right (by (clear hmb hkb hat hst; omega)))
        refine g_tswI (tgt := 288) 4 dX12_isFitting_83 ⟨by have q0 := bl_19 (k := x46_7_2) hB; (clear hmb hkb hat hst; omega), by have q0 := bl_19 (k := x46_7_2) hB; (clear hmb hkb hat hst; omega)⟩ (by (clear hmb hkb hat hst; omega)) (by (clear hmb hkb hat hst; omega)) rfl (by decide) ?_
        have he9 : x9.1 = 4 := by (clear hmb hkb hat hst; omega)
        have hev8 := EVx.o4 hev hx9 he9 (by (clear hmb hkb hat hst; omega))
        refine g_iinc (l1 := [(5, vI (x46_5_2 + (-1))), (8, vI (P 20 x46_7_2)), (0, vR 0), (4, vI x46_4_2), (6, vI ((4 * ((12 * (P 0 13)) + a1)) + a2)), (7, vI x46_7_2)]) dX12_isFitting_288 rfl (by decide) rfl ?_
        refine g_goto (tgt := 341) dX12_isFitting_291 (by decide) ?_
        refine g_iinc (l1 := [(7, vI (x46_7_2 + 1)), (5, vI (x46_5_2 + (-1))), (8, vI (P 20 x46_7_2)), (0, vR 0), (4, vI x46_4_2), (6, vI ((4 * ((12 * (P 0 13)) + a1)) + a2))]) dX12_isFitting_341 rfl (by decide) rfl ?_
        refine g_goto (tgt := 46) dX12_isFitting_344 (by decide) ?_
        refine g_forget (l1 := [(0, vR 0), (4, vI x46_4_2), (5, vI (x46_5_2 + (-1))), (6, vI ((4 * ((12 * (P 0 13)) + a1)) + a2)), (7, vI (x46_7_2 + 1))]) (by intro q hq; simp only [List.mem_cons, List.not_mem_nil, or_false] at hq ⊢; rcases hq with rfl | rfl | rfl | rfl | rfl <;> simp) ?_
        exact ih46_2 (x46_7_2 + 1) ⟨by (clear hmb hkb hat hst; omega), by (clear hmb hkb hat hst; omega)⟩ (x46_5_2 + (-1)) ⟨by (omega), by (clear hmb hkb hat hst; omega)⟩ x46_4_2 ⟨by (clear hmb hkb hat hst; omega), by (clear hmb hkb hat hst; omega)⟩ _ hB46_2 (FrM.c FrM.rf hE46_2 rfl) (by first | (clear hmb hkb hat hst; omega) | (rw [show (x46_7_2 + 1) = f9 by (first | (clear hmb hkb hat hst; omega) | (clear hmb hkb hat; omega) | (clear hmb hkb hst; omega) | (clear hmb hat hst; omega) | (clear hkb hat hst; omega) | (clear hmb hkb; omega) | omega)]; exact hN_0)) (by first | (clear hmb hkb hat hst; omega) | (rw [show (x46_7_2 + 1) = f9 by (first | (clear hmb hkb hat hst; omega) | (clear hmb hkb hat; omega) | (clear hmb hkb hst; omega) | (clear hmb hat hst; omega) | (clear hkb hat hst; omega) | (clear hmb hkb; omega) | omega)]; exact hD_0)) (by (clear hmb hkb hat hst; omega)) (by first | exact EVx.cg hev8 (by (clear hmb hkb hat hst; omega)) (by (clear hmb hkb hat hst; omega)) (by (clear hmb hkb hat hst; omega)) | exact EVx.cg (EVx.start rfl) (by (first | (clear hmb hkb hat hst; omega) | (clear hmb hkb hat; omega) | (clear hmb hkb hst; omega) | (clear hmb hat hst; omega) | (clear hkb hat hst; omega) | (clear hmb hkb; omega) | omega)) rfl rfl | exact EVx.cg (EVx.o6l (P1 := H46_2) (EVx.cg hev rfl (show _ = x46_4_2 + 1 by (first | (clear hmb hkb hat hst; omega) | (clear hmb hkb hat; omega) | (clear hmb hkb hst; omega) | (clear hmb hat hst; omega) | (clear hkb hat hst; omega) | (clear hmb hkb; omega) | omega)) rfl) hx9 he9 (by (first | (clear hmb hkb hat hst; omega) | (clear hmb hkb hat; omega) | (clear hmb hkb hst; omega) | (clear hmb hat hst; omega) | (clear hkb hat hst; omega) | (clear hmb hkb; omega) | omega)) ((rfl).trans hio9) (fun j hj => rfl) (fun j => rfl)) (by (first | (clear hmb hkb hat hst; omega) | (clear hmb hkb hat; omega) | (clear hmb hkb hst; omega) | (clear hmb hat hst; omega) | (clear hkb hat hst; omega) | (clear hmb hkb; omega) | omega)) (by (first | (clear hmb hkb hat hst; omega) | (clear hmb hkb hat; omega) | (clear hmb hkb hst; omega) | (clear hmb hat hst; omega) | (clear hkb hat hst; omega) | (clear hmb hkb; omega) | omega)) (by (first | (clear hmb hkb hat hst; omega) | (clear hmb hkb hat; omega) | (clear hmb hkb hst; omega) | (clear hmb hat hst; omega) | (clear hkb hat hst; omega) | (clear hmb hkb; omega) | omega))) (by first | (clear hmb hkb hat hst; omega) | (have q := hcd9.1; (first | (clear hmb hkb hat hst; omega) | (clear hmb hkb hat; omega) | (clear hmb hkb hst; omega) | (clear hmb hat hst; omega) | (clear hkb hat hst; omega) | (clear hmb hkb; omega) | omega))) (by (clear hmb hkb hat hst; omega))
      by_cases k176 : (P 19 x46_7_2) = 5
      · have r_hst := (((hst.resolve_left (by (clear hmb hkb hat hst; omega))).resolve_left (by (clear hmb hkb hat hst; omega))).resolve_right (by (clear hmb hkb hat hst; omega)))
        refine g_tswI (tgt := 294) 5 dX12_isFitting_83 ⟨by have q0 := bl_19 (k := x46_7_2) hB; (clear hmb hkb hat hst; omega), by have q0 := bl_19 (k := x46_7_2) hB; (clear hmb hkb hat hst; omega)⟩ (by (clear hmb hkb hat hst; omega)) (by (clear hmb hkb hat hst; omega)) rfl (by decide) ?_
        have he9 : x9.1 = 5 := by (clear hmb hkb hat hst; omega)
        refine g_iinc (l1 := [(4, vI (x46_4_2 + (-1))), (8, vI (P 20 x46_7_2)), (0, vR 0), (5, vI x46_5_2), (6, vI ((4 * ((12 * (P 0 13)) + a1)) + a2)), (7, vI x46_7_2)]) dX12_isFitting_294 rfl (by decide) rfl ?_
        refine g_aload_n dX12_isFitting_297 rfl ?_
        refine m_g47 rfl dX12_isFitting_298 ?_
        refine g_iload dX12_isFitting_301 rfl ?_
        refine g_iconst dX12_isFitting_303 ?_
        refine g_isub dX12_isFitting_304 ?_
        refine g_dup2 dX12_isFitting_305 rfl rfl ?_
        refine m_l30 (z := (H46_2 30 ((x46_4_2 + (-1)) - 1))) dX12_isFitting_306 ⟨by (omega), by (clear hmb hkb hat hst; omega)⟩ rfl ?_
        refine g_aload_n dX12_isFitting_307 rfl ?_
        refine m_g47 rfl dX12_isFitting_308 ?_
        refine g_iload dX12_isFitting_311 rfl ?_
        refine m_l30 (z := (H46_2 30 (x46_4_2 + (-1)))) dX12_isFitting_313 ⟨by (omega), by (clear hmb hkb hat hst; omega)⟩ rfl ?_
        refine g_iand dX12_isFitting_314 ?_
        refine g_nm (fun b177 e_b177 => ?_)
        have h_b177 := iand_l (x := (H46_2 30 ((x46_4_2 + (-1)) - 1))) (y := (H46_2 30 (x46_4_2 + (-1)))) ⟨by have q0 := bl_30 (k := ((x46_4_2 + (-1)) - 1)) hB46_2; (clear hmb hkb hat hst; omega), by have q0 := bl_30 (k := ((x46_4_2 + (-1)) - 1)) hB46_2; (clear hmb hkb hat hst; omega)⟩
        rw [← e_b177] at h_b177
        have f_b177_0 := bl_30 (k := ((x46_4_2 + (-1)) - 1)) hB46_2
        have hia9 : b177 = iand (H46_2 30 ((x46_4_2 + (-1)) - 1)) (H46_2 30 (x46_4_2 + (-1))) := e_b177
        refine m_s30 dX12_isFitting_315 ⟨by (omega), by (clear hmb hkb hat hst; omega)⟩ ?_
        have hB178 := ba_30 (z := b177) (k := ((x46_4_2 + (-1)) - 1)) hB46_2 ⟨by (clear hmb hkb hat hst; omega), by (clear hmb hkb hat hst; omega)⟩
        have hev8 := EVx.o5l (P1 := (up H46_2 30 ((x46_4_2 + (-1)) - 1) b177)) (EVx.cg hev rfl (show _ = (x46_4_2 + (-1)) + 1 by (clear hmb hkb hat hst; omega)) rfl) hx9 he9 (by (clear hmb hkb hst; omega)) ((up_same).trans hia9) (fun j hj => ((up_k hj).trans rfl)) (fun j => ((up_o (by decide)).trans rfl))
        refine g_goto (tgt := 341) dX12_isFitting_316 (by decide) ?_
        refine g_iinc (l1 := [(7, vI (x46_7_2 + 1)), (4, vI (x46_4_2 + (-1))), (8, vI (P 20 x46_7_2)), (0, vR 0), (5, vI x46_5_2), (6, vI ((4 * ((12 * (P 0 13)) + a1)) + a2))]) dX12_isFitting_341 rfl (by decide) rfl ?_
        refine g_goto (tgt := 46) dX12_isFitting_344 (by decide) ?_
        refine g_forget (l1 := [(0, vR 0), (4, vI (x46_4_2 + (-1))), (5, vI x46_5_2), (6, vI ((4 * ((12 * (P 0 13)) + a1)) + a2)), (7, vI (x46_7_2 + 1))]) (by intro q hq; simp only [List.mem_cons, List.not_mem_nil, or_false] at hq ⊢; rcases hq with rfl | rfl | rfl | rfl | rfl <;> simp) ?_
        exact ih46_2 (x46_7_2 + 1) ⟨by (clear hmb hkb hat hst; omega), by (clear hmb hkb hat hst; omega)⟩ x46_5_2 ⟨by (clear hmb hkb hat hst; omega), by (clear hmb hkb hat hst; omega)⟩ (x46_4_2 + (-1)) ⟨by (omega), by (clear hmb hkb hat hst; omega)⟩ _ hB178 (FrM.a (FrM.c FrM.rf hE46_2 rfl) rfl rfl) (by first | (clear hmb hkb hat hst; omega) | (rw [show (x46_7_2 + 1) = f9 by (first | (clear hmb hkb hat hst; omega) | (clear hmb hkb hat; omega) | (clear hmb hkb hst; omega) | (clear hmb hat hst; omega) | (clear hkb hat hst; omega) | (clear hmb hkb; omega) | omega)]; exact hN_0)) (by first | (clear hmb hkb hat hst; omega) | (rw [show (x46_7_2 + 1) = f9 by (first | (clear hmb hkb hat hst; omega) | (clear hmb hkb hat; omega) | (clear hmb hkb hst; omega) | (clear hmb hat hst; omega) | (clear hkb hat hst; omega) | (clear hmb hkb; omega) | omega)]; exact hD_0)) (by (clear hmb hkb hat hst; omega)) (by first | exact EVx.cg hev8 (by (clear hmb hkb hat hst; omega)) (by (clear hmb hkb hat hst; omega)) (by (clear hmb hkb hat hst; omega)) | exact EVx.cg (EVx.start ((up_o (by decide)).trans rfl)) (by (first | (clear hmb hkb hat hst; omega) | (clear hmb hkb hat; omega) | (clear hmb hkb hst; omega) | (clear hmb hat hst; omega) | (clear hkb hat hst; omega) | (clear hmb hkb; omega) | omega)) rfl rfl | exact EVx.cg (EVx.o6l (P1 := (up H46_2 30 ((x46_4_2 + (-1)) - 1) b177)) (EVx.cg hev rfl (show _ = (x46_4_2 + (-1)) + 1 by (first | (clear hmb hkb hat hst; omega) | (clear hmb hkb hat; omega) | (clear hmb hkb hst; omega) | (clear hmb hat hst; omega) | (clear hkb hat hst; omega) | (clear hmb hkb; omega) | omega)) rfl) hx9 he9 (by (first | (clear hmb hkb hat hst; omega) | (clear hmb hkb hat; omega) | (clear hmb hkb hst; omega) | (clear hmb hat hst; omega) | (clear hkb hat hst; omega) | (clear hmb hkb; omega) | omega)) ((up_same).trans hio9) (fun j hj => ((up_k hj).trans rfl)) (fun j => ((up_o (by decide)).trans rfl))) (by (first | (clear hmb hkb hat hst; omega) | (clear hmb hkb hat; omega) | (clear hmb hkb hst; omega) | (clear hmb hat hst; omega) | (clear hkb hat hst; omega) | (clear hmb hkb; omega) | omega)) (by (first | (clear hmb hkb hat hst; omega) | (clear hmb hkb hat; omega) | (clear hmb hkb hst; omega) | (clear hmb hat hst; omega) | (clear hkb hat hst; omega) | (clear hmb hkb; omega) | omega)) (by (first | (clear hmb hkb hat hst; omega) | (clear hmb hkb hat; omega) | (clear hmb hkb hst; omega) | (clear hmb hat hst; omega) | (clear hkb hat hst; omega) | (clear hmb hkb; omega) | omega))) (by first | (clear hmb hkb hat hst; omega) | (have q := hcd9.1; (first | (clear hmb hkb hat hst; omega) | (clear hmb hkb hat; omega) | (clear hmb hkb hst; omega) | (clear hmb hat hst; omega) | (clear hkb hat hst; omega) | (clear hmb hkb; omega) | omega))) (by (clear hmb hkb hat hst; omega))
      refine g_tswO (tgt := 319) dX12_isFitting_83 ⟨by have q0 := bl_19 (k := x46_7_2) hB; (clear hmb hkb hat hst; omega), by have q0 := bl_19 (k := x46_7_2) hB; (clear hmb hkb hat hst; omega)⟩ (by (clear hmb hkb hat hst; omega)) (by decide) ?_
      have he9 : 6 ≤ x9.1 := by (clear hmb hkb hat hst; omega)
      refine g_iinc (l1 := [(4, vI (x46_4_2 + (-1))), (8, vI (P 20 x46_7_2)), (0, vR 0), (5, vI x46_5_2), (6, vI ((4 * ((12 * (P 0 13)) + a1)) + a2)), (7, vI x46_7_2)]) dX12_isFitting_319 rfl (by decide) rfl ?_
      refine g_aload_n dX12_isFitting_322 rfl ?_
      refine m_g47 rfl dX12_isFitting_323 ?_
      refine g_iload dX12_isFitting_326 rfl ?_
      refine g_iconst dX12_isFitting_328 ?_
      refine g_isub dX12_isFitting_329 ?_
      refine g_dup2 dX12_isFitting_330 rfl rfl ?_
      refine m_l30 (z := (H46_2 30 ((x46_4_2 + (-1)) - 1))) dX12_isFitting_331 ⟨by (omega), by (clear hmb hkb hat hst; omega)⟩ rfl ?_
      refine g_aload_n dX12_isFitting_332 rfl ?_
      refine m_g47 rfl dX12_isFitting_333 ?_
      refine g_iload dX12_isFitting_336 rfl ?_
      refine m_l30 (z := (H46_2 30 (x46_4_2 + (-1)))) dX12_isFitting_338 ⟨by (omega), by (clear hmb hkb hat hst; omega)⟩ rfl ?_
      refine g_ior dX12_isFitting_339 ?_
      refine g_nm (fun b179 e_b179 => ?_)
      have h_b179 : 0 ≤ (ior (H46_2 30 ((x46_4_2 + (-1)) - 1)) (H46_2 30 (x46_4_2 + (-1)))) ∧ (ior (H46_2 30 ((x46_4_2 + (-1)) - 1)) (H46_2 30 (x46_4_2 + (-1)))) < 2 := ior_b 1 (by decide) (x := (H46_2 30 ((x46_4_2 + (-1)) - 1))) (y := (H46_2 30 (x46_4_2 + (-1)))) (show 0 ≤ (H46_2 30 ((x46_4_2 + (-1)) - 1)) ∧ (H46_2 30 ((x46_4_2 + (-1)) - 1)) < 2 from ⟨by have q0 := bl_30 (k := ((x46_4_2 + (-1)) - 1)) hB46_2; (clear hmb hkb hat hst; omega), by have q0 := bl_30 (k := ((x46_4_2 + (-1)) - 1)) hB46_2; (clear hmb hkb hat hst; omega)⟩) (show 0 ≤ (H46_2 30 (x46_4_2 + (-1))) ∧ (H46_2 30 (x46_4_2 + (-1))) < 2 from ⟨by have q0 := bl_30 (k := (x46_4_2 + (-1))) hB46_2; (clear hmb hkb hat hst; omega), by have q0 := bl_30 (k := (x46_4_2 + (-1))) hB46_2; (clear hmb hkb hat hst; omega)⟩)
      rw [← e_b179] at h_b179
      have hio9 : b179 = ior (H46_2 30 ((x46_4_2 + (-1)) - 1)) (H46_2 30 (x46_4_2 + (-1))) := e_b179
      refine m_s30 dX12_isFitting_340 ⟨by (omega), by (clear hmb hkb hat hst; omega)⟩ ?_
      have hB180 := ba_30 (z := b179) (k := ((x46_4_2 + (-1)) - 1)) hB46_2 ⟨by (clear hmb hkb hat hst; omega), by (clear hmb hkb hat hst; omega)⟩
      refine g_iinc (l1 := [(7, vI (x46_7_2 + 1)), (4, vI (x46_4_2 + (-1))), (8, vI (P 20 x46_7_2)), (0, vR 0), (5, vI x46_5_2), (6, vI ((4 * ((12 * (P 0 13)) + a1)) + a2))]) dX12_isFitting_341 rfl (by decide) rfl ?_
      refine g_goto (tgt := 46) dX12_isFitting_344 (by decide) ?_
      refine g_forget (l1 := [(0, vR 0), (4, vI (x46_4_2 + (-1))), (5, vI x46_5_2), (6, vI ((4 * ((12 * (P 0 13)) + a1)) + a2)), (7, vI (x46_7_2 + 1))]) (by intro q hq; simp only [List.mem_cons, List.not_mem_nil, or_false] at hq ⊢; rcases hq with rfl | rfl | rfl | rfl | rfl <;> simp) ?_
      exact ih46_2 (x46_7_2 + 1) ⟨by (clear hmb hkb hat hst; omega), by (clear hmb hkb hat hst; omega)⟩ x46_5_2 ⟨by (clear hmb hkb hat hst; omega), by (clear hmb hkb hat hst; omega)⟩ (x46_4_2 + (-1)) ⟨by (omega), by (clear hmb hkb hat hst; omega)⟩ _ hB180 (FrM.a (FrM.c FrM.rf hE46_2 rfl) rfl rfl) (by first | (clear hmb hkb hat; omega) | (rw [show (x46_7_2 + 1) = f9 by (first | (clear hmb hkb hat hst; omega) | (clear hmb hkb hat; omega) | (clear hmb hkb hst; omega) | (clear hmb hat hst; omega) | (clear hkb hat hst; omega) | (clear hmb hkb; omega) | omega)]; exact hN_0)) (by first | (clear hmb hkb hat; omega) | (rw [show (x46_7_2 + 1) = f9 by (first | (clear hmb hkb hat hst; omega) | (clear hmb hkb hat; omega) | (clear hmb hkb hst; omega) | (clear hmb hat hst; omega) | (clear hkb hat hst; omega) | (clear hmb hkb; omega) | omega)]; exact hD_0)) (by (clear hmb hkb hat hst; omega)) (by first | exact EVx.cg hev8 (by (first | (clear hmb hkb hat hst; omega) | (clear hmb hkb hat; omega) | (clear hmb hkb hst; omega) | (clear hmb hat hst; omega) | (clear hkb hat hst; omega) | (clear hmb hkb; omega) | omega)) (by (first | (clear hmb hkb hat hst; omega) | (clear hmb hkb hat; omega) | (clear hmb hkb hst; omega) | (clear hmb hat hst; omega) | (clear hkb hat hst; omega) | (clear hmb hkb; omega) | omega)) (by (first | (clear hmb hkb hat hst; omega) | (clear hmb hkb hat; omega) | (clear hmb hkb hst; omega) | (clear hmb hat hst; omega) | (clear hkb hat hst; omega) | (clear hmb hkb; omega) | omega)) | exact EVx.cg (EVx.start ((up_o (by decide)).trans rfl)) (by (first | (clear hmb hkb hat hst; omega) | (clear hmb hkb hat; omega) | (clear hmb hkb hst; omega) | (clear hmb hat hst; omega) | (clear hkb hat hst; omega) | (clear hmb hkb; omega) | omega)) rfl rfl | exact EVx.cg (EVx.o6l (P1 := (up H46_2 30 ((x46_4_2 + (-1)) - 1) b179)) (EVx.cg hev rfl (show _ = (x46_4_2 + (-1)) + 1 by (clear hmb hkb hat hst; omega)) rfl) hx9 he9 (by (clear hmb hkb hst; omega)) ((up_same).trans hio9) (fun j hj => ((up_k hj).trans rfl)) (fun j => ((up_o (by decide)).trans rfl))) (by (clear hmb hkb hat hst; omega)) (by (clear hmb hkb hat hst; omega)) (by (clear hmb hkb hat hst; omega))) (by first | (clear hmb hkb hat hst; omega) | (have q := hcd9.1; (first | (clear hmb hkb hat hst; omega) | (clear hmb hkb hat; omega) | (clear hmb hkb hst; omega) | (clear hmb hat hst; omega) | (clear hkb hat hst; omega) | (clear hmb hkb; omega) | omega))) (by (clear hmb hkb hat hst; omega))
  refine g_forget (l1 := [(0, vR 0), (4, vI 0), (5, vI 0), (6, vI ((4 * ((12 * (P 0 13)) + a1)) + a2)), (7, vI v2)]) (by intro q hq; simp only [List.mem_cons, List.not_mem_nil, or_false] at hq ⊢; rcases hq with rfl | rfl | rfl | rfl | rfl <;> simp) ?_
  exact L46_2 _ v2 ⟨by (clear hmb hkb; omega), by (clear hmb hkb; omega)⟩ 0 (by decide) 0 (by decide) _ hB1 FrM.rf (by first | (first | (clear hmb hkb; omega) | (clear hmb; omega) | (clear hkb; omega) | omega) | (rw [show v2 = f9 by (clear hmb hkb; omega)]; exact hN_0)) (by first | (first | (clear hmb hkb; omega) | (clear hmb; omega) | (clear hkb; omega) | omega) | (rw [show v2 = f9 by (clear hmb hkb; omega)]; exact hD_0)) (by (clear hmb hkb; omega)) (by first | exact EVx.cg hev8 (by (first | (clear hmb hkb; omega) | (clear hmb; omega) | (clear hkb; omega) | omega)) (by (first | (clear hmb hkb; omega) | (clear hmb; omega) | (clear hkb; omega) | omega)) (by (first | (clear hmb hkb; omega) | (clear hmb; omega) | (clear hkb; omega) | omega)) | exact EVx.cg (EVx.start up_same) (by (clear hmb hkb; omega)) rfl rfl | exact EVx.cg (EVx.o6l (P1 := (up P 29 0 a3)) (EVx.cg hev rfl (show _ = 0 + 1 by (first | (clear hmb hkb; omega) | (clear hmb; omega) | (clear hkb; omega) | omega)) rfl) hx9 he9 (by (first | (clear hmb hkb; omega) | (clear hmb; omega) | (clear hkb; omega) | omega)) ((((up_o (by decide)).trans rfl)).trans hio9) (fun j hj => ((up_o (by decide)).trans rfl)) (fun j => ((up_k hj).trans rfl))) (by (first | (clear hmb hkb; omega) | (clear hmb; omega) | (clear hkb; omega) | omega)) (by (first | (clear hmb hkb; omega) | (clear hmb; omega) | (clear hkb; omega) | omega)) (by (first | (clear hmb hkb; omega) | (clear hmb; omega) | (clear hkb; omega) | omega))) (by first | (clear hmb hkb; omega) | (have q := hcd9.1; (first | (clear hmb hkb; omega) | (clear hmb; omega) | (clear hkb; omega) | omega))) (Nat.lt_succ_self _)
/-! What the reference answers: X12_isMoreOf. -/
set_option maxRecDepth 100000 in
set_option maxHeartbeats 4000000 in
theorem f_X12_isMoreOf (G : GT) (P : PH) (T : TT) (K : PH) (s : SV) (k0 : Int) (k : Int) (p : Int) (a1 : Int) (h_a1 : (-2147483648) ≤ a1 ∧ a1 ≤ 2147483647) (hB : BdM P) (p_lx : (P 0 3 = 0 ∨ P 0 4 + 1 ≤ P 0 5) ∧ P 0 4 ≤ P 0 5) (p_sr : SR P) (p_aw : AW K) (p_ab : AB K) (p_k3 : k0 ≤ 3) (p_go : 0 < P 0 8 ∨ (MS T p P ∧ STW s P ∧ TSV K k0 s k ∧ 0 ≤ a1 ∧ a1 < sz K k)) (v_CF : CF P) (v_FP : FP P) (z0 : MT T P) (z1 : MKB K P) (Q : Option PV → PH → Prop) (hQ : ∀ (r : Int) (_ : 0 ≤ r ∧ r ≤ 1) (P1 : PH) (_ : BdM P1) (_ : FrM ([3, 4, 5, 6, 7, 8, 9, 12, 43], [24, 25, 27]) P P1) (_ : (P1 0 3 = 0 ∨ P1 0 4 + 1 ≤ P1 0 5) ∧ P1 0 4 ≤ P1 0 5) (_ : P 0 4 ≤ P1 0 4) (_ : P 0 8 ≤ 0 ∨ 0 < P1 0 8) (_ : (r = 1 ∧ SR P1) ∨ r = 0) (_ : (0 < P 0 8 ∧ P1 0 8 = P 0 8 ∧ P1 0 9 = P 0 9) ∨ (P 0 8 ≤ 0 ∧ VN T K k0 s p a1 r P1)) (_ : FP P1), Q (some (vI r)) P1) : Ct WSM G 4 iX12_isMoreOf [vR 0, vI a1] P Q := by
  refine Ct.of (by decide) (l0 := [(0, vR 0), (1, vI a1)]) rfl (Nat.le_of_ble_eq_true rfl) ?_
  have ivI_SR : SR P := p_sr
  refine g_iload_n dX12_isMoreOf_0 rfl ?_
  refine g_istore_n (l1 := [(2, vI a1), (0, vR 0), (1, vI a1)]) dX12_isMoreOf_1 (by decide) rfl ?_
  have L2_0 : ∀ (n2_0 : Nat) (x2_2_0 : Int) (h_x2_2_0 : (-2147483648) ≤ x2_2_0 ∧ x2_2_0 ≤ 2147483647) (H2_0 : PH) (hB2_0 : BdM H2_0) (hE2_0 : FrM ([3, 4, 5, 6, 7, 8, 9, 12, 43], [25]) P H2_0) (i2_0_0 : (0 < P 0 8 ∧ H2_0 0 8 = P 0 8 ∧ H2_0 0 9 = P 0 9) ∨ (P 0 8 ≤ 0 ∧ VG T K k0 s p a1 x2_2_0 H2_0)) (i2_1_0 : P 0 8 ≤ 0 ∨ 0 < H2_0 0 8) (i2_2_0 : P 0 4 ≤ H2_0 0 4) (i2_3_0 : (H2_0 0 3 = 0 ∨ H2_0 0 4 + 1 ≤ H2_0 0 5) ∧ H2_0 0 4 ≤ H2_0 0 5) (w2_SR_0 : SR H2_0) (w2_FP_0 : FP H2_0) (hm2_0 : (H2_0 0 43 : Int).toNat < n2_0), Go WSM G 4 iX12_isMoreOf 2 [(0, vR 0), (2, vI x2_2_0)] [] H2_0 Q := by
    intro n2_0
    induction n2_0 with
    | zero => intro x2_2_0 h_x2_2_0 H2_0 hB2_0 hE2_0 i2_0_0 i2_1_0 i2_2_0 i2_3_0 w2_SR_0 w2_FP_0 hm2_0; exact absurd hm2_0 (Nat.not_lt_zero _)
    | succ n2_0 ih2_0 =>
    intro x2_2_0 h_x2_2_0 H2_0 hB2_0 hE2_0 i2_0_0 i2_1_0 i2_2_0 i2_3_0 w2_SR_0 w2_FP_0 hm2_0
    refine g_aload_n dX12_isMoreOf_2 rfl ?_
    refine m_g8 (z := (H2_0 0 8)) rfl dX12_isMoreOf_3 rfl ?_
    have f134 := b0_8 hB2_0
    refine g_if_ne (tgt := 181) dX12_isMoreOf_6 (by decide) ⟨by have q0 := b0_8 hB2_0; (clear p_lx p_go i2_0_0 i2_1_0 i2_3_0; omega), by have q0 := b0_8 hB2_0; (clear p_lx p_go i2_0_0 i2_1_0 i2_3_0; omega)⟩ (fun k135 => ?_) (fun k135 => ?_)
    · have k135n : 1 ≤ (H2_0 0 8) := by have q0 := b0_8 hB2_0; (clear p_lx p_go i2_0_0 i2_1_0 i2_3_0; omega)
      clear k135
      skip
      skip
      skip
      refine g_iconst dX12_isMoreOf_181 ?_
      exact g_retZ dX12_isMoreOf_182 rfl (by decide) (hQ 0 (by decide) _ hB2_0 (FrM.c FrM.rf hE2_0 rfl) (by have q0 := b0_3 hB2_0; have q1 := b0_4 hB2_0; have q2 := b0_5 hB2_0; (clear p_lx p_go i2_0_0 i2_1_0; omega)) (by have q0 := b0_4 hB2_0; (clear p_lx p_go i2_0_0 i2_1_0 i2_3_0; omega)) (by have q0 := b0_8 hB2_0; (clear p_lx p_go i2_0_0 i2_1_0 i2_3_0; omega)) (by first | exact Or.inl ⟨rfl, w2_SR_0⟩ | exact Or.inr rfl) ((i2_0_0).elim Or.inl (fun h => Or.inr ⟨h.1, h.2.flt (by (clear p_lx p_go i2_0_0 i2_1_0 i2_3_0; omega))⟩)) w2_FP_0)
    · have r_i2_1_0 := (i2_1_0.resolve_right (by (clear p_lx p_go i2_0_0 i2_1_0 i2_3_0; omega)))
      have r_i2_0_0 := (i2_0_0.resolve_left (by (clear p_lx p_go i2_0_0 i2_1_0 i2_3_0; omega)))
      have r_p_go := (p_go.resolve_left (by (clear p_lx p_go i2_0_0 i2_1_0 i2_3_0; omega)))
      obtain ⟨z, hz⟩ : ∃ z, z = (H2_0 0 43) := ⟨_, rfl⟩
      have hsr := w2_SR_0
      have hz43 := (rfl : H2_0 0 43 = (H2_0 0 43))
      have k13 : (13 : Int) ≠ 43 := by decide
      have hz13 := (((hE2_0.1 13 rfl).trans rfl) : H2_0 0 13 = (P 0 13))
      have hsr1 := hsr.1
      have r6a : ∀ j, H2_0 6 j = P 6 j := fun j => ((congrFun (hE2_0.2 6 rfl rfl) _).trans rfl)
      have r7a : ∀ j, H2_0 7 j = P 7 j := fun j => ((congrFun (hE2_0.2 7 rfl rfl) _).trans rfl)
      have r26a : ∀ j, H2_0 26 j = P 26 j := fun j => ((congrFun (hE2_0.2 26 rfl rfl) _).trans rfl)
      have r27a : ∀ j, H2_0 27 j = P 27 j := fun j => ((congrFun (hE2_0.2 27 rfl rfl) _).trans rfl)
      obtain ⟨hp8, hvg⟩ := i2_0_0.resolve_left (fun h => by (clear p_lx p_go i2_0_0 i2_1_0 i2_3_0 k13; omega))
      obtain ⟨h80, s9, k9, q9, hS9, hW9, hT9, hv9, hR9⟩ := hvg.resolve_left (fun h => by (clear p_lx p_go i2_0_0 i2_1_0 i2_3_0 k13; omega))
      have hsb := hW9.1
      have hkb := z1.b
      obtain ⟨Z9, hZ9⟩ : ∃ Z : PH, H2_0 = Z := ⟨_, rfl⟩
      have hWZ : STW s9 Z9 := by rw [← hZ9]; exact hW9
      have hzZ : Z9 0 43 = z := by rw [← hZ9]; exact hz.symm
      have iv136 : MS T q9 H2_0 := hS9
      have iv137 : STW s9 H2_0 := hW9
      refine g_aload_n dX12_isMoreOf_9 rfl ?_
      refine g_dup dX12_isMoreOf_10 rfl ?_
      refine m_g43 (z := (H2_0 0 43)) rfl dX12_isMoreOf_11 rfl ?_
      refine g_iconst dX12_isMoreOf_14 ?_
      refine g_isub dX12_isMoreOf_15 ?_
      refine m_p43 rfl dX12_isMoreOf_16 ?_
      have hB138 := bs_43 (z := ((H2_0 0 43) - 1)) hB2_0 ⟨by have q0 := b0_43 hB2_0; (clear p_lx p_go i2_0_0 i2_1_0 i2_3_0 k13 hkb; omega), by have q0 := b0_43 hB2_0; (clear p_lx p_go i2_0_0 i2_1_0 i2_3_0 k13 hkb; omega)⟩
      refine g_aload_n dX12_isMoreOf_19 rfl ?_
      refine m_g43 (z := ((H2_0 0 43) - 1)) rfl dX12_isMoreOf_20 up_same ?_
      have f139 := b0_43 hB2_0
      refine g_if_ne (tgt := 35) dX12_isMoreOf_23 (by decide) ⟨by have q0 := b0_43 hB2_0; (clear p_lx p_go i2_0_0 i2_1_0 i2_3_0 k13 hkb; omega), by have q0 := b0_43 hB2_0; (clear p_lx p_go i2_0_0 i2_1_0 i2_3_0 k13 hkb; omega)⟩ (fun k140 => ?_) (fun k140 => ?_)
      · skip
        skip
        skip
        have hlv := hsr.2.2 (z - 1) (by (clear p_lx p_go i2_0_0 i2_1_0 i2_3_0 k13 hkb; omega)) (by (clear p_lx p_go i2_0_0 i2_1_0 i2_3_0 k13 hkb k140; omega))
        unfold levR at hlv
        simp only [hz13, r6a, r7a, r26a, r27a] at hlv
        obtain ⟨y9, s19, hs9⟩ := List.exists_cons_of_ne_nil (l := s9) (by intro e; rw [e] at hsb; have q : (([] : SV).length : Int) = 0 := rfl; rw [q] at hsb; have q2 := (up_same : (up H2_0 0 43 ((H2_0 0 43) - 1)) 0 43 = ((H2_0 0 43) - 1)); (clear p_lx p_go i2_0_0 i2_1_0 i2_3_0 k13 hkb hlv; omega))
        obtain ⟨c9, f9, a9⟩ := y9
        subst hs9
        have hc9 := (r26a _).symm.trans hW9.top.1
        have hf9 := (r27a _).symm.trans hW9.top.2.1
        have ht2 := hT9.2.1
        have ht3 := hT9.2.2.1
        have hw5 := p_aw.2.2.1 c9 ht2.1 ht2.2
        have hcc := z1.cc ht2.1 ht2.2
        have hk9b : -1 ≤ k9 ∧ k9 < K 0 0 := by have e := hT9.1; unfold fK at e; split at e <;> (clear p_lx p_go i2_0_0 i2_1_0 i2_3_0 k13 hkb k140 hlv hcc; omega)
        have hsz9 := sz_le p_aw hk9b
        have ha9b : 0 ≤ a9 ∧ a9 ≤ 2006 := by have q := hT9.2.2.2.1; have q2 := sz_le p_aw (k := K 7 c9) ⟨by (clear p_lx p_go i2_0_0 i2_1_0 i2_3_0 k13 hkb k140 hlv hcc; omega), by (clear p_lx p_go i2_0_0 i2_1_0 i2_3_0 k13 hkb k140 hlv hcc; omega)⟩; (clear p_lx p_go i2_0_0 i2_1_0 i2_3_0 k13 hkb k140 hlv hcc; omega)
        have iv141 : SR (up H2_0 0 43 ((H2_0 0 43) - 1)) := hsr.pop (z := z) (by (clear p_lx p_go i2_0_0 i2_1_0 i2_3_0 k13 hkb k140 hlv hcc; omega)) (by (clear p_lx p_go i2_0_0 i2_1_0 i2_3_0 k13 hkb hlv hcc; omega)) (by have q := (up_same : (up H2_0 0 43 ((H2_0 0 43) - 1)) 0 43 = ((H2_0 0 43) - 1)); (clear p_lx p_go i2_0_0 i2_1_0 i2_3_0 k13 hkb k140 hlv hcc; omega)) ((up_k k13).trans rfl) (fun j => ((up_o (by decide)).trans rfl)) (fun j => ((up_o (by decide)).trans rfl)) (fun j => ((up_o (by decide)).trans rfl)) (fun j => ((up_o (by decide)).trans rfl)) (fun j => ((up_o (by decide)).trans rfl))
        refine g_bipush dX12_isMoreOf_35 (by decide) ?_
        refine g_aload_n dX12_isMoreOf_37 rfl ?_
        refine m_g13 (z := (P 0 13)) rfl dX12_isMoreOf_38 ((up_k (by decide)).trans ((hE2_0.1 13 rfl).trans rfl)) ?_
        refine g_imul dX12_isMoreOf_41 ?_
        refine g_aload_n dX12_isMoreOf_42 rfl ?_
        refine m_g41 rfl dX12_isMoreOf_43 ?_
        refine g_aload_n dX12_isMoreOf_46 rfl ?_
        refine m_g43 (z := ((H2_0 0 43) - 1)) rfl dX12_isMoreOf_47 up_same ?_
        refine m_l26 (z := (P 26 ((H2_0 0 43) - 1))) dX12_isMoreOf_50 ⟨by have q0 := b0_43 hB2_0; (clear p_lx p_go i2_0_0 i2_1_0 i2_3_0 k13 hkb k140 hlv hcc; omega), by have q0 := b0_43 hB2_0; (clear p_lx p_go i2_0_0 i2_1_0 i2_3_0 k13 hkb k140 hlv hcc; omega)⟩ ((up_o (by decide)).trans ((congrFun (hE2_0.2 26 rfl rfl) _).trans rfl)) ?_
        refine g_iadd dX12_isMoreOf_51 ?_
        have h26v : ((24 * (P 0 13)) + (P 26 ((H2_0 0 43) - 1))) = 24 * P 0 13 + P 26 (z - 1) := by rw [hz]
        refine g_istore_n (l1 := [(3, vI ((24 * (P 0 13)) + (P 26 ((H2_0 0 43) - 1)))), (0, vR 0), (2, vI x2_2_0)]) dX12_isMoreOf_52 (by decide) rfl ?_
        refine g_aload_n dX12_isMoreOf_53 rfl ?_
        refine m_g42 rfl dX12_isMoreOf_54 ?_
        refine g_aload_n dX12_isMoreOf_57 rfl ?_
        refine m_g43 (z := ((H2_0 0 43) - 1)) rfl dX12_isMoreOf_58 up_same ?_
        refine m_l27 (z := (P 27 ((H2_0 0 43) - 1))) dX12_isMoreOf_61 ⟨by have q0 := b0_43 hB2_0; (clear p_lx p_go i2_0_0 i2_1_0 i2_3_0 k13 hkb k140 hlv hcc; omega), by have q0 := b0_43 hB2_0; (clear p_lx p_go i2_0_0 i2_1_0 i2_3_0 k13 hkb k140 hlv hcc; omega)⟩ ((up_o (by decide)).trans ((congrFun (hE2_0.2 27 rfl rfl) _).trans rfl)) ?_
        have h27v : (P 27 ((H2_0 0 43) - 1)) = P 27 (z - 1) := by rw [hz]
        refine g_istore (l1 := [(4, vI (P 27 ((H2_0 0 43) - 1))), (3, vI ((24 * (P 0 13)) + (P 26 ((H2_0 0 43) - 1)))), (0, vR 0), (2, vI x2_2_0)]) dX12_isMoreOf_62 (by decide) rfl ?_
        refine g_aload_n dX12_isMoreOf_64 rfl ?_
        refine m_g40 rfl dX12_isMoreOf_65 ?_
        refine g_aload_n dX12_isMoreOf_68 rfl ?_
        refine m_g43 (z := ((H2_0 0 43) - 1)) rfl dX12_isMoreOf_69 up_same ?_
        refine g_aload_n dX12_isMoreOf_72 rfl ?_
        refine m_g40 rfl dX12_isMoreOf_73 ?_
        refine g_aload_n dX12_isMoreOf_76 rfl ?_
        refine m_g43 (z := ((H2_0 0 43) - 1)) rfl dX12_isMoreOf_77 up_same ?_
        refine m_l25 (z := (H2_0 25 ((H2_0 0 43) - 1))) dX12_isMoreOf_80 ⟨by have q0 := b0_43 hB2_0; (clear p_lx p_go i2_0_0 i2_1_0 i2_3_0 k13 hkb k140 hlv hcc; omega), by have q0 := b0_43 hB2_0; (clear p_lx p_go i2_0_0 i2_1_0 i2_3_0 k13 hkb k140 hlv hcc; omega)⟩ ((up_o (by decide)).trans rfl) ?_
        have ha9 : (H2_0 25 ((H2_0 0 43) - 1)) = a9 := hW9.top.2.2
        refine g_aload_n dX12_isMoreOf_81 rfl ?_
        refine g_aload_n dX12_isMoreOf_82 rfl ?_
        refine m_g13 (z := (P 0 13)) rfl dX12_isMoreOf_83 ((up_k (by decide)).trans ((hE2_0.1 13 rfl).trans rfl)) ?_
        refine g_aload_n dX12_isMoreOf_86 rfl ?_
        refine m_g20 rfl dX12_isMoreOf_87 ?_
        refine g_iconst dX12_isMoreOf_90 ?_
        refine g_iload_n dX12_isMoreOf_91 rfl ?_
        refine g_imul dX12_isMoreOf_92 ?_
        refine g_iload dX12_isMoreOf_93 rfl ?_
        refine g_iadd dX12_isMoreOf_95 ?_
        refine m_l8 (z := (P 8 ((2 * ((24 * (P 0 13)) + (P 26 ((H2_0 0 43) - 1)))) + (P 27 ((H2_0 0 43) - 1))))) dX12_isMoreOf_96 ⟨by have q0 := b0_13 hB; have q1 := bl_26 (k := ((H2_0 0 43) - 1)) hB; have q2 := bl_27 (k := ((H2_0 0 43) - 1)) hB; (clear p_lx p_go i2_0_0 i2_1_0 i2_3_0 k13 hkb k140 hlv hcc; omega), by have q0 := b0_13 hB; have q1 := bl_26 (k := ((H2_0 0 43) - 1)) hB; have q2 := bl_27 (k := ((H2_0 0 43) - 1)) hB; (clear p_lx p_go i2_0_0 i2_1_0 i2_3_0 k13 hkb k140 hlv hcc; omega)⟩ ((up_o (by decide)).trans ((congrFun (hE2_0.2 8 rfl rfl) _).trans rfl)) ?_
        have hk4 : K4 (P 8 ((2 * ((24 * (P 0 13)) + (P 26 ((H2_0 0 43) - 1)))) + (P 27 ((H2_0 0 43) - 1)))) k9 := by have q := z1.fld (c := c9) (f := f9) ht2.1 ht2.2 (by (clear p_lx p_go i2_0_0 i2_1_0 i2_3_0 k13 hkb k140 hlv hcc; omega)) ht3; rw [← hT9.1, ← hc9, ← hf9] at q; exact q
        have f142 := b0_13 hB
        have f143 := bl_8 (k := ((2 * ((24 * (P 0 13)) + (P 26 ((H2_0 0 43) - 1)))) + (P 27 ((H2_0 0 43) - 1)))) hB
        refine g_vI (av := [vI (P 0 13), vI (P 8 ((2 * ((24 * (P 0 13)) + (P 26 ((H2_0 0 43) - 1)))) + (P 27 ((H2_0 0 43) - 1))))]) (o := 0) (st := [vI (H2_0 25 ((H2_0 0 43) - 1)), vI ((H2_0 0 43) - 1), vR 25]) (m_X12_valuesOf G (up H2_0 0 43 ((H2_0 0 43) - 1)) (P 0 13) (P 8 ((2 * ((24 * (P 0 13)) + (P 26 ((H2_0 0 43) - 1)))) + (P 27 ((H2_0 0 43) - 1)))) ⟨by have q0 := b0_13 hB; (clear p_lx p_go i2_0_0 i2_1_0 i2_3_0 k13 hkb k140 hlv hcc; omega), by have q0 := b0_13 hB; (clear p_lx p_go i2_0_0 i2_1_0 i2_3_0 k13 hkb k140 hlv hcc; omega)⟩ ⟨by have q0 := bl_8 (k := ((2 * ((24 * (P 0 13)) + (P 26 ((H2_0 0 43) - 1)))) + (P 27 ((H2_0 0 43) - 1)))) hB; (clear p_lx p_go i2_0_0 i2_1_0 i2_3_0 k13 hkb k140 hlv hcc; omega), by have q0 := bl_8 (k := ((2 * ((24 * (P 0 13)) + (P 26 ((H2_0 0 43) - 1)))) + (P 27 ((H2_0 0 43) - 1)))) hB; (clear p_lx p_go i2_0_0 i2_1_0 i2_3_0 k13 hkb k140 hlv hcc; omega)⟩ hB138  _ (fun rc144 hc144 gc144_v => ⟨rc144, rfl, ?_⟩)) cf_X12_valuesOf t_1756 rfl (by decide) rfl rfl rfl (Nat.le_of_ble_eq_true rfl) (by decide) rfl dX12_isMoreOf_97
        have r3c : ∀ j, (up H2_0 0 43 ((H2_0 0 43) - 1)) 3 j = P 3 j := fun j => ((up_o (by decide)).trans ((congrFun (hE2_0.2 3 rfl rfl) _).trans rfl))
        have hvl : rc144 = sz K k9 := by have q := gc144_v; rw [r3c] at q; exact z1.vla hk4 hk9b.2 q
        refine g_imul dX12_isMoreOf_100 ?_
        refine g_nm (fun w145 e_w145 => ?_)
        have h_w145 : 0 ≤ w145 ∧ w145 ≤ 4024036 := by rw [e_w145]; exact mul_n (A := 2006) (B := 2006) ⟨by (clear p_lx p_go i2_0_0 i2_1_0 i2_3_0 k13 hkb k140 hlv hcc gc144_v; omega), by (clear p_lx p_go i2_0_0 i2_1_0 i2_3_0 k13 hkb k140 hlv hcc gc144_v; omega)⟩ ⟨by (clear p_lx p_go i2_0_0 i2_1_0 i2_3_0 k13 hkb k140 hlv hcc gc144_v; omega), by (clear p_lx p_go i2_0_0 i2_1_0 i2_3_0 k13 hkb k140 hlv hcc gc144_v; omega)⟩
        have hx9 : w145 = a9 * sz K (fK K c9 f9) := by rw [e_w145, ha9, hvl, hT9.1]
        refine g_iload_n dX12_isMoreOf_101 rfl ?_
        refine g_iadd dX12_isMoreOf_102 ?_
        refine m_s25 dX12_isMoreOf_103 ⟨by have q0 := b0_43 hB2_0; (clear p_lx p_go i2_0_0 i2_1_0 i2_3_0 k13 hkb k140 hlv hcc gc144_v; omega), by have q0 := b0_43 hB2_0; (clear p_lx p_go i2_0_0 i2_1_0 i2_3_0 k13 hkb k140 hlv hcc gc144_v; omega)⟩ ?_
        have hB146 := ba_25 (z := (w145 + x2_2_0)) (k := ((H2_0 0 43) - 1)) hB138 ⟨by (clear p_lx p_go i2_0_0 i2_1_0 i2_3_0 k13 hkb k140 hlv hcc gc144_v; omega), by (clear p_lx p_go i2_0_0 i2_1_0 i2_3_0 k13 hkb k140 hlv hcc gc144_v; omega)⟩
        refine g_iload dX12_isMoreOf_104 rfl ?_
        refine g_iconst dX12_isMoreOf_106 ?_
        refine g_iadd dX12_isMoreOf_107 ?_
        refine g_aload_n dX12_isMoreOf_108 rfl ?_
        refine m_g19 rfl dX12_isMoreOf_109 ?_
        refine g_iload_n dX12_isMoreOf_112 rfl ?_
        refine m_l7 (z := (P 7 ((24 * (P 0 13)) + (P 26 ((H2_0 0 43) - 1))))) dX12_isMoreOf_113 ⟨by have q0 := b0_13 hB; have q1 := bl_26 (k := ((H2_0 0 43) - 1)) hB; (clear p_lx p_go i2_0_0 i2_1_0 i2_3_0 k13 hkb k140 hlv hcc gc144_v; omega), by have q0 := b0_13 hB; have q1 := bl_26 (k := ((H2_0 0 43) - 1)) hB; (clear p_lx p_go i2_0_0 i2_1_0 i2_3_0 k13 hkb k140 hlv hcc gc144_v; omega)⟩ ((up_o (by decide)).trans ((up_o (by decide)).trans ((congrFun (hE2_0.2 7 rfl rfl) _).trans rfl))) ?_
        have h79 : (P 7 ((24 * (P 0 13)) + (P 26 ((H2_0 0 43) - 1)))) = K 6 c9 := by rw [hc9]; exact hcc.2.2.1
        have f147 := bl_27 (k := ((H2_0 0 43) - 1)) hB
        have f148 := bl_7 (k := ((24 * (P 0 13)) + (P 26 ((H2_0 0 43) - 1)))) hB
        refine g_icmp_ge (tgt := 155) dX12_isMoreOf_114 (by decide) ⟨by have q0 := bl_27 (k := ((H2_0 0 43) - 1)) hB; (clear p_lx p_go i2_0_0 i2_1_0 i2_3_0 k13 hkb k140 hlv hcc gc144_v; omega), by have q0 := bl_27 (k := ((H2_0 0 43) - 1)) hB; (clear p_lx p_go i2_0_0 i2_1_0 i2_3_0 k13 hkb k140 hlv hcc gc144_v; omega)⟩ ⟨by have q0 := bl_7 (k := ((24 * (P 0 13)) + (P 26 ((H2_0 0 43) - 1)))) hB; (clear p_lx p_go i2_0_0 i2_1_0 i2_3_0 k13 hkb k140 hlv hcc gc144_v; omega), by have q0 := bl_7 (k := ((24 * (P 0 13)) + (P 26 ((H2_0 0 43) - 1)))) hB; (clear p_lx p_go i2_0_0 i2_1_0 i2_3_0 k13 hkb k140 hlv hcc gc144_v; omega)⟩ (fun k149 => ?_) (fun k149 => ?_)
        · skip
          skip
          skip
          skip
          have hsg41 := sgn_s T 41 q9
          have hfl : ¬ f9 + 1 < K 6 c9 := by (clear p_lx p_go i2_0_0 i2_1_0 i2_3_0 k13 hkb k140 hlv hcc gc144_v hsg41; omega)
          have hvv := hT9.val p_ab hfl (by (clear p_lx p_go i2_0_0 i2_1_0 i2_3_0 k13 hkb k140 hlv hcc gc144_v hsg41; omega)) (by (clear p_lx p_go i2_0_0 i2_1_0 i2_3_0 k13 hkb k140 hlv hcc gc144_v hsg41; omega)) hv9
          have hs5 := sz_le p_aw (k := K 5 c9) ⟨by (clear p_lx p_go i2_0_0 i2_1_0 i2_3_0 k13 hkb k140 hlv hcc gc144_v hsg41; omega), by (clear p_lx p_go i2_0_0 i2_1_0 i2_3_0 k13 hkb k140 hlv hcc gc144_v hsg41; omega)⟩
          refine g_aload_n dX12_isMoreOf_155 rfl ?_
          refine g_bipush dX12_isMoreOf_156 (by decide) ?_
          refine g_vV (av := [vI 41]) (o := 0) (st := []) (f_X12_must G (up (up H2_0 0 43 ((H2_0 0 43) - 1)) 25 ((H2_0 0 43) - 1) (w145 + x2_2_0)) (T) (q9) 41 (by decide) hB146 (by have q0 := (((up_o (by decide)).trans ((up_k (by decide)).trans rfl)) : (up (up H2_0 0 43 ((H2_0 0 43) - 1)) 25 ((H2_0 0 43) - 1) (w145 + x2_2_0)) 0 3 = (H2_0 0 3)); have q1 := b0_3 hB2_0; have q2 := (((up_o (by decide)).trans ((up_k (by decide)).trans rfl)) : (up (up H2_0 0 43 ((H2_0 0 43) - 1)) 25 ((H2_0 0 43) - 1) (w145 + x2_2_0)) 0 4 = (H2_0 0 4)); have q3 := b0_4 hB2_0; have q4 := (((up_o (by decide)).trans ((up_k (by decide)).trans rfl)) : (up (up H2_0 0 43 ((H2_0 0 43) - 1)) 25 ((H2_0 0 43) - 1) (w145 + x2_2_0)) 0 5 = (H2_0 0 5)); have q5 := b0_5 hB2_0; (clear p_lx p_go i2_0_0 i2_1_0 k13 hkb k140 hlv hcc gc144_v hsg41; omega)) (FP.fr (F := ([43], [25])) w2_FP_0 (FrM.a (FrM.s FrM.rf rfl) rfl rfl) rfl) ((MT.fr (F := ([3, 4, 5, 6, 7, 8, 9, 12, 43], [25])) z0 (FrM.a (FrM.s (FrM.c FrM.rf hE2_0 rfl) rfl) rfl rfl) rfl)) ((MS.fr (F := ([43], [25])) iv136 (FrM.a (FrM.s FrM.rf rfl) rfl rfl) rfl)) _ (fun Pc150 hBc150 hFc150 gc150_lx gc150_mo gc150_pe gc150_ad gc150_n vc150_FP ec150_0 => ⟨rfl, ?_⟩)) cf_X12_must t_1768 rfl (by decide) rfl rfl rfl (Nat.le_of_ble_eq_true rfl) (by decide) rfl dX12_isMoreOf_158
          have z151 : (up (up H2_0 0 43 ((H2_0 0 43) - 1)) 25 ((H2_0 0 43) - 1) (w145 + x2_2_0)) 0 4 = (H2_0 0 4) := ((up_o (by decide)).trans ((up_k (by decide)).trans rfl))
          have z152 : (up (up H2_0 0 43 ((H2_0 0 43) - 1)) 25 ((H2_0 0 43) - 1) (w145 + x2_2_0)) 0 8 = (H2_0 0 8) := ((up_o (by decide)).trans ((up_k (by decide)).trans rfl))
          have z153 : (up (up H2_0 0 43 ((H2_0 0 43) - 1)) 25 ((H2_0 0 43) - 1) (w145 + x2_2_0)) 0 9 = (H2_0 0 9) := ((up_o (by decide)).trans ((up_k (by decide)).trans rfl))
          have hmu8 := ec150_0
          have iv154 : CP (sgn T 41 q9).1 (MS T (tE T q9)) Pc150 := fun hn => by rw [show tE T q9 = (sgn T 41 q9).2 by (clear p_lx p_go i2_0_0 i2_1_0 i2_3_0 k13 hkb k140 hlv hcc gc144_v gc150_lx gc150_pe gc150_ad gc150_n; omega)]; exact hmu8 (by have q8 := (rfl : Pc150 0 8 = (Pc150 0 8)); (clear p_lx p_go i2_0_0 i2_1_0 i2_3_0 k13 hkb k140 hlv hcc gc144_v hsg41 gc150_lx gc150_pe gc150_ad; omega))
          refine g_aload_n dX12_isMoreOf_161 rfl ?_
          refine m_g21 rfl dX12_isMoreOf_162 ?_
          refine g_iload_n dX12_isMoreOf_165 rfl ?_
          refine m_l9 (z := (P 9 ((24 * (P 0 13)) + (P 26 ((H2_0 0 43) - 1))))) dX12_isMoreOf_166 ⟨by have q0 := b0_13 hB; have q1 := bl_26 (k := ((H2_0 0 43) - 1)) hB; (clear p_lx p_go i2_0_0 i2_1_0 i2_3_0 k13 hkb k140 hlv hcc gc144_v hsg41 gc150_lx gc150_pe gc150_ad gc150_n; omega), by have q0 := b0_13 hB; have q1 := bl_26 (k := ((H2_0 0 43) - 1)) hB; (clear p_lx p_go i2_0_0 i2_1_0 i2_3_0 k13 hkb k140 hlv hcc gc144_v hsg41 gc150_lx gc150_pe gc150_ad gc150_n; omega)⟩ ((congrFun (hFc150.2 9 rfl rfl) _).trans ((up_o (by decide)).trans ((up_o (by decide)).trans ((congrFun (hE2_0.2 9 rfl rfl) _).trans rfl)))) ?_
          have h99 : (P 9 ((24 * (P 0 13)) + (P 26 ((H2_0 0 43) - 1)))) = K 10 c9 := by rw [hc9]; exact hcc.2.2.2.2.2
          refine g_aload_n dX12_isMoreOf_167 rfl ?_
          refine m_g40 rfl dX12_isMoreOf_168 ?_
          refine g_aload_n dX12_isMoreOf_171 rfl ?_
          refine m_g43 (z := ((H2_0 0 43) - 1)) rfl dX12_isMoreOf_172 ((hFc150.1 43 rfl).trans ((up_o (by decide)).trans up_same)) ?_
          refine m_l25 (z := (w145 + x2_2_0)) dX12_isMoreOf_175 ⟨by have q0 := b0_43 hB2_0; (clear p_lx p_go i2_0_0 i2_1_0 i2_3_0 k13 hkb k140 hlv hcc gc144_v hsg41 gc150_lx gc150_pe gc150_ad gc150_n; omega), by have q0 := b0_43 hB2_0; (clear p_lx p_go i2_0_0 i2_1_0 i2_3_0 k13 hkb k140 hlv hcc gc144_v hsg41 gc150_lx gc150_pe gc150_ad gc150_n; omega)⟩ ((congrFun (hFc150.2 25 rfl rfl) _).trans up_same) ?_
          refine g_iadd dX12_isMoreOf_176 ?_
          refine g_nm (fun v155 e_v155 => ?_)
          have f_v155_0 := bl_9 (k := ((24 * (P 0 13)) + (P 26 ((H2_0 0 43) - 1)))) hB
          refine g_istore_n (l1 := [(2, vI v155), (4, vI (P 27 ((H2_0 0 43) - 1))), (3, vI ((24 * (P 0 13)) + (P 26 ((H2_0 0 43) - 1)))), (0, vR 0)]) dX12_isMoreOf_177 (by decide) rfl ?_
          have hlow : STW s19 Pc150 := STW.low (z := z - 1) hWZ (by (clear p_lx p_go i2_0_0 i2_1_0 i2_3_0 k13 hkb k140 hlv hcc gc144_v hsg41 gc150_lx gc150_pe gc150_ad gc150_n; omega)) (by have q := (((hFc150.1 43 rfl).trans ((up_o (by decide)).trans up_same)) : Pc150 0 43 = ((H2_0 0 43) - 1)); (clear p_lx p_go i2_0_0 i2_1_0 i2_3_0 k13 hkb k140 hlv hcc gc144_v hsg41 gc150_lx gc150_pe gc150_ad gc150_n; omega)) (fun j => by rw [← hZ9]; exact Eq.trans ((congrFun (hFc150.2 26 rfl rfl) _).trans ((up_o (by decide)).trans ((up_o (by decide)).trans ((congrFun (hE2_0.2 26 rfl rfl) _).trans rfl)))) (r26a j).symm) (fun j => by rw [← hZ9]; exact Eq.trans ((congrFun (hFc150.2 27 rfl rfl) _).trans ((up_o (by decide)).trans ((up_o (by decide)).trans ((congrFun (hE2_0.2 27 rfl rfl) _).trans rfl)))) (r27a j).symm) (fun j hj9 => by rw [← hZ9]; have hj : j ≠ ((H2_0 0 43) - 1) := (by (clear p_lx p_go i2_0_0 i2_1_0 i2_3_0 k13 hkb k140 hlv hcc gc144_v hsg41 gc150_lx gc150_pe gc150_ad gc150_n; omega)); exact ((congrFun (hFc150.2 25 rfl rfl) _).trans ((up_k hj).trans ((up_o (by decide)).trans rfl))))
          have hgv9 : (0 < P 0 8 ∧ Pc150 0 8 = P 0 8 ∧ Pc150 0 9 = P 0 9) ∨ (P 0 8 ≤ 0 ∧ VG T K k0 s p a1 v155 Pc150) := Or.inr ⟨hp8, (show (sgn T 41 q9).1 ≠ 0 ∨ (sgn T 41 q9).1 = 0 by (clear p_lx p_go i2_0_0 i2_1_0 i2_3_0 k13 hkb k140 hlv hcc gc144_v hsg41 gc150_lx gc150_pe gc150_ad gc150_n; omega)).elim (fun hn => VG.closeF hR9 hfl hn (by have q8 := (rfl : Pc150 0 8 = (Pc150 0 8)); (clear p_lx p_go i2_0_0 i2_1_0 i2_3_0 k13 hkb k140 hlv hcc gc144_v hsg41 gc150_lx gc150_pe gc150_ad; omega)) (by have q := b0_8 hBc150; (clear p_lx p_go i2_0_0 i2_1_0 i2_3_0 k13 hkb k140 hlv hcc gc144_v hsg41 gc150_lx gc150_pe gc150_ad gc150_n; omega)) (by have q9z := (rfl : Pc150 0 9 = (Pc150 0 9)); (clear p_lx p_go i2_0_0 i2_1_0 i2_3_0 k13 hkb k140 hlv hcc gc144_v hsg41 gc150_lx gc150_pe gc150_ad; omega))) (fun hn => VG.close p_ab hR9 hT9 (by (clear p_lx p_go i2_0_0 i2_1_0 i2_3_0 k13 hkb k140 hlv hcc gc144_v hsg41 gc150_lx gc150_pe gc150_ad gc150_n; omega)) (by (clear p_lx p_go i2_0_0 i2_1_0 i2_3_0 k13 hkb k140 hlv hcc gc144_v hsg41 gc150_lx gc150_pe gc150_ad gc150_n; omega)) hv9 hfl hn (by have q8 := (rfl : Pc150 0 8 = (Pc150 0 8)); (clear p_lx p_go i2_0_0 i2_1_0 i2_3_0 k13 hkb k140 hlv hcc gc144_v hsg41 gc150_lx gc150_pe gc150_ad; omega)) (iv154 hn) hlow (by (clear p_lx p_go i2_0_0 i2_1_0 i2_3_0 k13 hkb k140 hlv hcc gc144_v hsg41 gc150_lx gc150_pe gc150_ad gc150_n; omega)))⟩
          refine g_goto (tgt := 2) dX12_isMoreOf_178 (by decide) ?_
          refine g_forget (l1 := [(0, vR 0), (2, vI v155)]) (by intro q hq; simp only [List.mem_cons, List.not_mem_nil, or_false] at hq ⊢; rcases hq with rfl | rfl <;> simp) ?_
          exact ih2_0 v155 ⟨by (clear p_lx p_go i2_0_0 i2_1_0 i2_3_0 k13 hkb k140 hlv hcc gc144_v hsg41 gc150_lx gc150_pe gc150_ad gc150_n hgv9; omega), by (clear p_lx p_go i2_0_0 i2_1_0 i2_3_0 k13 hkb k140 hlv hcc gc144_v hsg41 gc150_lx gc150_pe gc150_ad gc150_n hgv9; omega)⟩ _ hBc150 (FrM.c (FrM.a (FrM.s (FrM.c FrM.rf hE2_0 rfl) rfl) rfl rfl) hFc150 rfl) (by first | exact hgv9 | exact (show 0 < P 0 8 ∨ P 0 8 ≤ 0 by (first | (clear p_lx p_go i2_0_0 i2_1_0 i2_3_0 k13 hkb k140 hlv hcc gc144_v hsg41 gc150_lx gc150_pe gc150_ad gc150_n hgv9; omega) | (clear p_lx p_go i2_0_0 i2_1_0 i2_3_0 k13 hkb k140 hlv hcc gc144_v hsg41 gc150_lx gc150_pe gc150_ad gc150_n; omega) | (clear p_lx p_go i2_0_0 i2_1_0 i2_3_0 k13 hkb k140 hlv hcc gc144_v hsg41 gc150_lx gc150_pe gc150_ad hgv9; omega) | (clear p_lx p_go i2_0_0 i2_1_0 i2_3_0 k13 hkb k140 hlv hcc gc144_v hsg41 gc150_lx gc150_pe gc150_n hgv9; omega) | (clear p_lx p_go i2_0_0 i2_1_0 i2_3_0 k13 hkb k140 hlv hcc gc144_v hsg41 gc150_lx gc150_ad gc150_n hgv9; omega) | (clear p_lx p_go i2_0_0 i2_1_0 i2_3_0 k13 hkb k140 hlv hcc gc144_v hsg41 gc150_pe gc150_ad gc150_n hgv9; omega) | (clear p_lx p_go i2_0_0 i2_1_0 i2_3_0 k13 hkb k140 hlv hcc gc144_v gc150_lx gc150_pe gc150_ad gc150_n hgv9; omega) | (clear p_lx p_go i2_0_0 i2_1_0 i2_3_0 k13 hkb k140 hlv hcc hsg41 gc150_lx gc150_pe gc150_ad gc150_n hgv9; omega) | (clear p_lx p_go i2_0_0 i2_1_0 i2_3_0 k13 hkb k140 hlv gc144_v hsg41 gc150_lx gc150_pe gc150_ad gc150_n hgv9; omega) | (clear p_lx p_go i2_0_0 i2_1_0 i2_3_0 k13 hkb k140 hlv hcc gc144_v hsg41 gc150_lx gc150_pe gc150_ad; omega) | (clear gc150_lx hsg41 gc144_v hcc hlv k140 hkb k13 i2_3_0 i2_1_0 i2_0_0 p_go p_lx; omega) | omega)).elim (fun h => Or.inl ⟨h, rfl, rfl⟩) (fun h => Or.inr ⟨h, by obtain ⟨g1, g2, g3, g4, g5⟩ := p_go.resolve_left (by (first | (clear p_lx p_go i2_0_0 i2_1_0 i2_3_0 k13 hkb k140 hlv hcc gc144_v hsg41 gc150_lx gc150_pe gc150_ad gc150_n hgv9; omega) | (clear p_lx p_go i2_0_0 i2_1_0 i2_3_0 k13 hkb k140 hlv hcc gc144_v hsg41 gc150_lx gc150_pe gc150_ad gc150_n; omega) | (clear p_lx p_go i2_0_0 i2_1_0 i2_3_0 k13 hkb k140 hlv hcc gc144_v hsg41 gc150_lx gc150_pe gc150_ad hgv9; omega) | (clear p_lx p_go i2_0_0 i2_1_0 i2_3_0 k13 hkb k140 hlv hcc gc144_v hsg41 gc150_lx gc150_pe gc150_n hgv9; omega) | (clear p_lx p_go i2_0_0 i2_1_0 i2_3_0 k13 hkb k140 hlv hcc gc144_v hsg41 gc150_lx gc150_ad gc150_n hgv9; omega) | (clear p_lx p_go i2_0_0 i2_1_0 i2_3_0 k13 hkb k140 hlv hcc gc144_v hsg41 gc150_pe gc150_ad gc150_n hgv9; omega) | (clear p_lx p_go i2_0_0 i2_1_0 i2_3_0 k13 hkb k140 hlv hcc gc144_v gc150_lx gc150_pe gc150_ad gc150_n hgv9; omega) | (clear p_lx p_go i2_0_0 i2_1_0 i2_3_0 k13 hkb k140 hlv hcc hsg41 gc150_lx gc150_pe gc150_ad gc150_n hgv9; omega) | (clear p_lx p_go i2_0_0 i2_1_0 i2_3_0 k13 hkb k140 hlv gc144_v hsg41 gc150_lx gc150_pe gc150_ad gc150_n hgv9; omega) | (clear p_lx p_go i2_0_0 i2_1_0 i2_3_0 k13 hkb k140 hlv hcc gc144_v hsg41 gc150_lx gc150_pe gc150_ad; omega) | (clear gc150_lx hsg41 gc144_v hcc hlv k140 hkb k13 i2_3_0 i2_1_0 i2_0_0 p_go p_lx; omega) | omega)); exact VG.start h g1 g2 g3 ⟨g4, g5⟩⟩)) (by have q0 := b0_8 hBc150; (clear p_lx p_go i2_0_0 i2_1_0 i2_3_0 k13 hkb k140 hlv hcc gc144_v hsg41 gc150_lx gc150_pe gc150_ad gc150_n hgv9; omega)) (by have q0 := b0_4 hBc150; (clear p_lx p_go i2_0_0 i2_1_0 i2_3_0 k13 hkb k140 hlv hcc gc144_v hsg41 gc150_lx gc150_pe gc150_ad gc150_n hgv9; omega)) (by have q0 := b0_3 hBc150; have q1 := b0_4 hBc150; have q2 := b0_5 hBc150; (clear p_lx p_go i2_0_0 i2_1_0 i2_3_0 k13 hkb k140 hlv hcc gc144_v hsg41 gc150_pe gc150_ad gc150_n hgv9; omega)) (SR.fr (F := ([3, 4, 5, 6, 7, 8, 9, 12], [25])) iv141 (FrM.c (FrM.a FrM.rf rfl rfl) hFc150 rfl) rfl) vc150_FP (by have q0 := (((hFc150.1 43 rfl).trans ((up_o (by decide)).trans up_same)) : Pc150 0 43 = ((H2_0 0 43) - 1)); have q1 := b0_43 hB2_0; (clear p_lx p_go i2_0_0 i2_1_0 i2_3_0 k13 hkb k140 hlv hcc gc144_v hsg41 gc150_lx gc150_pe gc150_ad gc150_n hgv9; omega))
        · skip
          skip
          skip
          skip
          have hsg44 := sgn_s T 44 q9
          have hfl : f9 + 1 < K 6 c9 := by (clear p_lx p_go i2_0_0 i2_1_0 i2_3_0 k13 hkb k140 hlv hcc gc144_v hsg44; omega)
          refine g_aload_n dX12_isMoreOf_117 rfl ?_
          refine g_bipush dX12_isMoreOf_118 (by decide) ?_
          refine g_vV (av := [vI 44]) (o := 0) (st := []) (f_X12_must G (up (up H2_0 0 43 ((H2_0 0 43) - 1)) 25 ((H2_0 0 43) - 1) (w145 + x2_2_0)) (T) (q9) 44 (by decide) hB146 (by have q0 := (((up_o (by decide)).trans ((up_k (by decide)).trans rfl)) : (up (up H2_0 0 43 ((H2_0 0 43) - 1)) 25 ((H2_0 0 43) - 1) (w145 + x2_2_0)) 0 3 = (H2_0 0 3)); have q1 := b0_3 hB2_0; have q2 := (((up_o (by decide)).trans ((up_k (by decide)).trans rfl)) : (up (up H2_0 0 43 ((H2_0 0 43) - 1)) 25 ((H2_0 0 43) - 1) (w145 + x2_2_0)) 0 4 = (H2_0 0 4)); have q3 := b0_4 hB2_0; have q4 := (((up_o (by decide)).trans ((up_k (by decide)).trans rfl)) : (up (up H2_0 0 43 ((H2_0 0 43) - 1)) 25 ((H2_0 0 43) - 1) (w145 + x2_2_0)) 0 5 = (H2_0 0 5)); have q5 := b0_5 hB2_0; (clear p_lx p_go i2_0_0 i2_1_0 k13 hkb k140 hlv hcc gc144_v hsg44; omega)) (FP.fr (F := ([43], [25])) w2_FP_0 (FrM.a (FrM.s FrM.rf rfl) rfl rfl) rfl) ((MT.fr (F := ([3, 4, 5, 6, 7, 8, 9, 12, 43], [25])) z0 (FrM.a (FrM.s (FrM.c FrM.rf hE2_0 rfl) rfl) rfl rfl) rfl)) ((MS.fr (F := ([43], [25])) iv136 (FrM.a (FrM.s FrM.rf rfl) rfl rfl) rfl)) _ (fun Pc156 hBc156 hFc156 gc156_lx gc156_mo gc156_pe gc156_ad gc156_n vc156_FP ec156_0 => ⟨rfl, ?_⟩)) cf_X12_must t_1768 rfl (by decide) rfl rfl rfl (Nat.le_of_ble_eq_true rfl) (by decide) rfl dX12_isMoreOf_120
          have z157 : (up (up H2_0 0 43 ((H2_0 0 43) - 1)) 25 ((H2_0 0 43) - 1) (w145 + x2_2_0)) 0 4 = (H2_0 0 4) := ((up_o (by decide)).trans ((up_k (by decide)).trans rfl))
          have z158 : (up (up H2_0 0 43 ((H2_0 0 43) - 1)) 25 ((H2_0 0 43) - 1) (w145 + x2_2_0)) 0 8 = (H2_0 0 8) := ((up_o (by decide)).trans ((up_k (by decide)).trans rfl))
          have z159 : (up (up H2_0 0 43 ((H2_0 0 43) - 1)) 25 ((H2_0 0 43) - 1) (w145 + x2_2_0)) 0 9 = (H2_0 0 9) := ((up_o (by decide)).trans ((up_k (by decide)).trans rfl))
          have hmu8 := ec156_0
          have hsr3 := (SR.fr (F := ([3, 4, 5, 6, 7, 8, 9, 12], [25])) iv141 (FrM.c (FrM.a FrM.rf rfl rfl) hFc156 rfl) rfl)
          have hcf3 := (CF.fr (F := ([3, 4, 5, 6, 7, 8, 9, 12, 43], [25])) v_CF (FrM.c (FrM.a (FrM.s (FrM.c FrM.rf hE2_0 rfl) rfl) rfl rfl) hFc156 rfl) rfl)
          have h43c := (((hFc156.1 43 rfl).trans ((up_o (by decide)).trans up_same)) : Pc156 0 43 = ((H2_0 0 43) - 1))
          have h13c := (((hFc156.1 13 rfl).trans ((up_o (by decide)).trans ((up_k (by decide)).trans ((hE2_0.1 13 rfl).trans rfl)))) : Pc156 0 13 = (P 0 13))
          have r6c : ∀ j, Pc156 6 j = P 6 j := fun j => ((congrFun (hFc156.2 6 rfl rfl) _).trans ((up_o (by decide)).trans ((up_o (by decide)).trans ((congrFun (hE2_0.2 6 rfl rfl) _).trans rfl))))
          have r7c : ∀ j, Pc156 7 j = P 7 j := fun j => ((congrFun (hFc156.2 7 rfl rfl) _).trans ((up_o (by decide)).trans ((up_o (by decide)).trans ((congrFun (hE2_0.2 7 rfl rfl) _).trans rfl))))
          have r8c : ∀ j, Pc156 8 j = P 8 j := fun j => ((congrFun (hFc156.2 8 rfl rfl) _).trans ((up_o (by decide)).trans ((up_o (by decide)).trans ((congrFun (hE2_0.2 8 rfl rfl) _).trans rfl))))
          have iv160 : CP (sgn T 44 q9).1 (MS T (tE T q9)) Pc156 := fun hn => by rw [show tE T q9 = (sgn T 44 q9).2 by (clear p_lx p_go i2_0_0 i2_1_0 i2_3_0 k13 hkb k140 hlv hcc gc144_v gc156_lx gc156_pe gc156_ad gc156_n; omega)]; exact hmu8 (by have q8 := (rfl : Pc156 0 8 = (Pc156 0 8)); (clear p_lx p_go i2_0_0 i2_1_0 i2_3_0 k13 hkb k140 hlv hcc gc144_v hsg44 gc156_lx gc156_pe gc156_ad; omega))
          refine g_aload_n dX12_isMoreOf_123 rfl ?_
          refine m_g42 rfl dX12_isMoreOf_124 ?_
          refine g_aload_n dX12_isMoreOf_127 rfl ?_
          refine m_g43 (z := ((H2_0 0 43) - 1)) rfl dX12_isMoreOf_128 ((hFc156.1 43 rfl).trans ((up_o (by decide)).trans up_same)) ?_
          refine g_iload dX12_isMoreOf_131 rfl ?_
          refine g_iconst dX12_isMoreOf_133 ?_
          refine g_iadd dX12_isMoreOf_134 ?_
          refine m_s27 dX12_isMoreOf_135 ⟨by have q0 := b0_43 hB2_0; (clear p_lx p_go i2_0_0 i2_1_0 i2_3_0 k13 hkb k140 hlv hcc gc144_v hsg44 gc156_lx gc156_pe gc156_ad gc156_n; omega), by have q0 := b0_43 hB2_0; (clear p_lx p_go i2_0_0 i2_1_0 i2_3_0 k13 hkb k140 hlv hcc gc144_v hsg44 gc156_lx gc156_pe gc156_ad gc156_n; omega)⟩ ?_
          have hB161 := ba_27 (z := ((P 27 ((H2_0 0 43) - 1)) + 1)) (k := ((H2_0 0 43) - 1)) hBc156 ⟨by have q0 := bl_27 (k := ((H2_0 0 43) - 1)) hB; (clear p_lx p_go i2_0_0 i2_1_0 i2_3_0 k13 hkb k140 hlv hcc gc144_v hsg44 gc156_lx gc156_pe gc156_ad gc156_n; omega), by have q0 := bl_27 (k := ((H2_0 0 43) - 1)) hB; (clear p_lx p_go i2_0_0 i2_1_0 i2_3_0 k13 hkb k140 hlv hcc gc144_v hsg44 gc156_lx gc156_pe gc156_ad gc156_n; omega)⟩
          refine g_aload_n dX12_isMoreOf_136 rfl ?_
          refine g_aload_n dX12_isMoreOf_137 rfl ?_
          refine m_g20 rfl dX12_isMoreOf_138 ?_
          refine g_iconst dX12_isMoreOf_141 ?_
          refine g_iload_n dX12_isMoreOf_142 rfl ?_
          refine g_imul dX12_isMoreOf_143 ?_
          refine g_iload dX12_isMoreOf_144 rfl ?_
          refine g_iadd dX12_isMoreOf_146 ?_
          refine g_iconst dX12_isMoreOf_147 ?_
          refine g_iadd dX12_isMoreOf_148 ?_
          refine m_l8 (z := (P 8 (((2 * ((24 * (P 0 13)) + (P 26 ((H2_0 0 43) - 1)))) + (P 27 ((H2_0 0 43) - 1))) + 1))) dX12_isMoreOf_149 ⟨by have q0 := b0_13 hB; have q1 := bl_26 (k := ((H2_0 0 43) - 1)) hB; have q2 := bl_27 (k := ((H2_0 0 43) - 1)) hB; (clear p_lx p_go i2_0_0 i2_1_0 i2_3_0 k13 hkb k140 hlv hcc gc144_v hsg44 gc156_lx gc156_pe gc156_ad gc156_n; omega), by have q0 := b0_13 hB; have q1 := bl_26 (k := ((H2_0 0 43) - 1)) hB; have q2 := bl_27 (k := ((H2_0 0 43) - 1)) hB; (clear p_lx p_go i2_0_0 i2_1_0 i2_3_0 k13 hkb k140 hlv hcc gc144_v hsg44 gc156_lx gc156_pe gc156_ad gc156_n; omega)⟩ ((up_o (by decide)).trans ((congrFun (hFc156.2 8 rfl rfl) _).trans ((up_o (by decide)).trans ((up_o (by decide)).trans ((congrFun (hE2_0.2 8 rfl rfl) _).trans rfl))))) ?_
          have hf1 : FrM ([3, 4, 5, 6, 7, 8, 9, 12], [25, 26, 27]) _ (up Pc156 27 ((H2_0 0 43) - 1) ((P 27 ((H2_0 0 43) - 1)) + 1)) := FrM.a FrM.rf rfl rfl
          have h26d : (up Pc156 27 ((H2_0 0 43) - 1) ((P 27 ((H2_0 0 43) - 1)) + 1)) 26 (z - 1) = P 26 (z - 1) := ((up_o (by decide)).trans ((congrFun (hFc156.2 26 rfl rfl) _).trans ((up_o (by decide)).trans ((up_o (by decide)).trans ((congrFun (hE2_0.2 26 rfl rfl) _).trans rfl)))))
          have h27d : (up Pc156 27 ((H2_0 0 43) - 1) ((P 27 ((H2_0 0 43) - 1)) + 1)) 27 (z - 1) = (P 27 ((H2_0 0 43) - 1)) + 1 := by rw [show z - 1 = ((H2_0 0 43) - 1) by (clear p_lx p_go i2_0_0 i2_1_0 i2_3_0 k13 hkb k140 hlv hcc gc144_v hsg44 gc156_lx gc156_pe gc156_ad gc156_n; omega)]; exact up_same
          have o26d : ∀ j : Int, j ≠ z - 1 → (up Pc156 27 ((H2_0 0 43) - 1) ((P 27 ((H2_0 0 43) - 1)) + 1)) 26 j = _ := fun j _ => ((up_o (by decide)).trans rfl)
          have o27d : ∀ j : Int, j ≠ z - 1 → (up Pc156 27 ((H2_0 0 43) - 1) ((P 27 ((H2_0 0 43) - 1)) + 1)) 27 j = _ := fun j hj9 => (by have hj : j ≠ ((H2_0 0 43) - 1) := (by (clear p_lx p_go i2_0_0 i2_1_0 i2_3_0 k13 hkb k140 hlv hcc gc144_v hsg44 gc156_lx gc156_pe gc156_ad gc156_n; omega)); exact ((up_k hj).trans rfl))
          have q6d := bl_6 (k := 24 * P 0 13 + P 26 (z - 1)) hB
          have q27d := bl_27 (k := z - 1) hB
          have hy9 : K4 (P 8 (((2 * ((24 * (P 0 13)) + (P 26 ((H2_0 0 43) - 1)))) + (P 27 ((H2_0 0 43) - 1))) + 1)) (K 8 c9) := by have e : ∀ j : Int, j = 2 * (24 * P 0 13 + c9) + 1 → K4 (P 8 j) (K 8 c9) := fun j hj => (by rw [hj]; exact hcc.2.2.2.2.1 (by (clear p_lx p_go i2_0_0 i2_1_0 i2_3_0 k13 hkb k140 hlv hcc gc144_v hsg44 gc156_lx gc156_pe gc156_ad gc156_n; omega))); exact e _ (by (clear p_lx p_go i2_0_0 i2_1_0 i2_3_0 k13 hkb k140 hlv hcc gc144_v hsg44 gc156_lx gc156_pe gc156_ad gc156_n; omega))
          have h25d : (up Pc156 27 ((H2_0 0 43) - 1) ((P 27 ((H2_0 0 43) - 1)) + 1)) 25 (z - 1) = a9 * sz K (fK K c9 f9) + x2_2_0 := by rw [show z - 1 = ((H2_0 0 43) - 1) by (clear p_lx p_go i2_0_0 i2_1_0 i2_3_0 k13 hkb k140 hlv hcc gc144_v hsg44 gc156_lx gc156_pe gc156_ad gc156_n; omega)]; exact Eq.trans ((up_o (by decide)).trans ((congrFun (hFc156.2 25 rfl rfl) _).trans up_same)) (by (clear p_lx p_go i2_0_0 i2_1_0 i2_3_0 k13 hkb k140 hlv hcc gc144_v hsg44 gc156_lx gc156_pe gc156_ad gc156_n; omega))
          have o25d : ∀ j : Int, j ≠ z - 1 → (up Pc156 27 ((H2_0 0 43) - 1) ((P 27 ((H2_0 0 43) - 1)) + 1)) 25 j = Z9 25 j := fun j hj9 => by rw [← hZ9]; have hj : j ≠ ((H2_0 0 43) - 1) := (by (clear p_lx p_go i2_0_0 i2_1_0 i2_3_0 k13 hkb k140 hlv hcc gc144_v hsg44 gc156_lx gc156_pe gc156_ad gc156_n; omega)); exact ((up_o (by decide)).trans ((congrFun (hFc156.2 25 rfl rfl) _).trans ((up_k hj).trans ((up_o (by decide)).trans rfl))))
          have f162 := bl_8 (k := (((2 * ((24 * (P 0 13)) + (P 26 ((H2_0 0 43) - 1)))) + (P 27 ((H2_0 0 43) - 1))) + 1)) hB
          refine g_vV (av := [vI (P 8 (((2 * ((24 * (P 0 13)) + (P 26 ((H2_0 0 43) - 1)))) + (P 27 ((H2_0 0 43) - 1))) + 1))]) (o := 0) (st := []) (m_X12_opensPattern G (up Pc156 27 ((H2_0 0 43) - 1) ((P 27 ((H2_0 0 43) - 1)) + 1)) (P 8 (((2 * ((24 * (P 0 13)) + (P 26 ((H2_0 0 43) - 1)))) + (P 27 ((H2_0 0 43) - 1))) + 1)) ⟨by have q0 := bl_8 (k := (((2 * ((24 * (P 0 13)) + (P 26 ((H2_0 0 43) - 1)))) + (P 27 ((H2_0 0 43) - 1))) + 1)) hB; (clear p_lx p_go i2_0_0 i2_1_0 i2_3_0 k13 hkb k140 hlv hcc gc144_v hsg44 gc156_lx gc156_pe gc156_ad gc156_n; omega), by have q0 := bl_8 (k := (((2 * ((24 * (P 0 13)) + (P 26 ((H2_0 0 43) - 1)))) + (P 27 ((H2_0 0 43) - 1))) + 1)) hB; (clear p_lx p_go i2_0_0 i2_1_0 i2_3_0 k13 hkb k140 hlv hcc gc144_v hsg44 gc156_lx gc156_pe gc156_ad gc156_n; omega)⟩ hB161 (by have q0 := bl_8 (k := (((2 * ((24 * (P 0 13)) + (P 26 ((H2_0 0 43) - 1)))) + (P 27 ((H2_0 0 43) - 1))) + 1)) hB; have q1 := (((up_o (by decide)).trans ((hFc156.1 43 rfl).trans ((up_o (by decide)).trans up_same))) : (up Pc156 27 ((H2_0 0 43) - 1) ((P 27 ((H2_0 0 43) - 1)) + 1)) 0 43 = ((H2_0 0 43) - 1)); have q2 := b0_43 hB2_0; (clear p_lx p_go i2_0_0 i2_1_0 i2_3_0 k13 hkb k140 hlv hcc gc144_v hsg44 gc156_lx gc156_pe gc156_ad gc156_n; omega)) _ (fun Pc163 hBc163 hFc163 gc163_o gc163_k gc163_z gc163_kq gc163_zq => ⟨rfl, ?_⟩)) cf_X12_opensPattern t_1780 rfl (by decide) rfl rfl rfl (Nat.le_of_ble_eq_true rfl) (by decide) rfl dX12_isMoreOf_150
          have z164 : (up Pc156 27 ((H2_0 0 43) - 1) ((P 27 ((H2_0 0 43) - 1)) + 1)) 0 43 = ((H2_0 0 43) - 1) := ((up_o (by decide)).trans ((hFc156.1 43 rfl).trans ((up_o (by decide)).trans up_same)))
          have e43p := (((up_o (by decide)).trans ((hFc156.1 43 rfl).trans ((up_o (by decide)).trans up_same))) : (up Pc156 27 ((H2_0 0 43) - 1) ((P 27 ((H2_0 0 43) - 1)) + 1)) 0 43 = ((H2_0 0 43) - 1))
          rw [e43p, ← hz] at gc163_o gc163_k gc163_kq
          have hsrN := hsr3.push (z := z - 1) (b := P 0 13) (con := P 26 (z - 1)) (fld := (P 27 ((H2_0 0 43) - 1)) + 1) hcf3 (by (clear p_lx p_go i2_0_0 i2_1_0 i2_3_0 k13 hkb k140 hlv hcc gc144_v hsg44 gc156_lx gc156_pe gc156_ad gc156_n; omega)) h13c hf1 o26d h26d o27d h27d ⟨by (clear p_lx p_go i2_0_0 i2_1_0 i2_3_0 k13 hkb k140 hlv hcc gc144_v hsg44 gc156_lx gc156_pe gc156_ad gc156_n; omega), by rw [r7c, ← h26v]; (clear p_lx p_go i2_0_0 i2_1_0 i2_3_0 k13 hkb k140 hlv hcc gc144_v hsg44 gc156_lx gc156_pe gc156_ad gc156_n; omega)⟩ (by rw [r6c]; (clear p_lx p_go i2_0_0 i2_1_0 i2_3_0 k13 hkb k140 hcc gc144_v hsg44 gc156_lx gc156_pe gc156_ad gc156_n; omega)) (by rw [r6c]; (clear p_lx p_go i2_0_0 i2_1_0 i2_3_0 k13 hkb k140 hlv hcc gc144_v hsg44 gc156_lx gc156_pe gc156_ad gc156_n; omega)) (Eq.trans (congrArg (P 8) (by rw [← h26v]; (clear p_lx p_go i2_0_0 i2_1_0 i2_3_0 k13 hkb k140 hlv hcc gc144_v hsg44 gc156_lx gc156_pe gc156_ad gc156_n; omega))) (r8c _).symm) hFc163 gc163_o gc163_k gc163_kq
          rw [e43p, ← hz] at gc163_z gc163_zq
          have hstv9 : STV ((c9, f9 + 1, a9 * sz K (fK K c9 f9) + x2_2_0) :: s19) (K 8 c9) Pc163 := STV.next (z := z - 1) hWZ (by (clear p_lx p_go i2_0_0 i2_1_0 i2_3_0 k13 hkb k140 hlv hcc gc144_v hsg44 gc156_lx gc156_pe gc156_ad gc156_n; omega)) hy9 gc163_o (by have q := gc163_k; rw [hz] at q ⊢; exact q) (fun j => by rw [← hZ9]; exact Eq.trans ((congrFun (hFc163.2 26 rfl rfl) _).trans ((up_o (by decide)).trans ((congrFun (hFc156.2 26 rfl rfl) _).trans ((up_o (by decide)).trans ((up_o (by decide)).trans ((congrFun (hE2_0.2 26 rfl rfl) _).trans rfl)))))) (r26a j).symm) (by rw [show z - 1 = ((H2_0 0 43) - 1) by (clear p_lx p_go i2_0_0 i2_1_0 i2_3_0 k13 hkb k140 hlv hcc gc144_v hsg44 gc156_lx gc156_pe gc156_ad gc156_n; omega)]; exact Eq.trans ((congrFun (hFc163.2 27 rfl rfl) _).trans up_same) (by (clear p_lx p_go i2_0_0 i2_1_0 i2_3_0 k13 hkb k140 hlv hcc gc144_v hsg44 gc156_lx gc156_pe gc156_ad gc156_n; omega))) (fun j hj9 => by rw [← hZ9]; have hj : j ≠ ((H2_0 0 43) - 1) := (by (clear p_lx p_go i2_0_0 i2_1_0 i2_3_0 k13 hkb k140 hlv hcc gc144_v hsg44 gc156_lx gc156_pe gc156_ad gc156_n; omega)); exact ((congrFun (hFc163.2 27 rfl rfl) _).trans ((up_k hj).trans ((congrFun (hFc156.2 27 rfl rfl) _).trans ((up_o (by decide)).trans ((up_o (by decide)).trans rfl)))))) ((gc163_zq (z - 1) (by (clear p_lx p_go i2_0_0 i2_1_0 i2_3_0 k13 hkb k140 hlv hcc gc144_v hsg44 gc156_lx gc156_pe gc156_ad gc156_n; omega))).trans h25d) (fun j hj1 hj2 => (gc163_zq j (by (clear p_lx p_go i2_0_0 i2_1_0 i2_3_0 k13 hkb k140 hlv hcc gc144_v hsg44 gc156_lx gc156_pe gc156_ad gc156_n; omega))).trans (o25d j hj1))
          have iv165 : SR Pc163 := hsrN
          refine g_iconst dX12_isMoreOf_153 ?_
          exact g_retZ dX12_isMoreOf_154 rfl (by decide) (hQ 1 (by decide) _ hBc163 (FrM.c (FrM.a (FrM.c (FrM.a (FrM.s (FrM.c FrM.rf hE2_0 rfl) rfl) rfl rfl) hFc156 rfl) rfl rfl) hFc163 rfl) (by have q0 := (((hFc163.1 3 rfl).trans ((up_o (by decide)).trans rfl)) : Pc163 0 3 = (Pc156 0 3)); have q1 := b0_3 hBc156; have q2 := (((hFc163.1 4 rfl).trans ((up_o (by decide)).trans rfl)) : Pc163 0 4 = (Pc156 0 4)); have q3 := b0_4 hBc156; have q4 := (((hFc163.1 5 rfl).trans ((up_o (by decide)).trans rfl)) : Pc163 0 5 = (Pc156 0 5)); have q5 := b0_5 hBc156; (clear p_lx p_go i2_0_0 i2_1_0 i2_3_0 k13 hkb k140 hlv hcc gc144_v hsg44 gc156_pe gc156_ad gc156_n; omega)) (by have q0 := (((hFc163.1 4 rfl).trans ((up_o (by decide)).trans rfl)) : Pc163 0 4 = (Pc156 0 4)); have q1 := b0_4 hBc156; (clear p_lx p_go i2_0_0 i2_1_0 i2_3_0 k13 hkb k140 hlv hcc gc144_v hsg44 gc156_lx gc156_pe gc156_ad gc156_n; omega)) (by have q0 := (((hFc163.1 8 rfl).trans ((up_o (by decide)).trans rfl)) : Pc163 0 8 = (Pc156 0 8)); have q1 := b0_8 hBc156; (clear p_lx p_go i2_0_0 i2_1_0 i2_3_0 k13 hkb k140 hlv hcc gc144_v hsg44 gc156_lx gc156_pe gc156_ad gc156_n; omega)) (by first | exact Or.inl ⟨rfl, iv165⟩ | exact Or.inr rfl) (Or.inr ⟨hp8, (show (sgn T 44 q9).1 ≠ 0 ∨ (sgn T 44 q9).1 = 0 by (clear p_lx p_go i2_0_0 i2_1_0 i2_3_0 k13 hkb k140 hlv hcc gc144_v hsg44 gc156_lx gc156_pe gc156_ad gc156_n; omega)).elim (fun hn => VN.commaF hR9 hfl hn (by have q8 := (((hFc163.1 8 rfl).trans ((up_o (by decide)).trans rfl)) : Pc163 0 8 = (Pc156 0 8)); (clear p_lx p_go i2_0_0 i2_1_0 i2_3_0 k13 hkb k140 hlv hcc gc144_v hsg44 gc156_lx gc156_pe gc156_ad; omega)) (by have q := b0_8 hBc163; (clear p_lx p_go i2_0_0 i2_1_0 i2_3_0 k13 hkb k140 hlv hcc gc144_v hsg44 gc156_lx gc156_pe gc156_ad gc156_n; omega)) (by have q9z := (((hFc163.1 9 rfl).trans ((up_o (by decide)).trans rfl)) : Pc163 0 9 = (Pc156 0 9)); (clear p_lx p_go i2_0_0 i2_1_0 i2_3_0 k13 hkb k140 hlv hcc gc144_v hsg44 gc156_lx gc156_pe gc156_ad; omega))) (fun hn => VN.comma hR9 hT9 (by (clear p_lx p_go i2_0_0 i2_1_0 i2_3_0 k13 hkb k140 hlv hcc gc144_v hsg44 gc156_lx gc156_pe gc156_ad gc156_n; omega)) hv9 hfl hn (by have q8 := (((hFc163.1 8 rfl).trans ((up_o (by decide)).trans rfl)) : Pc163 0 8 = (Pc156 0 8)); (clear p_lx p_go i2_0_0 i2_1_0 i2_3_0 k13 hkb k140 hlv hcc gc144_v hsg44 gc156_lx gc156_pe gc156_ad; omega)) ((fun h0 => (MS.fr (F := ([43], [24, 25, 27])) (iv160 h0) (FrM.c (FrM.a FrM.rf rfl rfl) hFc163 rfl) rfl)) hn) hstv9)⟩) (FP.fr (F := ([43], [24, 25, 27])) vc156_FP (FrM.c (FrM.a FrM.rf rfl rfl) hFc163 rfl) rfl))
      · skip
        skip
        skip
        have hs0 : s9 = [] := by
          cases s9 with
          | nil => rfl
          | cons x y => exfalso; rw [List.length_cons] at hsb; have q := (up_same : (up H2_0 0 43 ((H2_0 0 43) - 1)) 0 43 = ((H2_0 0 43) - 1)); (clear p_lx p_go i2_0_0 i2_1_0 i2_3_0 k13 hkb; omega)
        subst hs0
        refine g_aload_n dX12_isMoreOf_26 rfl ?_
        refine m_g40 rfl dX12_isMoreOf_27 ?_
        refine g_iconst dX12_isMoreOf_30 ?_
        refine g_iload_n dX12_isMoreOf_31 rfl ?_
        refine m_s25 dX12_isMoreOf_32 (by decide) ?_
        have hB166 := ba_25 (z := x2_2_0) (k := 0) hB138 ⟨by (clear p_lx p_go i2_0_0 i2_1_0 i2_3_0 k13 hkb k140; omega), by (clear p_lx p_go i2_0_0 i2_1_0 i2_3_0 k13 hkb k140; omega)⟩
        refine g_iconst dX12_isMoreOf_33 ?_
        exact g_retZ dX12_isMoreOf_34 rfl (by decide) (hQ 0 (by decide) _ hB166 (FrM.a (FrM.s (FrM.c FrM.rf hE2_0 rfl) rfl) rfl rfl) (by have q0 := (((up_o (by decide)).trans ((up_k (by decide)).trans rfl)) : (up (up H2_0 0 43 ((H2_0 0 43) - 1)) 25 0 x2_2_0) 0 3 = (H2_0 0 3)); have q1 := b0_3 hB2_0; have q2 := (((up_o (by decide)).trans ((up_k (by decide)).trans rfl)) : (up (up H2_0 0 43 ((H2_0 0 43) - 1)) 25 0 x2_2_0) 0 4 = (H2_0 0 4)); have q3 := b0_4 hB2_0; have q4 := (((up_o (by decide)).trans ((up_k (by decide)).trans rfl)) : (up (up H2_0 0 43 ((H2_0 0 43) - 1)) 25 0 x2_2_0) 0 5 = (H2_0 0 5)); have q5 := b0_5 hB2_0; (clear p_lx p_go i2_0_0 i2_1_0 k13 hkb k140; omega)) (by have q0 := (((up_o (by decide)).trans ((up_k (by decide)).trans rfl)) : (up (up H2_0 0 43 ((H2_0 0 43) - 1)) 25 0 x2_2_0) 0 4 = (H2_0 0 4)); have q1 := b0_4 hB2_0; (clear p_lx p_go i2_0_0 i2_1_0 i2_3_0 k13 hkb k140; omega)) (by have q0 := (((up_o (by decide)).trans ((up_k (by decide)).trans rfl)) : (up (up H2_0 0 43 ((H2_0 0 43) - 1)) 25 0 x2_2_0) 0 8 = (H2_0 0 8)); have q1 := b0_8 hB2_0; (clear p_lx p_go i2_0_0 i2_1_0 i2_3_0 k13 hkb k140; omega)) (by first | exact Or.inl ⟨rfl, hNONE⟩ | exact Or.inr rfl) (Or.inr ⟨hp8, VN.done hR9 hT9 hv9 (by have q8 := (((up_o (by decide)).trans ((up_k (by decide)).trans rfl)) : (up (up H2_0 0 43 ((H2_0 0 43) - 1)) 25 0 x2_2_0) 0 8 = (H2_0 0 8)); (clear p_lx p_go i2_0_0 i2_1_0 i2_3_0 k13 hkb k140; omega)) (MS.fr (F := ([43], [25])) iv136 (FrM.a (FrM.s FrM.rf rfl) rfl rfl) rfl) up_same rfl⟩) (FP.fr (F := ([43], [25])) w2_FP_0 (FrM.a (FrM.s FrM.rf rfl) rfl rfl) rfl))
  refine g_forget (l1 := [(0, vR 0), (2, vI a1)]) (by intro q hq; simp only [List.mem_cons, List.not_mem_nil, or_false] at hq ⊢; rcases hq with rfl | rfl <;> simp) ?_
  exact L2_0 _ a1 ⟨by (clear p_lx p_go; omega), by (clear p_lx p_go; omega)⟩ _ hB FrM.rf (by first | exact hgv9 | exact (show 0 < P 0 8 ∨ P 0 8 ≤ 0 by (clear p_lx p_go; omega)).elim (fun h => Or.inl ⟨h, rfl, rfl⟩) (fun h => Or.inr ⟨h, by obtain ⟨g1, g2, g3, g4, g5⟩ := p_go.resolve_left (by (clear p_lx p_go; omega)); exact VG.start h g1 g2 g3 ⟨g4, g5⟩⟩)) (by have q0 := b0_8 hB; (clear p_lx p_go; omega)) (by have q0 := b0_4 hB; (clear p_lx p_go; omega)) (by have q0 := b0_3 hB; have q1 := b0_4 hB; have q2 := b0_5 hB; (clear p_go; omega)) ivI_SR v_FP (Nat.lt_succ_self _)
/-! What the reference answers: X12_isPlace. -/
set_option maxRecDepth 100000 in
set_option maxHeartbeats 4000000 in
theorem f_X12_isPlace (G : GT) (P : PH) (A : PH) (a1 : Int) (h_a1 : (-2147483648) ≤ a1 ∧ a1 ≤ 2147483647) (hB : BdM P) (p_im : P 0 44 = 1 ∨ A 0 0 ≤ 0) (z0 : AM A P) (Q : Option PV → PH → Prop) (hQ : ∀ (r : Int) (_ : 0 ≤ r ∧ r ≤ 1) (_ : r = 0 ∨ (P 0 44 ≠ 0 ∧ 0 ≤ a1 ∧ a1 < P 35 0)) (_ : (r = 1 ∧ 0 ≤ a1 ∧ a1 < A 0 0) ∨ (r = 0 ∧ (a1 < 0 ∨ A 0 0 ≤ a1))), Q (some (vI r)) P) : Ct WSM G 2 iX12_isPlace [vR 0, vI a1] P Q := by
  refine Ct.of (by decide) (l0 := [(0, vR 0), (1, vI a1)]) rfl (Nat.le_of_ble_eq_true rfl) ?_
  have hb := z0.b
  have q44 := b0_44 hB
  refine g_aload_n dX12_isPlace_0 rfl ?_
  refine m_g44 (z := (P 0 44)) rfl dX12_isPlace_1 rfl ?_
  have f1 := b0_44 hB
  refine g_if_eq (tgt := 27) dX12_isPlace_4 (by decide) ⟨by have q0 := b0_44 hB; (clear p_im hb; omega), by have q0 := b0_44 hB; (clear p_im hb; omega)⟩ (fun k2 => ?_) (fun k2 => ?_)
  · skip
    refine g_iconst dX12_isPlace_27 ?_
    exact g_retZ dX12_isPlace_28 rfl (by decide) (hQ 0 (by decide) (by have q0 := b0_44 hB; have q1 := bl_35 (k := 0) hB; (clear p_im hb k2; omega)) (by (omega)))
  · have k2n : 1 ≤ (P 0 44) := by have q0 := b0_44 hB; (clear p_im hb; omega)
    clear k2
    skip
    refine g_iload_n dX12_isPlace_7 rfl ?_
    refine g_iconst dX12_isPlace_8 ?_
    refine g_aload_n dX12_isPlace_9 rfl ?_
    refine m_g53 rfl dX12_isPlace_10 ?_
    refine g_iconst dX12_isPlace_13 ?_
    refine m_l35 (z := (P 35 0)) dX12_isPlace_14 (by decide) rfl ?_
    refine g_iconst dX12_isPlace_15 ?_
    refine g_isub dX12_isPlace_16 ?_
    have f3 := bl_35 (k := 0) hB
    refine g_sI (av := [vI a1, vI 0, vI ((P 35 0) - 1)]) (st := []) (m_X12_is G P a1 0 ((P 35 0) - 1) ⟨by (clear p_im hb; omega), by (clear p_im hb; omega)⟩ (by decide) ⟨by have q0 := bl_35 (k := 0) hB; (clear p_im hb; omega), by have q0 := bl_35 (k := 0) hB; (clear p_im hb; omega)⟩ hB  _ (fun rc4 hc4 gc4_is => ⟨rc4, rfl, ?_⟩)) cf_X12_is t_1800 rfl (Nat.le_of_ble_eq_true rfl) (by decide) rfl dX12_isPlace_17
    refine g_if_eq (tgt := 27) dX12_isPlace_20 (by decide) ⟨by (clear p_im hb gc4_is; omega), by (clear p_im hb gc4_is; omega)⟩ (fun k5 => ?_) (fun k5 => ?_)
    · skip
      skip
      refine g_iconst dX12_isPlace_27 ?_
      exact g_retZ dX12_isPlace_28 rfl (by decide) (hQ 0 (by decide) (by have q0 := b0_44 hB; have q1 := bl_35 (k := 0) hB; (clear p_im hb gc4_is k5; omega)) (by (omega)))
    · have k5n : 1 ≤ rc4 := by (clear p_im hb gc4_is; omega)
      clear k5
      have r_gc4_is := (gc4_is.resolve_right (by (clear p_im hb gc4_is; omega)))
      skip
      refine g_iconst dX12_isPlace_23 ?_
      refine g_goto (tgt := 28) dX12_isPlace_24 (by decide) ?_
      exact g_retZ dX12_isPlace_28 rfl (by decide) (hQ 1 (by decide) (by have q0 := b0_44 hB; have q1 := bl_35 (k := 0) hB; (clear p_im hb gc4_is; omega)) (by (clear p_im gc4_is; omega)))
/-! What the reference answers: X12_isRow. -/
set_option maxRecDepth 100000 in
set_option maxHeartbeats 4000000 in
theorem f_X12_isRow (G : GT) (P : PH) (M : PH) (a1 : Int) (h_a1 : (-2147483648) ≤ a1 ∧ a1 ≤ 2147483647) (hB : BdM P) (z0 : MH M P) (z1 : MR M P) (Q : Option PV → PH → Prop) (hQ : ∀ (r : Int) (_ : 0 ≤ r ∧ r ≤ 1) (_ : r = 0 ∨ (P 0 44 ≠ 0 ∧ 0 ≤ a1 ∧ a1 < P 0 52)) (_ : (r = 1 ∧ 0 < M 0 0 ∧ 0 ≤ a1 ∧ a1 < M 0 1) ∨ (r = 0 ∧ (M 0 0 ≤ 0 ∨ a1 < 0 ∨ M 0 1 ≤ a1))), Q (some (vI r)) P) : Ct WSM G 2 iX12_isRow [vR 0, vI a1] P Q := by
  refine Ct.of (by decide) (l0 := [(0, vR 0), (1, vI a1)]) rfl (Nat.le_of_ble_eq_true rfl) ?_
  have hmh := z0
  unfold MH at hmh
  have hmr := z1
  unfold MR at hmr
  have q44 := b0_44 hB
  have q52 := b0_52 hB
  refine g_aload_n dX12_isRow_0 rfl ?_
  refine m_g44 (z := (P 0 44)) rfl dX12_isRow_1 rfl ?_
  have f1 := b0_44 hB
  refine g_if_eq (tgt := 25) dX12_isRow_4 (by decide) ⟨by have q0 := b0_44 hB; (clear hmh hmr; omega), by have q0 := b0_44 hB; (clear hmh hmr; omega)⟩ (fun k2 => ?_) (fun k2 => ?_)
  · refine g_iconst dX12_isRow_25 ?_
    exact g_retZ dX12_isRow_26 rfl (by decide) (hQ 0 (by decide) (by have q0 := b0_44 hB; have q1 := b0_52 hB; (clear hmh hmr k2; omega)) (by (omega)))
  · have k2n : 1 ≤ (P 0 44) := by have q0 := b0_44 hB; (clear hmh hmr; omega)
    clear k2
    refine g_iload_n dX12_isRow_7 rfl ?_
    refine g_iconst dX12_isRow_8 ?_
    refine g_aload_n dX12_isRow_9 rfl ?_
    refine m_g52 (z := (P 0 52)) rfl dX12_isRow_10 rfl ?_
    refine g_iconst dX12_isRow_13 ?_
    refine g_isub dX12_isRow_14 ?_
    have f3 := b0_52 hB
    refine g_sI (av := [vI a1, vI 0, vI ((P 0 52) - 1)]) (st := []) (m_X12_is G P a1 0 ((P 0 52) - 1) ⟨by (clear hmh hmr; omega), by (clear hmh hmr; omega)⟩ (by decide) ⟨by have q0 := b0_52 hB; (clear hmh hmr; omega), by have q0 := b0_52 hB; (clear hmh hmr; omega)⟩ hB  _ (fun rc4 hc4 gc4_is => ⟨rc4, rfl, ?_⟩)) cf_X12_is t_1800 rfl (Nat.le_of_ble_eq_true rfl) (by decide) rfl dX12_isRow_15
    refine g_if_eq (tgt := 25) dX12_isRow_18 (by decide) ⟨by (clear hmh hmr gc4_is; omega), by (clear hmh hmr gc4_is; omega)⟩ (fun k5 => ?_) (fun k5 => ?_)
    · skip
      refine g_iconst dX12_isRow_25 ?_
      exact g_retZ dX12_isRow_26 rfl (by decide) (hQ 0 (by decide) (by have q0 := b0_44 hB; have q1 := b0_52 hB; (clear hmh hmr gc4_is k5; omega)) (by (omega)))
    · have k5n : 1 ≤ rc4 := by (clear hmh hmr gc4_is; omega)
      clear k5
      have r_gc4_is := (gc4_is.resolve_right (by (clear hmh hmr gc4_is; omega)))
      refine g_iconst dX12_isRow_21 ?_
      refine g_goto (tgt := 26) dX12_isRow_22 (by decide) ?_
      exact g_retZ dX12_isRow_26 rfl (by decide) (hQ 1 (by decide) (by have q0 := b0_44 hB; have q1 := b0_52 hB; (clear hmh hmr gc4_is; omega)) (by (omega)))
/-! What the reference answers: X12_lays. -/
set_option maxRecDepth 100000 in
set_option maxHeartbeats 4000000 in
theorem f_X12_lays (G : GT) (P : PH) (K : PH) (M : PH) (F : FT) (hB : BdM P) (p_pr : prdU P (P 0 13) (P 11 (P 0 13)).toNat ≤ 20000) (p_aw : AW K) (p_av : AV K M) (v_ZT : ZT P) (v_ZS : ZS P) (v_ZC : ZC P) (v_okC : okC P) (z0 : MKB K P) (z1 : MMB M P) (z2 : MCB K M F P) (Q : Option PV → PH → Prop) (hQ : ∀ (P1 : PH) (_ : BdM P1) (_ : FrM ([52], [29, 30, 31, 32, 33, 34]) P P1) (_ : 1 ≤ P1 0 52) (_ : P1 0 52 = prdU P (P 0 13) (P 11 (P 0 13)).toNat) (_ : LYT K M F P1), Q none P1) : Ct WSM G 4 iX12_lays [vR 0] P Q := by
  refine Ct.of (by decide) (l0 := [(0, vR 0)]) rfl (Nat.le_of_ble_eq_true rfl) ?_
  have hmb := z1.b
  have hav := p_av
  have hszc : ∀ d : Int, 0 ≤ d → d < M 0 0 → 0 ≤ sz K (M 1 d) ∧ sz K (M 1 d) ≤ 2006 := fun d d0 d1 => sz_le p_aw (by have q := p_av.2.2.2.2 d d0 d1; exact ⟨by (clear hmb; omega), by (clear hmb; omega)⟩)
  have q11 := bl_11 (k := P 0 13) hB
  refine g_aload_n dX12_lays_0 rfl ?_
  refine g_iconst dX12_lays_1 ?_
  refine m_p52 rfl dX12_lays_2 ?_
  have hB1 := bs_52 (z := 1) hB (by decide)
  refine g_iconst dX12_lays_5 ?_
  refine g_istore_n (l1 := [(1, vI 0), (0, vR 0)]) dX12_lays_6 (by decide) rfl ?_
  have L7_1 : ∀ (n7_1 : Nat) (x7_1_1 : Int) (h_x7_1_1 : 0 ≤ x7_1_1 ∧ x7_1_1 ≤ 4) (H7_1 : PH) (hB7_1 : BdM H7_1) (hE7_1 : FrM ([52], [29, 30, 31, 32, 33, 34]) (up P 0 52 1) H7_1) (i7_0_1 : H7_1 0 52 = prdU P (P 0 13) (x7_1_1).toNat) (i7_1_1 : 1 ≤ H7_1 0 52) (i7_2_1 : LYs K M F x7_1_1 H7_1) (i7_3_1 : x7_1_1 ≤ P 11 (P 0 13)) (hm7_1 : ((5 - x7_1_1) : Int).toNat < n7_1), Go WSM G 4 iX12_lays 7 [(0, vR 0), (1, vI x7_1_1)] [] H7_1 Q := by
    intro n7_1
    induction n7_1 with
    | zero => intro x7_1_1 h_x7_1_1 H7_1 hB7_1 hE7_1 i7_0_1 i7_1_1 i7_2_1 i7_3_1 hm7_1; exact absurd hm7_1 (Nat.not_lt_zero _)
    | succ n7_1 ih7_1 =>
    intro x7_1_1 h_x7_1_1 H7_1 hB7_1 hE7_1 i7_0_1 i7_1_1 i7_2_1 i7_3_1 hm7_1
    refine g_iload_n dX12_lays_7 rfl ?_
    refine g_aload_n dX12_lays_8 rfl ?_
    refine g_vI (av := []) (o := 0) (st := [vI x7_1_1]) (m_X12_columns G H7_1  hB7_1  _ (fun rc6775 hc6775 gc6775_c => ⟨rc6775, rfl, ?_⟩)) cf_X12_columns t_1827 rfl (by decide) rfl rfl rfl (Nat.le_of_ble_eq_true rfl) (by decide) rfl dX12_lays_9
    have z6776 : H7_1 0 13 = (P 0 13) := ((hE7_1.1 13 rfl).trans ((up_k (by decide)).trans rfl))
    have hcl : rc6775 = P 11 (P 0 13) := by have q := gc6775_c; rw [show H7_1 0 13 = _ from ((hE7_1.1 13 rfl).trans ((up_k (by decide)).trans rfl)), show H7_1 11 (P 0 13) = _ from ((congrFun (hE7_1.2 11 rfl rfl) _).trans ((up_o (by decide)).trans rfl))] at q; exact q
    refine g_icmp_ge (tgt := 196) dX12_lays_12 (by decide) ⟨by (clear hmb; omega), by (clear hmb; omega)⟩ ⟨by (clear hmb; omega), by (clear hmb; omega)⟩ (fun k6777 => ?_) (fun k6777 => ?_)
    · exact g_retV dX12_lays_196 rfl (hQ _ hB7_1 (FrM.c (FrM.s FrM.rf rfl) hE7_1 rfl) (by have q0 := b0_52 hB7_1; (clear hmb k6777; omega)) (by have q := i7_0_1; rw [show P 11 (P 0 13) = x7_1_1 by (clear hmb; omega)]; exact q) (by have q := i7_2_1; rw [show x7_1_1 = M 0 0 by (omega)] at q; exact q))
    · have iv6778 : LYs K M F x7_1_1 H7_1 := i7_2_1
      refine g_iconst dX12_lays_15 ?_
      refine g_istore_n (l1 := [(2, vI 0), (0, vR 0), (1, vI x7_1_1)]) dX12_lays_16 (by decide) rfl ?_
      have L17_6778 : ∀ (n17_6778 : Nat) (x17_2_6778 : Int) (h_x17_2_6778 : 0 ≤ x17_2_6778 ∧ x17_2_6778 ≤ 4096) (H17_6778 : PH) (hB17_6778 : BdM H17_6778) (hE17_6778 : FrM ([], [34]) H7_1 H17_6778) (i17_0_6778 : ∀ s : Int, 0 ≤ s → s < x17_2_6778 → H17_6778 34 s = -1) (hm17_6778 : ((4097 - x17_2_6778) : Int).toNat < n17_6778), Go WSM G 4 iX12_lays 17 [(0, vR 0), (1, vI x7_1_1), (2, vI x17_2_6778)] [] H17_6778 Q := by
        intro n17_6778
        induction n17_6778 with
        | zero => intro x17_2_6778 h_x17_2_6778 H17_6778 hB17_6778 hE17_6778 i17_0_6778 hm17_6778; exact absurd hm17_6778 (Nat.not_lt_zero _)
        | succ n17_6778 ih17_6778 =>
        intro x17_2_6778 h_x17_2_6778 H17_6778 hB17_6778 hE17_6778 i17_0_6778 hm17_6778
        refine g_iload_n dX12_lays_17 rfl ?_
        refine g_sipush dX12_lays_18 (by decide) ?_
        refine g_icmp_ge (tgt := 37) dX12_lays_21 (by decide) ⟨by (clear hmb k6777; omega), by (clear hmb k6777; omega)⟩ (by decide) (fun k8056 => ?_) (fun k8056 => ?_)
        · have hsn8 := i17_0_6778
          have hlys8 := (LYs.fr iv6778 (show FrM ([], [34]) _ _ from (FrM.c FrM.rf hE17_6778 rfl)) rfl)
          refine g_aload_n dX12_lays_37 rfl ?_
          refine m_g50 rfl dX12_lays_38 ?_
          refine g_iload_n dX12_lays_41 rfl ?_
          refine g_iconst dX12_lays_42 ?_
          refine m_s33 dX12_lays_43 ⟨by (clear hmb k6777; omega), by (omega)⟩ ?_
          have hB8057 := ba_33 (z := 0) (k := x7_1_1) hB17_6778 (by decide)
          have iv8058 : LYs K M F x7_1_1 (up H17_6778 33 x7_1_1 0) := hlys8.other (P1 := (up H17_6778 33 x7_1_1 0)) (by (clear hmb k6777; omega)) (fun d d0 d1 => (hszc d d0 (by (clear k6777; omega))).2) (fun j hj9 => by first | exact ((up_o (by decide)).trans rfl) | (have hj : j ≠ 0 := (by (first | (clear hmb k6777; omega) | (clear hmb; omega) | (clear k6777; omega) | omega)); exact ((up_o (by decide)).trans rfl))) (fun j hj9 => by first | exact ((up_o (by decide)).trans rfl) | (have hj : j ≠ 0 := (by (first | (clear hmb k6777; omega) | (clear hmb; omega) | (clear k6777; omega) | omega)); exact ((up_o (by decide)).trans rfl))) (fun j hj9 => by first | exact ((up_k hj).trans rfl) | (have hj : j ≠ x7_1_1 := (by (clear hmb k6777; omega)); exact ((up_k hj).trans rfl)))
          have iv8059 : LYc K M F x7_1_1 0 (up H17_6778 33 x7_1_1 0) := LYc.start up_same
          have iv8060 : SNx (dsl (mkf K M F x7_1_1) 0) (up H17_6778 33 x7_1_1 0) := SNx.start (fun s s0 s1 => Eq.trans ((up_o (by decide)).trans rfl) (hsn8 s s0 (by (clear hmb k6777; omega))))
          refine g_iconst dX12_lays_44 ?_
          refine g_istore_n (l1 := [(2, vI 0), (0, vR 0), (1, vI x7_1_1)]) dX12_lays_45 (by decide) rfl ?_
          have L46_8060 : ∀ (n46_8060 : Nat) (x46_2_8060 : Int) (h_x46_2_8060 : 0 ≤ x46_2_8060 ∧ x46_2_8060 ≤ 2006) (H46_8060 : PH) (hB46_8060 : BdM H46_8060) (hE46_8060 : FrM ([], [29, 30, 31, 32, 33, 34]) (up H17_6778 33 x7_1_1 0) H46_8060) (i46_0_8060 : H46_8060 33 x7_1_1 ≤ x46_2_8060) (i46_1_8060 : LYs K M F x7_1_1 H46_8060 ∧ LYc K M F x7_1_1 x46_2_8060 H46_8060 ∧ SNx (dsl (mkf K M F x7_1_1) (x46_2_8060).toNat) H46_8060) (i46_2_8060 : x46_2_8060 ≤ sz K (M 1 x7_1_1)) (hm46_8060 : ((2007 - x46_2_8060) : Int).toNat < n46_8060), Go WSM G 4 iX12_lays 46 [(0, vR 0), (1, vI x7_1_1), (2, vI x46_2_8060)] [] H46_8060 Q := by
            intro n46_8060
            induction n46_8060 with
            | zero => intro x46_2_8060 h_x46_2_8060 H46_8060 hB46_8060 hE46_8060 i46_0_8060 i46_1_8060 i46_2_8060 hm46_8060; exact absurd hm46_8060 (Nat.not_lt_zero _)
            | succ n46_8060 ih46_8060 =>
            intro x46_2_8060 h_x46_2_8060 H46_8060 hB46_8060 hE46_8060 i46_0_8060 i46_1_8060 i46_2_8060 hm46_8060
            refine g_iload_n dX12_lays_46 rfl ?_
            refine g_aload_n dX12_lays_47 rfl ?_
            refine g_iload_n dX12_lays_48 rfl ?_
            refine g_vI (av := [vI x7_1_1]) (o := 0) (st := [vI x46_2_8060]) (m_X12_columnValues G H46_8060 x7_1_1 ⟨by (clear hmb k6777; omega), by (omega)⟩ hB46_8060 (by have q0 := (((congrFun (hE46_8060.2 11 rfl rfl) _).trans ((up_o (by decide)).trans ((congrFun (hE17_6778.2 11 rfl rfl) _).trans ((congrFun (hE7_1.2 11 rfl rfl) _).trans ((up_o (by decide)).trans rfl))))) : H46_8060 11 (H46_8060 0 13) = (P 11 (H46_8060 0 13))); have q1 := bl_11 (k := (H46_8060 0 13)) hB; have q2 := ((congrArg (H46_8060 11) ((hE46_8060.1 13 rfl).trans ((up_o (by decide)).trans ((hE17_6778.1 13 rfl).trans ((hE7_1.1 13 rfl).trans ((up_k (by decide)).trans rfl)))))).trans ((congrFun (hE46_8060.2 11 rfl rfl) _).trans ((up_o (by decide)).trans ((congrFun (hE17_6778.2 11 rfl rfl) _).trans ((congrFun (hE7_1.2 11 rfl rfl) _).trans ((up_o (by decide)).trans rfl))))) : H46_8060 11 (H46_8060 0 13) = (P 11 (P 0 13))); have q3 := bl_11 (k := (P 0 13)) hB; (clear hmb; omega)) (okC.fr (F := ([52], [29, 30, 31, 32, 33, 34])) v_okC (FrM.c (FrM.a (FrM.c (FrM.c (FrM.s FrM.rf rfl) hE7_1 rfl) hE17_6778 rfl) rfl rfl) hE46_8060 rfl) rfl) _ (fun rc8385 hc8385 gc8385_v => ⟨rc8385, rfl, ?_⟩)) cf_X12_columnValues t_1831 rfl (by decide) rfl rfl rfl (Nat.le_of_ble_eq_true rfl) (by decide) rfl dX12_lays_49
            have z8386 : H46_8060 0 13 = (P 0 13) := ((hE46_8060.1 13 rfl).trans ((up_o (by decide)).trans ((hE17_6778.1 13 rfl).trans ((hE7_1.1 13 rfl).trans ((up_k (by decide)).trans rfl)))))
            have r12c : ∀ j, H46_8060 12 j = P 12 j := fun j => ((congrFun (hE46_8060.2 12 rfl rfl) _).trans ((up_o (by decide)).trans ((congrFun (hE17_6778.2 12 rfl rfl) _).trans ((congrFun (hE7_1.2 12 rfl rfl) _).trans ((up_o (by decide)).trans rfl)))))
            have r3c : ∀ j, H46_8060 3 j = P 3 j := fun j => ((congrFun (hE46_8060.2 3 rfl rfl) _).trans ((up_o (by decide)).trans ((congrFun (hE17_6778.2 3 rfl rfl) _).trans ((congrFun (hE7_1.2 3 rfl rfl) _).trans ((up_o (by decide)).trans rfl)))))
            have hcs : rc8385 = sz K (M 1 x7_1_1) := by have q := gc8385_v; rw [show H46_8060 0 13 = P 0 13 from ((hE46_8060.1 13 rfl).trans ((up_o (by decide)).trans ((hE17_6778.1 13 rfl).trans ((hE7_1.1 13 rfl).trans ((up_k (by decide)).trans rfl))))), r12c, vals_row (show H46_8060 3 = P 3 from funext r3c)] at q; rw [q]; exact z0.vl (z1.2.2.2.2.1 x7_1_1 (by (clear hmb k6777; omega)) (by (omega))) (by have q2 := p_av.2.2.2.2 x7_1_1 (by (clear hmb k6777; omega)) (by (omega)); (clear hmb k6777; omega))
            refine g_icmp_ge (tgt := 176) dX12_lays_52 (by decide) ⟨by (clear hmb k6777; omega), by (clear hmb k6777; omega)⟩ ⟨by (clear hmb k6777; omega), by (clear hmb k6777; omega)⟩ (fun k8387 => ?_) (fun k8387 => ?_)
            · have iv8388 : LYs K M F (x7_1_1 + 1) H46_8060 := (i46_1_8060).1.next (i46_1_8060).2.1 (by (clear hmb k6777; omega))
              refine g_aload_n dX12_lays_176 rfl ?_
              refine g_dup dX12_lays_177 rfl ?_
              have hpl := prdU_lt v_ZC (b := P 0 13) (c := x7_1_1) (b0_13 hB) ⟨by (clear hmb k6777; omega), by (clear hmb; omega)⟩ p_pr
              refine m_g52 (z := (H7_1 0 52)) rfl dX12_lays_178 ((hE46_8060.1 52 rfl).trans ((up_o (by decide)).trans ((hE17_6778.1 52 rfl).trans rfl))) ?_
              refine g_aload_n dX12_lays_181 rfl ?_
              refine g_iload_n dX12_lays_182 rfl ?_
              refine g_vI (av := [vI x7_1_1]) (o := 0) (st := [vI (H7_1 0 52), vR 0]) (m_X12_columnValues G H46_8060 x7_1_1 ⟨by (clear hmb k6777; omega), by (omega)⟩ hB46_8060 (by have q0 := (((congrFun (hE46_8060.2 11 rfl rfl) _).trans ((up_o (by decide)).trans ((congrFun (hE17_6778.2 11 rfl rfl) _).trans ((congrFun (hE7_1.2 11 rfl rfl) _).trans ((up_o (by decide)).trans rfl))))) : H46_8060 11 (H46_8060 0 13) = (P 11 (H46_8060 0 13))); have q1 := bl_11 (k := (H46_8060 0 13)) hB; have q2 := ((congrArg (H46_8060 11) ((hE46_8060.1 13 rfl).trans ((up_o (by decide)).trans ((hE17_6778.1 13 rfl).trans ((hE7_1.1 13 rfl).trans ((up_k (by decide)).trans rfl)))))).trans ((congrFun (hE46_8060.2 11 rfl rfl) _).trans ((up_o (by decide)).trans ((congrFun (hE17_6778.2 11 rfl rfl) _).trans ((congrFun (hE7_1.2 11 rfl rfl) _).trans ((up_o (by decide)).trans rfl))))) : H46_8060 11 (H46_8060 0 13) = (P 11 (P 0 13))); have q3 := bl_11 (k := (P 0 13)) hB; (clear hmb; omega)) (okC.fr (F := ([52], [29, 30, 31, 32, 33, 34])) v_okC (FrM.c (FrM.a (FrM.c (FrM.c (FrM.s FrM.rf rfl) hE7_1 rfl) hE17_6778 rfl) rfl rfl) hE46_8060 rfl) rfl) _ (fun rc8389 hc8389 gc8389_v => ⟨rc8389, rfl, ?_⟩)) cf_X12_columnValues t_1831 rfl (by decide) rfl rfl rfl (Nat.le_of_ble_eq_true rfl) (by decide) rfl dX12_lays_183
              have z8390 : H46_8060 0 13 = (P 0 13) := ((hE46_8060.1 13 rfl).trans ((up_o (by decide)).trans ((hE17_6778.1 13 rfl).trans ((hE7_1.1 13 rfl).trans ((up_k (by decide)).trans rfl)))))
              have hcv : rc8389 = vals P (P 0 13) (P 12 (4 * P 0 13 + x7_1_1)) := by have q := gc8389_v; rw [show H46_8060 0 13 = _ from ((hE46_8060.1 13 rfl).trans ((up_o (by decide)).trans ((hE17_6778.1 13 rfl).trans ((hE7_1.1 13 rfl).trans ((up_k (by decide)).trans rfl))))), show H46_8060 12 (4 * P 0 13 + x7_1_1) = _ from ((congrFun (hE46_8060.2 12 rfl rfl) _).trans ((up_o (by decide)).trans ((congrFun (hE17_6778.2 12 rfl rfl) _).trans ((congrFun (hE7_1.2 12 rfl rfl) _).trans ((up_o (by decide)).trans rfl))))), vals_eq (P := P) (fun _ => ((congrFun (hE46_8060.2 3 rfl rfl) _).trans ((up_o (by decide)).trans ((congrFun (hE17_6778.2 3 rfl rfl) _).trans ((congrFun (hE7_1.2 3 rfl rfl) _).trans ((up_o (by decide)).trans rfl))))))] at q; exact q
              refine g_imul dX12_lays_186 ?_
              refine g_nm (fun w8391 e_w8391 => ?_)
              have hrm8 : w8391 = prdU P (P 0 13) (x7_1_1 + 1).toNat := by rw [e_w8391, hpl.1, ← hcv]; congr 1
              have hrm7 : 1 ≤ w8391 ∧ w8391 ≤ 20000 := by rw [hrm8]; exact hpl.2
              refine m_p52 rfl dX12_lays_187 ?_
              have hB8392 := bs_52 (z := w8391) hB46_8060 ⟨by (clear hmb k6777; omega), by (clear hmb k6777; omega)⟩
              refine g_iinc (l1 := [(1, vI (x7_1_1 + 1)), (0, vR 0), (2, vI x46_2_8060)]) dX12_lays_190 rfl (by decide) rfl ?_
              refine g_goto (tgt := 7) dX12_lays_193 (by decide) ?_
              refine g_forget (l1 := [(0, vR 0), (1, vI (x7_1_1 + 1))]) (by intro q hq; simp only [List.mem_cons, List.not_mem_nil, or_false] at hq ⊢; rcases hq with rfl | rfl <;> simp) ?_
              exact ih7_1 (x7_1_1 + 1) ⟨by (clear hmb k6777; omega), by (omega)⟩ _ hB8392 (FrM.s (FrM.c (FrM.a (FrM.c (FrM.c FrM.rf hE7_1 rfl) hE17_6778 rfl) rfl rfl) hE46_8060 rfl) rfl) (by first | exact (up_same).trans hrm8 | exact up_same) (by have q0 := (up_same : (up H46_8060 0 52 w8391) 0 52 = w8391); (clear hmb k6777; omega)) (by first | exact (LYs.fr iv8388 (show FrM ([52], []) _ _ from (FrM.s FrM.rf rfl)) rfl) | exact fun d d0 d1 => by (first | (clear hmb k6777; omega) | (clear hmb; omega) | (clear k6777; omega) | omega)) (by (clear hmb; omega)) (by (clear hmb k6777; omega))
            · obtain ⟨hlys7, hlyc7, hsn7⟩ := i46_1_8060
              have hzc9 := hszc x7_1_1 (by (clear hmb k6777; omega)) (by (omega))
              have iv8393 : LYs K M F x7_1_1 H46_8060 := hlys7
              have iv8394 : LYc K M F x7_1_1 x46_2_8060 H46_8060 := hlyc7
              have iv8395 : SNx (dsl (mkf K M F x7_1_1) (x46_2_8060).toNat) H46_8060 := hsn7
              refine g_iconst dX12_lays_55 ?_
              refine g_istore_n (l1 := [(3, vI 0), (0, vR 0), (1, vI x7_1_1), (2, vI x46_2_8060)]) dX12_lays_56 (by decide) rfl ?_
              refine g_iconst dX12_lays_57 ?_
              refine g_istore (l1 := [(4, vI 0), (3, vI 0), (0, vR 0), (1, vI x7_1_1), (2, vI x46_2_8060)]) dX12_lays_58 (by decide) rfl ?_
              have L60_8395 : ∀ (n60_8395 : Nat) (x60_4_8395 : Int) (h_x60_4_8395 : 0 ≤ x60_4_8395 ∧ x60_4_8395 ≤ 12) (x60_3_8395 : Int) (h_x60_3_8395 : 0 ≤ x60_3_8395 ∧ x60_3_8395 ≤ 4095) (H60_8395 : PH) (hB60_8395 : BdM H60_8395) (hE60_8395 : FrM ([], [29, 30]) H46_8060 H60_8395) (i60_0_8395 : x60_3_8395 = msk K F x7_1_1 x46_2_8060 (x60_4_8395).toNat) (i60_1_8395 : x60_4_8395 ≤ M 0 2) (hm60_8395 : ((13 - x60_4_8395) : Int).toNat < n60_8395), Go WSM G 4 iX12_lays 60 [(0, vR 0), (1, vI x7_1_1), (2, vI x46_2_8060), (3, vI x60_3_8395), (4, vI x60_4_8395)] [] H60_8395 Q := by
                intro n60_8395
                induction n60_8395 with
                | zero => intro x60_4_8395 h_x60_4_8395 x60_3_8395 h_x60_3_8395 H60_8395 hB60_8395 hE60_8395 i60_0_8395 i60_1_8395 hm60_8395; exact absurd hm60_8395 (Nat.not_lt_zero _)
                | succ n60_8395 ih60_8395 =>
                intro x60_4_8395 h_x60_4_8395 x60_3_8395 h_x60_3_8395 H60_8395 hB60_8395 hE60_8395 i60_0_8395 i60_1_8395 hm60_8395
                refine g_iload dX12_lays_60 rfl ?_
                refine g_aload_n dX12_lays_62 rfl ?_
                refine m_g25 rfl dX12_lays_63 ?_
                refine g_aload_n dX12_lays_66 rfl ?_
                refine m_g13 (z := (P 0 13)) rfl dX12_lays_67 ((hE60_8395.1 13 rfl).trans ((hE46_8060.1 13 rfl).trans ((up_o (by decide)).trans ((hE17_6778.1 13 rfl).trans ((hE7_1.1 13 rfl).trans ((up_k (by decide)).trans rfl)))))) ?_
                refine m_l13 (z := (P 13 (P 0 13))) dX12_lays_70 ⟨by have q0 := b0_13 hB; (clear hmb k6777; omega), by have q0 := b0_13 hB; (clear hmb k6777; omega)⟩ ((congrFun (hE60_8395.2 13 rfl rfl) _).trans ((congrFun (hE46_8060.2 13 rfl rfl) _).trans ((up_o (by decide)).trans ((congrFun (hE17_6778.2 13 rfl rfl) _).trans ((congrFun (hE7_1.2 13 rfl rfl) _).trans ((up_o (by decide)).trans rfl)))))) ?_
                have f8453 := bl_13 (k := (P 0 13)) hB
                refine g_icmp_ge (tgt := 102) dX12_lays_71 (by decide) ⟨by (clear hmb k6777; omega), by (clear hmb k6777; omega)⟩ ⟨by have q0 := bl_13 (k := (P 0 13)) hB; (clear hmb k6777; omega), by have q0 := bl_13 (k := (P 0 13)) hB; (clear hmb k6777; omega)⟩ (fun k8454 => ?_) (fun k8454 => ?_)
                · have hst8 : x60_3_8395 = mkf K M F x7_1_1 x46_2_8060 := by have q := i60_0_8395; rw [show (x60_4_8395).toNat = (M 0 2).toNat by (clear k6777; omega)] at q; exact q
                  have hb12 := msk_12 (K := K) (M := M) (F := F) (c := x7_1_1) (v := x46_2_8060) ⟨by (clear hmb k6777; omega), by (clear k6777; omega)⟩
                  have hlys6 := (LYs.fr iv8393 (show FrM ([], [29, 30]) _ _ from (FrM.c FrM.rf hE60_8395 rfl)) rfl)
                  have hlyc6 := (LYc.fr iv8394 (show FrM ([], [29, 30]) _ _ from (FrM.c FrM.rf hE60_8395 rfl)) rfl)
                  have hsn6 := (SNx.fr iv8395 (show FrM ([], [29, 30]) _ _ from (FrM.c FrM.rf hE60_8395 rfl)) rfl)
                  have h34z := (((congrFun (hE60_8395.2 34 rfl rfl) _).trans rfl) : H60_8395 34 x60_3_8395 = (H46_8060 34 x60_3_8395))
                  have h33z := (((congrFun (hE60_8395.2 33 rfl rfl) _).trans rfl) : H60_8395 33 x7_1_1 = (H46_8060 33 x7_1_1))
                  have h33b := bl_33 (k := x7_1_1) hB60_8395
                  refine g_aload_n dX12_lays_102 rfl ?_
                  refine m_g51 rfl dX12_lays_103 ?_
                  refine g_iload_n dX12_lays_106 rfl ?_
                  refine m_l34 (z := (H46_8060 34 x60_3_8395)) dX12_lays_107 ⟨by (clear hmb k6777; omega), by (clear hmb k6777; omega)⟩ ((congrFun (hE60_8395.2 34 rfl rfl) _).trans rfl) ?_
                  refine g_iconst dX12_lays_108 ?_
                  have f8455 := bl_34 (k := x60_3_8395) hB46_8060
                  refine g_icmp_ne (tgt := 152) dX12_lays_109 (by decide) ⟨by have q0 := bl_34 (k := x60_3_8395) hB46_8060; (clear hmb k6777; omega), by have q0 := bl_34 (k := x60_3_8395) hB46_8060; (clear hmb k6777; omega)⟩ (by decide) (fun k8456 => ?_) (fun k8456 => ?_)
                  · have k8456n : 0 ≤ (H46_8060 34 x60_3_8395) := by have q0 := bl_34 (k := x60_3_8395) hB46_8060; (clear hmb k6777; omega)
                    clear k8456
                    refine g_aload_n dX12_lays_152 rfl ?_
                    refine m_g48 rfl dX12_lays_153 ?_
                    refine g_sipush dX12_lays_156 (by decide) ?_
                    refine g_iload_n dX12_lays_159 rfl ?_
                    refine g_imul dX12_lays_160 ?_
                    refine g_iload_n dX12_lays_161 rfl ?_
                    refine g_iadd dX12_lays_162 ?_
                    refine g_aload_n dX12_lays_163 rfl ?_
                    refine m_g51 rfl dX12_lays_164 ?_
                    refine g_iload_n dX12_lays_167 rfl ?_
                    refine m_l34 (z := (H46_8060 34 x60_3_8395)) dX12_lays_168 ⟨by (clear hmb k6777; omega), by (clear hmb k6777; omega)⟩ ((congrFun (hE60_8395.2 34 rfl rfl) _).trans rfl) ?_
                    refine m_s31 dX12_lays_169 ⟨by (clear hmb k6777; omega), by (omega)⟩ ?_
                    have hB8457 := ba_31 (z := (H46_8060 34 x60_3_8395)) (k := ((2010 * x7_1_1) + x46_2_8060)) hB60_8395 ⟨by have q0 := bl_34 (k := x60_3_8395) hB46_8060; (clear hmb k6777; omega), by have q0 := bl_34 (k := x60_3_8395) hB46_8060; (clear hmb k6777; omega)⟩
                    have hst9 : LYs K M F x7_1_1 (up H60_8395 31 ((2010 * x7_1_1) + x46_2_8060) (H46_8060 34 x60_3_8395)) ∧ LYc K M F x7_1_1 (x46_2_8060 + 1) (up H60_8395 31 ((2010 * x7_1_1) + x46_2_8060) (H46_8060 34 x60_3_8395)) ∧ SNx (dsl (mkf K M F x7_1_1) (x46_2_8060 + 1).toNat) (up H60_8395 31 ((2010 * x7_1_1) + x46_2_8060) (H46_8060 34 x60_3_8395)) := by
                      have hls := hlys6.other (P1 := (up H60_8395 31 ((2010 * x7_1_1) + x46_2_8060) (H46_8060 34 x60_3_8395))) (by (clear hmb k6777; omega)) (fun d d0 d1 => (hszc d d0 (by (clear k6777; omega))).2) (fun j hj9 => by first | exact ((up_k hj).trans rfl) | (have hj : j ≠ ((2010 * x7_1_1) + x46_2_8060) := (by (clear hmb k6777; omega)); exact ((up_k hj).trans rfl))) (fun j hj9 => by first | exact ((up_o (by decide)).trans rfl) | (have hj : j ≠ 0 := (by (first | (clear hmb k6777; omega) | (clear hmb; omega) | (clear k6777; omega) | omega)); exact ((up_o (by decide)).trans rfl))) (fun j hj9 => by first | exact ((up_o (by decide)).trans rfl) | (have hj : j ≠ x7_1_1 := (by (first | (clear hmb k6777; omega) | (clear hmb; omega) | (clear k6777; omega) | omega)); exact ((up_o (by decide)).trans rfl)))
                      first
                      | exact ⟨hls, LYc.old hlyc6 hsn6 hst8 ⟨by (clear hmb k6777; omega), by (clear hmb k6777; omega)⟩ (by (clear hmb k6777; omega)) (fun j => ((up_o (by decide)).trans rfl)) (fun j => ((up_o (by decide)).trans rfl)) (Eq.trans up_same h34z.symm) (fun j hj => ((up_k hj).trans rfl)) (fun j => ((up_o (by decide)).trans rfl))⟩
                      | exact ⟨hls, LYc.new hlyc6 hsn6 hst8 ⟨by (first | (clear hmb k6777; omega) | (clear hmb; omega) | (clear k6777; omega) | omega), by (first | (clear hmb k6777; omega) | (clear hmb; omega) | (clear k6777; omega) | omega)⟩ (by (first | (clear hmb k6777; omega) | (clear hmb; omega) | (clear k6777; omega) | omega)) h33z.symm ((up_o (by decide)).trans ((congrFun (hE60_8395.2 32 rfl rfl) _).trans rfl)) (fun j hj => ((up_o (by decide)).trans rfl)) ((up_o (by decide)).trans ((congrFun (hE60_8395.2 33 rfl rfl) _).trans rfl)) up_same (fun j hj => ((up_k hj).trans rfl)) ((up_o (by decide)).trans ((congrFun (hE60_8395.2 34 rfl rfl) _).trans rfl)) (fun j hj => ((up_o (by decide)).trans rfl))⟩
                    refine g_iinc (l1 := [(2, vI (x46_2_8060 + 1)), (0, vR 0), (1, vI x7_1_1), (3, vI x60_3_8395), (4, vI x60_4_8395)]) dX12_lays_170 rfl (by decide) rfl ?_
                    refine g_goto (tgt := 46) dX12_lays_173 (by decide) ?_
                    refine g_forget (l1 := [(0, vR 0), (1, vI x7_1_1), (2, vI (x46_2_8060 + 1))]) (by intro q hq; simp only [List.mem_cons, List.not_mem_nil, or_false] at hq ⊢; rcases hq with rfl | rfl | rfl <;> simp) ?_
                    exact ih46_8060 (x46_2_8060 + 1) ⟨by (clear hmb k6777; omega), by (clear hmb k6777; omega)⟩ _ hB8457 (FrM.a (FrM.c (FrM.c FrM.rf hE46_8060 rfl) hE60_8395 rfl) rfl rfl) (by have q0 := (((up_o (by decide)).trans ((congrFun (hE60_8395.2 33 rfl rfl) _).trans rfl)) : (up H60_8395 31 ((2010 * x7_1_1) + x46_2_8060) (H46_8060 34 x60_3_8395)) 33 x7_1_1 = (H46_8060 33 x7_1_1)); have q1 := bl_33 (k := x7_1_1) hB46_8060; (clear hmb k6777; omega)) (by first | exact hst9 | exact ⟨hNONE, hNONE, (by first | (rw [show (dsl (mkf K M F x7_1_1) 0) = (dsl (mkf K M F x7_1_1) (x46_2_8060).toNat) by (first | (clear hmb k6777; omega) | (clear hmb; omega) | (clear k6777; omega) | omega)]; exact (SNx.fr iv8395 (show FrM ([], [29, 30, 31]) _ _ from (FrM.a (FrM.c FrM.rf hE60_8395 rfl) rfl rfl)) rfl)))⟩) (by first | (clear hmb k6777; omega) | (have q := hszc x7_1_1 (by (first | (clear hmb k6777; omega) | (clear hmb; omega) | (clear k6777; omega) | omega)) (by (first | (clear hmb k6777; omega) | (clear hmb; omega) | (clear k6777; omega) | omega)); (first | (clear hmb k6777; omega) | (clear hmb; omega) | (clear k6777; omega) | omega))) (by (clear hmb k6777; omega))
                  · refine g_aload_n dX12_lays_112 rfl ?_
                    refine m_g51 rfl dX12_lays_113 ?_
                    refine g_iload_n dX12_lays_116 rfl ?_
                    refine g_aload_n dX12_lays_117 rfl ?_
                    refine m_g50 rfl dX12_lays_118 ?_
                    refine g_iload_n dX12_lays_121 rfl ?_
                    refine m_l33 (z := (H46_8060 33 x7_1_1)) dX12_lays_122 ⟨by (clear hmb k6777; omega), by (omega)⟩ ((congrFun (hE60_8395.2 33 rfl rfl) _).trans rfl) ?_
                    refine m_s34 dX12_lays_123 ⟨by (clear hmb k6777; omega), by (clear hmb k6777; omega)⟩ ?_
                    have hB8458 := ba_34 (z := (H46_8060 33 x7_1_1)) (k := x60_3_8395) hB60_8395 ⟨by have q0 := bl_33 (k := x7_1_1) hB46_8060; (clear hmb k6777; omega), by have q0 := bl_33 (k := x7_1_1) hB46_8060; (clear hmb k6777; omega)⟩
                    refine g_aload_n dX12_lays_124 rfl ?_
                    refine m_g49 rfl dX12_lays_125 ?_
                    refine g_sipush dX12_lays_128 (by decide) ?_
                    refine g_iload_n dX12_lays_131 rfl ?_
                    refine g_imul dX12_lays_132 ?_
                    refine g_aload_n dX12_lays_133 rfl ?_
                    refine m_g50 rfl dX12_lays_134 ?_
                    refine g_iload_n dX12_lays_137 rfl ?_
                    refine m_l33 (z := (H46_8060 33 x7_1_1)) dX12_lays_138 ⟨by (clear hmb k6777; omega), by (omega)⟩ ((up_o (by decide)).trans ((congrFun (hE60_8395.2 33 rfl rfl) _).trans rfl)) ?_
                    refine g_iadd dX12_lays_139 ?_
                    refine g_iload_n dX12_lays_140 rfl ?_
                    refine m_s32 dX12_lays_141 ⟨by have q0 := bl_33 (k := x7_1_1) hB46_8060; (clear hmb k6777; omega), by have q0 := bl_33 (k := x7_1_1) hB46_8060; (omega)⟩ ?_
                    have hB8459 := ba_32 (z := x60_3_8395) (k := ((2010 * x7_1_1) + (H46_8060 33 x7_1_1))) hB8458 ⟨by (clear hmb k6777; omega), by (clear hmb k6777; omega)⟩
                    refine g_aload_n dX12_lays_142 rfl ?_
                    refine m_g50 rfl dX12_lays_143 ?_
                    refine g_iload_n dX12_lays_146 rfl ?_
                    refine g_dup2 dX12_lays_147 rfl rfl ?_
                    refine m_l33 (z := (H46_8060 33 x7_1_1)) dX12_lays_148 ⟨by (clear hmb k6777; omega), by (omega)⟩ ((up_o (by decide)).trans ((up_o (by decide)).trans ((congrFun (hE60_8395.2 33 rfl rfl) _).trans rfl))) ?_
                    refine g_iconst dX12_lays_149 ?_
                    refine g_iadd dX12_lays_150 ?_
                    refine m_s33 dX12_lays_151 ⟨by (clear hmb k6777; omega), by (omega)⟩ ?_
                    have hB8460 := ba_33 (z := ((H46_8060 33 x7_1_1) + 1)) (k := x7_1_1) hB8459 ⟨by have q0 := bl_33 (k := x7_1_1) hB46_8060; (clear hmb k6777; omega), by have q0 := bl_33 (k := x7_1_1) hB46_8060; (clear hmb k6777; omega)⟩
                    refine g_aload_n dX12_lays_152 rfl ?_
                    refine m_g48 rfl dX12_lays_153 ?_
                    refine g_sipush dX12_lays_156 (by decide) ?_
                    refine g_iload_n dX12_lays_159 rfl ?_
                    refine g_imul dX12_lays_160 ?_
                    refine g_iload_n dX12_lays_161 rfl ?_
                    refine g_iadd dX12_lays_162 ?_
                    refine g_aload_n dX12_lays_163 rfl ?_
                    refine m_g51 rfl dX12_lays_164 ?_
                    refine g_iload_n dX12_lays_167 rfl ?_
                    refine m_l34 (z := (H46_8060 33 x7_1_1)) dX12_lays_168 ⟨by (clear hmb k6777; omega), by (clear hmb k6777; omega)⟩ ((up_o (by decide)).trans ((up_o (by decide)).trans up_same)) ?_
                    refine m_s31 dX12_lays_169 ⟨by (clear hmb k6777; omega), by (omega)⟩ ?_
                    have hB8461 := ba_31 (z := (H46_8060 33 x7_1_1)) (k := ((2010 * x7_1_1) + x46_2_8060)) hB8460 ⟨by have q0 := bl_33 (k := x7_1_1) hB46_8060; (clear hmb k6777; omega), by have q0 := bl_33 (k := x7_1_1) hB46_8060; (clear hmb k6777; omega)⟩
                    have hst9 : LYs K M F x7_1_1 (up (up (up (up H60_8395 34 x60_3_8395 (H46_8060 33 x7_1_1)) 32 ((2010 * x7_1_1) + (H46_8060 33 x7_1_1)) x60_3_8395) 33 x7_1_1 ((H46_8060 33 x7_1_1) + 1)) 31 ((2010 * x7_1_1) + x46_2_8060) (H46_8060 33 x7_1_1)) ∧ LYc K M F x7_1_1 (x46_2_8060 + 1) (up (up (up (up H60_8395 34 x60_3_8395 (H46_8060 33 x7_1_1)) 32 ((2010 * x7_1_1) + (H46_8060 33 x7_1_1)) x60_3_8395) 33 x7_1_1 ((H46_8060 33 x7_1_1) + 1)) 31 ((2010 * x7_1_1) + x46_2_8060) (H46_8060 33 x7_1_1)) ∧ SNx (dsl (mkf K M F x7_1_1) (x46_2_8060 + 1).toNat) (up (up (up (up H60_8395 34 x60_3_8395 (H46_8060 33 x7_1_1)) 32 ((2010 * x7_1_1) + (H46_8060 33 x7_1_1)) x60_3_8395) 33 x7_1_1 ((H46_8060 33 x7_1_1) + 1)) 31 ((2010 * x7_1_1) + x46_2_8060) (H46_8060 33 x7_1_1)) := by
                      have hls := hlys6.other (P1 := (up (up (up (up H60_8395 34 x60_3_8395 (H46_8060 33 x7_1_1)) 32 ((2010 * x7_1_1) + (H46_8060 33 x7_1_1)) x60_3_8395) 33 x7_1_1 ((H46_8060 33 x7_1_1) + 1)) 31 ((2010 * x7_1_1) + x46_2_8060) (H46_8060 33 x7_1_1))) (by (clear hmb k6777; omega)) (fun d d0 d1 => (hszc d d0 (by (clear k6777; omega))).2) (fun j hj9 => by first | exact ((up_k hj).trans ((up_o (by decide)).trans ((up_o (by decide)).trans ((up_o (by decide)).trans rfl)))) | (have hj : j ≠ ((2010 * x7_1_1) + x46_2_8060) := (by (clear hmb k6777; omega)); exact ((up_k hj).trans ((up_o (by decide)).trans ((up_o (by decide)).trans ((up_o (by decide)).trans rfl)))))) (fun j hj9 => by first | exact ((up_o (by decide)).trans ((up_o (by decide)).trans ((up_k hj).trans ((up_o (by decide)).trans rfl)))) | (have hj : j ≠ ((2010 * x7_1_1) + (H46_8060 33 x7_1_1)) := (by (clear hmb k6777; omega)); exact ((up_o (by decide)).trans ((up_o (by decide)).trans ((up_k hj).trans ((up_o (by decide)).trans rfl)))))) (fun j hj9 => by first | exact ((up_o (by decide)).trans ((up_k hj).trans ((up_o (by decide)).trans ((up_o (by decide)).trans rfl)))) | (have hj : j ≠ x7_1_1 := (by (clear hmb k6777; omega)); exact ((up_o (by decide)).trans ((up_k hj).trans ((up_o (by decide)).trans ((up_o (by decide)).trans rfl))))))
                      first
                      | exact ⟨hls, LYc.old hlyc6 hsn6 hst8 ⟨by (first | (clear hmb k6777; omega) | (clear hmb; omega) | (clear k6777; omega) | omega), by (first | (clear hmb k6777; omega) | (clear hmb; omega) | (clear k6777; omega) | omega)⟩ (by (first | (clear hmb k6777; omega) | (clear hmb; omega) | (clear k6777; omega) | omega)) (fun j => ((up_o (by decide)).trans ((up_o (by decide)).trans ((up_k hj).trans ((up_o (by decide)).trans rfl))))) (fun j => ((up_o (by decide)).trans ((up_k hj).trans ((up_o (by decide)).trans ((up_o (by decide)).trans rfl))))) (Eq.trans up_same h34z.symm) (fun j hj => ((up_k hj).trans ((up_o (by decide)).trans ((up_o (by decide)).trans ((up_o (by decide)).trans rfl))))) (fun j => ((up_o (by decide)).trans ((up_o (by decide)).trans ((up_o (by decide)).trans ((up_k hj).trans rfl)))))⟩
                      | exact ⟨hls, LYc.new hlyc6 hsn6 hst8 ⟨by (clear hmb k6777; omega), by (clear hmb k6777; omega)⟩ (by (clear hmb k6777; omega)) h33z.symm ((up_o (by decide)).trans ((up_o (by decide)).trans up_same)) (fun j hj => ((up_o (by decide)).trans ((up_o (by decide)).trans ((up_k hj).trans ((up_o (by decide)).trans rfl))))) ((up_o (by decide)).trans up_same) up_same (fun j hj => ((up_k hj).trans ((up_o (by decide)).trans ((up_o (by decide)).trans ((up_o (by decide)).trans rfl))))) ((up_o (by decide)).trans ((up_o (by decide)).trans ((up_o (by decide)).trans up_same))) (fun j hj => ((up_o (by decide)).trans ((up_o (by decide)).trans ((up_o (by decide)).trans ((up_k hj).trans rfl)))))⟩
                    refine g_iinc (l1 := [(2, vI (x46_2_8060 + 1)), (0, vR 0), (1, vI x7_1_1), (3, vI x60_3_8395), (4, vI x60_4_8395)]) dX12_lays_170 rfl (by decide) rfl ?_
                    refine g_goto (tgt := 46) dX12_lays_173 (by decide) ?_
                    refine g_forget (l1 := [(0, vR 0), (1, vI x7_1_1), (2, vI (x46_2_8060 + 1))]) (by intro q hq; simp only [List.mem_cons, List.not_mem_nil, or_false] at hq ⊢; rcases hq with rfl | rfl | rfl <;> simp) ?_
                    exact ih46_8060 (x46_2_8060 + 1) ⟨by (clear hmb k6777; omega), by (clear hmb k6777; omega)⟩ _ hB8461 (FrM.a (FrM.a (FrM.a (FrM.a (FrM.c (FrM.c FrM.rf hE46_8060 rfl) hE60_8395 rfl) rfl rfl) rfl rfl) rfl rfl) rfl rfl) (by have q0 := (((up_o (by decide)).trans up_same) : (up (up (up (up H60_8395 34 x60_3_8395 (H46_8060 33 x7_1_1)) 32 ((2010 * x7_1_1) + (H46_8060 33 x7_1_1)) x60_3_8395) 33 x7_1_1 ((H46_8060 33 x7_1_1) + 1)) 31 ((2010 * x7_1_1) + x46_2_8060) (H46_8060 33 x7_1_1)) 33 x7_1_1 = ((H46_8060 33 x7_1_1) + 1)); have q1 := bl_33 (k := x7_1_1) hB46_8060; (clear hmb k6777; omega)) (by first | exact hst9 | exact ⟨hNONE, hNONE, hNONE⟩) (by first | (clear hmb k6777; omega) | (have q := hszc x7_1_1 (by (first | (clear hmb k6777; omega) | (clear hmb; omega) | (clear k6777; omega) | omega)) (by (first | (clear hmb k6777; omega) | (clear hmb; omega) | (clear k6777; omega) | omega)); (first | (clear hmb k6777; omega) | (clear hmb; omega) | (clear k6777; omega) | omega))) (by (clear hmb k6777; omega))
                · refine g_iload_n dX12_lays_74 rfl ?_
                  refine g_aload_n dX12_lays_75 rfl ?_
                  refine g_iload dX12_lays_76 rfl ?_
                  refine g_iload_n dX12_lays_78 rfl ?_
                  refine g_iload_n dX12_lays_79 rfl ?_
                  refine g_vI (av := [vI x60_4_8395, vI x7_1_1, vI x46_2_8060]) (o := 0) (st := [vI x60_3_8395]) (f_X12_isFitting G H60_8395 (K) (M) (F) x60_4_8395 x7_1_1 x46_2_8060 ⟨by (clear hmb k6777; omega), by (clear hmb k6777; omega)⟩ ⟨by (clear hmb k6777; omega), by (omega)⟩ ⟨by (clear hmb k6777; omega), by (clear hmb k6777; omega)⟩ hB60_8395 (by have q0 := (((congrFun (hE60_8395.2 13 rfl rfl) _).trans ((congrFun (hE46_8060.2 13 rfl rfl) _).trans ((up_o (by decide)).trans ((congrFun (hE17_6778.2 13 rfl rfl) _).trans ((congrFun (hE7_1.2 13 rfl rfl) _).trans ((up_o (by decide)).trans rfl)))))) : H60_8395 13 (H60_8395 0 13) = (P 13 (H60_8395 0 13))); have q1 := bl_13 (k := (H60_8395 0 13)) hB; have q2 := ((congrArg (H60_8395 13) ((hE60_8395.1 13 rfl).trans ((hE46_8060.1 13 rfl).trans ((up_o (by decide)).trans ((hE17_6778.1 13 rfl).trans ((hE7_1.1 13 rfl).trans ((up_k (by decide)).trans rfl))))))).trans ((congrFun (hE60_8395.2 13 rfl rfl) _).trans ((congrFun (hE46_8060.2 13 rfl rfl) _).trans ((up_o (by decide)).trans ((congrFun (hE17_6778.2 13 rfl rfl) _).trans ((congrFun (hE7_1.2 13 rfl rfl) _).trans ((up_o (by decide)).trans rfl)))))) : H60_8395 13 (H60_8395 0 13) = (P 13 (P 0 13))); have q3 := bl_13 (k := (P 0 13)) hB; (clear hmb k6777; omega)) (by have q0 := (((congrFun (hE60_8395.2 11 rfl rfl) _).trans ((congrFun (hE46_8060.2 11 rfl rfl) _).trans ((up_o (by decide)).trans ((congrFun (hE17_6778.2 11 rfl rfl) _).trans ((congrFun (hE7_1.2 11 rfl rfl) _).trans ((up_o (by decide)).trans rfl)))))) : H60_8395 11 (H60_8395 0 13) = (P 11 (H60_8395 0 13))); have q1 := bl_11 (k := (H60_8395 0 13)) hB; have q2 := ((congrArg (H60_8395 11) ((hE60_8395.1 13 rfl).trans ((hE46_8060.1 13 rfl).trans ((up_o (by decide)).trans ((hE17_6778.1 13 rfl).trans ((hE7_1.1 13 rfl).trans ((up_k (by decide)).trans rfl))))))).trans ((congrFun (hE60_8395.2 11 rfl rfl) _).trans ((congrFun (hE46_8060.2 11 rfl rfl) _).trans ((up_o (by decide)).trans ((congrFun (hE17_6778.2 11 rfl rfl) _).trans ((congrFun (hE7_1.2 11 rfl rfl) _).trans ((up_o (by decide)).trans rfl)))))) : H60_8395 11 (H60_8395 0 13) = (P 11 (P 0 13))); have q3 := bl_11 (k := (P 0 13)) hB; (clear hmb; omega)) p_aw (ZT.fr (F := ([52], [29, 30, 31, 32, 33, 34])) v_ZT (FrM.c (FrM.c (FrM.a (FrM.c (FrM.c (FrM.s FrM.rf rfl) hE7_1 rfl) hE17_6778 rfl) rfl rfl) hE46_8060 rfl) hE60_8395 rfl) rfl) (ZS.fr (F := ([52], [29, 30, 31, 32, 33, 34])) v_ZS (FrM.c (FrM.c (FrM.a (FrM.c (FrM.c (FrM.s FrM.rf rfl) hE7_1 rfl) hE17_6778 rfl) rfl rfl) hE46_8060 rfl) hE60_8395 rfl) rfl) ((MKB.fr (F := ([52], [29, 30, 31, 32, 33, 34])) z0 (FrM.c (FrM.c (FrM.a (FrM.c (FrM.c (FrM.s FrM.rf rfl) hE7_1 rfl) hE17_6778 rfl) rfl rfl) hE46_8060 rfl) hE60_8395 rfl) rfl)) ((MMB.fr (F := ([52], [29, 30, 31, 32, 33, 34])) z1 (FrM.c (FrM.c (FrM.a (FrM.c (FrM.c (FrM.s FrM.rf rfl) hE7_1 rfl) hE17_6778 rfl) rfl rfl) hE46_8060 rfl) hE60_8395 rfl) rfl)) ((MCB.fr z2 (show FrM ([52], [29, 30, 31, 32, 33, 34]) _ _ from (FrM.c (FrM.c (FrM.a (FrM.c (FrM.c (FrM.s FrM.rf rfl) hE7_1 rfl) hE17_6778 rfl) rfl rfl) hE46_8060 rfl) hE60_8395 rfl)) rfl)) _ (fun rc8462 hc8462 Pc8462 hBc8462 hFc8462 gc8462_tv => ⟨rc8462, rfl, ?_⟩)) cf_X12_isFitting t_1835 rfl (by decide) rfl rfl rfl (Nat.le_of_ble_eq_true rfl) (by decide) rfl dX12_lays_80
                  have htv := gc8462_tv
                  refine g_if_eq (tgt := 93) dX12_lays_83 (by decide) ⟨by (clear hmb k6777 gc8462_tv htv; omega), by (clear hmb k6777 gc8462_tv htv; omega)⟩ (fun k8463 => ?_) (fun k8463 => ?_)
                  · have r_htv := (htv.resolve_left (by (clear hmb k6777 gc8462_tv htv; omega)))
                    have r_gc8462_tv := (gc8462_tv.resolve_left (by (clear hmb k6777 gc8462_tv htv; omega)))
                    refine g_iconst dX12_lays_93 ?_
                    refine g_ior dX12_lays_94 ?_
                    refine g_nm (fun b8464 e_b8464 => ?_)
                    have h_b8464 : 0 ≤ (ior x60_3_8395 0) ∧ (ior x60_3_8395 0) < 4096 := ior_b 12 (by decide) (x := x60_3_8395) (y := 0) (show 0 ≤ x60_3_8395 ∧ x60_3_8395 < 4096 from ⟨by (clear hmb k6777 gc8462_tv htv; omega), by (clear hmb k6777 gc8462_tv htv; omega)⟩) (show 0 ≤ 0 ∧ 0 < 4096 from ⟨by (clear hmb k6777 gc8462_tv htv; omega), by (clear hmb k6777 gc8462_tv htv; omega)⟩)
                    rw [← e_b8464] at h_b8464
                    have hna : (((x60_4_8395).toNat : Nat) : Int) = x60_4_8395 := by (clear hmb k6777 gc8462_tv htv; omega)
                    have hm9 : b8464 = msk K F x7_1_1 x46_2_8060 (x60_4_8395 + 1).toNat := by rw [e_b8464, show (x60_4_8395 + 1).toNat = (x60_4_8395).toNat + 1 by (clear hmb k6777 gc8462_tv htv; omega)]; exact msk_or (by (clear hmb k6777 gc8462_tv htv; omega)) i60_0_8395 (by rw [hna]; first | exact Or.inr ⟨rfl, by (clear hmb k6777 gc8462_tv htv; omega)⟩ | exact Or.inl ⟨e_0, by (first | (clear hmb k6777 gc8462_tv htv; omega) | (clear hmb k6777 gc8462_tv; omega) | (clear hmb k6777 htv; omega) | (clear hmb gc8462_tv htv; omega) | (clear k6777 gc8462_tv htv; omega) | (clear hmb k6777; omega) | omega)⟩)
                    refine g_istore_n (l1 := [(3, vI b8464), (0, vR 0), (1, vI x7_1_1), (2, vI x46_2_8060), (4, vI x60_4_8395)]) dX12_lays_95 (by decide) rfl ?_
                    refine g_iinc (l1 := [(4, vI (x60_4_8395 + 1)), (3, vI b8464), (0, vR 0), (1, vI x7_1_1), (2, vI x46_2_8060)]) dX12_lays_96 rfl (by decide) rfl ?_
                    refine g_goto (tgt := 60) dX12_lays_99 (by decide) ?_
                    refine g_forget (l1 := [(0, vR 0), (1, vI x7_1_1), (2, vI x46_2_8060), (3, vI b8464), (4, vI (x60_4_8395 + 1))]) (by intro q hq; simp only [List.mem_cons, List.not_mem_nil, or_false] at hq ⊢; rcases hq with rfl | rfl | rfl | rfl | rfl <;> simp) ?_
                    exact ih60_8395 (x60_4_8395 + 1) ⟨by (clear hmb k6777 gc8462_tv htv; omega), by (clear hmb k6777 gc8462_tv htv; omega)⟩ b8464 ⟨by (clear hmb k6777 gc8462_tv htv; omega), by (clear hmb k6777 gc8462_tv htv; omega)⟩ _ hBc8462 (FrM.c (FrM.c FrM.rf hE60_8395 rfl) hFc8462 rfl) (by first | exact hm9 | rfl) (by first | (clear k6777 gc8462_tv htv; omega) | (have q := bl_13 (k := P 0 13) hB; (first | (clear hmb k6777 gc8462_tv htv; omega) | (clear hmb k6777 gc8462_tv; omega) | (clear hmb k6777 htv; omega) | (clear hmb gc8462_tv htv; omega) | (clear k6777 gc8462_tv htv; omega) | (clear hmb k6777; omega) | omega))) (by (clear hmb k6777 gc8462_tv htv; omega))
                  · have k8463n : 1 ≤ rc8462 := by (clear hmb k6777 gc8462_tv htv; omega)
                    clear k8463
                    have r_htv := (htv.resolve_right (by (clear hmb k6777 gc8462_tv htv; omega)))
                    have r_gc8462_tv := (gc8462_tv.resolve_right (by (clear hmb k6777 gc8462_tv htv; omega)))
                    refine g_iconst dX12_lays_86 ?_
                    refine g_iload dX12_lays_87 rfl ?_
                    refine g_ishl dX12_lays_89 ?_
                    refine g_nm (fun b8465 e_b8465 => ?_)
                    have h_b8465 : 1 ≤ (ishl 1 x60_4_8395) ∧ (ishl 1 x60_4_8395) ≤ 2048 := (ishl1 11 (by decide) (y := x60_4_8395) ⟨by (clear hmb k6777 gc8462_tv htv; omega), by (clear hmb k6777 gc8462_tv htv; omega)⟩).2
                    rw [← e_b8465] at h_b8465
                    refine g_goto (tgt := 94) dX12_lays_90 (by decide) ?_
                    refine g_ior dX12_lays_94 ?_
                    refine g_nm (fun b8466 e_b8466 => ?_)
                    have h_b8466 : 0 ≤ (ior x60_3_8395 b8465) ∧ (ior x60_3_8395 b8465) < 4096 := ior_b 12 (by decide) (x := x60_3_8395) (y := b8465) (show 0 ≤ x60_3_8395 ∧ x60_3_8395 < 4096 from ⟨by (clear hmb k6777 gc8462_tv htv; omega), by (clear hmb k6777 gc8462_tv htv; omega)⟩) (show 0 ≤ b8465 ∧ b8465 < 4096 from ⟨by (clear hmb k6777 gc8462_tv htv; omega), by (clear hmb k6777 gc8462_tv htv; omega)⟩)
                    rw [← e_b8466] at h_b8466
                    have hna : (((x60_4_8395).toNat : Nat) : Int) = x60_4_8395 := by (clear hmb k6777 gc8462_tv htv; omega)
                    have hm9 : b8466 = msk K F x7_1_1 x46_2_8060 (x60_4_8395 + 1).toNat := by rw [e_b8466, show (x60_4_8395 + 1).toNat = (x60_4_8395).toNat + 1 by (clear hmb k6777 gc8462_tv htv; omega)]; exact msk_or (by (clear hmb k6777 gc8462_tv htv; omega)) i60_0_8395 (by rw [hna]; first | exact Or.inr ⟨rfl, by (first | (clear hmb k6777 gc8462_tv htv; omega) | (clear hmb k6777 gc8462_tv; omega) | (clear hmb k6777 htv; omega) | (clear hmb gc8462_tv htv; omega) | (clear k6777 gc8462_tv htv; omega) | (clear hmb k6777; omega) | omega)⟩ | exact Or.inl ⟨e_b8465, by (clear hmb k6777 gc8462_tv htv; omega)⟩)
                    refine g_istore_n (l1 := [(3, vI b8466), (0, vR 0), (1, vI x7_1_1), (2, vI x46_2_8060), (4, vI x60_4_8395)]) dX12_lays_95 (by decide) rfl ?_
                    refine g_iinc (l1 := [(4, vI (x60_4_8395 + 1)), (3, vI b8466), (0, vR 0), (1, vI x7_1_1), (2, vI x46_2_8060)]) dX12_lays_96 rfl (by decide) rfl ?_
                    refine g_goto (tgt := 60) dX12_lays_99 (by decide) ?_
                    refine g_forget (l1 := [(0, vR 0), (1, vI x7_1_1), (2, vI x46_2_8060), (3, vI b8466), (4, vI (x60_4_8395 + 1))]) (by intro q hq; simp only [List.mem_cons, List.not_mem_nil, or_false] at hq ⊢; rcases hq with rfl | rfl | rfl | rfl | rfl <;> simp) ?_
                    exact ih60_8395 (x60_4_8395 + 1) ⟨by (clear hmb k6777 gc8462_tv htv; omega), by (clear hmb k6777 gc8462_tv htv; omega)⟩ b8466 ⟨by (clear hmb k6777 gc8462_tv htv; omega), by (clear hmb k6777 gc8462_tv htv; omega)⟩ _ hBc8462 (FrM.c (FrM.c FrM.rf hE60_8395 rfl) hFc8462 rfl) (by first | exact hm9 | rfl) (by first | (clear k6777 gc8462_tv htv; omega) | (have q := bl_13 (k := P 0 13) hB; (first | (clear hmb k6777 gc8462_tv htv; omega) | (clear hmb k6777 gc8462_tv; omega) | (clear hmb k6777 htv; omega) | (clear hmb gc8462_tv htv; omega) | (clear k6777 gc8462_tv htv; omega) | (clear hmb k6777; omega) | omega))) (by (clear hmb k6777 gc8462_tv htv; omega))
              refine g_forget (l1 := [(0, vR 0), (1, vI x7_1_1), (2, vI x46_2_8060), (3, vI 0), (4, vI 0)]) (by intro q hq; simp only [List.mem_cons, List.not_mem_nil, or_false] at hq ⊢; rcases hq with rfl | rfl | rfl | rfl | rfl <;> simp) ?_
              exact L60_8395 _ 0 (by decide) 0 (by decide) _ hB46_8060 FrM.rf (by first | exact hm9 | rfl) (by first | (first | (clear hmb k6777; omega) | (clear hmb; omega) | (clear k6777; omega) | omega) | (have q := bl_13 (k := P 0 13) hB; (clear k6777; omega))) (Nat.lt_succ_self _)
          refine g_forget (l1 := [(0, vR 0), (1, vI x7_1_1), (2, vI 0)]) (by intro q hq; simp only [List.mem_cons, List.not_mem_nil, or_false] at hq ⊢; rcases hq with rfl | rfl | rfl <;> simp) ?_
          exact L46_8060 _ 0 (by decide) _ hB8057 FrM.rf (by have q0 := (up_same : (up H17_6778 33 x7_1_1 0) 33 x7_1_1 = 0); (clear hmb k6777; omega)) (by first | exact hst9 | exact ⟨iv8058, iv8059, iv8060⟩) (by first | (first | (clear hmb k6777; omega) | (clear hmb; omega) | (clear k6777; omega) | omega) | (have q := hszc x7_1_1 (by (clear hmb k6777; omega)) (by (omega)); (clear hmb k6777; omega))) (Nat.lt_succ_self _)
        · refine g_aload_n dX12_lays_24 rfl ?_
          refine m_g51 rfl dX12_lays_25 ?_
          refine g_iload_n dX12_lays_28 rfl ?_
          refine g_iconst dX12_lays_29 ?_
          refine m_s34 dX12_lays_30 ⟨by (clear hmb k6777; omega), by (clear hmb k6777; omega)⟩ ?_
          have hB8467 := ba_34 (z := (-1)) (k := x17_2_6778) hB17_6778 (by decide)
          have hsn9 : ∀ s : Int, 0 ≤ s → s < x17_2_6778 + 1 → (up H17_6778 34 x17_2_6778 (-1)) 34 s = -1 := by
            intro j j0 j1
            by_cases e : j = x17_2_6778
            · rw [e]; exact up_same
            · have hj : j ≠ x17_2_6778 := e
              exact Eq.trans ((up_k hj).trans rfl) (i17_0_6778 j j0 (by (clear hmb k6777 hj; omega)))
          refine g_iinc (l1 := [(2, vI (x17_2_6778 + 1)), (0, vR 0), (1, vI x7_1_1)]) dX12_lays_31 rfl (by decide) rfl ?_
          refine g_goto (tgt := 17) dX12_lays_34 (by decide) ?_
          refine g_forget (l1 := [(0, vR 0), (1, vI x7_1_1), (2, vI (x17_2_6778 + 1))]) (by intro q hq; simp only [List.mem_cons, List.not_mem_nil, or_false] at hq ⊢; rcases hq with rfl | rfl | rfl <;> simp) ?_
          exact ih17_6778 (x17_2_6778 + 1) ⟨by (clear hmb k6777; omega), by (clear hmb k6777; omega)⟩ _ hB8467 (FrM.a (FrM.c FrM.rf hE17_6778 rfl) rfl rfl) (by first | exact hsn9 | (intro s s0 s1; exfalso; (first | (clear hmb k6777; omega) | (clear hmb; omega) | (clear k6777; omega) | omega))) (by (clear hmb k6777; omega))
      refine g_forget (l1 := [(0, vR 0), (1, vI x7_1_1), (2, vI 0)]) (by intro q hq; simp only [List.mem_cons, List.not_mem_nil, or_false] at hq ⊢; rcases hq with rfl | rfl | rfl <;> simp) ?_
      exact L17_6778 _ 0 (by decide) _ hB7_1 FrM.rf (by first | exact hsn9 | (intro s s0 s1; exfalso; (clear hmb k6777; omega))) (Nat.lt_succ_self _)
  refine g_forget (l1 := [(0, vR 0), (1, vI 0)]) (by intro q hq; simp only [List.mem_cons, List.not_mem_nil, or_false] at hq ⊢; rcases hq with rfl | rfl <;> simp) ?_
  exact L7_1 _ 0 (by decide) _ hB1 FrM.rf (by first | exact (up_same).trans hrm8 | exact up_same) (by have q0 := (up_same : (up P 0 52 1) 0 52 = 1); (clear hmb; omega)) (by first | exact hNONE | exact fun d d0 d1 => by (clear hmb; omega)) (by (clear hmb; omega)) (Nat.lt_succ_self _)
