/-! What the reference answers: X12_isMoreOf. -/
set_option maxRecDepth 100000 in
set_option maxHeartbeats 4000000 in
theorem f_X12_isMoreOf (G : GT) (P : PH) (T : TT) (K : PH) (s : SV) (k0 : Int) (k : Int) (p : Int) (a1 : Int) (h_a1 : (-2147483648) ≤ a1 ∧ a1 ≤ 2147483647) (hB : BdM P) (p_lx : (P 0 3 = 0 ∨ P 0 4 + 1 ≤ P 0 5) ∧ P 0 4 ≤ P 0 5) (p_sr : SR P) (p_aw : AW K) (p_ab : AB K) (p_k3 : k0 ≤ 3) (p_go : 0 < P 0 8 ∨ (MS T p P ∧ STW s P ∧ TSV K k0 s k ∧ 0 ≤ a1 ∧ a1 < sz K k)) (v_CF : CF P) (v_FP : FP P) (z0 : MT T P) (z1 : MKB K P) (Q : Option PV → PH → Prop) (hQ : ∀ (r : Int) (_ : 0 ≤ r ∧ r ≤ 1) (P1 : PH) (_ : BdM P1) (_ : FrM ([3, 4, 5, 6, 7, 8, 9, 12, 43], [24, 25, 27]) P P1) (_ : (P1 0 3 = 0 ∨ P1 0 4 + 1 ≤ P1 0 5) ∧ P1 0 4 ≤ P1 0 5) (_ : P 0 4 ≤ P1 0 4) (_ : P 0 8 ≤ 0 ∨ 0 < P1 0 8) (_ : (r = 1 ∧ SR P1) ∨ r = 0) (_ : (0 < P 0 8 ∧ P1 0 8 = P 0 8 ∧ P1 0 9 = P 0 9) ∨ (P 0 8 ≤ 0 ∧ VN T K k0 s p a1 r P1)) (_ : FP P1), Q (some (vI r)) P1) : Ct WSM G 4 iX12_isMoreOf [vR 0, vI a1] P Q := by
  refine Ct.of (by decide) (l0 := [(0, vR 0), (1, vI a1)]) rfl (Nat.le_of_ble_eq_true rfl) ?_
  have ivI_SR : SR P := p_sr
  refine g_iload_n dX12_isMoreOf_0 rfl ?_
  refine g_istore_n (l1 := [(2, vI a1), (0, vR 0), (1, vI a1)]) dX12_isMoreOf_1 (by decide) rfl ?_
  have L2_0 : ∀ (n2_0 : Nat) (x2_2_0 : Int) (h_x2_2_0 : (-2147483648) ≤ x2_2_0 ∧ x2_2_0 ≤ 2147483647) (H2_0 : PH) (hB2_0 : BdM H2_0) (hE2_0 : FrM ([3, 4, 5, 6, 7, 8, 9, 12, 43], [25]) P H2_0) (i2_0_0 : (0 < P 0 8 ∧ H2_0 0 8 = P 0 8 ∧ H2_0 0 9 = P 0 9) ∨ (P 0 8 ≤ 0 ∧ VG T K k0 s p a1 x2_2_0 H2_0)) (i2_1_0 : P 0 8 ≤ 0 ∨ 0 < H2_0 0 8) (i2_2_0 : P 0 4 ≤ H2_0 0 4) (i2_3_0 : (H2_0 0 3 = 0 ∨ H2_0 0 4 + 1 ≤ H2_0 0 5) ∧ H2_0 0 4 ≤ H2_0 0 5) (w2_SR_0 : SR H2_0) (w2_FP_0 : FP H2_0) (hm2_0 : (H2_0 0 43 : Int).toNat < n2_0), Go WSM G 4 iX12_isMoreOf 2 [(0, vR 0), (2, vI x2_2_0)] [] H2_0 Q := by
    intro n2_0
    induction n2_0 with
    | zero => intro x2_2_0 h_x2_2_0 H2_0 hB2_0 hE2_0 i2_0_0 i2_1_0 i2_2_0 i2_3_0 w2_SR_0 w2_FP_0 hm2_0; exact absurd hm2_0 (Nat.not_lt_zero _)
    | succ n2_0 ih2_0 =>
    intro x2_2_0 h_x2_2_0 H2_0 hB2_0 hE2_0 i2_0_0 i2_1_0 i2_2_0 i2_3_0 w2_SR_0 w2_FP_0 hm2_0
    refine g_aload_n dX12_isMoreOf_2 rfl ?_
    refine m_g8 (z := (H2_0 0 8)) rfl dX12_isMoreOf_3 rfl ?_
    have f134 := b0_8 hB2_0
    refine g_if_ne (tgt := 181) dX12_isMoreOf_6 (by decide) ⟨by have q0 := b0_8 hB2_0; (clear p_lx p_go i2_0_0 i2_1_0 i2_3_0; omega), by have q0 := b0_8 hB2_0; (clear p_lx p_go i2_0_0 i2_1_0 i2_3_0; omega)⟩ (fun k135 => ?_) (fun k135 => ?_)
    · have k135n : 1 ≤ (H2_0 0 8) := by have q0 := b0_8 hB2_0; (clear p_lx p_go i2_0_0 i2_1_0 i2_3_0; omega)
      clear k135
      skip
      skip
      skip
      refine g_iconst dX12_isMoreOf_181 ?_
      exact g_retZ dX12_isMoreOf_182 rfl (by decide) (hQ 0 (by decide) _ hB2_0 (FrM.c FrM.rf hE2_0 rfl) (by have q0 := b0_3 hB2_0; have q1 := b0_4 hB2_0; have q2 := b0_5 hB2_0; (clear p_lx p_go i2_0_0 i2_1_0; omega)) (by have q0 := b0_4 hB2_0; (clear p_lx p_go i2_0_0 i2_1_0 i2_3_0; omega)) (by have q0 := b0_8 hB2_0; (clear p_lx p_go i2_0_0 i2_1_0 i2_3_0; omega)) (by first | exact Or.inl ⟨rfl, w2_SR_0⟩ | exact Or.inr rfl) ((i2_0_0).elim Or.inl (fun h => Or.inr ⟨h.1, h.2.flt (by (clear p_lx p_go i2_0_0 i2_1_0 i2_3_0; omega))⟩)) w2_FP_0)
    · have r_i2_1_0 := (i2_1_0.resolve_right (by (clear p_lx p_go i2_0_0 i2_1_0 i2_3_0; omega)))
      have r_i2_0_0 := (i2_0_0.resolve_left (by (clear p_lx p_go i2_0_0 i2_1_0 i2_3_0; omega)))
      have r_p_go := (p_go.resolve_left (by (clear p_lx p_go i2_0_0 i2_1_0 i2_3_0; omega)))
      obtain ⟨z, hz⟩ : ∃ z, z = (H2_0 0 43) := ⟨_, rfl⟩
      have hsr := w2_SR_0
      have hz43 := (rfl : H2_0 0 43 = (H2_0 0 43))
      have k13 : (13 : Int) ≠ 43 := by decide
      have hz13 := (((hE2_0.1 13 rfl).trans rfl) : H2_0 0 13 = (P 0 13))
      have hsr1 := hsr.1
      have r6a : ∀ j, H2_0 6 j = P 6 j := fun j => ((congrFun (hE2_0.2 6 rfl rfl) _).trans rfl)
      have r7a : ∀ j, H2_0 7 j = P 7 j := fun j => ((congrFun (hE2_0.2 7 rfl rfl) _).trans rfl)
      have r26a : ∀ j, H2_0 26 j = P 26 j := fun j => ((congrFun (hE2_0.2 26 rfl rfl) _).trans rfl)
      have r27a : ∀ j, H2_0 27 j = P 27 j := fun j => ((congrFun (hE2_0.2 27 rfl rfl) _).trans rfl)
      obtain ⟨hp8, hvg⟩ := i2_0_0.resolve_left (fun h => by (clear p_lx p_go i2_0_0 i2_1_0 i2_3_0 k13; omega))
      obtain ⟨h80, s9, k9, q9, hS9, hW9, hT9, hv9, hR9⟩ := hvg.resolve_left (fun h => by (clear p_lx p_go i2_0_0 i2_1_0 i2_3_0 k13; omega))
      have hsb := hW9.1
      have hkb := z1.b
      obtain ⟨Z9, hZ9⟩ : ∃ Z : PH, H2_0 = Z := ⟨_, rfl⟩
      have hWZ : STW s9 Z9 := by rw [← hZ9]; exact hW9
      have hzZ : Z9 0 43 = z := by rw [← hZ9]; exact hz.symm
      have iv136 : MS T q9 H2_0 := hS9
      have iv137 : STW s9 H2_0 := hW9
      refine g_aload_n dX12_isMoreOf_9 rfl ?_
      refine g_dup dX12_isMoreOf_10 rfl ?_
      refine m_g43 (z := (H2_0 0 43)) rfl dX12_isMoreOf_11 rfl ?_
      refine g_iconst dX12_isMoreOf_14 ?_
      refine g_isub dX12_isMoreOf_15 ?_
      refine m_p43 rfl dX12_isMoreOf_16 ?_
      have hB138 := bs_43 (z := ((H2_0 0 43) - 1)) hB2_0 ⟨by have q0 := b0_43 hB2_0; (clear p_lx p_go i2_0_0 i2_1_0 i2_3_0 k13 hkb; omega), by have q0 := b0_43 hB2_0; (clear p_lx p_go i2_0_0 i2_1_0 i2_3_0 k13 hkb; omega)⟩
      refine g_aload_n dX12_isMoreOf_19 rfl ?_
      refine m_g43 (z := ((H2_0 0 43) - 1)) rfl dX12_isMoreOf_20 up_same ?_
      have f139 := b0_43 hB2_0
      refine g_if_ne (tgt := 35) dX12_isMoreOf_23 (by decide) ⟨by have q0 := b0_43 hB2_0; (clear p_lx p_go i2_0_0 i2_1_0 i2_3_0 k13 hkb; omega), by have q0 := b0_43 hB2_0; (clear p_lx p_go i2_0_0 i2_1_0 i2_3_0 k13 hkb; omega)⟩ (fun k140 => ?_) (fun k140 => ?_)
      · skip
        skip
        skip
        have hlv := hsr.2.2 (z - 1) (by (clear p_lx p_go i2_0_0 i2_1_0 i2_3_0 k13 hkb; omega)) (by (clear p_lx p_go i2_0_0 i2_1_0 i2_3_0 k13 hkb k140; omega))
        unfold levR at hlv
        simp only [hz13, r6a, r7a, r26a, r27a] at hlv
        obtain ⟨y9, s19, hs9⟩ := List.exists_cons_of_ne_nil (l := s9) (by intro e; rw [e] at hsb; have q : (([] : SV).length : Int) = 0 := rfl; rw [q] at hsb; have q2 := (up_same : (up H2_0 0 43 ((H2_0 0 43) - 1)) 0 43 = ((H2_0 0 43) - 1)); (clear p_lx p_go i2_0_0 i2_1_0 i2_3_0 k13 hkb hlv; omega))
        obtain ⟨c9, f9, a9⟩ := y9
        subst hs9
        have hc9 := (r26a _).symm.trans hW9.top.1
        have hf9 := (r27a _).symm.trans hW9.top.2.1
        have ht2 := hT9.2.1
        have ht3 := hT9.2.2.1
        have hw5 := p_aw.2.2.1 c9 ht2.1 ht2.2
        have hcc := z1.cc ht2.1 ht2.2
        have hk9b : -1 ≤ k9 ∧ k9 < K 0 0 := by have e := hT9.1; unfold fK at e; split at e <;> (clear p_lx p_go i2_0_0 i2_1_0 i2_3_0 k13 hkb k140 hlv hcc; omega)
        have hsz9 := sz_le p_aw hk9b
        have ha9b : 0 ≤ a9 ∧ a9 ≤ 2006 := by have q := hT9.2.2.2.1; have q2 := sz_le p_aw (k := K 7 c9) ⟨by (clear p_lx p_go i2_0_0 i2_1_0 i2_3_0 k13 hkb k140 hlv hcc; omega), by (clear p_lx p_go i2_0_0 i2_1_0 i2_3_0 k13 hkb k140 hlv hcc; omega)⟩; (clear p_lx p_go i2_0_0 i2_1_0 i2_3_0 k13 hkb k140 hlv hcc; omega)
        have iv141 : SR (up H2_0 0 43 ((H2_0 0 43) - 1)) := hsr.pop (z := z) (by (clear p_lx p_go i2_0_0 i2_1_0 i2_3_0 k13 hkb k140 hlv hcc; omega)) (by (clear p_lx p_go i2_0_0 i2_1_0 i2_3_0 k13 hkb hlv hcc; omega)) (by have q := (up_same : (up H2_0 0 43 ((H2_0 0 43) - 1)) 0 43 = ((H2_0 0 43) - 1)); (clear p_lx p_go i2_0_0 i2_1_0 i2_3_0 k13 hkb k140 hlv hcc; omega)) ((up_k k13).trans rfl) (fun j => ((up_o (by decide)).trans rfl)) (fun j => ((up_o (by decide)).trans rfl)) (fun j => ((up_o (by decide)).trans rfl)) (fun j => ((up_o (by decide)).trans rfl)) (fun j => ((up_o (by decide)).trans rfl))
        refine g_bipush dX12_isMoreOf_35 (by decide) ?_
        refine g_aload_n dX12_isMoreOf_37 rfl ?_
        refine m_g13 (z := (P 0 13)) rfl dX12_isMoreOf_38 ((up_k (by decide)).trans ((hE2_0.1 13 rfl).trans rfl)) ?_
        refine g_imul dX12_isMoreOf_41 ?_
        refine g_aload_n dX12_isMoreOf_42 rfl ?_
        refine m_g41 rfl dX12_isMoreOf_43 ?_
        refine g_aload_n dX12_isMoreOf_46 rfl ?_
        refine m_g43 (z := ((H2_0 0 43) - 1)) rfl dX12_isMoreOf_47 up_same ?_
        refine m_l26 (z := (P 26 ((H2_0 0 43) - 1))) dX12_isMoreOf_50 ⟨by have q0 := b0_43 hB2_0; (clear p_lx p_go i2_0_0 i2_1_0 i2_3_0 k13 hkb k140 hlv hcc; omega), by have q0 := b0_43 hB2_0; (clear p_lx p_go i2_0_0 i2_1_0 i2_3_0 k13 hkb k140 hlv hcc; omega)⟩ ((up_o (by decide)).trans ((congrFun (hE2_0.2 26 rfl rfl) _).trans rfl)) ?_
        refine g_iadd dX12_isMoreOf_51 ?_
        have h26v : ((24 * (P 0 13)) + (P 26 ((H2_0 0 43) - 1))) = 24 * P 0 13 + P 26 (z - 1) := by rw [hz]
        refine g_istore_n (l1 := [(3, vI ((24 * (P 0 13)) + (P 26 ((H2_0 0 43) - 1)))), (0, vR 0), (2, vI x2_2_0)]) dX12_isMoreOf_52 (by decide) rfl ?_
        refine g_aload_n dX12_isMoreOf_53 rfl ?_
        refine m_g42 rfl dX12_isMoreOf_54 ?_
        refine g_aload_n dX12_isMoreOf_57 rfl ?_
        refine m_g43 (z := ((H2_0 0 43) - 1)) rfl dX12_isMoreOf_58 up_same ?_
        refine m_l27 (z := (P 27 ((H2_0 0 43) - 1))) dX12_isMoreOf_61 ⟨by have q0 := b0_43 hB2_0; (clear p_lx p_go i2_0_0 i2_1_0 i2_3_0 k13 hkb k140 hlv hcc; omega), by have q0 := b0_43 hB2_0; (clear p_lx p_go i2_0_0 i2_1_0 i2_3_0 k13 hkb k140 hlv hcc; omega)⟩ ((up_o (by decide)).trans ((congrFun (hE2_0.2 27 rfl rfl) _).trans rfl)) ?_
        have h27v : (P 27 ((H2_0 0 43) - 1)) = P 27 (z - 1) := by rw [hz]
        refine g_istore (l1 := [(4, vI (P 27 ((H2_0 0 43) - 1))), (3, vI ((24 * (P 0 13)) + (P 26 ((H2_0 0 43) - 1)))), (0, vR 0), (2, vI x2_2_0)]) dX12_isMoreOf_62 (by decide) rfl ?_
        refine g_aload_n dX12_isMoreOf_64 rfl ?_
        refine m_g40 rfl dX12_isMoreOf_65 ?_
        refine g_aload_n dX12_isMoreOf_68 rfl ?_
        refine m_g43 (z := ((H2_0 0 43) - 1)) rfl dX12_isMoreOf_69 up_same ?_
        refine g_aload_n dX12_isMoreOf_72 rfl ?_
        refine m_g40 rfl dX12_isMoreOf_73 ?_
        refine g_aload_n dX12_isMoreOf_76 rfl ?_
        refine m_g43 (z := ((H2_0 0 43) - 1)) rfl dX12_isMoreOf_77 up_same ?_
        refine m_l25 (z := (H2_0 25 ((H2_0 0 43) - 1))) dX12_isMoreOf_80 ⟨by have q0 := b0_43 hB2_0; (clear p_lx p_go i2_0_0 i2_1_0 i2_3_0 k13 hkb k140 hlv hcc; omega), by have q0 := b0_43 hB2_0; (clear p_lx p_go i2_0_0 i2_1_0 i2_3_0 k13 hkb k140 hlv hcc; omega)⟩ ((up_o (by decide)).trans rfl) ?_
        have ha9 : (H2_0 25 ((H2_0 0 43) - 1)) = a9 := hW9.top.2.2
        refine g_aload_n dX12_isMoreOf_81 rfl ?_
        refine g_aload_n dX12_isMoreOf_82 rfl ?_
        refine m_g13 (z := (P 0 13)) rfl dX12_isMoreOf_83 ((up_k (by decide)).trans ((hE2_0.1 13 rfl).trans rfl)) ?_
        refine g_aload_n dX12_isMoreOf_86 rfl ?_
        refine m_g20 rfl dX12_isMoreOf_87 ?_
        refine g_iconst dX12_isMoreOf_90 ?_
        refine g_iload_n dX12_isMoreOf_91 rfl ?_
        refine g_imul dX12_isMoreOf_92 ?_
        refine g_iload dX12_isMoreOf_93 rfl ?_
        refine g_iadd dX12_isMoreOf_95 ?_
        refine m_l8 (z := (P 8 ((2 * ((24 * (P 0 13)) + (P 26 ((H2_0 0 43) - 1)))) + (P 27 ((H2_0 0 43) - 1))))) dX12_isMoreOf_96 ⟨by have q0 := b0_13 hB; have q1 := bl_26 (k := ((H2_0 0 43) - 1)) hB; have q2 := bl_27 (k := ((H2_0 0 43) - 1)) hB; (clear p_lx p_go i2_0_0 i2_1_0 i2_3_0 k13 hkb k140 hlv hcc; omega), by have q0 := b0_13 hB; have q1 := bl_26 (k := ((H2_0 0 43) - 1)) hB; have q2 := bl_27 (k := ((H2_0 0 43) - 1)) hB; (clear p_lx p_go i2_0_0 i2_1_0 i2_3_0 k13 hkb k140 hlv hcc; omega)⟩ ((up_o (by decide)).trans ((congrFun (hE2_0.2 8 rfl rfl) _).trans rfl)) ?_
        have hk4 : K4 (P 8 ((2 * ((24 * (P 0 13)) + (P 26 ((H2_0 0 43) - 1)))) + (P 27 ((H2_0 0 43) - 1)))) k9 := by have q := z1.fld (c := c9) (f := f9) ht2.1 ht2.2 (by (clear p_lx p_go i2_0_0 i2_1_0 i2_3_0 k13 hkb k140 hlv hcc; omega)) ht3; rw [← hT9.1, ← hc9, ← hf9] at q; exact q
        have f142 := b0_13 hB
        have f143 := bl_8 (k := ((2 * ((24 * (P 0 13)) + (P 26 ((H2_0 0 43) - 1)))) + (P 27 ((H2_0 0 43) - 1)))) hB
        refine g_vI (av := [vI (P 0 13), vI (P 8 ((2 * ((24 * (P 0 13)) + (P 26 ((H2_0 0 43) - 1)))) + (P 27 ((H2_0 0 43) - 1))))]) (o := 0) (st := [vI (H2_0 25 ((H2_0 0 43) - 1)), vI ((H2_0 0 43) - 1), vR 25]) (m_X12_valuesOf G (up H2_0 0 43 ((H2_0 0 43) - 1)) (P 0 13) (P 8 ((2 * ((24 * (P 0 13)) + (P 26 ((H2_0 0 43) - 1)))) + (P 27 ((H2_0 0 43) - 1)))) ⟨by have q0 := b0_13 hB; (clear p_lx p_go i2_0_0 i2_1_0 i2_3_0 k13 hkb k140 hlv hcc; omega), by have q0 := b0_13 hB; (clear p_lx p_go i2_0_0 i2_1_0 i2_3_0 k13 hkb k140 hlv hcc; omega)⟩ ⟨by have q0 := bl_8 (k := ((2 * ((24 * (P 0 13)) + (P 26 ((H2_0 0 43) - 1)))) + (P 27 ((H2_0 0 43) - 1)))) hB; (clear p_lx p_go i2_0_0 i2_1_0 i2_3_0 k13 hkb k140 hlv hcc; omega), by have q0 := bl_8 (k := ((2 * ((24 * (P 0 13)) + (P 26 ((H2_0 0 43) - 1)))) + (P 27 ((H2_0 0 43) - 1)))) hB; (clear p_lx p_go i2_0_0 i2_1_0 i2_3_0 k13 hkb k140 hlv hcc; omega)⟩ hB138  _ (fun rc144 hc144 gc144_v => ⟨rc144, rfl, ?_⟩)) cf_X12_valuesOf t_1756 rfl (by decide) rfl rfl rfl (Nat.le_of_ble_eq_true rfl) (by decide) rfl dX12_isMoreOf_97
        have r3c : ∀ j, (up H2_0 0 43 ((H2_0 0 43) - 1)) 3 j = P 3 j := fun j => ((up_o (by decide)).trans ((congrFun (hE2_0.2 3 rfl rfl) _).trans rfl))
        have hvl : rc144 = sz K k9 := by have q := gc144_v; rw [r3c] at q; exact z1.vla hk4 hk9b.2 q
        refine g_imul dX12_isMoreOf_100 ?_
        refine g_nm (fun w145 e_w145 => ?_)
        have h_w145 : 0 ≤ w145 ∧ w145 ≤ 4024036 := by rw [e_w145]; exact mul_n (A := 2006) (B := 2006) ⟨by (clear p_lx p_go i2_0_0 i2_1_0 i2_3_0 k13 hkb k140 hlv hcc gc144_v; omega), by (clear p_lx p_go i2_0_0 i2_1_0 i2_3_0 k13 hkb k140 hlv hcc gc144_v; omega)⟩ ⟨by (clear p_lx p_go i2_0_0 i2_1_0 i2_3_0 k13 hkb k140 hlv hcc gc144_v; omega), by (clear p_lx p_go i2_0_0 i2_1_0 i2_3_0 k13 hkb k140 hlv hcc gc144_v; omega)⟩
        have hx9 : w145 = a9 * sz K (fK K c9 f9) := by rw [e_w145, ha9, hvl, hT9.1]
        refine g_iload_n dX12_isMoreOf_101 rfl ?_
        refine g_iadd dX12_isMoreOf_102 ?_
        refine m_s25 dX12_isMoreOf_103 ⟨by have q0 := b0_43 hB2_0; (clear p_lx p_go i2_0_0 i2_1_0 i2_3_0 k13 hkb k140 hlv hcc gc144_v; omega), by have q0 := b0_43 hB2_0; (clear p_lx p_go i2_0_0 i2_1_0 i2_3_0 k13 hkb k140 hlv hcc gc144_v; omega)⟩ ?_
        have hB146 := ba_25 (z := (w145 + x2_2_0)) (k := ((H2_0 0 43) - 1)) hB138 ⟨by (clear p_lx p_go i2_0_0 i2_1_0 i2_3_0 k13 hkb k140 hlv hcc gc144_v; omega), by (clear p_lx p_go i2_0_0 i2_1_0 i2_3_0 k13 hkb k140 hlv hcc gc144_v; omega)⟩
        refine g_iload dX12_isMoreOf_104 rfl ?_
        refine g_iconst dX12_isMoreOf_106 ?_
        refine g_iadd dX12_isMoreOf_107 ?_
        refine g_aload_n dX12_isMoreOf_108 rfl ?_
        refine m_g19 rfl dX12_isMoreOf_109 ?_
        refine g_iload_n dX12_isMoreOf_112 rfl ?_
        refine m_l7 (z := (P 7 ((24 * (P 0 13)) + (P 26 ((H2_0 0 43) - 1))))) dX12_isMoreOf_113 ⟨by have q0 := b0_13 hB; have q1 := bl_26 (k := ((H2_0 0 43) - 1)) hB; (clear p_lx p_go i2_0_0 i2_1_0 i2_3_0 k13 hkb k140 hlv hcc gc144_v; omega), by have q0 := b0_13 hB; have q1 := bl_26 (k := ((H2_0 0 43) - 1)) hB; (clear p_lx p_go i2_0_0 i2_1_0 i2_3_0 k13 hkb k140 hlv hcc gc144_v; omega)⟩ ((up_o (by decide)).trans ((up_o (by decide)).trans ((congrFun (hE2_0.2 7 rfl rfl) _).trans rfl))) ?_
        have h79 : (P 7 ((24 * (P 0 13)) + (P 26 ((H2_0 0 43) - 1)))) = K 6 c9 := by rw [hc9]; exact hcc.2.2.1
        have f147 := bl_27 (k := ((H2_0 0 43) - 1)) hB
        have f148 := bl_7 (k := ((24 * (P 0 13)) + (P 26 ((H2_0 0 43) - 1)))) hB
        refine g_icmp_ge (tgt := 155) dX12_isMoreOf_114 (by decide) ⟨by have q0 := bl_27 (k := ((H2_0 0 43) - 1)) hB; (clear p_lx p_go i2_0_0 i2_1_0 i2_3_0 k13 hkb k140 hlv hcc gc144_v; omega), by have q0 := bl_27 (k := ((H2_0 0 43) - 1)) hB; (clear p_lx p_go i2_0_0 i2_1_0 i2_3_0 k13 hkb k140 hlv hcc gc144_v; omega)⟩ ⟨by have q0 := bl_7 (k := ((24 * (P 0 13)) + (P 26 ((H2_0 0 43) - 1)))) hB; (clear p_lx p_go i2_0_0 i2_1_0 i2_3_0 k13 hkb k140 hlv hcc gc144_v; omega), by have q0 := bl_7 (k := ((24 * (P 0 13)) + (P 26 ((H2_0 0 43) - 1)))) hB; (clear p_lx p_go i2_0_0 i2_1_0 i2_3_0 k13 hkb k140 hlv hcc gc144_v; omega)⟩ (fun k149 => ?_) (fun k149 => ?_)
        · skip
          skip
          skip
          skip
          have hsg41 := sgn_s T 41 q9
          have hfl : ¬ f9 + 1 < K 6 c9 := by (clear p_lx p_go i2_0_0 i2_1_0 i2_3_0 k13 hkb k140 hlv hcc gc144_v hsg41; omega)
          have hvv := hT9.val p_ab hfl (by (clear p_lx p_go i2_0_0 i2_1_0 i2_3_0 k13 hkb k140 hlv hcc gc144_v hsg41; omega)) (by (clear p_lx p_go i2_0_0 i2_1_0 i2_3_0 k13 hkb k140 hlv hcc gc144_v hsg41; omega)) hv9
          have hs5 := sz_le p_aw (k := K 5 c9) ⟨by (clear p_lx p_go i2_0_0 i2_1_0 i2_3_0 k13 hkb k140 hlv hcc gc144_v hsg41; omega), by (clear p_lx p_go i2_0_0 i2_1_0 i2_3_0 k13 hkb k140 hlv hcc gc144_v hsg41; omega)⟩
          refine g_aload_n dX12_isMoreOf_155 rfl ?_
          refine g_bipush dX12_isMoreOf_156 (by decide) ?_
          refine g_vV (av := [vI 41]) (o := 0) (st := []) (f_X12_must G (up (up H2_0 0 43 ((H2_0 0 43) - 1)) 25 ((H2_0 0 43) - 1) (w145 + x2_2_0)) (T) (q9) 41 (by decide) hB146 (by have q0 := (((up_o (by decide)).trans ((up_k (by decide)).trans rfl)) : (up (up H2_0 0 43 ((H2_0 0 43) - 1)) 25 ((H2_0 0 43) - 1) (w145 + x2_2_0)) 0 3 = (H2_0 0 3)); have q1 := b0_3 hB2_0; have q2 := (((up_o (by decide)).trans ((up_k (by decide)).trans rfl)) : (up (up H2_0 0 43 ((H2_0 0 43) - 1)) 25 ((H2_0 0 43) - 1) (w145 + x2_2_0)) 0 4 = (H2_0 0 4)); have q3 := b0_4 hB2_0; have q4 := (((up_o (by decide)).trans ((up_k (by decide)).trans rfl)) : (up (up H2_0 0 43 ((H2_0 0 43) - 1)) 25 ((H2_0 0 43) - 1) (w145 + x2_2_0)) 0 5 = (H2_0 0 5)); have q5 := b0_5 hB2_0; (clear p_lx p_go i2_0_0 i2_1_0 k13 hkb k140 hlv hcc gc144_v hsg41; omega)) (FP.fr (F := ([43], [25])) w2_FP_0 (FrM.a (FrM.s FrM.rf rfl) rfl rfl) rfl) ((MT.fr (F := ([3, 4, 5, 6, 7, 8, 9, 12, 43], [25])) z0 (FrM.a (FrM.s (FrM.c FrM.rf hE2_0 rfl) rfl) rfl rfl) rfl)) ((MS.fr (F := ([43], [25])) iv136 (FrM.a (FrM.s FrM.rf rfl) rfl rfl) rfl)) _ (fun Pc150 hBc150 hFc150 gc150_lx gc150_mo gc150_pe gc150_ad gc150_n vc150_FP ec150_0 => ⟨rfl, ?_⟩)) cf_X12_must t_1768 rfl (by decide) rfl rfl rfl (Nat.le_of_ble_eq_true rfl) (by decide) rfl dX12_isMoreOf_158
          have z151 : (up (up H2_0 0 43 ((H2_0 0 43) - 1)) 25 ((H2_0 0 43) - 1) (w145 + x2_2_0)) 0 4 = (H2_0 0 4) := ((up_o (by decide)).trans ((up_k (by decide)).trans rfl))
          have z152 : (up (up H2_0 0 43 ((H2_0 0 43) - 1)) 25 ((H2_0 0 43) - 1) (w145 + x2_2_0)) 0 8 = (H2_0 0 8) := ((up_o (by decide)).trans ((up_k (by decide)).trans rfl))
          have z153 : (up (up H2_0 0 43 ((H2_0 0 43) - 1)) 25 ((H2_0 0 43) - 1) (w145 + x2_2_0)) 0 9 = (H2_0 0 9) := ((up_o (by decide)).trans ((up_k (by decide)).trans rfl))
          have hmu8 := ec150_0
          have iv154 : CP (sgn T 41 q9).1 (MS T (tE T q9)) Pc150 := fun hn => by rw [show tE T q9 = (sgn T 41 q9).2 by (clear p_lx p_go i2_0_0 i2_1_0 i2_3_0 k13 hkb k140 hlv hcc gc144_v gc150_lx gc150_pe gc150_ad gc150_n; omega)]; exact hmu8 (by have q8 := (rfl : Pc150 0 8 = (Pc150 0 8)); (clear p_lx p_go i2_0_0 i2_1_0 i2_3_0 k13 hkb k140 hlv hcc gc144_v hsg41 gc150_lx gc150_pe gc150_ad; omega))
          refine g_aload_n dX12_isMoreOf_161 rfl ?_
          refine m_g21 rfl dX12_isMoreOf_162 ?_
          refine g_iload_n dX12_isMoreOf_165 rfl ?_
          refine m_l9 (z := (P 9 ((24 * (P 0 13)) + (P 26 ((H2_0 0 43) - 1))))) dX12_isMoreOf_166 ⟨by have q0 := b0_13 hB; have q1 := bl_26 (k := ((H2_0 0 43) - 1)) hB; (clear p_lx p_go i2_0_0 i2_1_0 i2_3_0 k13 hkb k140 hlv hcc gc144_v hsg41 gc150_lx gc150_pe gc150_ad gc150_n; omega), by have q0 := b0_13 hB; have q1 := bl_26 (k := ((H2_0 0 43) - 1)) hB; (clear p_lx p_go i2_0_0 i2_1_0 i2_3_0 k13 hkb k140 hlv hcc gc144_v hsg41 gc150_lx gc150_pe gc150_ad gc150_n; omega)⟩ ((congrFun (hFc150.2 9 rfl rfl) _).trans ((up_o (by decide)).trans ((up_o (by decide)).trans ((congrFun (hE2_0.2 9 rfl rfl) _).trans rfl)))) ?_
          have h99 : (P 9 ((24 * (P 0 13)) + (P 26 ((H2_0 0 43) - 1)))) = K 10 c9 := by rw [hc9]; exact hcc.2.2.2.2.2
          refine g_aload_n dX12_isMoreOf_167 rfl ?_
          refine m_g40 rfl dX12_isMoreOf_168 ?_
          refine g_aload_n dX12_isMoreOf_171 rfl ?_
          refine m_g43 (z := ((H2_0 0 43) - 1)) rfl dX12_isMoreOf_172 ((hFc150.1 43 rfl).trans ((up_o (by decide)).trans up_same)) ?_
          refine m_l25 (z := (w145 + x2_2_0)) dX12_isMoreOf_175 ⟨by have q0 := b0_43 hB2_0; (clear p_lx p_go i2_0_0 i2_1_0 i2_3_0 k13 hkb k140 hlv hcc gc144_v hsg41 gc150_lx gc150_pe gc150_ad gc150_n; omega), by have q0 := b0_43 hB2_0; (clear p_lx p_go i2_0_0 i2_1_0 i2_3_0 k13 hkb k140 hlv hcc gc144_v hsg41 gc150_lx gc150_pe gc150_ad gc150_n; omega)⟩ ((congrFun (hFc150.2 25 rfl rfl) _).trans up_same) ?_
          refine g_iadd dX12_isMoreOf_176 ?_
          refine g_nm (fun v155 e_v155 => ?_)
          have f_v155_0 := bl_9 (k := ((24 * (P 0 13)) + (P 26 ((H2_0 0 43) - 1)))) hB
          refine g_istore_n (l1 := [(2, vI v155), (4, vI (P 27 ((H2_0 0 43) - 1))), (3, vI ((24 * (P 0 13)) + (P 26 ((H2_0 0 43) - 1)))), (0, vR 0)]) dX12_isMoreOf_177 (by decide) rfl ?_
          have hlow : STW s19 Pc150 := STW.low (z := z - 1) hWZ (by (clear p_lx p_go i2_0_0 i2_1_0 i2_3_0 k13 hkb k140 hlv hcc gc144_v hsg41 gc150_lx gc150_pe gc150_ad gc150_n; omega)) (by have q := (((hFc150.1 43 rfl).trans ((up_o (by decide)).trans up_same)) : Pc150 0 43 = ((H2_0 0 43) - 1)); (clear p_lx p_go i2_0_0 i2_1_0 i2_3_0 k13 hkb k140 hlv hcc gc144_v hsg41 gc150_lx gc150_pe gc150_ad gc150_n; omega)) (fun j => by rw [← hZ9]; exact Eq.trans ((congrFun (hFc150.2 26 rfl rfl) _).trans ((up_o (by decide)).trans ((up_o (by decide)).trans ((congrFun (hE2_0.2 26 rfl rfl) _).trans rfl)))) (r26a j).symm) (fun j => by rw [← hZ9]; exact Eq.trans ((congrFun (hFc150.2 27 rfl rfl) _).trans ((up_o (by decide)).trans ((up_o (by decide)).trans ((congrFun (hE2_0.2 27 rfl rfl) _).trans rfl)))) (r27a j).symm) (fun j hj9 => by rw [← hZ9]; have hj : j ≠ ((H2_0 0 43) - 1) := (by (clear p_lx p_go i2_0_0 i2_1_0 i2_3_0 k13 hkb k140 hlv hcc gc144_v hsg41 gc150_lx gc150_pe gc150_ad gc150_n; omega)); exact ((congrFun (hFc150.2 25 rfl rfl) _).trans ((up_k hj).trans ((up_o (by decide)).trans rfl))))
          have hgv9 : (0 < P 0 8 ∧ Pc150 0 8 = P 0 8 ∧ Pc150 0 9 = P 0 9) ∨ (P 0 8 ≤ 0 ∧ VG T K k0 s p a1 v155 Pc150) := Or.inr ⟨hp8, (show (sgn T 41 q9).1 ≠ 0 ∨ (sgn T 41 q9).1 = 0 by (clear p_lx p_go i2_0_0 i2_1_0 i2_3_0 k13 hkb k140 hlv hcc gc144_v hsg41 gc150_lx gc150_pe gc150_ad gc150_n; omega)).elim (fun hn => VG.closeF hR9 hfl hn (by have q8 := (rfl : Pc150 0 8 = (Pc150 0 8)); (clear p_lx p_go i2_0_0 i2_1_0 i2_3_0 k13 hkb k140 hlv hcc gc144_v hsg41 gc150_lx gc150_pe gc150_ad; omega)) (by have q := b0_8 hBc150; (clear p_lx p_go i2_0_0 i2_1_0 i2_3_0 k13 hkb k140 hlv hcc gc144_v hsg41 gc150_lx gc150_pe gc150_ad gc150_n; omega)) (by have q9z := (rfl : Pc150 0 9 = (Pc150 0 9)); (clear p_lx p_go i2_0_0 i2_1_0 i2_3_0 k13 hkb k140 hlv hcc gc144_v hsg41 gc150_lx gc150_pe gc150_ad; omega))) (fun hn => VG.close p_ab hR9 hT9 (by (clear p_lx p_go i2_0_0 i2_1_0 i2_3_0 k13 hkb k140 hlv hcc gc144_v hsg41 gc150_lx gc150_pe gc150_ad gc150_n; omega)) (by (clear p_lx p_go i2_0_0 i2_1_0 i2_3_0 k13 hkb k140 hlv hcc gc144_v hsg41 gc150_lx gc150_pe gc150_ad gc150_n; omega)) hv9 hfl hn (by have q8 := (rfl : Pc150 0 8 = (Pc150 0 8)); (clear p_lx p_go i2_0_0 i2_1_0 i2_3_0 k13 hkb k140 hlv hcc gc144_v hsg41 gc150_lx gc150_pe gc150_ad; omega)) (iv154 hn) hlow (by (clear p_lx p_go i2_0_0 i2_1_0 i2_3_0 k13 hkb k140 hlv hcc gc144_v hsg41 gc150_lx gc150_pe gc150_ad gc150_n; omega)))⟩
          refine g_goto (tgt := 2) dX12_isMoreOf_178 (by decide) ?_
          refine g_forget (l1 := [(0, vR 0), (2, vI v155)]) (by intro q hq; simp only [List.mem_cons, List.not_mem_nil, or_false] at hq ⊢; rcases hq with rfl | rfl <;> simp) ?_
          exact ih2_0 v155 ⟨by (clear p_lx p_go i2_0_0 i2_1_0 i2_3_0 k13 hkb k140 hlv hcc gc144_v hsg41 gc150_lx gc150_pe gc150_ad gc150_n hgv9; omega), by (clear p_lx p_go i2_0_0 i2_1_0 i2_3_0 k13 hkb k140 hlv hcc gc144_v hsg41 gc150_lx gc150_pe gc150_ad gc150_n hgv9; omega)⟩ _ hBc150 (FrM.c (FrM.a (FrM.s (FrM.c FrM.rf hE2_0 rfl) rfl) rfl rfl) hFc150 rfl) (by first | exact hgv9 | exact (show 0 < P 0 8 ∨ P 0 8 ≤ 0 by (first | (clear p_lx p_go i2_0_0 i2_1_0 i2_3_0 k13 hkb k140 hlv hcc gc144_v hsg41 gc150_lx gc150_pe gc150_ad gc150_n hgv9; omega) | (clear p_lx p_go i2_0_0 i2_1_0 i2_3_0 k13 hkb k140 hlv hcc gc144_v hsg41 gc150_lx gc150_pe gc150_ad gc150_n; omega) | (clear p_lx p_go i2_0_0 i2_1_0 i2_3_0 k13 hkb k140 hlv hcc gc144_v hsg41 gc150_lx gc150_pe gc150_ad hgv9; omega) | (clear p_lx p_go i2_0_0 i2_1_0 i2_3_0 k13 hkb k140 hlv hcc gc144_v hsg41 gc150_lx gc150_pe gc150_n hgv9; omega) | (clear p_lx p_go i2_0_0 i2_1_0 i2_3_0 k13 hkb k140 hlv hcc gc144_v hsg41 gc150_lx gc150_ad gc150_n hgv9; omega) | (clear p_lx p_go i2_0_0 i2_1_0 i2_3_0 k13 hkb k140 hlv hcc gc144_v hsg41 gc150_pe gc150_ad gc150_n hgv9; omega) | (clear p_lx p_go i2_0_0 i2_1_0 i2_3_0 k13 hkb k140 hlv hcc gc144_v gc150_lx gc150_pe gc150_ad gc150_n hgv9; omega) | (clear p_lx p_go i2_0_0 i2_1_0 i2_3_0 k13 hkb k140 hlv hcc hsg41 gc150_lx gc150_pe gc150_ad gc150_n hgv9; omega) | (clear p_lx p_go i2_0_0 i2_1_0 i2_3_0 k13 hkb k140 hlv gc144_v hsg41 gc150_lx gc150_pe gc150_ad gc150_n hgv9; omega) | (clear p_lx p_go i2_0_0 i2_1_0 i2_3_0 k13 hkb k140 hlv hcc gc144_v hsg41 gc150_lx gc150_pe gc150_ad; omega) | (clear gc150_lx hsg41 gc144_v hcc hlv k140 hkb k13 i2_3_0 i2_1_0 i2_0_0 p_go p_lx; omega) | omega)).elim (fun h => Or.inl ⟨h, rfl, rfl⟩) (fun h => Or.inr ⟨h, by obtain ⟨g1, g2, g3, g4, g5⟩ := p_go.resolve_left (by (first | (clear p_lx p_go i2_0_0 i2_1_0 i2_3_0 k13 hkb k140 hlv hcc gc144_v hsg41 gc150_lx gc150_pe gc150_ad gc150_n hgv9; omega) | (clear p_lx p_go i2_0_0 i2_1_0 i2_3_0 k13 hkb k140 hlv hcc gc144_v hsg41 gc150_lx gc150_pe gc150_ad gc150_n; omega) | (clear p_lx p_go i2_0_0 i2_1_0 i2_3_0 k13 hkb k140 hlv hcc gc144_v hsg41 gc150_lx gc150_pe gc150_ad hgv9; omega) | (clear p_lx p_go i2_0_0 i2_1_0 i2_3_0 k13 hkb k140 hlv hcc gc144_v hsg41 gc150_lx gc150_pe gc150_n hgv9; omega) | (clear p_lx p_go i2_0_0 i2_1_0 i2_3_0 k13 hkb k140 hlv hcc gc144_v hsg41 gc150_lx gc150_ad gc150_n hgv9; omega) | (clear p_lx p_go i2_0_0 i2_1_0 i2_3_0 k13 hkb k140 hlv hcc gc144_v hsg41 gc150_pe gc150_ad gc150_n hgv9; omega) | (clear p_lx p_go i2_0_0 i2_1_0 i2_3_0 k13 hkb k140 hlv hcc gc144_v gc150_lx gc150_pe gc150_ad gc150_n hgv9; omega) | (clear p_lx p_go i2_0_0 i2_1_0 i2_3_0 k13 hkb k140 hlv hcc hsg41 gc150_lx gc150_pe gc150_ad gc150_n hgv9; omega) | (clear p_lx p_go i2_0_0 i2_1_0 i2_3_0 k13 hkb k140 hlv gc144_v hsg41 gc150_lx gc150_pe gc150_ad gc150_n hgv9; omega) | (clear p_lx p_go i2_0_0 i2_1_0 i2_3_0 k13 hkb k140 hlv hcc gc144_v hsg41 gc150_lx gc150_pe gc150_ad; omega) | (clear gc150_lx hsg41 gc144_v hcc hlv k140 hkb k13 i2_3_0 i2_1_0 i2_0_0 p_go p_lx; omega) | omega)); exact VG.start h g1 g2 g3 ⟨g4, g5⟩⟩)) (by have q0 := b0_8 hBc150; (clear p_lx p_go i2_0_0 i2_1_0 i2_3_0 k13 hkb k140 hlv hcc gc144_v hsg41 gc150_lx gc150_pe gc150_ad gc150_n hgv9; omega)) (by have q0 := b0_4 hBc150; (clear p_lx p_go i2_0_0 i2_1_0 i2_3_0 k13 hkb k140 hlv hcc gc144_v hsg41 gc150_lx gc150_pe gc150_ad gc150_n hgv9; omega)) (by have q0 := b0_3 hBc150; have q1 := b0_4 hBc150; have q2 := b0_5 hBc150; (clear p_lx p_go i2_0_0 i2_1_0 i2_3_0 k13 hkb k140 hlv hcc gc144_v hsg41 gc150_pe gc150_ad gc150_n hgv9; omega)) (SR.fr (F := ([3, 4, 5, 6, 7, 8, 9, 12], [25])) iv141 (FrM.c (FrM.a FrM.rf rfl rfl) hFc150 rfl) rfl) vc150_FP (by have q0 := (((hFc150.1 43 rfl).trans ((up_o (by decide)).trans up_same)) : Pc150 0 43 = ((H2_0 0 43) - 1)); have q1 := b0_43 hB2_0; (clear p_lx p_go i2_0_0 i2_1_0 i2_3_0 k13 hkb k140 hlv hcc gc144_v hsg41 gc150_lx gc150_pe gc150_ad gc150_n hgv9; omega))
        · skip
          skip
          skip
          skip
          have hsg44 := sgn_s T 44 q9
          have hfl : f9 + 1 < K 6 c9 := by (clear p_lx p_go i2_0_0 i2_1_0 i2_3_0 k13 hkb k140 hlv hcc gc144_v hsg44; omega)
          refine g_aload_n dX12_isMoreOf_117 rfl ?_
          refine g_bipush dX12_isMoreOf_118 (by decide) ?_
          refine g_vV (av := [vI 44]) (o := 0) (st := []) (f_X12_must G (up (up H2_0 0 43 ((H2_0 0 43) - 1)) 25 ((H2_0 0 43) - 1) (w145 + x2_2_0)) (T) (q9) 44 (by decide) hB146 (by have q0 := (((up_o (by decide)).trans ((up_k (by decide)).trans rfl)) : (up (up H2_0 0 43 ((H2_0 0 43) - 1)) 25 ((H2_0 0 43) - 1) (w145 + x2_2_0)) 0 3 = (H2_0 0 3)); have q1 := b0_3 hB2_0; have q2 := (((up_o (by decide)).trans ((up_k (by decide)).trans rfl)) : (up (up H2_0 0 43 ((H2_0 0 43) - 1)) 25 ((H2_0 0 43) - 1) (w145 + x2_2_0)) 0 4 = (H2_0 0 4)); have q3 := b0_4 hB2_0; have q4 := (((up_o (by decide)).trans ((up_k (by decide)).trans rfl)) : (up (up H2_0 0 43 ((H2_0 0 43) - 1)) 25 ((H2_0 0 43) - 1) (w145 + x2_2_0)) 0 5 = (H2_0 0 5)); have q5 := b0_5 hB2_0; (clear p_lx p_go i2_0_0 i2_1_0 k13 hkb k140 hlv hcc gc144_v hsg44; omega)) (FP.fr (F := ([43], [25])) w2_FP_0 (FrM.a (FrM.s FrM.rf rfl) rfl rfl) rfl) ((MT.fr (F := ([3, 4, 5, 6, 7, 8, 9, 12, 43], [25])) z0 (FrM.a (FrM.s (FrM.c FrM.rf hE2_0 rfl) rfl) rfl rfl) rfl)) ((MS.fr (F := ([43], [25])) iv136 (FrM.a (FrM.s FrM.rf rfl) rfl rfl) rfl)) _ (fun Pc156 hBc156 hFc156 gc156_lx gc156_mo gc156_pe gc156_ad gc156_n vc156_FP ec156_0 => ⟨rfl, ?_⟩)) cf_X12_must t_1768 rfl (by decide) rfl rfl rfl (Nat.le_of_ble_eq_true rfl) (by decide) rfl dX12_isMoreOf_120
          have z157 : (up (up H2_0 0 43 ((H2_0 0 43) - 1)) 25 ((H2_0 0 43) - 1) (w145 + x2_2_0)) 0 4 = (H2_0 0 4) := ((up_o (by decide)).trans ((up_k (by decide)).trans rfl))
          have z158 : (up (up H2_0 0 43 ((H2_0 0 43) - 1)) 25 ((H2_0 0 43) - 1) (w145 + x2_2_0)) 0 8 = (H2_0 0 8) := ((up_o (by decide)).trans ((up_k (by decide)).trans rfl))
          have z159 : (up (up H2_0 0 43 ((H2_0 0 43) - 1)) 25 ((H2_0 0 43) - 1) (w145 + x2_2_0)) 0 9 = (H2_0 0 9) := ((up_o (by decide)).trans ((up_k (by decide)).trans rfl))
          have hmu8 := ec156_0
          have hsr3 := (SR.fr (F := ([3, 4, 5, 6, 7, 8, 9, 12], [25])) iv141 (FrM.c (FrM.a FrM.rf rfl rfl) hFc156 rfl) rfl)
          have hcf3 := (CF.fr (F := ([3, 4, 5, 6, 7, 8, 9, 12, 43], [25])) v_CF (FrM.c (FrM.a (FrM.s (FrM.c FrM.rf hE2_0 rfl) rfl) rfl rfl) hFc156 rfl) rfl)
          have h43c := (((hFc156.1 43 rfl).trans ((up_o (by decide)).trans up_same)) : Pc156 0 43 = ((H2_0 0 43) - 1))
          have h13c := (((hFc156.1 13 rfl).trans ((up_o (by decide)).trans ((up_k (by decide)).trans ((hE2_0.1 13 rfl).trans rfl)))) : Pc156 0 13 = (P 0 13))
          have r6c : ∀ j, Pc156 6 j = P 6 j := fun j => ((congrFun (hFc156.2 6 rfl rfl) _).trans ((up_o (by decide)).trans ((up_o (by decide)).trans ((congrFun (hE2_0.2 6 rfl rfl) _).trans rfl))))
          have r7c : ∀ j, Pc156 7 j = P 7 j := fun j => ((congrFun (hFc156.2 7 rfl rfl) _).trans ((up_o (by decide)).trans ((up_o (by decide)).trans ((congrFun (hE2_0.2 7 rfl rfl) _).trans rfl))))
          have r8c : ∀ j, Pc156 8 j = P 8 j := fun j => ((congrFun (hFc156.2 8 rfl rfl) _).trans ((up_o (by decide)).trans ((up_o (by decide)).trans ((congrFun (hE2_0.2 8 rfl rfl) _).trans rfl))))
          have iv160 : CP (sgn T 44 q9).1 (MS T (tE T q9)) Pc156 := fun hn => by rw [show tE T q9 = (sgn T 44 q9).2 by (clear p_lx p_go i2_0_0 i2_1_0 i2_3_0 k13 hkb k140 hlv hcc gc144_v gc156_lx gc156_pe gc156_ad gc156_n; omega)]; exact hmu8 (by have q8 := (rfl : Pc156 0 8 = (Pc156 0 8)); (clear p_lx p_go i2_0_0 i2_1_0 i2_3_0 k13 hkb k140 hlv hcc gc144_v hsg44 gc156_lx gc156_pe gc156_ad; omega))
          refine g_aload_n dX12_isMoreOf_123 rfl ?_
          refine m_g42 rfl dX12_isMoreOf_124 ?_
          refine g_aload_n dX12_isMoreOf_127 rfl ?_
          refine m_g43 (z := ((H2_0 0 43) - 1)) rfl dX12_isMoreOf_128 ((hFc156.1 43 rfl).trans ((up_o (by decide)).trans up_same)) ?_
          refine g_iload dX12_isMoreOf_131 rfl ?_
          refine g_iconst dX12_isMoreOf_133 ?_
          refine g_iadd dX12_isMoreOf_134 ?_
          refine m_s27 dX12_isMoreOf_135 ⟨by have q0 := b0_43 hB2_0; (clear p_lx p_go i2_0_0 i2_1_0 i2_3_0 k13 hkb k140 hlv hcc gc144_v hsg44 gc156_lx gc156_pe gc156_ad gc156_n; omega), by have q0 := b0_43 hB2_0; (clear p_lx p_go i2_0_0 i2_1_0 i2_3_0 k13 hkb k140 hlv hcc gc144_v hsg44 gc156_lx gc156_pe gc156_ad gc156_n; omega)⟩ ?_
          have hB161 := ba_27 (z := ((P 27 ((H2_0 0 43) - 1)) + 1)) (k := ((H2_0 0 43) - 1)) hBc156 ⟨by have q0 := bl_27 (k := ((H2_0 0 43) - 1)) hB; (clear p_lx p_go i2_0_0 i2_1_0 i2_3_0 k13 hkb k140 hlv hcc gc144_v hsg44 gc156_lx gc156_pe gc156_ad gc156_n; omega), by have q0 := bl_27 (k := ((H2_0 0 43) - 1)) hB; (clear p_lx p_go i2_0_0 i2_1_0 i2_3_0 k13 hkb k140 hlv hcc gc144_v hsg44 gc156_lx gc156_pe gc156_ad gc156_n; omega)⟩
          refine g_aload_n dX12_isMoreOf_136 rfl ?_
          refine g_aload_n dX12_isMoreOf_137 rfl ?_
          refine m_g20 rfl dX12_isMoreOf_138 ?_
          refine g_iconst dX12_isMoreOf_141 ?_
          refine g_iload_n dX12_isMoreOf_142 rfl ?_
          refine g_imul dX12_isMoreOf_143 ?_
          refine g_iload dX12_isMoreOf_144 rfl ?_
          refine g_iadd dX12_isMoreOf_146 ?_
          refine g_iconst dX12_isMoreOf_147 ?_
          refine g_iadd dX12_isMoreOf_148 ?_
          refine m_l8 (z := (P 8 (((2 * ((24 * (P 0 13)) + (P 26 ((H2_0 0 43) - 1)))) + (P 27 ((H2_0 0 43) - 1))) + 1))) dX12_isMoreOf_149 ⟨by have q0 := b0_13 hB; have q1 := bl_26 (k := ((H2_0 0 43) - 1)) hB; have q2 := bl_27 (k := ((H2_0 0 43) - 1)) hB; (clear p_lx p_go i2_0_0 i2_1_0 i2_3_0 k13 hkb k140 hlv hcc gc144_v hsg44 gc156_lx gc156_pe gc156_ad gc156_n; omega), by have q0 := b0_13 hB; have q1 := bl_26 (k := ((H2_0 0 43) - 1)) hB; have q2 := bl_27 (k := ((H2_0 0 43) - 1)) hB; (clear p_lx p_go i2_0_0 i2_1_0 i2_3_0 k13 hkb k140 hlv hcc gc144_v hsg44 gc156_lx gc156_pe gc156_ad gc156_n; omega)⟩ ((up_o (by decide)).trans ((congrFun (hFc156.2 8 rfl rfl) _).trans ((up_o (by decide)).trans ((up_o (by decide)).trans ((congrFun (hE2_0.2 8 rfl rfl) _).trans rfl))))) ?_
          have hf1 : FrM ([3, 4, 5, 6, 7, 8, 9, 12], [25, 26, 27]) _ (up Pc156 27 ((H2_0 0 43) - 1) ((P 27 ((H2_0 0 43) - 1)) + 1)) := FrM.a FrM.rf rfl rfl
          have h26d : (up Pc156 27 ((H2_0 0 43) - 1) ((P 27 ((H2_0 0 43) - 1)) + 1)) 26 (z - 1) = P 26 (z - 1) := ((up_o (by decide)).trans ((congrFun (hFc156.2 26 rfl rfl) _).trans ((up_o (by decide)).trans ((up_o (by decide)).trans ((congrFun (hE2_0.2 26 rfl rfl) _).trans rfl)))))
          have h27d : (up Pc156 27 ((H2_0 0 43) - 1) ((P 27 ((H2_0 0 43) - 1)) + 1)) 27 (z - 1) = (P 27 ((H2_0 0 43) - 1)) + 1 := by rw [show z - 1 = ((H2_0 0 43) - 1) by (clear p_lx p_go i2_0_0 i2_1_0 i2_3_0 k13 hkb k140 hlv hcc gc144_v hsg44 gc156_lx gc156_pe gc156_ad gc156_n; omega)]; exact up_same
          have o26d : ∀ j : Int, j ≠ z - 1 → (up Pc156 27 ((H2_0 0 43) - 1) ((P 27 ((H2_0 0 43) - 1)) + 1)) 26 j = _ := fun j _ => ((up_o (by decide)).trans rfl)
          have o27d : ∀ j : Int, j ≠ z - 1 → (up Pc156 27 ((H2_0 0 43) - 1) ((P 27 ((H2_0 0 43) - 1)) + 1)) 27 j = _ := fun j hj9 => (by have hj : j ≠ ((H2_0 0 43) - 1) := (by (clear p_lx p_go i2_0_0 i2_1_0 i2_3_0 k13 hkb k140 hlv hcc gc144_v hsg44 gc156_lx gc156_pe gc156_ad gc156_n; omega)); exact ((up_k hj).trans rfl))
          have q6d := bl_6 (k := 24 * P 0 13 + P 26 (z - 1)) hB
          have q27d := bl_27 (k := z - 1) hB
          have hy9 : K4 (P 8 (((2 * ((24 * (P 0 13)) + (P 26 ((H2_0 0 43) - 1)))) + (P 27 ((H2_0 0 43) - 1))) + 1)) (K 8 c9) := by have e : ∀ j : Int, j = 2 * (24 * P 0 13 + c9) + 1 → K4 (P 8 j) (K 8 c9) := fun j hj => (by rw [hj]; exact hcc.2.2.2.2.1 (by (clear p_lx p_go i2_0_0 i2_1_0 i2_3_0 k13 hkb k140 hlv hcc gc144_v hsg44 gc156_lx gc156_pe gc156_ad gc156_n; omega))); exact e _ (by (clear p_lx p_go i2_0_0 i2_1_0 i2_3_0 k13 hkb k140 hlv hcc gc144_v hsg44 gc156_lx gc156_pe gc156_ad gc156_n; omega))
          have h25d : (up Pc156 27 ((H2_0 0 43) - 1) ((P 27 ((H2_0 0 43) - 1)) + 1)) 25 (z - 1) = a9 * sz K (fK K c9 f9) + x2_2_0 := by rw [show z - 1 = ((H2_0 0 43) - 1) by (clear p_lx p_go i2_0_0 i2_1_0 i2_3_0 k13 hkb k140 hlv hcc gc144_v hsg44 gc156_lx gc156_pe gc156_ad gc156_n; omega)]; exact Eq.trans ((up_o (by decide)).trans ((congrFun (hFc156.2 25 rfl rfl) _).trans up_same)) (by (clear p_lx p_go i2_0_0 i2_1_0 i2_3_0 k13 hkb k140 hlv hcc gc144_v hsg44 gc156_lx gc156_pe gc156_ad gc156_n; omega))
          have o25d : ∀ j : Int, j ≠ z - 1 → (up Pc156 27 ((H2_0 0 43) - 1) ((P 27 ((H2_0 0 43) - 1)) + 1)) 25 j = Z9 25 j := fun j hj9 => by rw [← hZ9]; have hj : j ≠ ((H2_0 0 43) - 1) := (by (clear p_lx p_go i2_0_0 i2_1_0 i2_3_0 k13 hkb k140 hlv hcc gc144_v hsg44 gc156_lx gc156_pe gc156_ad gc156_n; omega)); exact ((up_o (by decide)).trans ((congrFun (hFc156.2 25 rfl rfl) _).trans ((up_k hj).trans ((up_o (by decide)).trans rfl))))
          have f162 := bl_8 (k := (((2 * ((24 * (P 0 13)) + (P 26 ((H2_0 0 43) - 1)))) + (P 27 ((H2_0 0 43) - 1))) + 1)) hB
          refine g_vV (av := [vI (P 8 (((2 * ((24 * (P 0 13)) + (P 26 ((H2_0 0 43) - 1)))) + (P 27 ((H2_0 0 43) - 1))) + 1))]) (o := 0) (st := []) (m_X12_opensPattern G (up Pc156 27 ((H2_0 0 43) - 1) ((P 27 ((H2_0 0 43) - 1)) + 1)) (P 8 (((2 * ((24 * (P 0 13)) + (P 26 ((H2_0 0 43) - 1)))) + (P 27 ((H2_0 0 43) - 1))) + 1)) ⟨by have q0 := bl_8 (k := (((2 * ((24 * (P 0 13)) + (P 26 ((H2_0 0 43) - 1)))) + (P 27 ((H2_0 0 43) - 1))) + 1)) hB; (clear p_lx p_go i2_0_0 i2_1_0 i2_3_0 k13 hkb k140 hlv hcc gc144_v hsg44 gc156_lx gc156_pe gc156_ad gc156_n; omega), by have q0 := bl_8 (k := (((2 * ((24 * (P 0 13)) + (P 26 ((H2_0 0 43) - 1)))) + (P 27 ((H2_0 0 43) - 1))) + 1)) hB; (clear p_lx p_go i2_0_0 i2_1_0 i2_3_0 k13 hkb k140 hlv hcc gc144_v hsg44 gc156_lx gc156_pe gc156_ad gc156_n; omega)⟩ hB161 (by have q0 := bl_8 (k := (((2 * ((24 * (P 0 13)) + (P 26 ((H2_0 0 43) - 1)))) + (P 27 ((H2_0 0 43) - 1))) + 1)) hB; have q1 := (((up_o (by decide)).trans ((hFc156.1 43 rfl).trans ((up_o (by decide)).trans up_same))) : (up Pc156 27 ((H2_0 0 43) - 1) ((P 27 ((H2_0 0 43) - 1)) + 1)) 0 43 = ((H2_0 0 43) - 1)); have q2 := b0_43 hB2_0; (clear p_lx p_go i2_0_0 i2_1_0 i2_3_0 k13 hkb k140 hlv hcc gc144_v hsg44 gc156_lx gc156_pe gc156_ad gc156_n; omega)) _ (fun Pc163 hBc163 hFc163 gc163_o gc163_k gc163_z gc163_kq gc163_zq => ⟨rfl, ?_⟩)) cf_X12_opensPattern t_1780 rfl (by decide) rfl rfl rfl (Nat.le_of_ble_eq_true rfl) (by decide) rfl dX12_isMoreOf_150
          have z164 : (up Pc156 27 ((H2_0 0 43) - 1) ((P 27 ((H2_0 0 43) - 1)) + 1)) 0 43 = ((H2_0 0 43) - 1) := ((up_o (by decide)).trans ((hFc156.1 43 rfl).trans ((up_o (by decide)).trans up_same)))
          have e43p := (((up_o (by decide)).trans ((hFc156.1 43 rfl).trans ((up_o (by decide)).trans up_same))) : (up Pc156 27 ((H2_0 0 43) - 1) ((P 27 ((H2_0 0 43) - 1)) + 1)) 0 43 = ((H2_0 0 43) - 1))
          rw [e43p, ← hz] at gc163_o gc163_k gc163_kq
          have hsrN := hsr3.push (z := z - 1) (b := P 0 13) (con := P 26 (z - 1)) (fld := (P 27 ((H2_0 0 43) - 1)) + 1) hcf3 (by (clear p_lx p_go i2_0_0 i2_1_0 i2_3_0 k13 hkb k140 hlv hcc gc144_v hsg44 gc156_lx gc156_pe gc156_ad gc156_n; omega)) h13c hf1 o26d h26d o27d h27d ⟨by (clear p_lx p_go i2_0_0 i2_1_0 i2_3_0 k13 hkb k140 hlv hcc gc144_v hsg44 gc156_lx gc156_pe gc156_ad gc156_n; omega), by rw [r7c, ← h26v]; (clear p_lx p_go i2_0_0 i2_1_0 i2_3_0 k13 hkb k140 hlv hcc gc144_v hsg44 gc156_lx gc156_pe gc156_ad gc156_n; omega)⟩ (by rw [r6c]; (clear p_lx p_go i2_0_0 i2_1_0 i2_3_0 k13 hkb k140 hcc gc144_v hsg44 gc156_lx gc156_pe gc156_ad gc156_n; omega)) (by rw [r6c]; (clear p_lx p_go i2_0_0 i2_1_0 i2_3_0 k13 hkb k140 hlv hcc gc144_v hsg44 gc156_lx gc156_pe gc156_ad gc156_n; omega)) (Eq.trans (congrArg (P 8) (by rw [← h26v]; (clear p_lx p_go i2_0_0 i2_1_0 i2_3_0 k13 hkb k140 hlv hcc gc144_v hsg44 gc156_lx gc156_pe gc156_ad gc156_n; omega))) (r8c _).symm) hFc163 gc163_o gc163_k gc163_kq
          rw [e43p, ← hz] at gc163_z gc163_zq
          have hstv9 : STV ((c9, f9 + 1, a9 * sz K (fK K c9 f9) + x2_2_0) :: s19) (K 8 c9) Pc163 := STV.next (z := z - 1) hWZ (by (clear p_lx p_go i2_0_0 i2_1_0 i2_3_0 k13 hkb k140 hlv hcc gc144_v hsg44 gc156_lx gc156_pe gc156_ad gc156_n; omega)) hy9 gc163_o (by have q := gc163_k; rw [hz] at q ⊢; exact q) (fun j => by rw [← hZ9]; exact Eq.trans ((congrFun (hFc163.2 26 rfl rfl) _).trans ((up_o (by decide)).trans ((congrFun (hFc156.2 26 rfl rfl) _).trans ((up_o (by decide)).trans ((up_o (by decide)).trans ((congrFun (hE2_0.2 26 rfl rfl) _).trans rfl)))))) (r26a j).symm) (by rw [show z - 1 = ((H2_0 0 43) - 1) by (clear p_lx p_go i2_0_0 i2_1_0 i2_3_0 k13 hkb k140 hlv hcc gc144_v hsg44 gc156_lx gc156_pe gc156_ad gc156_n; omega)]; exact Eq.trans ((congrFun (hFc163.2 27 rfl rfl) _).trans up_same) (by (clear p_lx p_go i2_0_0 i2_1_0 i2_3_0 k13 hkb k140 hlv hcc gc144_v hsg44 gc156_lx gc156_pe gc156_ad gc156_n; omega))) (fun j hj9 => by rw [← hZ9]; have hj : j ≠ ((H2_0 0 43) - 1) := (by (clear p_lx p_go i2_0_0 i2_1_0 i2_3_0 k13 hkb k140 hlv hcc gc144_v hsg44 gc156_lx gc156_pe gc156_ad gc156_n; omega)); exact ((congrFun (hFc163.2 27 rfl rfl) _).trans ((up_k hj).trans ((congrFun (hFc156.2 27 rfl rfl) _).trans ((up_o (by decide)).trans ((up_o (by decide)).trans rfl)))))) ((gc163_zq (z - 1) (by (clear p_lx p_go i2_0_0 i2_1_0 i2_3_0 k13 hkb k140 hlv hcc gc144_v hsg44 gc156_lx gc156_pe gc156_ad gc156_n; omega))).trans h25d) (fun j hj1 hj2 => (gc163_zq j (by (clear p_lx p_go i2_0_0 i2_1_0 i2_3_0 k13 hkb k140 hlv hcc gc144_v hsg44 gc156_lx gc156_pe gc156_ad gc156_n; omega))).trans (o25d j hj1))
          have iv165 : SR Pc163 := hsrN
          refine g_iconst dX12_isMoreOf_153 ?_
          exact g_retZ dX12_isMoreOf_154 rfl (by decide) (hQ 1 (by decide) _ hBc163 (FrM.c (FrM.a (FrM.c (FrM.a (FrM.s (FrM.c FrM.rf hE2_0 rfl) rfl) rfl rfl) hFc156 rfl) rfl rfl) hFc163 rfl) (by have q0 := (((hFc163.1 3 rfl).trans ((up_o (by decide)).trans rfl)) : Pc163 0 3 = (Pc156 0 3)); have q1 := b0_3 hBc156; have q2 := (((hFc163.1 4 rfl).trans ((up_o (by decide)).trans rfl)) : Pc163 0 4 = (Pc156 0 4)); have q3 := b0_4 hBc156; have q4 := (((hFc163.1 5 rfl).trans ((up_o (by decide)).trans rfl)) : Pc163 0 5 = (Pc156 0 5)); have q5 := b0_5 hBc156; (clear p_lx p_go i2_0_0 i2_1_0 i2_3_0 k13 hkb k140 hlv hcc gc144_v hsg44 gc156_pe gc156_ad gc156_n; omega)) (by have q0 := (((hFc163.1 4 rfl).trans ((up_o (by decide)).trans rfl)) : Pc163 0 4 = (Pc156 0 4)); have q1 := b0_4 hBc156; (clear p_lx p_go i2_0_0 i2_1_0 i2_3_0 k13 hkb k140 hlv hcc gc144_v hsg44 gc156_lx gc156_pe gc156_ad gc156_n; omega)) (by have q0 := (((hFc163.1 8 rfl).trans ((up_o (by decide)).trans rfl)) : Pc163 0 8 = (Pc156 0 8)); have q1 := b0_8 hBc156; (clear p_lx p_go i2_0_0 i2_1_0 i2_3_0 k13 hkb k140 hlv hcc gc144_v hsg44 gc156_lx gc156_pe gc156_ad gc156_n; omega)) (by first | exact Or.inl ⟨rfl, iv165⟩ | exact Or.inr rfl) (Or.inr ⟨hp8, (show (sgn T 44 q9).1 ≠ 0 ∨ (sgn T 44 q9).1 = 0 by (clear p_lx p_go i2_0_0 i2_1_0 i2_3_0 k13 hkb k140 hlv hcc gc144_v hsg44 gc156_lx gc156_pe gc156_ad gc156_n; omega)).elim (fun hn => VN.commaF hR9 hfl hn (by have q8 := (((hFc163.1 8 rfl).trans ((up_o (by decide)).trans rfl)) : Pc163 0 8 = (Pc156 0 8)); (clear p_lx p_go i2_0_0 i2_1_0 i2_3_0 k13 hkb k140 hlv hcc gc144_v hsg44 gc156_lx gc156_pe gc156_ad; omega)) (by have q := b0_8 hBc163; (clear p_lx p_go i2_0_0 i2_1_0 i2_3_0 k13 hkb k140 hlv hcc gc144_v hsg44 gc156_lx gc156_pe gc156_ad gc156_n; omega)) (by have q9z := (((hFc163.1 9 rfl).trans ((up_o (by decide)).trans rfl)) : Pc163 0 9 = (Pc156 0 9)); (clear p_lx p_go i2_0_0 i2_1_0 i2_3_0 k13 hkb k140 hlv hcc gc144_v hsg44 gc156_lx gc156_pe gc156_ad; omega))) (fun hn => VN.comma hR9 hT9 (by (clear p_lx p_go i2_0_0 i2_1_0 i2_3_0 k13 hkb k140 hlv hcc gc144_v hsg44 gc156_lx gc156_pe gc156_ad gc156_n; omega)) hv9 hfl hn (by have q8 := (((hFc163.1 8 rfl).trans ((up_o (by decide)).trans rfl)) : Pc163 0 8 = (Pc156 0 8)); (clear p_lx p_go i2_0_0 i2_1_0 i2_3_0 k13 hkb k140 hlv hcc gc144_v hsg44 gc156_lx gc156_pe gc156_ad; omega)) ((fun h0 => (MS.fr (F := ([43], [24, 25, 27])) (iv160 h0) (FrM.c (FrM.a FrM.rf rfl rfl) hFc163 rfl) rfl)) hn) hstv9)⟩) (FP.fr (F := ([43], [24, 25, 27])) vc156_FP (FrM.c (FrM.a FrM.rf rfl rfl) hFc163 rfl) rfl))
      · skip
        skip
        skip
        have hs0 : s9 = [] := by
          cases s9 with
          | nil => rfl
          | cons x y => exfalso; rw [List.length_cons] at hsb; have q := (up_same : (up H2_0 0 43 ((H2_0 0 43) - 1)) 0 43 = ((H2_0 0 43) - 1)); (clear p_lx p_go i2_0_0 i2_1_0 i2_3_0 k13 hkb; omega)
        subst hs0
        refine g_aload_n dX12_isMoreOf_26 rfl ?_
        refine m_g40 rfl dX12_isMoreOf_27 ?_
        refine g_iconst dX12_isMoreOf_30 ?_
        refine g_iload_n dX12_isMoreOf_31 rfl ?_
        refine m_s25 dX12_isMoreOf_32 (by decide) ?_
        have hB166 := ba_25 (z := x2_2_0) (k := 0) hB138 ⟨by (clear p_lx p_go i2_0_0 i2_1_0 i2_3_0 k13 hkb k140; omega), by (clear p_lx p_go i2_0_0 i2_1_0 i2_3_0 k13 hkb k140; omega)⟩
        refine g_iconst dX12_isMoreOf_33 ?_
        exact g_retZ dX12_isMoreOf_34 rfl (by decide) (hQ 0 (by decide) _ hB166 (FrM.a (FrM.s (FrM.c FrM.rf hE2_0 rfl) rfl) rfl rfl) (by have q0 := (((up_o (by decide)).trans ((up_k (by decide)).trans rfl)) : (up (up H2_0 0 43 ((H2_0 0 43) - 1)) 25 0 x2_2_0) 0 3 = (H2_0 0 3)); have q1 := b0_3 hB2_0; have q2 := (((up_o (by decide)).trans ((up_k (by decide)).trans rfl)) : (up (up H2_0 0 43 ((H2_0 0 43) - 1)) 25 0 x2_2_0) 0 4 = (H2_0 0 4)); have q3 := b0_4 hB2_0; have q4 := (((up_o (by decide)).trans ((up_k (by decide)).trans rfl)) : (up (up H2_0 0 43 ((H2_0 0 43) - 1)) 25 0 x2_2_0) 0 5 = (H2_0 0 5)); have q5 := b0_5 hB2_0; (clear p_lx p_go i2_0_0 i2_1_0 k13 hkb k140; omega)) (by have q0 := (((up_o (by decide)).trans ((up_k (by decide)).trans rfl)) : (up (up H2_0 0 43 ((H2_0 0 43) - 1)) 25 0 x2_2_0) 0 4 = (H2_0 0 4)); have q1 := b0_4 hB2_0; (clear p_lx p_go i2_0_0 i2_1_0 i2_3_0 k13 hkb k140; omega)) (by have q0 := (((up_o (by decide)).trans ((up_k (by decide)).trans rfl)) : (up (up H2_0 0 43 ((H2_0 0 43) - 1)) 25 0 x2_2_0) 0 8 = (H2_0 0 8)); have q1 := b0_8 hB2_0; (clear p_lx p_go i2_0_0 i2_1_0 i2_3_0 k13 hkb k140; omega)) (by first | exact Or.inl ⟨rfl, hNONE⟩ | exact Or.inr rfl) (Or.inr ⟨hp8, VN.done hR9 hT9 hv9 (by have q8 := (((up_o (by decide)).trans ((up_k (by decide)).trans rfl)) : (up (up H2_0 0 43 ((H2_0 0 43) - 1)) 25 0 x2_2_0) 0 8 = (H2_0 0 8)); (clear p_lx p_go i2_0_0 i2_1_0 i2_3_0 k13 hkb k140; omega)) (MS.fr (F := ([43], [25])) iv136 (FrM.a (FrM.s FrM.rf rfl) rfl rfl) rfl) up_same rfl⟩) (FP.fr (F := ([43], [25])) w2_FP_0 (FrM.a (FrM.s FrM.rf rfl) rfl rfl) rfl))
  refine g_forget (l1 := [(0, vR 0), (2, vI a1)]) (by intro q hq; simp only [List.mem_cons, List.not_mem_nil, or_false] at hq ⊢; rcases hq with rfl | rfl <;> simp) ?_
  exact L2_0 _ a1 ⟨by (clear p_lx p_go; omega), by (clear p_lx p_go; omega)⟩ _ hB FrM.rf (by first | exact hgv9 | exact (show 0 < P 0 8 ∨ P 0 8 ≤ 0 by (clear p_lx p_go; omega)).elim (fun h => Or.inl ⟨h, rfl, rfl⟩) (fun h => Or.inr ⟨h, by obtain ⟨g1, g2, g3, g4, g5⟩ := p_go.resolve_left (by (clear p_lx p_go; omega)); exact VG.start h g1 g2 g3 ⟨g4, g5⟩⟩)) (by have q0 := b0_8 hB; (clear p_lx p_go; omega)) (by have q0 := b0_4 hB; (clear p_lx p_go; omega)) (by have q0 := b0_3 hB; have q1 := b0_4 hB; have q2 := b0_5 hB; (clear p_go; omega)) ivI_SR v_FP (Nat.lt_succ_self _)
/-! What the reference answers: X12_isPlace. -/
set_option maxRecDepth 100000 in
set_option maxHeartbeats 4000000 in
theorem f_X12_isPlace (G : GT) (P : PH) (A : PH) (a1 : Int) (h_a1 : (-2147483648) ≤ a1 ∧ a1 ≤ 2147483647) (hB : BdM P) (p_im : P 0 44 = 1 ∨ A 0 0 ≤ 0) (z0 : AM A P) (Q : Option PV → PH → Prop) (hQ : ∀ (r : Int) (_ : 0 ≤ r ∧ r ≤ 1) (_ : r = 0 ∨ (P 0 44 ≠ 0 ∧ 0 ≤ a1 ∧ a1 < P 35 0)) (_ : (r = 1 ∧ 0 ≤ a1 ∧ a1 < A 0 0) ∨ (r = 0 ∧ (a1 < 0 ∨ A 0 0 ≤ a1))), Q (some (vI r)) P) : Ct WSM G 2 iX12_isPlace [vR 0, vI a1] P Q := by
  refine Ct.of (by decide) (l0 := [(0, vR 0), (1, vI a1)]) rfl (Nat.le_of_ble_eq_true rfl) ?_
  have hb := z0.b
  have q44 := b0_44 hB
  refine g_aload_n dX12_isPlace_0 rfl ?_
  refine m_g44 (z := (P 0 44)) rfl dX12_isPlace_1 rfl ?_
  have f1 := b0_44 hB
  refine g_if_eq (tgt := 27) dX12_isPlace_4 (by decide) ⟨by have q0 := b0_44 hB; (clear p_im hb; omega), by have q0 := b0_44 hB; (clear p_im hb; omega)⟩ (fun k2 => ?_) (fun k2 => ?_)
  · skip
    refine g_iconst dX12_isPlace_27 ?_
    exact g_retZ dX12_isPlace_28 rfl (by decide) (hQ 0 (by decide) (by have q0 := b0_44 hB; have q1 := bl_35 (k := 0) hB; (clear p_im hb k2; omega)) (by (omega)))
  · have k2n : 1 ≤ (P 0 44) := by have q0 := b0_44 hB; (clear p_im hb; omega)
    clear k2
    skip
    refine g_iload_n dX12_isPlace_7 rfl ?_
    refine g_iconst dX12_isPlace_8 ?_
    refine g_aload_n dX12_isPlace_9 rfl ?_
    refine m_g53 rfl dX12_isPlace_10 ?_
    refine g_iconst dX12_isPlace_13 ?_
    refine m_l35 (z := (P 35 0)) dX12_isPlace_14 (by decide) rfl ?_
    refine g_iconst dX12_isPlace_15 ?_
    refine g_isub dX12_isPlace_16 ?_
    have f3 := bl_35 (k := 0) hB
    refine g_sI (av := [vI a1, vI 0, vI ((P 35 0) - 1)]) (st := []) (m_X12_is G P a1 0 ((P 35 0) - 1) ⟨by (clear p_im hb; omega), by (clear p_im hb; omega)⟩ (by decide) ⟨by have q0 := bl_35 (k := 0) hB; (clear p_im hb; omega), by have q0 := bl_35 (k := 0) hB; (clear p_im hb; omega)⟩ hB  _ (fun rc4 hc4 gc4_is => ⟨rc4, rfl, ?_⟩)) cf_X12_is t_1800 rfl (Nat.le_of_ble_eq_true rfl) (by decide) rfl dX12_isPlace_17
    refine g_if_eq (tgt := 27) dX12_isPlace_20 (by decide) ⟨by (clear p_im hb gc4_is; omega), by (clear p_im hb gc4_is; omega)⟩ (fun k5 => ?_) (fun k5 => ?_)
    · skip
      skip
      refine g_iconst dX12_isPlace_27 ?_
      exact g_retZ dX12_isPlace_28 rfl (by decide) (hQ 0 (by decide) (by have q0 := b0_44 hB; have q1 := bl_35 (k := 0) hB; (clear p_im hb gc4_is k5; omega)) (by (omega)))
    · have k5n : 1 ≤ rc4 := by (clear p_im hb gc4_is; omega)
      clear k5
      have r_gc4_is := (gc4_is.resolve_right (by (clear p_im hb gc4_is; omega)))
      skip
      refine g_iconst dX12_isPlace_23 ?_
      refine g_goto (tgt := 28) dX12_isPlace_24 (by decide) ?_
      exact g_retZ dX12_isPlace_28 rfl (by decide) (hQ 1 (by decide) (by have q0 := b0_44 hB; have q1 := bl_35 (k := 0) hB; (clear p_im hb gc4_is; omega)) (by (clear p_im gc4_is; omega)))
/-! What the reference answers: X12_isRow. -/
set_option maxRecDepth 100000 in
set_option maxHeartbeats 4000000 in
theorem f_X12_isRow (G : GT) (P : PH) (M : PH) (a1 : Int) (h_a1 : (-2147483648) ≤ a1 ∧ a1 ≤ 2147483647) (hB : BdM P) (z0 : MH M P) (z1 : MR M P) (Q : Option PV → PH → Prop) (hQ : ∀ (r : Int) (_ : 0 ≤ r ∧ r ≤ 1) (_ : r = 0 ∨ (P 0 44 ≠ 0 ∧ 0 ≤ a1 ∧ a1 < P 0 52)) (_ : (r = 1 ∧ 0 < M 0 0 ∧ 0 ≤ a1 ∧ a1 < M 0 1) ∨ (r = 0 ∧ (M 0 0 ≤ 0 ∨ a1 < 0 ∨ M 0 1 ≤ a1))), Q (some (vI r)) P) : Ct WSM G 2 iX12_isRow [vR 0, vI a1] P Q := by
  refine Ct.of (by decide) (l0 := [(0, vR 0), (1, vI a1)]) rfl (Nat.le_of_ble_eq_true rfl) ?_
  have hmh := z0
  unfold MH at hmh
  have hmr := z1
  unfold MR at hmr
  have q44 := b0_44 hB
  have q52 := b0_52 hB
  refine g_aload_n dX12_isRow_0 rfl ?_
  refine m_g44 (z := (P 0 44)) rfl dX12_isRow_1 rfl ?_
  have f1 := b0_44 hB
  refine g_if_eq (tgt := 25) dX12_isRow_4 (by decide) ⟨by have q0 := b0_44 hB; (clear hmh hmr; omega), by have q0 := b0_44 hB; (clear hmh hmr; omega)⟩ (fun k2 => ?_) (fun k2 => ?_)
  · refine g_iconst dX12_isRow_25 ?_
    exact g_retZ dX12_isRow_26 rfl (by decide) (hQ 0 (by decide) (by have q0 := b0_44 hB; have q1 := b0_52 hB; (clear hmh hmr k2; omega)) (by (omega)))
  · have k2n : 1 ≤ (P 0 44) := by have q0 := b0_44 hB; (clear hmh hmr; omega)
    clear k2
    refine g_iload_n dX12_isRow_7 rfl ?_
    refine g_iconst dX12_isRow_8 ?_
    refine g_aload_n dX12_isRow_9 rfl ?_
    refine m_g52 (z := (P 0 52)) rfl dX12_isRow_10 rfl ?_
    refine g_iconst dX12_isRow_13 ?_
    refine g_isub dX12_isRow_14 ?_
    have f3 := b0_52 hB
    refine g_sI (av := [vI a1, vI 0, vI ((P 0 52) - 1)]) (st := []) (m_X12_is G P a1 0 ((P 0 52) - 1) ⟨by (clear hmh hmr; omega), by (clear hmh hmr; omega)⟩ (by decide) ⟨by have q0 := b0_52 hB; (clear hmh hmr; omega), by have q0 := b0_52 hB; (clear hmh hmr; omega)⟩ hB  _ (fun rc4 hc4 gc4_is => ⟨rc4, rfl, ?_⟩)) cf_X12_is t_1800 rfl (Nat.le_of_ble_eq_true rfl) (by decide) rfl dX12_isRow_15
    refine g_if_eq (tgt := 25) dX12_isRow_18 (by decide) ⟨by (clear hmh hmr gc4_is; omega), by (clear hmh hmr gc4_is; omega)⟩ (fun k5 => ?_) (fun k5 => ?_)
    · skip
      refine g_iconst dX12_isRow_25 ?_
      exact g_retZ dX12_isRow_26 rfl (by decide) (hQ 0 (by decide) (by have q0 := b0_44 hB; have q1 := b0_52 hB; (clear hmh hmr gc4_is k5; omega)) (by (omega)))
    · have k5n : 1 ≤ rc4 := by (clear hmh hmr gc4_is; omega)
      clear k5
      have r_gc4_is := (gc4_is.resolve_right (by (clear hmh hmr gc4_is; omega)))
      refine g_iconst dX12_isRow_21 ?_
      refine g_goto (tgt := 26) dX12_isRow_22 (by decide) ?_
      exact g_retZ dX12_isRow_26 rfl (by decide) (hQ 1 (by decide) (by have q0 := b0_44 hB; have q1 := b0_52 hB; (clear hmh hmr gc4_is; omega)) (by (omega)))
/-! What the reference answers: X12_lays. -/
set_option maxRecDepth 100000 in
set_option maxHeartbeats 4000000 in
theorem f_X12_lays (G : GT) (P : PH) (K : PH) (M : PH) (F : FT) (hB : BdM P) (p_pr : prdU P (P 0 13) (P 11 (P 0 13)).toNat ≤ 20000) (p_aw : AW K) (p_av : AV K M) (v_ZT : ZT P) (v_ZS : ZS P) (v_ZC : ZC P) (v_okC : okC P) (z0 : MKB K P) (z1 : MMB M P) (z2 : MCB K M F P) (Q : Option PV → PH → Prop) (hQ : ∀ (P1 : PH) (_ : BdM P1) (_ : FrM ([52], [29, 30, 31, 32, 33, 34]) P P1) (_ : 1 ≤ P1 0 52) (_ : P1 0 52 = prdU P (P 0 13) (P 11 (P 0 13)).toNat) (_ : LYT K M F P1), Q none P1) : Ct WSM G 4 iX12_lays [vR 0] P Q := by
  refine Ct.of (by decide) (l0 := [(0, vR 0)]) rfl (Nat.le_of_ble_eq_true rfl) ?_
  have hmb := z1.b
  have hav := p_av
  have hszc : ∀ d : Int, 0 ≤ d → d < M 0 0 → 0 ≤ sz K (M 1 d) ∧ sz K (M 1 d) ≤ 2006 := fun d d0 d1 => sz_le p_aw (by have q := p_av.2.2.2.2 d d0 d1; exact ⟨by (clear hmb; omega), by (clear hmb; omega)⟩)
  have q11 := bl_11 (k := P 0 13) hB
  refine g_aload_n dX12_lays_0 rfl ?_
  refine g_iconst dX12_lays_1 ?_
  refine m_p52 rfl dX12_lays_2 ?_
  have hB1 := bs_52 (z := 1) hB (by decide)
  refine g_iconst dX12_lays_5 ?_
  refine g_istore_n (l1 := [(1, vI 0), (0, vR 0)]) dX12_lays_6 (by decide) rfl ?_
  have L7_1 : ∀ (n7_1 : Nat) (x7_1_1 : Int) (h_x7_1_1 : 0 ≤ x7_1_1 ∧ x7_1_1 ≤ 4) (H7_1 : PH) (hB7_1 : BdM H7_1) (hE7_1 : FrM ([52], [29, 30, 31, 32, 33, 34]) (up P 0 52 1) H7_1) (i7_0_1 : H7_1 0 52 = prdU P (P 0 13) (x7_1_1).toNat) (i7_1_1 : 1 ≤ H7_1 0 52) (i7_2_1 : LYs K M F x7_1_1 H7_1) (i7_3_1 : x7_1_1 ≤ P 11 (P 0 13)) (hm7_1 : ((5 - x7_1_1) : Int).toNat < n7_1), Go WSM G 4 iX12_lays 7 [(0, vR 0), (1, vI x7_1_1)] [] H7_1 Q := by
    intro n7_1
    induction n7_1 with
    | zero => intro x7_1_1 h_x7_1_1 H7_1 hB7_1 hE7_1 i7_0_1 i7_1_1 i7_2_1 i7_3_1 hm7_1; exact absurd hm7_1 (Nat.not_lt_zero _)
    | succ n7_1 ih7_1 =>
    intro x7_1_1 h_x7_1_1 H7_1 hB7_1 hE7_1 i7_0_1 i7_1_1 i7_2_1 i7_3_1 hm7_1
    refine g_iload_n dX12_lays_7 rfl ?_
    refine g_aload_n dX12_lays_8 rfl ?_
    refine g_vI (av := []) (o := 0) (st := [vI x7_1_1]) (m_X12_columns G H7_1  hB7_1  _ (fun rc6775 hc6775 gc6775_c => ⟨rc6775, rfl, ?_⟩)) cf_X12_columns t_1827 rfl (by decide) rfl rfl rfl (Nat.le_of_ble_eq_true rfl) (by decide) rfl dX12_lays_9
    have z6776 : H7_1 0 13 = (P 0 13) := ((hE7_1.1 13 rfl).trans ((up_k (by decide)).trans rfl))
    have hcl : rc6775 = P 11 (P 0 13) := by have q := gc6775_c; rw [show H7_1 0 13 = _ from ((hE7_1.1 13 rfl).trans ((up_k (by decide)).trans rfl)), show H7_1 11 (P 0 13) = _ from ((congrFun (hE7_1.2 11 rfl rfl) _).trans ((up_o (by decide)).trans rfl))] at q; exact q
    refine g_icmp_ge (tgt := 196) dX12_lays_12 (by decide) ⟨by (clear hmb; omega), by (clear hmb; omega)⟩ ⟨by (clear hmb; omega), by (clear hmb; omega)⟩ (fun k6777 => ?_) (fun k6777 => ?_)
    · exact g_retV dX12_lays_196 rfl (hQ _ hB7_1 (FrM.c (FrM.s FrM.rf rfl) hE7_1 rfl) (by have q0 := b0_52 hB7_1; (clear hmb k6777; omega)) (by have q := i7_0_1; rw [show P 11 (P 0 13) = x7_1_1 by (clear hmb; omega)]; exact q) (by have q := i7_2_1; rw [show x7_1_1 = M 0 0 by (omega)] at q; exact q))
    · have iv6778 : LYs K M F x7_1_1 H7_1 := i7_2_1
      refine g_iconst dX12_lays_15 ?_
      refine g_istore_n (l1 := [(2, vI 0), (0, vR 0), (1, vI x7_1_1)]) dX12_lays_16 (by decide) rfl ?_
      have L17_6778 : ∀ (n17_6778 : Nat) (x17_2_6778 : Int) (h_x17_2_6778 : 0 ≤ x17_2_6778 ∧ x17_2_6778 ≤ 4096) (H17_6778 : PH) (hB17_6778 : BdM H17_6778) (hE17_6778 : FrM ([], [34]) H7_1 H17_6778) (i17_0_6778 : ∀ s : Int, 0 ≤ s → s < x17_2_6778 → H17_6778 34 s = -1) (hm17_6778 : ((4097 - x17_2_6778) : Int).toNat < n17_6778), Go WSM G 4 iX12_lays 17 [(0, vR 0), (1, vI x7_1_1), (2, vI x17_2_6778)] [] H17_6778 Q := by
        intro n17_6778
        induction n17_6778 with
        | zero => intro x17_2_6778 h_x17_2_6778 H17_6778 hB17_6778 hE17_6778 i17_0_6778 hm17_6778; exact absurd hm17_6778 (Nat.not_lt_zero _)
        | succ n17_6778 ih17_6778 =>
        intro x17_2_6778 h_x17_2_6778 H17_6778 hB17_6778 hE17_6778 i17_0_6778 hm17_6778
        refine g_iload_n dX12_lays_17 rfl ?_
        refine g_sipush dX12_lays_18 (by decide) ?_
        refine g_icmp_ge (tgt := 37) dX12_lays_21 (by decide) ⟨by (clear hmb k6777; omega), by (clear hmb k6777; omega)⟩ (by decide) (fun k8056 => ?_) (fun k8056 => ?_)
        · have hsn8 := i17_0_6778
          have hlys8 := (LYs.fr iv6778 (show FrM ([], [34]) _ _ from (FrM.c FrM.rf hE17_6778 rfl)) rfl)
          refine g_aload_n dX12_lays_37 rfl ?_
          refine m_g50 rfl dX12_lays_38 ?_
          refine g_iload_n dX12_lays_41 rfl ?_
          refine g_iconst dX12_lays_42 ?_
          refine m_s33 dX12_lays_43 ⟨by (clear hmb k6777; omega), by (omega)⟩ ?_
          have hB8057 := ba_33 (z := 0) (k := x7_1_1) hB17_6778 (by decide)
          have iv8058 : LYs K M F x7_1_1 (up H17_6778 33 x7_1_1 0) := hlys8.other (P1 := (up H17_6778 33 x7_1_1 0)) (by (clear hmb k6777; omega)) (fun d d0 d1 => (hszc d d0 (by (clear k6777; omega))).2) (fun j hj9 => by first | exact ((up_o (by decide)).trans rfl) | (have hj : j ≠ 0 := (by (first | (clear hmb k6777; omega) | (clear hmb; omega) | (clear k6777; omega) | omega)); exact ((up_o (by decide)).trans rfl))) (fun j hj9 => by first | exact ((up_o (by decide)).trans rfl) | (have hj : j ≠ 0 := (by (first | (clear hmb k6777; omega) | (clear hmb; omega) | (clear k6777; omega) | omega)); exact ((up_o (by decide)).trans rfl))) (fun j hj9 => by first | exact ((up_k hj).trans rfl) | (have hj : j ≠ x7_1_1 := (by (clear hmb k6777; omega)); exact ((up_k hj).trans rfl)))
          have iv8059 : LYc K M F x7_1_1 0 (up H17_6778 33 x7_1_1 0) := LYc.start up_same
          have iv8060 : SNx (dsl (mkf K M F x7_1_1) 0) (up H17_6778 33 x7_1_1 0) := SNx.start (fun s s0 s1 => Eq.trans ((up_o (by decide)).trans rfl) (hsn8 s s0 (by (clear hmb k6777; omega))))
          refine g_iconst dX12_lays_44 ?_
          refine g_istore_n (l1 := [(2, vI 0), (0, vR 0), (1, vI x7_1_1)]) dX12_lays_45 (by decide) rfl ?_
          have L46_8060 : ∀ (n46_8060 : Nat) (x46_2_8060 : Int) (h_x46_2_8060 : 0 ≤ x46_2_8060 ∧ x46_2_8060 ≤ 2006) (H46_8060 : PH) (hB46_8060 : BdM H46_8060) (hE46_8060 : FrM ([], [29, 30, 31, 32, 33, 34]) (up H17_6778 33 x7_1_1 0) H46_8060) (i46_0_8060 : H46_8060 33 x7_1_1 ≤ x46_2_8060) (i46_1_8060 : LYs K M F x7_1_1 H46_8060 ∧ LYc K M F x7_1_1 x46_2_8060 H46_8060 ∧ SNx (dsl (mkf K M F x7_1_1) (x46_2_8060).toNat) H46_8060) (i46_2_8060 : x46_2_8060 ≤ sz K (M 1 x7_1_1)) (hm46_8060 : ((2007 - x46_2_8060) : Int).toNat < n46_8060), Go WSM G 4 iX12_lays 46 [(0, vR 0), (1, vI x7_1_1), (2, vI x46_2_8060)] [] H46_8060 Q := by
            intro n46_8060
            induction n46_8060 with
            | zero => intro x46_2_8060 h_x46_2_8060 H46_8060 hB46_8060 hE46_8060 i46_0_8060 i46_1_8060 i46_2_8060 hm46_8060; exact absurd hm46_8060 (Nat.not_lt_zero _)
            | succ n46_8060 ih46_8060 =>
            intro x46_2_8060 h_x46_2_8060 H46_8060 hB46_8060 hE46_8060 i46_0_8060 i46_1_8060 i46_2_8060 hm46_8060
            refine g_iload_n dX12_lays_46 rfl ?_
            refine g_aload_n dX12_lays_47 rfl ?_
            refine g_iload_n dX12_lays_48 rfl ?_
            refine g_vI (av := [vI x7_1_1]) (o := 0) (st := [vI x46_2_8060]) (m_X12_columnValues G H46_8060 x7_1_1 ⟨by (clear hmb k6777; omega), by (omega)⟩ hB46_8060 (by have q0 := (((congrFun (hE46_8060.2 11 rfl rfl) _).trans ((up_o (by decide)).trans ((congrFun (hE17_6778.2 11 rfl rfl) _).trans ((congrFun (hE7_1.2 11 rfl rfl) _).trans ((up_o (by decide)).trans rfl))))) : H46_8060 11 (H46_8060 0 13) = (P 11 (H46_8060 0 13))); have q1 := bl_11 (k := (H46_8060 0 13)) hB; have q2 := ((congrArg (H46_8060 11) ((hE46_8060.1 13 rfl).trans ((up_o (by decide)).trans ((hE17_6778.1 13 rfl).trans ((hE7_1.1 13 rfl).trans ((up_k (by decide)).trans rfl)))))).trans ((congrFun (hE46_8060.2 11 rfl rfl) _).trans ((up_o (by decide)).trans ((congrFun (hE17_6778.2 11 rfl rfl) _).trans ((congrFun (hE7_1.2 11 rfl rfl) _).trans ((up_o (by decide)).trans rfl))))) : H46_8060 11 (H46_8060 0 13) = (P 11 (P 0 13))); have q3 := bl_11 (k := (P 0 13)) hB; (clear hmb; omega)) (okC.fr (F := ([52], [29, 30, 31, 32, 33, 34])) v_okC (FrM.c (FrM.a (FrM.c (FrM.c (FrM.s FrM.rf rfl) hE7_1 rfl) hE17_6778 rfl) rfl rfl) hE46_8060 rfl) rfl) _ (fun rc8385 hc8385 gc8385_v => ⟨rc8385, rfl, ?_⟩)) cf_X12_columnValues t_1831 rfl (by decide) rfl rfl rfl (Nat.le_of_ble_eq_true rfl) (by decide) rfl dX12_lays_49
            have z8386 : H46_8060 0 13 = (P 0 13) := ((hE46_8060.1 13 rfl).trans ((up_o (by decide)).trans ((hE17_6778.1 13 rfl).trans ((hE7_1.1 13 rfl).trans ((up_k (by decide)).trans rfl)))))
            have r12c : ∀ j, H46_8060 12 j = P 12 j := fun j => ((congrFun (hE46_8060.2 12 rfl rfl) _).trans ((up_o (by decide)).trans ((congrFun (hE17_6778.2 12 rfl rfl) _).trans ((congrFun (hE7_1.2 12 rfl rfl) _).trans ((up_o (by decide)).trans rfl)))))
            have r3c : ∀ j, H46_8060 3 j = P 3 j := fun j => ((congrFun (hE46_8060.2 3 rfl rfl) _).trans ((up_o (by decide)).trans ((congrFun (hE17_6778.2 3 rfl rfl) _).trans ((congrFun (hE7_1.2 3 rfl rfl) _).trans ((up_o (by decide)).trans rfl)))))
            have hcs : rc8385 = sz K (M 1 x7_1_1) := by have q := gc8385_v; rw [show H46_8060 0 13 = P 0 13 from ((hE46_8060.1 13 rfl).trans ((up_o (by decide)).trans ((hE17_6778.1 13 rfl).trans ((hE7_1.1 13 rfl).trans ((up_k (by decide)).trans rfl))))), r12c, vals_row (show H46_8060 3 = P 3 from funext r3c)] at q; rw [q]; exact z0.vl (z1.2.2.2.2.1 x7_1_1 (by (clear hmb k6777; omega)) (by (omega))) (by have q2 := p_av.2.2.2.2 x7_1_1 (by (clear hmb k6777; omega)) (by (omega)); (clear hmb k6777; omega))
            refine g_icmp_ge (tgt := 176) dX12_lays_52 (by decide) ⟨by (clear hmb k6777; omega), by (clear hmb k6777; omega)⟩ ⟨by (clear hmb k6777; omega), by (clear hmb k6777; omega)⟩ (fun k8387 => ?_) (fun k8387 => ?_)
            · have iv8388 : LYs K M F (x7_1_1 + 1) H46_8060 := (i46_1_8060).1.next (i46_1_8060).2.1 (by (clear hmb k6777; omega))
              refine g_aload_n dX12_lays_176 rfl ?_
              refine g_dup dX12_lays_177 rfl ?_
              have hpl := prdU_lt v_ZC (b := P 0 13) (c := x7_1_1) (b0_13 hB) ⟨by (clear hmb k6777; omega), by (clear hmb; omega)⟩ p_pr
              refine m_g52 (z := (H7_1 0 52)) rfl dX12_lays_178 ((hE46_8060.1 52 rfl).trans ((up_o (by decide)).trans ((hE17_6778.1 52 rfl).trans rfl))) ?_
              refine g_aload_n dX12_lays_181 rfl ?_
              refine g_iload_n dX12_lays_182 rfl ?_
              refine g_vI (av := [vI x7_1_1]) (o := 0) (st := [vI (H7_1 0 52), vR 0]) (m_X12_columnValues G H46_8060 x7_1_1 ⟨by (clear hmb k6777; omega), by (omega)⟩ hB46_8060 (by have q0 := (((congrFun (hE46_8060.2 11 rfl rfl) _).trans ((up_o (by decide)).trans ((congrFun (hE17_6778.2 11 rfl rfl) _).trans ((congrFun (hE7_1.2 11 rfl rfl) _).trans ((up_o (by decide)).trans rfl))))) : H46_8060 11 (H46_8060 0 13) = (P 11 (H46_8060 0 13))); have q1 := bl_11 (k := (H46_8060 0 13)) hB; have q2 := ((congrArg (H46_8060 11) ((hE46_8060.1 13 rfl).trans ((up_o (by decide)).trans ((hE17_6778.1 13 rfl).trans ((hE7_1.1 13 rfl).trans ((up_k (by decide)).trans rfl)))))).trans ((congrFun (hE46_8060.2 11 rfl rfl) _).trans ((up_o (by decide)).trans ((congrFun (hE17_6778.2 11 rfl rfl) _).trans ((congrFun (hE7_1.2 11 rfl rfl) _).trans ((up_o (by decide)).trans rfl))))) : H46_8060 11 (H46_8060 0 13) = (P 11 (P 0 13))); have q3 := bl_11 (k := (P 0 13)) hB; (clear hmb; omega)) (okC.fr (F := ([52], [29, 30, 31, 32, 33, 34])) v_okC (FrM.c (FrM.a (FrM.c (FrM.c (FrM.s FrM.rf rfl) hE7_1 rfl) hE17_6778 rfl) rfl rfl) hE46_8060 rfl) rfl) _ (fun rc8389 hc8389 gc8389_v => ⟨rc8389, rfl, ?_⟩)) cf_X12_columnValues t_1831 rfl (by decide) rfl rfl rfl (Nat.le_of_ble_eq_true rfl) (by decide) rfl dX12_lays_183
              have z8390 : H46_8060 0 13 = (P 0 13) := ((hE46_8060.1 13 rfl).trans ((up_o (by decide)).trans ((hE17_6778.1 13 rfl).trans ((hE7_1.1 13 rfl).trans ((up_k (by decide)).trans rfl)))))
              have hcv : rc8389 = vals P (P 0 13) (P 12 (4 * P 0 13 + x7_1_1)) := by have q := gc8389_v; rw [show H46_8060 0 13 = _ from ((hE46_8060.1 13 rfl).trans ((up_o (by decide)).trans ((hE17_6778.1 13 rfl).trans ((hE7_1.1 13 rfl).trans ((up_k (by decide)).trans rfl))))), show H46_8060 12 (4 * P 0 13 + x7_1_1) = _ from ((congrFun (hE46_8060.2 12 rfl rfl) _).trans ((up_o (by decide)).trans ((congrFun (hE17_6778.2 12 rfl rfl) _).trans ((congrFun (hE7_1.2 12 rfl rfl) _).trans ((up_o (by decide)).trans rfl))))), vals_eq (P := P) (fun _ => ((congrFun (hE46_8060.2 3 rfl rfl) _).trans ((up_o (by decide)).trans ((congrFun (hE17_6778.2 3 rfl rfl) _).trans ((congrFun (hE7_1.2 3 rfl rfl) _).trans ((up_o (by decide)).trans rfl))))))] at q; exact q
              refine g_imul dX12_lays_186 ?_
              refine g_nm (fun w8391 e_w8391 => ?_)
              have hrm8 : w8391 = prdU P (P 0 13) (x7_1_1 + 1).toNat := by rw [e_w8391, hpl.1, ← hcv]; congr 1
              have hrm7 : 1 ≤ w8391 ∧ w8391 ≤ 20000 := by rw [hrm8]; exact hpl.2
              refine m_p52 rfl dX12_lays_187 ?_
              have hB8392 := bs_52 (z := w8391) hB46_8060 ⟨by (clear hmb k6777; omega), by (clear hmb k6777; omega)⟩
              refine g_iinc (l1 := [(1, vI (x7_1_1 + 1)), (0, vR 0), (2, vI x46_2_8060)]) dX12_lays_190 rfl (by decide) rfl ?_
              refine g_goto (tgt := 7) dX12_lays_193 (by decide) ?_
              refine g_forget (l1 := [(0, vR 0), (1, vI (x7_1_1 + 1))]) (by intro q hq; simp only [List.mem_cons, List.not_mem_nil, or_false] at hq ⊢; rcases hq with rfl | rfl <;> simp) ?_
              exact ih7_1 (x7_1_1 + 1) ⟨by (clear hmb k6777; omega), by (omega)⟩ _ hB8392 (FrM.s (FrM.c (FrM.a (FrM.c (FrM.c FrM.rf hE7_1 rfl) hE17_6778 rfl) rfl rfl) hE46_8060 rfl) rfl) (by first | exact (up_same).trans hrm8 | exact up_same) (by have q0 := (up_same : (up H46_8060 0 52 w8391) 0 52 = w8391); (clear hmb k6777; omega)) (by first | exact (LYs.fr iv8388 (show FrM ([52], []) _ _ from (FrM.s FrM.rf rfl)) rfl) | exact fun d d0 d1 => by (first | (clear hmb k6777; omega) | (clear hmb; omega) | (clear k6777; omega) | omega)) (by (clear hmb; omega)) (by (clear hmb k6777; omega))
            · obtain ⟨hlys7, hlyc7, hsn7⟩ := i46_1_8060
              have hzc9 := hszc x7_1_1 (by (clear hmb k6777; omega)) (by (omega))
              have iv8393 : LYs K M F x7_1_1 H46_8060 := hlys7
              have iv8394 : LYc K M F x7_1_1 x46_2_8060 H46_8060 := hlyc7
              have iv8395 : SNx (dsl (mkf K M F x7_1_1) (x46_2_8060).toNat) H46_8060 := hsn7
              refine g_iconst dX12_lays_55 ?_
              refine g_istore_n (l1 := [(3, vI 0), (0, vR 0), (1, vI x7_1_1), (2, vI x46_2_8060)]) dX12_lays_56 (by decide) rfl ?_
              refine g_iconst dX12_lays_57 ?_
              refine g_istore (l1 := [(4, vI 0), (3, vI 0), (0, vR 0), (1, vI x7_1_1), (2, vI x46_2_8060)]) dX12_lays_58 (by decide) rfl ?_
              have L60_8395 : ∀ (n60_8395 : Nat) (x60_4_8395 : Int) (h_x60_4_8395 : 0 ≤ x60_4_8395 ∧ x60_4_8395 ≤ 12) (x60_3_8395 : Int) (h_x60_3_8395 : 0 ≤ x60_3_8395 ∧ x60_3_8395 ≤ 4095) (H60_8395 : PH) (hB60_8395 : BdM H60_8395) (hE60_8395 : FrM ([], [29, 30]) H46_8060 H60_8395) (i60_0_8395 : x60_3_8395 = msk K F x7_1_1 x46_2_8060 (x60_4_8395).toNat) (i60_1_8395 : x60_4_8395 ≤ M 0 2) (hm60_8395 : ((13 - x60_4_8395) : Int).toNat < n60_8395), Go WSM G 4 iX12_lays 60 [(0, vR 0), (1, vI x7_1_1), (2, vI x46_2_8060), (3, vI x60_3_8395), (4, vI x60_4_8395)] [] H60_8395 Q := by
                intro n60_8395
                induction n60_8395 with
                | zero => intro x60_4_8395 h_x60_4_8395 x60_3_8395 h_x60_3_8395 H60_8395 hB60_8395 hE60_8395 i60_0_8395 i60_1_8395 hm60_8395; exact absurd hm60_8395 (Nat.not_lt_zero _)
                | succ n60_8395 ih60_8395 =>
                intro x60_4_8395 h_x60_4_8395 x60_3_8395 h_x60_3_8395 H60_8395 hB60_8395 hE60_8395 i60_0_8395 i60_1_8395 hm60_8395
                refine g_iload dX12_lays_60 rfl ?_
                refine g_aload_n dX12_lays_62 rfl ?_
                refine m_g25 rfl dX12_lays_63 ?_
                refine g_aload_n dX12_lays_66 rfl ?_
                refine m_g13 (z := (P 0 13)) rfl dX12_lays_67 ((hE60_8395.1 13 rfl).trans ((hE46_8060.1 13 rfl).trans ((up_o (by decide)).trans ((hE17_6778.1 13 rfl).trans ((hE7_1.1 13 rfl).trans ((up_k (by decide)).trans rfl)))))) ?_
                refine m_l13 (z := (P 13 (P 0 13))) dX12_lays_70 ⟨by have q0 := b0_13 hB; (clear hmb k6777; omega), by have q0 := b0_13 hB; (clear hmb k6777; omega)⟩ ((congrFun (hE60_8395.2 13 rfl rfl) _).trans ((congrFun (hE46_8060.2 13 rfl rfl) _).trans ((up_o (by decide)).trans ((congrFun (hE17_6778.2 13 rfl rfl) _).trans ((congrFun (hE7_1.2 13 rfl rfl) _).trans ((up_o (by decide)).trans rfl)))))) ?_
                have f8453 := bl_13 (k := (P 0 13)) hB
                refine g_icmp_ge (tgt := 102) dX12_lays_71 (by decide) ⟨by (clear hmb k6777; omega), by (clear hmb k6777; omega)⟩ ⟨by have q0 := bl_13 (k := (P 0 13)) hB; (clear hmb k6777; omega), by have q0 := bl_13 (k := (P 0 13)) hB; (clear hmb k6777; omega)⟩ (fun k8454 => ?_) (fun k8454 => ?_)
                · have hst8 : x60_3_8395 = mkf K M F x7_1_1 x46_2_8060 := by have q := i60_0_8395; rw [show (x60_4_8395).toNat = (M 0 2).toNat by (clear k6777; omega)] at q; exact q
                  have hb12 := msk_12 (K := K) (M := M) (F := F) (c := x7_1_1) (v := x46_2_8060) ⟨by (clear hmb k6777; omega), by (clear k6777; omega)⟩
                  have hlys6 := (LYs.fr iv8393 (show FrM ([], [29, 30]) _ _ from (FrM.c FrM.rf hE60_8395 rfl)) rfl)
                  have hlyc6 := (LYc.fr iv8394 (show FrM ([], [29, 30]) _ _ from (FrM.c FrM.rf hE60_8395 rfl)) rfl)
                  have hsn6 := (SNx.fr iv8395 (show FrM ([], [29, 30]) _ _ from (FrM.c FrM.rf hE60_8395 rfl)) rfl)
                  have h34z := (((congrFun (hE60_8395.2 34 rfl rfl) _).trans rfl) : H60_8395 34 x60_3_8395 = (H46_8060 34 x60_3_8395))
                  have h33z := (((congrFun (hE60_8395.2 33 rfl rfl) _).trans rfl) : H60_8395 33 x7_1_1 = (H46_8060 33 x7_1_1))
                  have h33b := bl_33 (k := x7_1_1) hB60_8395
                  refine g_aload_n dX12_lays_102 rfl ?_
                  refine m_g51 rfl dX12_lays_103 ?_
                  refine g_iload_n dX12_lays_106 rfl ?_
                  refine m_l34 (z := (H46_8060 34 x60_3_8395)) dX12_lays_107 ⟨by (clear hmb k6777; omega), by (clear hmb k6777; omega)⟩ ((congrFun (hE60_8395.2 34 rfl rfl) _).trans rfl) ?_
                  refine g_iconst dX12_lays_108 ?_
                  have f8455 := bl_34 (k := x60_3_8395) hB46_8060
                  refine g_icmp_ne (tgt := 152) dX12_lays_109 (by decide) ⟨by have q0 := bl_34 (k := x60_3_8395) hB46_8060; (clear hmb k6777; omega), by have q0 := bl_34 (k := x60_3_8395) hB46_8060; (clear hmb k6777; omega)⟩ (by decide) (fun k8456 => ?_) (fun k8456 => ?_)
                  · have k8456n : 0 ≤ (H46_8060 34 x60_3_8395) := by have q0 := bl_34 (k := x60_3_8395) hB46_8060; (clear hmb k6777; omega)
                    clear k8456
                    refine g_aload_n dX12_lays_152 rfl ?_
                    refine m_g48 rfl dX12_lays_153 ?_
                    refine g_sipush dX12_lays_156 (by decide) ?_
                    refine g_iload_n dX12_lays_159 rfl ?_
                    refine g_imul dX12_lays_160 ?_
                    refine g_iload_n dX12_lays_161 rfl ?_
                    refine g_iadd dX12_lays_162 ?_
                    refine g_aload_n dX12_lays_163 rfl ?_
                    refine m_g51 rfl dX12_lays_164 ?_
                    refine g_iload_n dX12_lays_167 rfl ?_
                    refine m_l34 (z := (H46_8060 34 x60_3_8395)) dX12_lays_168 ⟨by (clear hmb k6777; omega), by (clear hmb k6777; omega)⟩ ((congrFun (hE60_8395.2 34 rfl rfl) _).trans rfl) ?_
                    refine m_s31 dX12_lays_169 ⟨by (clear hmb k6777; omega), by (omega)⟩ ?_
                    have hB8457 := ba_31 (z := (H46_8060 34 x60_3_8395)) (k := ((2010 * x7_1_1) + x46_2_8060)) hB60_8395 ⟨by have q0 := bl_34 (k := x60_3_8395) hB46_8060; (clear hmb k6777; omega), by have q0 := bl_34 (k := x60_3_8395) hB46_8060; (clear hmb k6777; omega)⟩
                    have hst9 : LYs K M F x7_1_1 (up H60_8395 31 ((2010 * x7_1_1) + x46_2_8060) (H46_8060 34 x60_3_8395)) ∧ LYc K M F x7_1_1 (x46_2_8060 + 1) (up H60_8395 31 ((2010 * x7_1_1) + x46_2_8060) (H46_8060 34 x60_3_8395)) ∧ SNx (dsl (mkf K M F x7_1_1) (x46_2_8060 + 1).toNat) (up H60_8395 31 ((2010 * x7_1_1) + x46_2_8060) (H46_8060 34 x60_3_8395)) := by
                      have hls := hlys6.other (P1 := (up H60_8395 31 ((2010 * x7_1_1) + x46_2_8060) (H46_8060 34 x60_3_8395))) (by (clear hmb k6777; omega)) (fun d d0 d1 => (hszc d d0 (by (clear k6777; omega))).2) (fun j hj9 => by first | exact ((up_k hj).trans rfl) | (have hj : j ≠ ((2010 * x7_1_1) + x46_2_8060) := (by (clear hmb k6777; omega)); exact ((up_k hj).trans rfl))) (fun j hj9 => by first | exact ((up_o (by decide)).trans rfl) | (have hj : j ≠ 0 := (by (first | (clear hmb k6777; omega) | (clear hmb; omega) | (clear k6777; omega) | omega)); exact ((up_o (by decide)).trans rfl))) (fun j hj9 => by first | exact ((up_o (by decide)).trans rfl) | (have hj : j ≠ x7_1_1 := (by (first | (clear hmb k6777; omega) | (clear hmb; omega) | (clear k6777; omega) | omega)); exact ((up_o (by decide)).trans rfl)))
                      first
                      | exact ⟨hls, LYc.old hlyc6 hsn6 hst8 ⟨by (clear hmb k6777; omega), by (clear hmb k6777; omega)⟩ (by (clear hmb k6777; omega)) (fun j => ((up_o (by decide)).trans rfl)) (fun j => ((up_o (by decide)).trans rfl)) (Eq.trans up_same h34z.symm) (fun j hj => ((up_k hj).trans rfl)) (fun j => ((up_o (by decide)).trans rfl))⟩
                      | exact ⟨hls, LYc.new hlyc6 hsn6 hst8 ⟨by (first | (clear hmb k6777; omega) | (clear hmb; omega) | (clear k6777; omega) | omega), by (first | (clear hmb k6777; omega) | (clear hmb; omega) | (clear k6777; omega) | omega)⟩ (by (first | (clear hmb k6777; omega) | (clear hmb; omega) | (clear k6777; omega) | omega)) h33z.symm ((up_o (by decide)).trans ((congrFun (hE60_8395.2 32 rfl rfl) _).trans rfl)) (fun j hj => ((up_o (by decide)).trans rfl)) ((up_o (by decide)).trans ((congrFun (hE60_8395.2 33 rfl rfl) _).trans rfl)) up_same (fun j hj => ((up_k hj).trans rfl)) ((up_o (by decide)).trans ((congrFun (hE60_8395.2 34 rfl rfl) _).trans rfl)) (fun j hj => ((up_o (by decide)).trans rfl))⟩
                    refine g_iinc (l1 := [(2, vI (x46_2_8060 + 1)), (0, vR 0), (1, vI x7_1_1), (3, vI x60_3_8395), (4, vI x60_4_8395)]) dX12_lays_170 rfl (by decide) rfl ?_
                    refine g_goto (tgt := 46) dX12_lays_173 (by decide) ?_
                    refine g_forget (l1 := [(0, vR 0), (1, vI x7_1_1), (2, vI (x46_2_8060 + 1))]) (by intro q hq; simp only [List.mem_cons, List.not_mem_nil, or_false] at hq ⊢; rcases hq with rfl | rfl | rfl <;> simp) ?_
                    exact ih46_8060 (x46_2_8060 + 1) ⟨by (clear hmb k6777; omega), by (clear hmb k6777; omega)⟩ _ hB8457 (FrM.a (FrM.c (FrM.c FrM.rf hE46_8060 rfl) hE60_8395 rfl) rfl rfl) (by have q0 := (((up_o (by decide)).trans ((congrFun (hE60_8395.2 33 rfl rfl) _).trans rfl)) : (up H60_8395 31 ((2010 * x7_1_1) + x46_2_8060) (H46_8060 34 x60_3_8395)) 33 x7_1_1 = (H46_8060 33 x7_1_1)); have q1 := bl_33 (k := x7_1_1) hB46_8060; (clear hmb k6777; omega)) (by first | exact hst9 | exact ⟨hNONE, hNONE, (by first | (rw [show (dsl (mkf K M F x7_1_1) 0) = (dsl (mkf K M F x7_1_1) (x46_2_8060).toNat) by (first | (clear hmb k6777; omega) | (clear hmb; omega) | (clear k6777; omega) | omega)]; exact (SNx.fr iv8395 (show FrM ([], [29, 30, 31]) _ _ from (FrM.a (FrM.c FrM.rf hE60_8395 rfl) rfl rfl)) rfl)))⟩) (by first | (clear hmb k6777; omega) | (have q := hszc x7_1_1 (by (first | (clear hmb k6777; omega) | (clear hmb; omega) | (clear k6777; omega) | omega)) (by (first | (clear hmb k6777; omega) | (clear hmb; omega) | (clear k6777; omega) | omega)); (first | (clear hmb k6777; omega) | (clear hmb; omega) | (clear k6777; omega) | omega))) (by (clear hmb k6777; omega))
                  · refine g_aload_n dX12_lays_112 rfl ?_
                    refine m_g51 rfl dX12_lays_113 ?_
                    refine g_iload_n dX12_lays_116 rfl ?_
                    refine g_aload_n dX12_lays_117 rfl ?_
                    refine m_g50 rfl dX12_lays_118 ?_
                    refine g_iload_n dX12_lays_121 rfl ?_
                    refine m_l33 (z := (H46_8060 33 x7_1_1)) dX12_lays_122 ⟨by (clear hmb k6777; omega), by (omega)⟩ ((congrFun (hE60_8395.2 33 rfl rfl) _).trans rfl) ?_
                    refine m_s34 dX12_lays_123 ⟨by (clear hmb k6777; omega), by (clear hmb k6777; omega)⟩ ?_
                    have hB8458 := ba_34 (z := (H46_8060 33 x7_1_1)) (k := x60_3_8395) hB60_8395 ⟨by have q0 := bl_33 (k := x7_1_1) hB46_8060; (clear hmb k6777; omega), by have q0 := bl_33 (k := x7_1_1) hB46_8060; (clear hmb k6777; omega)⟩
                    refine g_aload_n dX12_lays_124 rfl ?_
                    refine m_g49 rfl dX12_lays_125 ?_
                    refine g_sipush dX12_lays_128 (by decide) ?_
                    refine g_iload_n dX12_lays_131 rfl ?_
                    refine g_imul dX12_lays_132 ?_
                    refine g_aload_n dX12_lays_133 rfl ?_
                    refine m_g50 rfl dX12_lays_134 ?_
                    refine g_iload_n dX12_lays_137 rfl ?_
                    refine m_l33 (z := (H46_8060 33 x7_1_1)) dX12_lays_138 ⟨by (clear hmb k6777; omega), by (omega)⟩ ((up_o (by decide)).trans ((congrFun (hE60_8395.2 33 rfl rfl) _).trans rfl)) ?_
                    refine g_iadd dX12_lays_139 ?_
                    refine g_iload_n dX12_lays_140 rfl ?_
                    refine m_s32 dX12_lays_141 ⟨by have q0 := bl_33 (k := x7_1_1) hB46_8060; (clear hmb k6777; omega), by have q0 := bl_33 (k := x7_1_1) hB46_8060; (omega)⟩ ?_
                    have hB8459 := ba_32 (z := x60_3_8395) (k := ((2010 * x7_1_1) + (H46_8060 33 x7_1_1))) hB8458 ⟨by (clear hmb k6777; omega), by (clear hmb k6777; omega)⟩
                    refine g_aload_n dX12_lays_142 rfl ?_
                    refine m_g50 rfl dX12_lays_143 ?_
                    refine g_iload_n dX12_lays_146 rfl ?_
                    refine g_dup2 dX12_lays_147 rfl rfl ?_
                    refine m_l33 (z := (H46_8060 33 x7_1_1)) dX12_lays_148 ⟨by (clear hmb k6777; omega), by (omega)⟩ ((up_o (by decide)).trans ((up_o (by decide)).trans ((congrFun (hE60_8395.2 33 rfl rfl) _).trans rfl))) ?_
                    refine g_iconst dX12_lays_149 ?_
                    refine g_iadd dX12_lays_150 ?_
                    refine m_s33 dX12_lays_151 ⟨by (clear hmb k6777; omega), by (omega)⟩ ?_
                    have hB8460 := ba_33 (z := ((H46_8060 33 x7_1_1) + 1)) (k := x7_1_1) hB8459 ⟨by have q0 := bl_33 (k := x7_1_1) hB46_8060; (clear hmb k6777; omega), by have q0 := bl_33 (k := x7_1_1) hB46_8060; (clear hmb k6777; omega)⟩
                    refine g_aload_n dX12_lays_152 rfl ?_
                    refine m_g48 rfl dX12_lays_153 ?_
                    refine g_sipush dX12_lays_156 (by decide) ?_
                    refine g_iload_n dX12_lays_159 rfl ?_
                    refine g_imul dX12_lays_160 ?_
                    refine g_iload_n dX12_lays_161 rfl ?_
                    refine g_iadd dX12_lays_162 ?_
                    refine g_aload_n dX12_lays_163 rfl ?_
                    refine m_g51 rfl dX12_lays_164 ?_
                    refine g_iload_n dX12_lays_167 rfl ?_
                    refine m_l34 (z := (H46_8060 33 x7_1_1)) dX12_lays_168 ⟨by (clear hmb k6777; omega), by (clear hmb k6777; omega)⟩ ((up_o (by decide)).trans ((up_o (by decide)).trans up_same)) ?_
                    refine m_s31 dX12_lays_169 ⟨by (clear hmb k6777; omega), by (omega)⟩ ?_
                    have hB8461 := ba_31 (z := (H46_8060 33 x7_1_1)) (k := ((2010 * x7_1_1) + x46_2_8060)) hB8460 ⟨by have q0 := bl_33 (k := x7_1_1) hB46_8060; (clear hmb k6777; omega), by have q0 := bl_33 (k := x7_1_1) hB46_8060; (clear hmb k6777; omega)⟩
                    have hst9 : LYs K M F x7_1_1 (up (up (up (up H60_8395 34 x60_3_8395 (H46_8060 33 x7_1_1)) 32 ((2010 * x7_1_1) + (H46_8060 33 x7_1_1)) x60_3_8395) 33 x7_1_1 ((H46_8060 33 x7_1_1) + 1)) 31 ((2010 * x7_1_1) + x46_2_8060) (H46_8060 33 x7_1_1)) ∧ LYc K M F x7_1_1 (x46_2_8060 + 1) (up (up (up (up H60_8395 34 x60_3_8395 (H46_8060 33 x7_1_1)) 32 ((2010 * x7_1_1) + (H46_8060 33 x7_1_1)) x60_3_8395) 33 x7_1_1 ((H46_8060 33 x7_1_1) + 1)) 31 ((2010 * x7_1_1) + x46_2_8060) (H46_8060 33 x7_1_1)) ∧ SNx (dsl (mkf K M F x7_1_1) (x46_2_8060 + 1).toNat) (up (up (up (up H60_8395 34 x60_3_8395 (H46_8060 33 x7_1_1)) 32 ((2010 * x7_1_1) + (H46_8060 33 x7_1_1)) x60_3_8395) 33 x7_1_1 ((H46_8060 33 x7_1_1) + 1)) 31 ((2010 * x7_1_1) + x46_2_8060) (H46_8060 33 x7_1_1)) := by
                      have hls := hlys6.other (P1 := (up (up (up (up H60_8395 34 x60_3_8395 (H46_8060 33 x7_1_1)) 32 ((2010 * x7_1_1) + (H46_8060 33 x7_1_1)) x60_3_8395) 33 x7_1_1 ((H46_8060 33 x7_1_1) + 1)) 31 ((2010 * x7_1_1) + x46_2_8060) (H46_8060 33 x7_1_1))) (by (clear hmb k6777; omega)) (fun d d0 d1 => (hszc d d0 (by (clear k6777; omega))).2) (fun j hj9 => by first | exact ((up_k hj).trans ((up_o (by decide)).trans ((up_o (by decide)).trans ((up_o (by decide)).trans rfl)))) | (have hj : j ≠ ((2010 * x7_1_1) + x46_2_8060) := (by (clear hmb k6777; omega)); exact ((up_k hj).trans ((up_o (by decide)).trans ((up_o (by decide)).trans ((up_o (by decide)).trans rfl)))))) (fun j hj9 => by first | exact ((up_o (by decide)).trans ((up_o (by decide)).trans ((up_k hj).trans ((up_o (by decide)).trans rfl)))) | (have hj : j ≠ ((2010 * x7_1_1) + (H46_8060 33 x7_1_1)) := (by (clear hmb k6777; omega)); exact ((up_o (by decide)).trans ((up_o (by decide)).trans ((up_k hj).trans ((up_o (by decide)).trans rfl)))))) (fun j hj9 => by first | exact ((up_o (by decide)).trans ((up_k hj).trans ((up_o (by decide)).trans ((up_o (by decide)).trans rfl)))) | (have hj : j ≠ x7_1_1 := (by (clear hmb k6777; omega)); exact ((up_o (by decide)).trans ((up_k hj).trans ((up_o (by decide)).trans ((up_o (by decide)).trans rfl))))))
                      first
                      | exact ⟨hls, LYc.old hlyc6 hsn6 hst8 ⟨by (first | (clear hmb k6777; omega) | (clear hmb; omega) | (clear k6777; omega) | omega), by (first | (clear hmb k6777; omega) | (clear hmb; omega) | (clear k6777; omega) | omega)⟩ (by (first | (clear hmb k6777; omega) | (clear hmb; omega) | (clear k6777; omega) | omega)) (fun j => ((up_o (by decide)).trans ((up_o (by decide)).trans ((up_k hj).trans ((up_o (by decide)).trans rfl))))) (fun j => ((up_o (by decide)).trans ((up_k hj).trans ((up_o (by decide)).trans ((up_o (by decide)).trans rfl))))) (Eq.trans up_same h34z.symm) (fun j hj => ((up_k hj).trans ((up_o (by decide)).trans ((up_o (by decide)).trans ((up_o (by decide)).trans rfl))))) (fun j => ((up_o (by decide)).trans ((up_o (by decide)).trans ((up_o (by decide)).trans ((up_k hj).trans rfl)))))⟩
                      | exact ⟨hls, LYc.new hlyc6 hsn6 hst8 ⟨by (clear hmb k6777; omega), by (clear hmb k6777; omega)⟩ (by (clear hmb k6777; omega)) h33z.symm ((up_o (by decide)).trans ((up_o (by decide)).trans up_same)) (fun j hj => ((up_o (by decide)).trans ((up_o (by decide)).trans ((up_k hj).trans ((up_o (by decide)).trans rfl))))) ((up_o (by decide)).trans up_same) up_same (fun j hj => ((up_k hj).trans ((up_o (by decide)).trans ((up_o (by decide)).trans ((up_o (by decide)).trans rfl))))) ((up_o (by decide)).trans ((up_o (by decide)).trans ((up_o (by decide)).trans up_same))) (fun j hj => ((up_o (by decide)).trans ((up_o (by decide)).trans ((up_o (by decide)).trans ((up_k hj).trans rfl)))))⟩
                    refine g_iinc (l1 := [(2, vI (x46_2_8060 + 1)), (0, vR 0), (1, vI x7_1_1), (3, vI x60_3_8395), (4, vI x60_4_8395)]) dX12_lays_170 rfl (by decide) rfl ?_
                    refine g_goto (tgt := 46) dX12_lays_173 (by decide) ?_
                    refine g_forget (l1 := [(0, vR 0), (1, vI x7_1_1), (2, vI (x46_2_8060 + 1))]) (by intro q hq; simp only [List.mem_cons, List.not_mem_nil, or_false] at hq ⊢; rcases hq with rfl | rfl | rfl <;> simp) ?_
                    exact ih46_8060 (x46_2_8060 + 1) ⟨by (clear hmb k6777; omega), by (clear hmb k6777; omega)⟩ _ hB8461 (FrM.a (FrM.a (FrM.a (FrM.a (FrM.c (FrM.c FrM.rf hE46_8060 rfl) hE60_8395 rfl) rfl rfl) rfl rfl) rfl rfl) rfl rfl) (by have q0 := (((up_o (by decide)).trans up_same) : (up (up (up (up H60_8395 34 x60_3_8395 (H46_8060 33 x7_1_1)) 32 ((2010 * x7_1_1) + (H46_8060 33 x7_1_1)) x60_3_8395) 33 x7_1_1 ((H46_8060 33 x7_1_1) + 1)) 31 ((2010 * x7_1_1) + x46_2_8060) (H46_8060 33 x7_1_1)) 33 x7_1_1 = ((H46_8060 33 x7_1_1) + 1)); have q1 := bl_33 (k := x7_1_1) hB46_8060; (clear hmb k6777; omega)) (by first | exact hst9 | exact ⟨hNONE, hNONE, hNONE⟩) (by first | (clear hmb k6777; omega) | (have q := hszc x7_1_1 (by (first | (clear hmb k6777; omega) | (clear hmb; omega) | (clear k6777; omega) | omega)) (by (first | (clear hmb k6777; omega) | (clear hmb; omega) | (clear k6777; omega) | omega)); (first | (clear hmb k6777; omega) | (clear hmb; omega) | (clear k6777; omega) | omega))) (by (clear hmb k6777; omega))
                · refine g_iload_n dX12_lays_74 rfl ?_
                  refine g_aload_n dX12_lays_75 rfl ?_
                  refine g_iload dX12_lays_76 rfl ?_
                  refine g_iload_n dX12_lays_78 rfl ?_
                  refine g_iload_n dX12_lays_79 rfl ?_
                  refine g_vI (av := [vI x60_4_8395, vI x7_1_1, vI x46_2_8060]) (o := 0) (st := [vI x60_3_8395]) (f_X12_isFitting G H60_8395 (K) (M) (F) x60_4_8395 x7_1_1 x46_2_8060 ⟨by (clear hmb k6777; omega), by (clear hmb k6777; omega)⟩ ⟨by (clear hmb k6777; omega), by (omega)⟩ ⟨by (clear hmb k6777; omega), by (clear hmb k6777; omega)⟩ hB60_8395 (by have q0 := (((congrFun (hE60_8395.2 13 rfl rfl) _).trans ((congrFun (hE46_8060.2 13 rfl rfl) _).trans ((up_o (by decide)).trans ((congrFun (hE17_6778.2 13 rfl rfl) _).trans ((congrFun (hE7_1.2 13 rfl rfl) _).trans ((up_o (by decide)).trans rfl)))))) : H60_8395 13 (H60_8395 0 13) = (P 13 (H60_8395 0 13))); have q1 := bl_13 (k := (H60_8395 0 13)) hB; have q2 := ((congrArg (H60_8395 13) ((hE60_8395.1 13 rfl).trans ((hE46_8060.1 13 rfl).trans ((up_o (by decide)).trans ((hE17_6778.1 13 rfl).trans ((hE7_1.1 13 rfl).trans ((up_k (by decide)).trans rfl))))))).trans ((congrFun (hE60_8395.2 13 rfl rfl) _).trans ((congrFun (hE46_8060.2 13 rfl rfl) _).trans ((up_o (by decide)).trans ((congrFun (hE17_6778.2 13 rfl rfl) _).trans ((congrFun (hE7_1.2 13 rfl rfl) _).trans ((up_o (by decide)).trans rfl)))))) : H60_8395 13 (H60_8395 0 13) = (P 13 (P 0 13))); have q3 := bl_13 (k := (P 0 13)) hB; (clear hmb k6777; omega)) (by have q0 := (((congrFun (hE60_8395.2 11 rfl rfl) _).trans ((congrFun (hE46_8060.2 11 rfl rfl) _).trans ((up_o (by decide)).trans ((congrFun (hE17_6778.2 11 rfl rfl) _).trans ((congrFun (hE7_1.2 11 rfl rfl) _).trans ((up_o (by decide)).trans rfl)))))) : H60_8395 11 (H60_8395 0 13) = (P 11 (H60_8395 0 13))); have q1 := bl_11 (k := (H60_8395 0 13)) hB; have q2 := ((congrArg (H60_8395 11) ((hE60_8395.1 13 rfl).trans ((hE46_8060.1 13 rfl).trans ((up_o (by decide)).trans ((hE17_6778.1 13 rfl).trans ((hE7_1.1 13 rfl).trans ((up_k (by decide)).trans rfl))))))).trans ((congrFun (hE60_8395.2 11 rfl rfl) _).trans ((congrFun (hE46_8060.2 11 rfl rfl) _).trans ((up_o (by decide)).trans ((congrFun (hE17_6778.2 11 rfl rfl) _).trans ((congrFun (hE7_1.2 11 rfl rfl) _).trans ((up_o (by decide)).trans rfl)))))) : H60_8395 11 (H60_8395 0 13) = (P 11 (P 0 13))); have q3 := bl_11 (k := (P 0 13)) hB; (clear hmb; omega)) p_aw (ZT.fr (F := ([52], [29, 30, 31, 32, 33, 34])) v_ZT (FrM.c (FrM.c (FrM.a (FrM.c (FrM.c (FrM.s FrM.rf rfl) hE7_1 rfl) hE17_6778 rfl) rfl rfl) hE46_8060 rfl) hE60_8395 rfl) rfl) (ZS.fr (F := ([52], [29, 30, 31, 32, 33, 34])) v_ZS (FrM.c (FrM.c (FrM.a (FrM.c (FrM.c (FrM.s FrM.rf rfl) hE7_1 rfl) hE17_6778 rfl) rfl rfl) hE46_8060 rfl) hE60_8395 rfl) rfl) ((MKB.fr (F := ([52], [29, 30, 31, 32, 33, 34])) z0 (FrM.c (FrM.c (FrM.a (FrM.c (FrM.c (FrM.s FrM.rf rfl) hE7_1 rfl) hE17_6778 rfl) rfl rfl) hE46_8060 rfl) hE60_8395 rfl) rfl)) ((MMB.fr (F := ([52], [29, 30, 31, 32, 33, 34])) z1 (FrM.c (FrM.c (FrM.a (FrM.c (FrM.c (FrM.s FrM.rf rfl) hE7_1 rfl) hE17_6778 rfl) rfl rfl) hE46_8060 rfl) hE60_8395 rfl) rfl)) ((MCB.fr z2 (show FrM ([52], [29, 30, 31, 32, 33, 34]) _ _ from (FrM.c (FrM.c (FrM.a (FrM.c (FrM.c (FrM.s FrM.rf rfl) hE7_1 rfl) hE17_6778 rfl) rfl rfl) hE46_8060 rfl) hE60_8395 rfl)) rfl)) _ (fun rc8462 hc8462 Pc8462 hBc8462 hFc8462 gc8462_tv => ⟨rc8462, rfl, ?_⟩)) cf_X12_isFitting t_1835 rfl (by decide) rfl rfl rfl (Nat.le_of_ble_eq_true rfl) (by decide) rfl dX12_lays_80
                  have htv := gc8462_tv
                  refine g_if_eq (tgt := 93) dX12_lays_83 (by decide) ⟨by (clear hmb k6777 gc8462_tv htv; omega), by (clear hmb k6777 gc8462_tv htv; omega)⟩ (fun k8463 => ?_) (fun k8463 => ?_)
                  · have r_htv := (htv.resolve_left (by (clear hmb k6777 gc8462_tv htv; omega)))
                    have r_gc8462_tv := (gc8462_tv.resolve_left (by (clear hmb k6777 gc8462_tv htv; omega)))
                    refine g_iconst dX12_lays_93 ?_
                    refine g_ior dX12_lays_94 ?_
                    refine g_nm (fun b8464 e_b8464 => ?_)
                    have h_b8464 : 0 ≤ (ior x60_3_8395 0) ∧ (ior x60_3_8395 0) < 4096 := ior_b 12 (by decide) (x := x60_3_8395) (y := 0) (show 0 ≤ x60_3_8395 ∧ x60_3_8395 < 4096 from ⟨by (clear hmb k6777 gc8462_tv htv; omega), by (clear hmb k6777 gc8462_tv htv; omega)⟩) (show 0 ≤ 0 ∧ 0 < 4096 from ⟨by (clear hmb k6777 gc8462_tv htv; omega), by (clear hmb k6777 gc8462_tv htv; omega)⟩)
                    rw [← e_b8464] at h_b8464
                    have hna : (((x60_4_8395).toNat : Nat) : Int) = x60_4_8395 := by (clear hmb k6777 gc8462_tv htv; omega)
                    have hm9 : b8464 = msk K F x7_1_1 x46_2_8060 (x60_4_8395 + 1).toNat := by rw [e_b8464, show (x60_4_8395 + 1).toNat = (x60_4_8395).toNat + 1 by (clear hmb k6777 gc8462_tv htv; omega)]; exact msk_or (by (clear hmb k6777 gc8462_tv htv; omega)) i60_0_8395 (by rw [hna]; first | exact Or.inr ⟨rfl, by (clear hmb k6777 gc8462_tv htv; omega)⟩ | exact Or.inl ⟨e_0, by (first | (clear hmb k6777 gc8462_tv htv; omega) | (clear hmb k6777 gc8462_tv; omega) | (clear hmb k6777 htv; omega) | (clear hmb gc8462_tv htv; omega) | (clear k6777 gc8462_tv htv; omega) | (clear hmb k6777; omega) | omega)⟩)
                    refine g_istore_n (l1 := [(3, vI b8464), (0, vR 0), (1, vI x7_1_1), (2, vI x46_2_8060), (4, vI x60_4_8395)]) dX12_lays_95 (by decide) rfl ?_
                    refine g_iinc (l1 := [(4, vI (x60_4_8395 + 1)), (3, vI b8464), (0, vR 0), (1, vI x7_1_1), (2, vI x46_2_8060)]) dX12_lays_96 rfl (by decide) rfl ?_
                    refine g_goto (tgt := 60) dX12_lays_99 (by decide) ?_
                    refine g_forget (l1 := [(0, vR 0), (1, vI x7_1_1), (2, vI x46_2_8060), (3, vI b8464), (4, vI (x60_4_8395 + 1))]) (by intro q hq; simp only [List.mem_cons, List.not_mem_nil, or_false] at hq ⊢; rcases hq with rfl | rfl | rfl | rfl | rfl <;> simp) ?_
                    exact ih60_8395 (x60_4_8395 + 1) ⟨by (clear hmb k6777 gc8462_tv htv; omega), by (clear hmb k6777 gc8462_tv htv; omega)⟩ b8464 ⟨by (clear hmb k6777 gc8462_tv htv; omega), by (clear hmb k6777 gc8462_tv htv; omega)⟩ _ hBc8462 (FrM.c (FrM.c FrM.rf hE60_8395 rfl) hFc8462 rfl) (by first | exact hm9 | rfl) (by first | (clear k6777 gc8462_tv htv; omega) | (have q := bl_13 (k := P 0 13) hB; (first | (clear hmb k6777 gc8462_tv htv; omega) | (clear hmb k6777 gc8462_tv; omega) | (clear hmb k6777 htv; omega) | (clear hmb gc8462_tv htv; omega) | (clear k6777 gc8462_tv htv; omega) | (clear hmb k6777; omega) | omega))) (by (clear hmb k6777 gc8462_tv htv; omega))
                  · have k8463n : 1 ≤ rc8462 := by (clear hmb k6777 gc8462_tv htv; omega)
                    clear k8463
                    have r_htv := (htv.resolve_right (by (clear hmb k6777 gc8462_tv htv; omega)))
                    have r_gc8462_tv := (gc8462_tv.resolve_right (by (clear hmb k6777 gc8462_tv htv; omega)))
                    refine g_iconst dX12_lays_86 ?_
                    refine g_iload dX12_lays_87 rfl ?_
                    refine g_ishl dX12_lays_89 ?_
                    refine g_nm (fun b8465 e_b8465 => ?_)
                    have h_b8465 : 1 ≤ (ishl 1 x60_4_8395) ∧ (ishl 1 x60_4_8395) ≤ 2048 := (ishl1 11 (by decide) (y := x60_4_8395) ⟨by (clear hmb k6777 gc8462_tv htv; omega), by (clear hmb k6777 gc8462_tv htv; omega)⟩).2
                    rw [← e_b8465] at h_b8465
                    refine g_goto (tgt := 94) dX12_lays_90 (by decide) ?_
                    refine g_ior dX12_lays_94 ?_
                    refine g_nm (fun b8466 e_b8466 => ?_)
                    have h_b8466 : 0 ≤ (ior x60_3_8395 b8465) ∧ (ior x60_3_8395 b8465) < 4096 := ior_b 12 (by decide) (x := x60_3_8395) (y := b8465) (show 0 ≤ x60_3_8395 ∧ x60_3_8395 < 4096 from ⟨by (clear hmb k6777 gc8462_tv htv; omega), by (clear hmb k6777 gc8462_tv htv; omega)⟩) (show 0 ≤ b8465 ∧ b8465 < 4096 from ⟨by (clear hmb k6777 gc8462_tv htv; omega), by (clear hmb k6777 gc8462_tv htv; omega)⟩)
                    rw [← e_b8466] at h_b8466
                    have hna : (((x60_4_8395).toNat : Nat) : Int) = x60_4_8395 := by (clear hmb k6777 gc8462_tv htv; omega)
                    have hm9 : b8466 = msk K F x7_1_1 x46_2_8060 (x60_4_8395 + 1).toNat := by rw [e_b8466, show (x60_4_8395 + 1).toNat = (x60_4_8395).toNat + 1 by (clear hmb k6777 gc8462_tv htv; omega)]; exact msk_or (by (clear hmb k6777 gc8462_tv htv; omega)) i60_0_8395 (by rw [hna]; first | exact Or.inr ⟨rfl, by (first | (clear hmb k6777 gc8462_tv htv; omega) | (clear hmb k6777 gc8462_tv; omega) | (clear hmb k6777 htv; omega) | (clear hmb gc8462_tv htv; omega) | (clear k6777 gc8462_tv htv; omega) | (clear hmb k6777; omega) | omega)⟩ | exact Or.inl ⟨e_b8465, by (clear hmb k6777 gc8462_tv htv; omega)⟩)
                    refine g_istore_n (l1 := [(3, vI b8466), (0, vR 0), (1, vI x7_1_1), (2, vI x46_2_8060), (4, vI x60_4_8395)]) dX12_lays_95 (by decide) rfl ?_
                    refine g_iinc (l1 := [(4, vI (x60_4_8395 + 1)), (3, vI b8466), (0, vR 0), (1, vI x7_1_1), (2, vI x46_2_8060)]) dX12_lays_96 rfl (by decide) rfl ?_
                    refine g_goto (tgt := 60) dX12_lays_99 (by decide) ?_
                    refine g_forget (l1 := [(0, vR 0), (1, vI x7_1_1), (2, vI x46_2_8060), (3, vI b8466), (4, vI (x60_4_8395 + 1))]) (by intro q hq; simp only [List.mem_cons, List.not_mem_nil, or_false] at hq ⊢; rcases hq with rfl | rfl | rfl | rfl | rfl <;> simp) ?_
                    exact ih60_8395 (x60_4_8395 + 1) ⟨by (clear hmb k6777 gc8462_tv htv; omega), by (clear hmb k6777 gc8462_tv htv; omega)⟩ b8466 ⟨by (clear hmb k6777 gc8462_tv htv; omega), by (clear hmb k6777 gc8462_tv htv; omega)⟩ _ hBc8462 (FrM.c (FrM.c FrM.rf hE60_8395 rfl) hFc8462 rfl) (by first | exact hm9 | rfl) (by first | (clear k6777 gc8462_tv htv; omega) | (have q := bl_13 (k := P 0 13) hB; (first | (clear hmb k6777 gc8462_tv htv; omega) | (clear hmb k6777 gc8462_tv; omega) | (clear hmb k6777 htv; omega) | (clear hmb gc8462_tv htv; omega) | (clear k6777 gc8462_tv htv; omega) | (clear hmb k6777; omega) | omega))) (by (clear hmb k6777 gc8462_tv htv; omega))
              refine g_forget (l1 := [(0, vR 0), (1, vI x7_1_1), (2, vI x46_2_8060), (3, vI 0), (4, vI 0)]) (by intro q hq; simp only [List.mem_cons, List.not_mem_nil, or_false] at hq ⊢; rcases hq with rfl | rfl | rfl | rfl | rfl <;> simp) ?_
              exact L60_8395 _ 0 (by decide) 0 (by decide) _ hB46_8060 FrM.rf (by first | exact hm9 | rfl) (by first | (first | (clear hmb k6777; omega) | (clear hmb; omega) | (clear k6777; omega) | omega) | (have q := bl_13 (k := P 0 13) hB; (clear k6777; omega))) (Nat.lt_succ_self _)
          refine g_forget (l1 := [(0, vR 0), (1, vI x7_1_1), (2, vI 0)]) (by intro q hq; simp only [List.mem_cons, List.not_mem_nil, or_false] at hq ⊢; rcases hq with rfl | rfl | rfl <;> simp) ?_
          exact L46_8060 _ 0 (by decide) _ hB8057 FrM.rf (by have q0 := (up_same : (up H17_6778 33 x7_1_1 0) 33 x7_1_1 = 0); (clear hmb k6777; omega)) (by first | exact hst9 | exact ⟨iv8058, iv8059, iv8060⟩) (by first | (first | (clear hmb k6777; omega) | (clear hmb; omega) | (clear k6777; omega) | omega) | (have q := hszc x7_1_1 (by (clear hmb k6777; omega)) (by (omega)); (clear hmb k6777; omega))) (Nat.lt_succ_self _)
        · refine g_aload_n dX12_lays_24 rfl ?_
          refine m_g51 rfl dX12_lays_25 ?_
          refine g_iload_n dX12_lays_28 rfl ?_
          refine g_iconst dX12_lays_29 ?_
          refine m_s34 dX12_lays_30 ⟨by (clear hmb k6777; omega), by (clear hmb k6777; omega)⟩ ?_
          have hB8467 := ba_34 (z := (-1)) (k := x17_2_6778) hB17_6778 (by decide)
          have hsn9 : ∀ s : Int, 0 ≤ s → s < x17_2_6778 + 1 → (up H17_6778 34 x17_2_6778 (-1)) 34 s = -1 := by
            intro j j0 j1
            by_cases e : j = x17_2_6778
            · rw [e]; exact up_same
            · have hj : j ≠ x17_2_6778 := e
              exact Eq.trans ((up_k hj).trans rfl) (i17_0_6778 j j0 (by (clear hmb k6777 hj; omega)))
          refine g_iinc (l1 := [(2, vI (x17_2_6778 + 1)), (0, vR 0), (1, vI x7_1_1)]) dX12_lays_31 rfl (by decide) rfl ?_
          refine g_goto (tgt := 17) dX12_lays_34 (by decide) ?_
          refine g_forget (l1 := [(0, vR 0), (1, vI x7_1_1), (2, vI (x17_2_6778 + 1))]) (by intro q hq; simp only [List.mem_cons, List.not_mem_nil, or_false] at hq ⊢; rcases hq with rfl | rfl | rfl <;> simp) ?_
          exact ih17_6778 (x17_2_6778 + 1) ⟨by (clear hmb k6777; omega), by (clear hmb k6777; omega)⟩ _ hB8467 (FrM.a (FrM.c FrM.rf hE17_6778 rfl) rfl rfl) (by first | exact hsn9 | (intro s s0 s1; exfalso; (first | (clear hmb k6777; omega) | (clear hmb; omega) | (clear k6777; omega) | omega))) (by (clear hmb k6777; omega))
      refine g_forget (l1 := [(0, vR 0), (1, vI x7_1_1), (2, vI 0)]) (by intro q hq; simp only [List.mem_cons, List.not_mem_nil, or_false] at hq ⊢; rcases hq with rfl | rfl | rfl <;> simp) ?_
      exact L17_6778 _ 0 (by decide) _ hB7_1 FrM.rf (by first | exact hsn9 | (intro s s0 s1; exfalso; (clear hmb k6777; omega))) (Nat.lt_succ_self _)
  refine g_forget (l1 := [(0, vR 0), (1, vI 0)]) (by intro q hq; simp only [List.mem_cons, List.not_mem_nil, or_false] at hq ⊢; rcases hq with rfl | rfl <;> simp) ?_
  exact L7_1 _ 0 (by decide) _ hB1 FrM.rf (by first | exact (up_same).trans hrm8 | exact up_same) (by have q0 := (up_same : (up P 0 52 1) 0 52 = 1); (clear hmb; omega)) (by first | exact hNONE | exact fun d d0 d1 => by (clear hmb; omega)) (by (clear hmb; omega)) (Nat.lt_succ_self _)
/-! What the reference answers: X12_lettersOf. -/
set_option maxRecDepth 100000 in
set_option maxHeartbeats 4000000 in
theorem f_X12_lettersOf (G : GT) (P : PH) (g : Nat → Int) (L : Nat) (a1 : Int) (h_a1 : (-9223372036854775808) ≤ a1 ∧ a1 ≤ 9223372036854775807) (hB : BdM P) (p_L : L ≤ 6) (p_g : ∀ i : Nat, i < L → 1 ≤ g i ∧ g i ≤ 26) (p_w : a1 = e56 g L) (Q : Option PV → PH → Prop) (hQ : ∀ (r : Int) (_ : 0 ≤ r ∧ r ≤ 8) (_ : r = (L : Int)), Q (some (vI r)) P) : Ct WSM G 1 iX12_lettersOf [vL a1] P Q := by
  refine Ct.of (by decide) (l0 := [(0, vL a1)]) rfl (Nat.le_of_ble_eq_true rfl) ?_
  have hw56 := e56_r (g := g) (k := L) p_L p_g
  refine g_iconst dX12_lettersOf_0 ?_
  refine g_istore_n (l1 := [(2, vI 0), (0, vL a1)]) dX12_lettersOf_1 (by decide) rfl ?_
  refine g_lload_n dX12_lettersOf_2 rfl ?_
  refine g_lstore_n (l1 := [(3, vL a1), (2, vI 0), (0, vL a1)]) dX12_lettersOf_3 (by decide) rfl ?_
  have L4_0 : ∀ (n4_0 : Nat) (x4_3_0 : Int) (h_x4_3_0 : (-9223372036854775808) ≤ x4_3_0 ∧ x4_3_0 ≤ 9223372036854775807) (x4_2_0 : Int) (h_x4_2_0 : 0 ≤ x4_2_0 ∧ x4_2_0 ≤ 8) (i4_0_0 : (x4_2_0 = 0 ∧ x4_3_0 < 9223372036854775808) ∨ (x4_2_0 = 1 ∧ x4_3_0 < 36028797018963968) ∨ (x4_2_0 = 2 ∧ x4_3_0 < 140737488355328) ∨ (x4_2_0 = 3 ∧ x4_3_0 < 549755813888) ∨ (x4_2_0 = 4 ∧ x4_3_0 < 2147483648) ∨ (x4_2_0 = 5 ∧ x4_3_0 < 8388608) ∨ (x4_2_0 = 6 ∧ x4_3_0 < 32768) ∨ (x4_2_0 = 7 ∧ x4_3_0 < 128) ∨ (x4_2_0 = 8 ∧ x4_3_0 ≤ 0) ∨ (x4_2_0 = 0 ∧ x4_3_0 ≤ 0)) (i4_1_0 : x4_3_0 = e56 g (L - (x4_2_0).toNat)) (i4_2_0 : x4_2_0 ≤ (L : Int)) (hm4_0 : (x4_3_0 : Int).toNat < n4_0), Go WSM G 1 iX12_lettersOf 4 [(2, vI x4_2_0), (3, vL x4_3_0)] [] P Q := by
    intro n4_0
    induction n4_0 with
    | zero => intro x4_3_0 h_x4_3_0 x4_2_0 h_x4_2_0 i4_0_0 i4_1_0 i4_2_0 hm4_0; exact absurd hm4_0 (Nat.not_lt_zero _)
    | succ n4_0 ih4_0 =>
    intro x4_3_0 h_x4_3_0 x4_2_0 h_x4_2_0 i4_0_0 i4_1_0 i4_2_0 hm4_0
    refine g_lload_n dX12_lettersOf_4 rfl ?_
    refine g_lconst (z := 0) dX12_lettersOf_5 (by decide) ?_
    refine g_lcmp dX12_lettersOf_6 ⟨by (omega), by (omega)⟩ (by decide) ?_
    refine g_nm (fun b14 e_b14 => ?_)
    have h_b14 := lcmpv_b x4_3_0 0
    have h0_b14 := lcmpv_0 (x := x4_3_0) (y := 0)
    have h1_b14 := lcmpv_lt (x := x4_3_0) (y := 0)
    have h2_b14 := lcmpv_gt (x := x4_3_0) (y := 0)
    rw [← e_b14] at h_b14 h0_b14 h1_b14 h2_b14
    refine g_if_le (tgt := 21) dX12_lettersOf_7 (by decide) ⟨by (omega), by (omega)⟩ (fun k15 => ?_) (fun k15 => ?_)
    · skip
      have hb9 := (e56_b (g := g) (L - (x4_2_0).toNat) (fun i hi => p_g i (by (clear i4_0_0 h0_b14 h1_b14 h2_b14 k15; omega)))).2
      refine g_iload_n dX12_lettersOf_21 rfl ?_
      exact g_retI dX12_lettersOf_22 rfl (hQ x4_2_0 ⟨by (omega), by (omega)⟩ (by (omega)))
    · skip
      have hl9 : x4_2_0 < (L : Int) := by
        rcases (show x4_2_0 < (L : Int) ∨ L - (x4_2_0).toNat = 0 by (clear i4_0_0 h0_b14 h1_b14 h2_b14 k15; omega)) with h | h
        · exact h
        · exfalso
          have q := i4_1_0
          rw [h] at q
          have q2 : e56 g 0 = 0 := rfl
          (omega)
      have hq9 : x4_3_0 = e56 g ((L - (x4_2_0 + 1).toNat) + 1) := by
        rw [i4_1_0]
        congr 1
        (clear i4_0_0 h0_b14 h1_b14 h2_b14 k15; omega)
      have hd9 := (e56_dn (g := g) (n := L - (x4_2_0 + 1).toNat) (p_g _ (by (clear i4_0_0 h0_b14 h1_b14 h2_b14 k15; omega)))).1
      refine g_iinc (l1 := [(2, vI (x4_2_0 + 1)), (3, vL x4_3_0)]) dX12_lettersOf_10 rfl (by decide) rfl ?_
      refine g_lload_n dX12_lettersOf_13 rfl ?_
      refine g_bipush dX12_lettersOf_14 (by decide) ?_
      refine g_lshr dX12_lettersOf_16 ?_
      refine g_nm (fun b16 e_b16 => ?_)
      have h_b16 : (llshr x4_3_0 8) = x4_3_0 / 256 := llshr_c 8 (by decide) (x := x4_3_0) ⟨by (omega), by (omega)⟩
      rw [← e_b16] at h_b16
      refine g_lstore_n (l1 := [(3, vL b16), (2, vI (x4_2_0 + 1))]) dX12_lettersOf_17 (by decide) rfl ?_
      refine g_goto (tgt := 4) dX12_lettersOf_18 (by decide) ?_
      refine g_forget (l1 := [(2, vI (x4_2_0 + 1)), (3, vL b16)]) (by intro q hq; simp only [List.mem_cons, List.not_mem_nil, or_false] at hq ⊢; rcases hq with rfl | rfl <;> simp) ?_
      exact ih4_0 b16 ⟨by (omega), by (omega)⟩ (x4_2_0 + 1) ⟨by (omega), by (omega)⟩ (by (omega)) (by first | (clear i4_0_0 h0_b14 h1_b14 h2_b14 k15; omega) | exact p_w) (by (clear i4_0_0 h0_b14 h1_b14 h2_b14 k15; omega)) (by (omega))
  refine g_forget (l1 := [(2, vI 0), (3, vL a1)]) (by intro q hq; simp only [List.mem_cons, List.not_mem_nil, or_false] at hq ⊢; rcases hq with rfl | rfl <;> simp) ?_
  exact L4_0 _ a1 ⟨by (omega), by (omega)⟩ 0 (by decide) (by (omega)) (by first | (first | (clear g; omega) | omega) | exact p_w) (by (omega)) (Nat.lt_succ_self _)
/-! What the reference answers: X12_letter. -/
set_option maxRecDepth 100000 in
set_option maxHeartbeats 4000000 in
theorem f_X12_letter (G : GT) (P : PH) (K : PH) (a1 : Int) (a2 : Int) (a3 : Int) (h_a1 : (-2147483648) ≤ a1 ∧ a1 ≤ 2147483647) (h_a2 : (-2147483648) ≤ a2 ∧ a2 ≤ 2147483647) (h_a3 : (-2147483648) ≤ a3 ∧ a3 ≤ 2147483647) (hB : BdM P) (p_aw : AW K) (z0 : MKB K P) (Q : Option PV → PH → Prop) (hQ : ∀ (r : Int) (_ : (-2147483648) ≤ r ∧ r ≤ 2147483647) (_ : r = ltr K a1 a2 a3), Q (some (vI r)) P) : Ct WSM G 2 iX12_letter [vR 0, vI a1, vI a2, vI a3] P Q := by
  refine Ct.of (by decide) (l0 := [(0, vR 0), (1, vI a1), (2, vI a2), (3, vI a3)]) rfl (Nat.le_of_ble_eq_true rfl) ?_
  have hb := z0.b
  have haw := p_aw.1
  have hls := ltr_s K a1 a2 a3
  refine g_iload_n dX12_letter_0 rfl ?_
  refine g_iconst dX12_letter_1 ?_
  refine g_iconst dX12_letter_2 ?_
  refine g_sI (av := [vI a3, vI 0, vI 5]) (st := []) (m_X12_is G P a3 0 5 ⟨by (clear hb hls; omega), by (clear hb hls; omega)⟩ (by decide) (by decide) hB  _ (fun rc1 hc1 gc1_is => ⟨rc1, rfl, ?_⟩)) cf_X12_is t_1800 rfl (Nat.le_of_ble_eq_true rfl) (by decide) rfl dX12_letter_3
  refine g_if_eq (tgt := 53) dX12_letter_6 (by decide) ⟨by (clear hb hls gc1_is; omega), by (clear hb hls gc1_is; omega)⟩ (fun k2 => ?_) (fun k2 => ?_)
  · skip
    skip
    refine g_iconst dX12_letter_53 ?_
    exact g_retI dX12_letter_54 rfl (hQ (-1) (by decide) (by (omega)))
  · have k2n : 1 ≤ rc1 := by (clear hb hls gc1_is; omega)
    clear k2
    have r_gc1_is := (gc1_is.resolve_right (by (clear hb hls gc1_is; omega)))
    skip
    refine g_iload_n dX12_letter_9 rfl ?_
    refine g_iconst dX12_letter_10 ?_
    refine g_iconst dX12_letter_11 ?_
    refine g_sI (av := [vI a1, vI 0, vI 1]) (st := []) (m_X12_is G P a1 0 1 ⟨by (clear hb hls gc1_is; omega), by (clear hb hls gc1_is; omega)⟩ (by decide) (by decide) hB  _ (fun rc3 hc3 gc3_is => ⟨rc3, rfl, ?_⟩)) cf_X12_is t_1800 rfl (Nat.le_of_ble_eq_true rfl) (by decide) rfl dX12_letter_12
    refine g_if_eq (tgt := 53) dX12_letter_15 (by decide) ⟨by (clear hb hls gc1_is gc3_is; omega), by (clear hb hls gc1_is gc3_is; omega)⟩ (fun k4 => ?_) (fun k4 => ?_)
    · skip
      skip
      skip
      refine g_iconst dX12_letter_53 ?_
      exact g_retI dX12_letter_54 rfl (hQ (-1) (by decide) (by (clear hb; omega)))
    · have k4n : 1 ≤ rc3 := by (clear hb hls gc1_is gc3_is; omega)
      clear k4
      have r_gc3_is := (gc3_is.resolve_right (by (clear hb hls gc1_is gc3_is; omega)))
      skip
      skip
      refine g_iload_n dX12_letter_18 rfl ?_
      refine g_iconst dX12_letter_19 ?_
      refine g_iload_n dX12_letter_20 rfl ?_
      refine g_if_ne (tgt := 36) dX12_letter_21 (by decide) ⟨by (clear hb hls gc1_is gc3_is; omega), by (clear hb hls gc1_is gc3_is; omega)⟩ (fun k5 => ?_) (fun k5 => ?_)
      · have k5n : 1 ≤ a1 := by (clear hb hls gc1_is gc3_is; omega)
        clear k5
        skip
        skip
        skip
        refine g_aload_n dX12_letter_36 rfl ?_
        refine m_g17 rfl dX12_letter_37 ?_
        refine g_aload_n dX12_letter_40 rfl ?_
        refine m_g13 (z := (P 0 13)) rfl dX12_letter_41 rfl ?_
        refine m_l5 (z := (P 5 (P 0 13))) dX12_letter_44 ⟨by have q0 := b0_13 hB; (clear hb hls gc1_is gc3_is; omega), by have q0 := b0_13 hB; (clear hb hls gc1_is gc3_is; omega)⟩ rfl ?_
        refine g_iconst dX12_letter_45 ?_
        refine g_isub dX12_letter_46 ?_
        have f6 := bl_5 (k := (P 0 13)) hB
        refine g_sI (av := [vI a2, vI 0, vI ((P 5 (P 0 13)) - 1)]) (st := []) (m_X12_is G P a2 0 ((P 5 (P 0 13)) - 1) ⟨by (clear hb hls gc1_is gc3_is; omega), by (clear hb hls gc1_is gc3_is; omega)⟩ (by decide) ⟨by have q0 := bl_5 (k := (P 0 13)) hB; (clear hb hls gc1_is gc3_is; omega), by have q0 := bl_5 (k := (P 0 13)) hB; (clear hb hls gc1_is gc3_is; omega)⟩ hB  _ (fun rc7 hc7 gc7_is => ⟨rc7, rfl, ?_⟩)) cf_X12_is t_1800 rfl (Nat.le_of_ble_eq_true rfl) (by decide) rfl dX12_letter_47
        refine g_if_ne (tgt := 55) dX12_letter_50 (by decide) ⟨by (clear hb hls gc1_is gc3_is gc7_is; omega), by (clear hb hls gc1_is gc3_is gc7_is; omega)⟩ (fun k8 => ?_) (fun k8 => ?_)
        · have k8n : 1 ≤ rc7 := by (clear hb hls gc1_is gc3_is gc7_is; omega)
          clear k8
          have r_gc7_is := (gc7_is.resolve_right (by (clear hb hls gc1_is gc3_is gc7_is; omega)))
          skip
          skip
          skip
          refine g_iload_n dX12_letter_55 rfl ?_
          refine g_if_ne (tgt := 75) dX12_letter_56 (by decide) ⟨by (clear hb hls gc1_is gc3_is gc7_is; omega), by (clear hb hls gc1_is gc3_is gc7_is; omega)⟩ (fun k9 => ?_) (fun k9 => by exfalso; (clear hb hls gc1_is gc3_is gc7_is; omega))
          skip
          skip
          skip
          skip
          refine g_aload_n dX12_letter_75 rfl ?_
          refine m_g35 rfl dX12_letter_76 ?_
          refine g_bipush dX12_letter_79 (by decide) ?_
          refine g_aload_n dX12_letter_81 rfl ?_
          refine m_g13 (z := (P 0 13)) rfl dX12_letter_82 rfl ?_
          refine g_imul dX12_letter_85 ?_
          refine g_iload_n dX12_letter_86 rfl ?_
          refine g_iadd dX12_letter_87 ?_
          refine m_l23 (z := (P 23 ((24 * (P 0 13)) + a2))) dX12_letter_88 ⟨by have q0 := b0_13 hB; (clear hb hls gc1_is gc3_is gc7_is k9; omega), by have q0 := b0_13 hB; (clear hb hls gc1_is gc3_is gc7_is k9; omega)⟩ rfl ?_
          refine g_lstore (l1 := [(4, vL (P 23 ((24 * (P 0 13)) + a2))), (0, vR 0), (1, vI a1), (2, vI a2), (3, vI a3)]) dX12_letter_89 (by decide) rfl ?_
          obtain ⟨g9, L9, hL1, hL6, hg9, hv9, hw9⟩ : NW (if a1 = 0 then K 1 a2 else K 4 a2) (P 23 ((24 * (P 0 13)) + a2)) := by first | (rw [if_pos (by (first | (clear hb hls gc1_is gc3_is gc7_is k9; omega) | (clear hb hls gc1_is gc3_is gc7_is; omega) | (clear hb hls gc1_is gc3_is k9; omega) | (clear hb hls gc1_is gc7_is k9; omega) | (clear hb hls gc3_is gc7_is k9; omega) | (clear hb gc1_is gc3_is gc7_is k9; omega) | (clear hls gc1_is gc3_is gc7_is k9; omega) | (clear hb hls gc1_is gc3_is; omega) | (clear hls hb; omega) | omega))]; exact (z0.k (by (first | (clear hb hls gc1_is gc3_is gc7_is k9; omega) | (clear hb hls gc1_is gc3_is gc7_is; omega) | (clear hb hls gc1_is gc3_is k9; omega) | (clear hb hls gc1_is gc7_is k9; omega) | (clear hb hls gc3_is gc7_is k9; omega) | (clear hb gc1_is gc3_is gc7_is k9; omega) | (clear hls gc1_is gc3_is gc7_is k9; omega) | (clear hb hls gc1_is gc3_is; omega) | (clear hls hb; omega) | omega)) (by (first | (clear hb hls gc1_is gc3_is gc7_is k9; omega) | (clear hb hls gc1_is gc3_is gc7_is; omega) | (clear hb hls gc1_is gc3_is k9; omega) | (clear hb hls gc1_is gc7_is k9; omega) | (clear hb hls gc3_is gc7_is k9; omega) | (clear hb gc1_is gc3_is gc7_is k9; omega) | (clear hls gc1_is gc3_is gc7_is k9; omega) | (clear hb hls gc1_is gc3_is; omega) | (clear hls hb; omega) | omega))).1) | (rw [if_neg (by (clear hb hls gc1_is gc3_is gc7_is k9; omega))]; exact z0.c (by (clear hb hls gc1_is gc3_is gc7_is k9; omega)) (by (clear hls gc1_is gc3_is gc7_is k9; omega)))
          have hlt := lt_g hL6 hg9 (k := a3) ⟨by (clear hb hls gc1_is gc3_is gc7_is k9; omega), by (clear hb hls gc1_is gc3_is gc7_is k9; omega)⟩
          rw [← hv9] at hlt
          have hlt2 : (a3 < (L9 : Int) ∧ ltr K a1 a2 a3 = g9 a3.toNat) ∨ ((L9 : Int) ≤ a3 ∧ ltr K a1 a2 a3 = 0) := by
            by_cases e0 : a1 = 0
            · rw [if_pos e0] at hlt; (clear hb hls gc1_is gc3_is gc7_is k9 hlt; omega)
            · rw [if_neg e0] at hlt; (omega)
          clear hlt hls
          refine g_lload dX12_letter_91 rfl ?_
          have f10 := bl_23 (k := ((24 * (P 0 13)) + a2)) hB
          refine g_sI (av := [vL (P 23 ((24 * (P 0 13)) + a2))]) (st := []) (f_X12_lettersOf G P (g9) (L9) (P 23 ((24 * (P 0 13)) + a2)) ⟨by have q0 := bl_23 (k := ((24 * (P 0 13)) + a2)) hB; (clear hb gc1_is gc3_is gc7_is k9 hlt2; omega), by have q0 := bl_23 (k := ((24 * (P 0 13)) + a2)) hB; (clear hb gc1_is gc3_is gc7_is k9 hlt2; omega)⟩ hB (hL6) (hg9) (hw9) _ (fun rc11 hc11 gc11_n => ⟨rc11, rfl, ?_⟩)) cf_X12_lettersOf t_1871 rfl (Nat.le_of_ble_eq_true rfl) (by decide) rfl dX12_letter_93
          refine g_istore (l1 := [(6, vI rc11), (4, vL (P 23 ((24 * (P 0 13)) + a2))), (0, vR 0), (1, vI a1), (2, vI a2), (3, vI a3)]) dX12_letter_96 (by decide) rfl ?_
          refine g_iload_n dX12_letter_98 rfl ?_
          refine g_iload dX12_letter_99 rfl ?_
          refine g_icmp_lt (tgt := 108) dX12_letter_101 (by decide) ⟨by (clear hb gc1_is gc3_is gc7_is k9 hlt2; omega), by (clear hb gc1_is gc3_is gc7_is k9 hlt2; omega)⟩ ⟨by (clear hb gc1_is gc3_is gc7_is k9 hlt2; omega), by (clear hb gc1_is gc3_is gc7_is k9 hlt2; omega)⟩ (fun k12 => ?_) (fun k12 => ?_)
          · skip
            skip
            skip
            skip
            refine g_lload dX12_letter_108 rfl ?_
            refine g_bipush dX12_letter_110 (by decide) ?_
            refine g_iload dX12_letter_112 rfl ?_
            refine g_iconst dX12_letter_114 ?_
            refine g_isub dX12_letter_115 ?_
            refine g_iload_n dX12_letter_116 rfl ?_
            refine g_isub dX12_letter_117 ?_
            refine g_imul dX12_letter_118 ?_
            refine g_lshr dX12_letter_119 ?_
            refine g_nm (fun b13 e_b13 => ?_)
            have h_b13 := llshr_ir (P 23 ((24 * (P 0 13)) + a2)) (8 * ((rc11 - 1) - a3))
            rw [← e_b13] at h_b13
            have hs9 : b13 = e56 g9 (a3.toNat + 1) := by rw [e_b13, show (((8 * ((rc11 - 1) - a3))) : Int) = ((8 * (L9 - 1 - a3.toNat) : Nat) : Int) by (clear hb gc1_is gc3_is gc7_is k9 hlt2; omega), llshr_8 _ (by (clear hb gc1_is gc3_is gc7_is k9 hlt2 k12; omega)) ⟨by have q := e56_r hL6 hg9; (clear hb gc1_is gc3_is gc7_is k9 hlt2 k12; omega), by have q := e56_r hL6 hg9; (clear hb gc1_is gc3_is gc7_is k9 hlt2 k12; omega)⟩, hw9, e56_sh hg9 _ (by (clear hb gc1_is gc3_is gc7_is k9 hlt2 k12; omega))]; congr 1; (clear hb gc1_is gc3_is gc7_is k9 hlt2; omega)
            have hs8 := e56_r (g := g9) (k := a3.toNat + 1) (by (clear hb gc1_is gc3_is gc7_is k9 hlt2 k12; omega)) (fun i hi => hg9 i (by (clear hb gc1_is gc3_is gc7_is k9 hlt2; omega)))
            have h_b9 : 0 ≤ b13 ∧ b13 ≤ 281474976710655 := by (clear hb gc1_is gc3_is gc7_is k9 hlt2 k12; omega)
            refine g_ldc2 (z := 255) dX12_letter_120 t_1874 (by decide) ?_
            refine g_land dX12_letter_123 ?_
            refine g_nm (fun b14 e_b14 => ?_)
            have h_b14 := lland_r (x := b13) (y := 255) ⟨by (clear hb gc1_is gc3_is gc7_is k9 hlt2 k12; omega), by (clear hb gc1_is gc3_is gc7_is k9 hlt2 k12; omega)⟩
            rw [← e_b14] at h_b14
            have hd9 := (e56_dn (g := g9) (n := a3.toNat) (hg9 _ (by (clear hb gc1_is gc3_is gc7_is k9 hlt2; omega)))).2
            have hl9 : b14 = 96 + g9 a3.toNat := by rw [e_b14, lland_255 (by (clear hb gc1_is gc3_is gc7_is k9 hlt2 k12; omega))]; (clear hb gc1_is gc3_is gc7_is k9 hlt2 k12; omega)
            have hgb9 := hg9 a3.toNat (by (clear hb gc1_is gc3_is gc7_is k9 hlt2; omega))
            refine g_l2i dX12_letter_124 ?_
            refine g_bipush dX12_letter_125 (by decide) ?_
            refine g_isub dX12_letter_127 ?_
            refine g_iconst dX12_letter_128 ?_
            refine g_iadd dX12_letter_129 ?_
            exact g_retI dX12_letter_130 rfl (hQ ((b14 - 97) + 1) ⟨by (clear hb gc1_is gc3_is gc7_is k9 hlt2 k12; omega), by (clear hb gc1_is gc3_is gc7_is k9 hlt2 k12; omega)⟩ (by (clear hb gc1_is gc3_is gc7_is k9; omega)))
          · skip
            skip
            skip
            skip
            refine g_iconst dX12_letter_104 ?_
            refine g_goto (tgt := 130) dX12_letter_105 (by decide) ?_
            exact g_retI dX12_letter_130 rfl (hQ 0 (by decide) (by (clear hb gc1_is gc3_is gc7_is k9; omega)))
        · skip
          skip
          skip
          skip
          refine g_iconst dX12_letter_53 ?_
          exact g_retI dX12_letter_54 rfl (hQ (-1) (by decide) (by (omega)))
      · skip
        skip
        skip
        refine g_aload_n dX12_letter_24 rfl ?_
        refine m_g14 rfl dX12_letter_25 ?_
        refine g_aload_n dX12_letter_28 rfl ?_
        refine m_g13 (z := (P 0 13)) rfl dX12_letter_29 rfl ?_
        refine m_l2 (z := (P 2 (P 0 13))) dX12_letter_32 ⟨by have q0 := b0_13 hB; (clear hb hls gc1_is gc3_is k5; omega), by have q0 := b0_13 hB; (clear hb hls gc1_is gc3_is k5; omega)⟩ rfl ?_
        refine g_goto (tgt := 45) dX12_letter_33 (by decide) ?_
        refine g_iconst dX12_letter_45 ?_
        refine g_isub dX12_letter_46 ?_
        have f15 := bl_2 (k := (P 0 13)) hB
        refine g_sI (av := [vI a2, vI 0, vI ((P 2 (P 0 13)) - 1)]) (st := []) (m_X12_is G P a2 0 ((P 2 (P 0 13)) - 1) ⟨by (clear hb hls gc1_is gc3_is k5; omega), by (clear hb hls gc1_is gc3_is k5; omega)⟩ (by decide) ⟨by have q0 := bl_2 (k := (P 0 13)) hB; (clear hb hls gc1_is gc3_is k5; omega), by have q0 := bl_2 (k := (P 0 13)) hB; (clear hb hls gc1_is gc3_is k5; omega)⟩ hB  _ (fun rc16 hc16 gc16_is => ⟨rc16, rfl, ?_⟩)) cf_X12_is t_1800 rfl (Nat.le_of_ble_eq_true rfl) (by decide) rfl dX12_letter_47
        refine g_if_ne (tgt := 55) dX12_letter_50 (by decide) ⟨by (clear hb hls gc1_is gc3_is k5 gc16_is; omega), by (clear hb hls gc1_is gc3_is k5 gc16_is; omega)⟩ (fun k17 => ?_) (fun k17 => ?_)
        · have k17n : 1 ≤ rc16 := by (clear hb hls gc1_is gc3_is k5 gc16_is; omega)
          clear k17
          have r_gc16_is := (gc16_is.resolve_right (by (clear hb hls gc1_is gc3_is k5 gc16_is; omega)))
          skip
          skip
          skip
          refine g_iload_n dX12_letter_55 rfl ?_
          refine g_if_ne (tgt := 75) dX12_letter_56 (by decide) ⟨by (clear hb hls gc1_is gc3_is k5 gc16_is; omega), by (clear hb hls gc1_is gc3_is k5 gc16_is; omega)⟩ (fun k18 => by exfalso; (clear hb hls gc1_is gc3_is gc16_is; omega)) (fun k18 => ?_)
          skip
          skip
          skip
          skip
          refine g_aload_n dX12_letter_59 rfl ?_
          refine m_g34 rfl dX12_letter_60 ?_
          refine g_iconst dX12_letter_63 ?_
          refine g_aload_n dX12_letter_64 rfl ?_
          refine m_g13 (z := (P 0 13)) rfl dX12_letter_65 rfl ?_
          refine g_imul dX12_letter_68 ?_
          refine g_iload_n dX12_letter_69 rfl ?_
          refine g_iadd dX12_letter_70 ?_
          refine m_l22 (z := (P 22 ((4 * (P 0 13)) + a2))) dX12_letter_71 ⟨by have q0 := b0_13 hB; (clear hb hls gc1_is gc3_is k5 gc16_is k18; omega), by have q0 := b0_13 hB; (clear hb hls gc1_is gc3_is k5 gc16_is k18; omega)⟩ rfl ?_
          refine g_goto (tgt := 89) dX12_letter_72 (by decide) ?_
          refine g_lstore (l1 := [(4, vL (P 22 ((4 * (P 0 13)) + a2))), (0, vR 0), (1, vI a1), (2, vI a2), (3, vI a3)]) dX12_letter_89 (by decide) rfl ?_
          obtain ⟨g9, L9, hL1, hL6, hg9, hv9, hw9⟩ : NW (if a1 = 0 then K 1 a2 else K 4 a2) (P 22 ((4 * (P 0 13)) + a2)) := by first | (rw [if_pos (by (clear hb hls gc1_is gc3_is k5 gc16_is; omega))]; exact (z0.k (by (clear hb hls gc1_is gc3_is k5 gc16_is k18; omega)) (by (clear hls gc1_is gc3_is k5 gc16_is k18; omega))).1) | (rw [if_neg (by (first | (clear hb hls gc1_is gc3_is k5 gc16_is k18; omega) | (clear hb hls gc1_is gc3_is k5 gc16_is; omega) | (clear hb hls gc1_is gc3_is k5 k18; omega) | (clear hb hls gc1_is gc3_is gc16_is k18; omega) | (clear hb hls gc1_is k5 gc16_is k18; omega) | (clear hb hls gc3_is k5 gc16_is k18; omega) | (clear hb gc1_is gc3_is k5 gc16_is k18; omega) | (clear hls gc1_is gc3_is k5 gc16_is k18; omega) | (clear hb hls gc1_is gc3_is k5; omega) | (clear gc1_is hls hb; omega) | omega))]; exact z0.c (by (first | (clear hb hls gc1_is gc3_is k5 gc16_is k18; omega) | (clear hb hls gc1_is gc3_is k5 gc16_is; omega) | (clear hb hls gc1_is gc3_is k5 k18; omega) | (clear hb hls gc1_is gc3_is gc16_is k18; omega) | (clear hb hls gc1_is k5 gc16_is k18; omega) | (clear hb hls gc3_is k5 gc16_is k18; omega) | (clear hb gc1_is gc3_is k5 gc16_is k18; omega) | (clear hls gc1_is gc3_is k5 gc16_is k18; omega) | (clear hb hls gc1_is gc3_is k5; omega) | (clear gc1_is hls hb; omega) | omega)) (by (first | (clear hb hls gc1_is gc3_is k5 gc16_is k18; omega) | (clear hb hls gc1_is gc3_is k5 gc16_is; omega) | (clear hb hls gc1_is gc3_is k5 k18; omega) | (clear hb hls gc1_is gc3_is gc16_is k18; omega) | (clear hb hls gc1_is k5 gc16_is k18; omega) | (clear hb hls gc3_is k5 gc16_is k18; omega) | (clear hb gc1_is gc3_is k5 gc16_is k18; omega) | (clear hls gc1_is gc3_is k5 gc16_is k18; omega) | (clear hb hls gc1_is gc3_is k5; omega) | (clear gc1_is hls hb; omega) | omega)))
          have hlt := lt_g hL6 hg9 (k := a3) ⟨by (clear hb hls gc1_is gc3_is k5 gc16_is k18; omega), by (clear hb hls gc1_is gc3_is k5 gc16_is k18; omega)⟩
          rw [← hv9] at hlt
          have hlt2 : (a3 < (L9 : Int) ∧ ltr K a1 a2 a3 = g9 a3.toNat) ∨ ((L9 : Int) ≤ a3 ∧ ltr K a1 a2 a3 = 0) := by
            by_cases e0 : a1 = 0
            · rw [if_pos e0] at hlt; (omega)
            · rw [if_neg e0] at hlt; (clear hb hls gc1_is gc3_is k5 gc16_is hlt; omega)
          clear hlt hls
          refine g_lload dX12_letter_91 rfl ?_
          have f19 := bl_22 (k := ((4 * (P 0 13)) + a2)) hB
          refine g_sI (av := [vL (P 22 ((4 * (P 0 13)) + a2))]) (st := []) (f_X12_lettersOf G P (g9) (L9) (P 22 ((4 * (P 0 13)) + a2)) ⟨by have q0 := bl_22 (k := ((4 * (P 0 13)) + a2)) hB; (clear hb gc1_is gc3_is k5 gc16_is k18 hlt2; omega), by have q0 := bl_22 (k := ((4 * (P 0 13)) + a2)) hB; (clear hb gc1_is gc3_is k5 gc16_is k18 hlt2; omega)⟩ hB (hL6) (hg9) (hw9) _ (fun rc20 hc20 gc20_n => ⟨rc20, rfl, ?_⟩)) cf_X12_lettersOf t_1871 rfl (Nat.le_of_ble_eq_true rfl) (by decide) rfl dX12_letter_93
          refine g_istore (l1 := [(6, vI rc20), (4, vL (P 22 ((4 * (P 0 13)) + a2))), (0, vR 0), (1, vI a1), (2, vI a2), (3, vI a3)]) dX12_letter_96 (by decide) rfl ?_
          refine g_iload_n dX12_letter_98 rfl ?_
          refine g_iload dX12_letter_99 rfl ?_
          refine g_icmp_lt (tgt := 108) dX12_letter_101 (by decide) ⟨by (clear hb gc1_is gc3_is k5 gc16_is k18 hlt2; omega), by (clear hb gc1_is gc3_is k5 gc16_is k18 hlt2; omega)⟩ ⟨by (clear hb gc1_is gc3_is k5 gc16_is k18 hlt2; omega), by (clear hb gc1_is gc3_is k5 gc16_is k18 hlt2; omega)⟩ (fun k21 => ?_) (fun k21 => ?_)
          · skip
            skip
            skip
            skip
            refine g_lload dX12_letter_108 rfl ?_
            refine g_bipush dX12_letter_110 (by decide) ?_
            refine g_iload dX12_letter_112 rfl ?_
            refine g_iconst dX12_letter_114 ?_
            refine g_isub dX12_letter_115 ?_
            refine g_iload_n dX12_letter_116 rfl ?_
            refine g_isub dX12_letter_117 ?_
            refine g_imul dX12_letter_118 ?_
            refine g_lshr dX12_letter_119 ?_
            refine g_nm (fun b22 e_b22 => ?_)
            have h_b22 := llshr_ir (P 22 ((4 * (P 0 13)) + a2)) (8 * ((rc20 - 1) - a3))
            rw [← e_b22] at h_b22
            have hs9 : b22 = e56 g9 (a3.toNat + 1) := by rw [e_b22, show (((8 * ((rc20 - 1) - a3))) : Int) = ((8 * (L9 - 1 - a3.toNat) : Nat) : Int) by (clear hb gc1_is gc3_is k5 gc16_is k18 hlt2; omega), llshr_8 _ (by (clear hb gc1_is gc3_is k5 gc16_is k18 hlt2 k21; omega)) ⟨by have q := e56_r hL6 hg9; (clear hb gc1_is gc3_is k5 gc16_is k18 hlt2 k21; omega), by have q := e56_r hL6 hg9; (clear hb gc1_is gc3_is k5 gc16_is k18 hlt2 k21; omega)⟩, hw9, e56_sh hg9 _ (by (clear hb gc1_is gc3_is k5 gc16_is k18 hlt2 k21; omega))]; congr 1; (clear hb gc1_is gc3_is k5 gc16_is k18 hlt2; omega)
            have hs8 := e56_r (g := g9) (k := a3.toNat + 1) (by (clear hb gc1_is gc3_is k5 gc16_is k18 hlt2 k21; omega)) (fun i hi => hg9 i (by (clear hb gc1_is gc3_is k5 gc16_is k18 hlt2; omega)))
            have h_b9 : 0 ≤ b22 ∧ b22 ≤ 281474976710655 := by (clear hb gc1_is gc3_is k5 gc16_is k18 hlt2 k21; omega)
            refine g_ldc2 (z := 255) dX12_letter_120 t_1874 (by decide) ?_
            refine g_land dX12_letter_123 ?_
            refine g_nm (fun b23 e_b23 => ?_)
            have h_b23 := lland_r (x := b22) (y := 255) ⟨by (clear hb gc1_is gc3_is k5 gc16_is k18 hlt2 k21; omega), by (clear hb gc1_is gc3_is k5 gc16_is k18 hlt2 k21; omega)⟩
            rw [← e_b23] at h_b23
            have hd9 := (e56_dn (g := g9) (n := a3.toNat) (hg9 _ (by (clear hb gc1_is gc3_is k5 gc16_is k18 hlt2; omega)))).2
            have hl9 : b23 = 96 + g9 a3.toNat := by rw [e_b23, lland_255 (by (clear hb gc1_is gc3_is k5 gc16_is k18 hlt2 k21; omega))]; (clear hb gc1_is gc3_is k5 gc16_is k18 hlt2 k21; omega)
            have hgb9 := hg9 a3.toNat (by (clear hb gc1_is gc3_is k5 gc16_is k18 hlt2; omega))
            refine g_l2i dX12_letter_124 ?_
            refine g_bipush dX12_letter_125 (by decide) ?_
            refine g_isub dX12_letter_127 ?_
            refine g_iconst dX12_letter_128 ?_
            refine g_iadd dX12_letter_129 ?_
            exact g_retI dX12_letter_130 rfl (hQ ((b23 - 97) + 1) ⟨by (clear hb gc1_is gc3_is k5 gc16_is k18 hlt2 k21; omega), by (clear hb gc1_is gc3_is k5 gc16_is k18 hlt2 k21; omega)⟩ (by (clear hb gc1_is gc3_is k5 gc16_is k18; omega)))
          · skip
            skip
            skip
            skip
            refine g_iconst dX12_letter_104 ?_
            refine g_goto (tgt := 130) dX12_letter_105 (by decide) ?_
            exact g_retI dX12_letter_130 rfl (hQ 0 (by decide) (by (clear hb gc1_is gc3_is k5 gc16_is k18; omega)))
        · skip
          skip
          skip
          skip
          refine g_iconst dX12_letter_53 ?_
          exact g_retI dX12_letter_54 rfl (hQ (-1) (by decide) (by (omega)))
/-! What the reference answers: X12_lowest. -/
set_option maxRecDepth 100000 in
set_option maxHeartbeats 4000000 in
theorem f_X12_lowest (G : GT) (P : PH) (a1 : Int) (h_a1 : 0 ≤ a1 ∧ a1 ≤ 4095) (hB : BdM P) (Q : Option PV → PH → Prop) (hQ : ∀ (r : Int) (_ : (-1) ≤ r ∧ r ≤ 11) (_ : (a1 = 0 ∧ r = -1) ∨ (a1 ≠ 0 ∧ 0 ≤ r)) (_ : r = -1 ∨ iand (ishr a1 r) 1 = 1) (_ : r = -1 ∨ tb a1 r = true) (_ : ∀ i : Int, 0 ≤ i → i < r → tb a1 i = false), Q (some (vI r)) P) : Ct WSM G 1 iX12_lowest [vI a1] P Q := by
  refine Ct.of (by decide) (l0 := [(0, vI a1)]) rfl (Nat.le_of_ble_eq_true rfl) ?_
  refine g_iload_n dX12_lowest_0 rfl ?_
  refine g_if_ne (tgt := 6) dX12_lowest_1 (by decide) ⟨by omega, by omega⟩ (fun k1 => ?_) (fun k1 => ?_)
  · have k1n : 1 ≤ a1 := by (first | (clear k1; omega) | omega)
    clear k1
    refine g_iconst dX12_lowest_6 ?_
    refine g_istore_n (l1 := [(1, vI 0), (0, vI a1)]) dX12_lowest_7 (by decide) rfl ?_
    have L8_1 : ∀ (n8_1 : Nat) (x8_1_1 : Int) (h_x8_1_1 : 0 ≤ x8_1_1 ∧ x8_1_1 ≤ 11) (i8_0_1 : ∀ q : Nat, (q : Int) < x8_1_1 → iand (ishr a1 (q : Int)) 1 = 0) (i8_1_1 : ∀ i : Int, 0 ≤ i → i < x8_1_1 → tb a1 i = false) (hm8_1 : ((12 - x8_1_1) : Int).toNat < n8_1), Go WSM G 1 iX12_lowest 8 [(0, vI a1), (1, vI x8_1_1)] [] P Q := by
      intro n8_1
      induction n8_1 with
      | zero => intro x8_1_1 h_x8_1_1 i8_0_1 i8_1_1 hm8_1; exact absurd hm8_1 (Nat.not_lt_zero _)
      | succ n8_1 ih8_1 =>
      intro x8_1_1 h_x8_1_1 i8_0_1 i8_1_1 hm8_1
      refine g_iload_n dX12_lowest_8 rfl ?_
      refine g_iload_n dX12_lowest_9 rfl ?_
      refine g_ishr dX12_lowest_10 ?_
      refine g_nm (fun b15 e_b15 => ?_)
      have h_b15 := ishr_ir a1 x8_1_1
      rw [← e_b15] at h_b15
      refine g_iconst dX12_lowest_11 ?_
      refine g_iand dX12_lowest_12 ?_
      refine g_nm (fun b16 e_b16 => ?_)
      have h_b16 := iand_r (x := b15) (y := 1) ⟨by omega, by omega⟩
      rw [← e_b16] at h_b16
      have hz := e_b16
      rw [e_b15] at hz
      have hne : b16 = 0 → x8_1_1 ≤ 10 := fun h0 => by
        rcases (show x8_1_1 < 11 ∨ 11 ≤ x8_1_1 by omega) with h | h
        · omega
        · exfalso
          have := low12' (x := a1) ⟨by omega, by omega⟩ (fun q hq => by
            rcases (show (q : Int) < x8_1_1 ∨ (q : Int) = x8_1_1 by omega) with h9 | h9
            · exact i8_0_1 q h9
            · rw [h9, ← hz]; exact h0)
          omega
      have hstep : b16 = 0 → ∀ q : Nat, (q : Int) < (x8_1_1 + 1) → iand (ishr a1 (q : Int)) 1 = 0 := fun h0 q hq => by
        rcases (show (q : Int) < x8_1_1 ∨ (q : Int) = x8_1_1 by (first | (clear hne; omega) | omega)) with h9 | h9
        · exact i8_0_1 q h9
        · rw [h9, ← hz]; exact h0
      refine g_if_ne (tgt := 22) dX12_lowest_13 (by decide) ⟨by (first | (clear hne hstep; omega) | omega), by (first | (clear hne hstep; omega) | omega)⟩ (fun k17 => ?_) (fun k17 => ?_)
      · have k17n : 1 ≤ b16 := by (first | (clear hne hstep k17; omega) | (clear hne hstep; omega) | (clear hne k17; omega) | (clear hstep k17; omega) | (clear hne; omega) | omega)
        clear k17
        have hlt9 : tb a1 x8_1_1 = true := by
          have hb := bit_is (x := a1) (i := x8_1_1) ⟨by (first | (clear hne hstep; omega) | (clear hne; omega) | (clear hstep; omega) | omega), by (first | (clear hne hstep; omega) | (clear hne; omega) | (clear hstep; omega) | omega)⟩ ⟨by (first | (clear hne hstep; omega) | (clear hne; omega) | (clear hstep; omega) | omega), by (first | (clear hne hstep; omega) | (clear hne; omega) | (clear hstep; omega) | omega)⟩
          by_cases q : tb a1 x8_1_1 = true
          · exact q
          · exfalso; rw [if_neg q] at hb; (first | (clear hne hstep; omega) | (clear hne; omega) | (clear hstep; omega) | omega)
        refine g_iload_n dX12_lowest_22 rfl ?_
        exact g_retI dX12_lowest_23 rfl (hQ x8_1_1 ⟨by (first | (clear hne hstep; omega) | omega), by (first | (clear hne hstep; omega) | omega)⟩ (by (first | (clear hne hstep; omega) | (clear hne; omega) | (clear hstep; omega) | omega)) (Or.inr (by (first | (clear hne hstep; omega) | (clear hne; omega) | (clear hstep; omega) | omega))) (Or.inr hlt9) (i8_1_1))
      · have hlo9 : ∀ i : Int, 0 ≤ i → i < x8_1_1 + 1 → tb a1 i = false := by
          intro i i0 i1
          by_cases e : i = x8_1_1
          · have hb := bit_is (x := a1) (i := i) ⟨by (first | (clear hne hstep k17; omega) | (clear hne hstep; omega) | (clear hne k17; omega) | (clear hstep k17; omega) | (clear hne; omega) | omega), by (first | (clear hne hstep k17; omega) | (clear hne hstep; omega) | (clear hne k17; omega) | (clear hstep k17; omega) | (clear hne; omega) | omega)⟩ ⟨by (first | (clear hne hstep k17; omega) | (clear hne hstep; omega) | (clear hne k17; omega) | (clear hstep k17; omega) | (clear hne; omega) | omega), by (first | (clear hne hstep k17; omega) | (clear hne hstep; omega) | (clear hne k17; omega) | (clear hstep k17; omega) | (clear hne; omega) | omega)⟩
            rw [e] at hb ⊢
            by_cases q : tb a1 x8_1_1 = true
            · exfalso; rw [if_pos q] at hb; (first | (clear hne hstep k17; omega) | (clear hne hstep; omega) | (clear hne k17; omega) | (clear hstep k17; omega) | (clear hne; omega) | omega)
            · simpa using q
          · exact i8_1_1 i i0 (by (first | (clear hne hstep k17; omega) | (clear hne hstep; omega) | (clear hne k17; omega) | (clear hstep k17; omega) | (clear hne; omega) | omega))
        refine g_iinc (l1 := [(1, vI (x8_1_1 + 1)), (0, vI a1)]) dX12_lowest_16 rfl (by decide) rfl ?_
        refine g_goto (tgt := 8) dX12_lowest_19 (by decide) ?_
        refine g_forget (l1 := [(0, vI a1), (1, vI (x8_1_1 + 1))]) (by intro q hq; simp only [List.mem_cons, List.not_mem_nil, or_false] at hq ⊢; rcases hq with rfl | rfl <;> simp) ?_
        exact ih8_1 (x8_1_1 + 1) ⟨by (first | (clear hne hstep k17; omega) | omega), by (first | (clear hne hstep k17; omega) | omega)⟩ (by first | (intro q hq; exfalso; (first | (clear hne hstep k17; omega) | (clear hne hstep; omega) | (clear hne k17; omega) | (clear hstep k17; omega) | (clear hne; omega) | omega)) | exact hstep (by assumption)) (by first | exact hlo9 | (intro i i0 i1; exfalso; (first | (clear hne hstep k17; omega) | (clear hne hstep; omega) | (clear hne k17; omega) | (clear hstep k17; omega) | (clear hne; omega) | omega))) (by (first | (clear hne hstep k17; omega) | (clear hne hstep; omega) | (clear hne k17; omega) | (clear hstep k17; omega) | (clear hne; omega) | omega))
    refine g_forget (l1 := [(0, vI a1), (1, vI 0)]) (by intro q hq; simp only [List.mem_cons, List.not_mem_nil, or_false] at hq ⊢; rcases hq with rfl | rfl <;> simp) ?_
    exact L8_1 _ 0 (by decide) (by first | (intro q hq; exfalso; omega) | exact hstep (by assumption)) (by first | exact hlo9 | (intro i i0 i1; exfalso; omega)) (Nat.lt_succ_self _)
  · refine g_iconst dX12_lowest_4 ?_
    exact g_retI dX12_lowest_5 rfl (hQ (-1) (by decide) (by (first | (clear k1; omega) | omega)) (Or.inl rfl) (Or.inl rfl) (fun i i0 i1 => by exfalso; (first | (clear k1; omega) | omega)))
/-! What the reference answers: X12_on. -/
set_option maxRecDepth 100000 in
set_option maxHeartbeats 4000000 in
theorem f_X12_on (G : GT) (P : PH) (T : TT) (A : PH) (M : PH) (hB : BdM P) (z0 : CM T P) (z1 : AM A P) (z2 : MH M P) (z3 : MMB M P) (Q : Option PV → PH → Prop) (hQ : ∀ (r : Int) (_ : 0 ≤ r ∧ r ≤ 1) (P1 : PH) (_ : BdM P1) (_ : FrM ([1, 60], [28, 35, 36, 37, 38, 39, 40]) P P1) (_ : P1 0 1 = 0) (_ : (r = 1 ∧ onOk T M) ∨ (r = 0 ∧ ¬ onOk T M)) (_ : AM (aOn T M A) P1), Q (some (vI r)) P1) : Ct WSM G 3 iX12_on [vR 0] P Q := by
  refine Ct.of (by decide) (l0 := [(0, vR 0)]) rfl (Nat.le_of_ble_eq_true rfl) ?_
  have hb := z1.b
  refine g_aload_n dX12_on_0 rfl ?_
  refine m_g1 (z := (P 0 1)) rfl dX12_on_1 rfl ?_
  refine g_istore_n (l1 := [(1, vI (P 0 1)), (0, vR 0)]) dX12_on_4 (by decide) rfl ?_
  refine g_aload_n dX12_on_5 rfl ?_
  refine g_iconst dX12_on_6 ?_
  refine m_p1 rfl dX12_on_7 ?_
  have hB1 := bs_1 (z := 0) hB (by decide)
  refine g_aload_n dX12_on_10 rfl ?_
  refine g_iload_n dX12_on_11 rfl ?_
  have f2 := b0_1 hB
  refine g_vI (av := [vI (P 0 1)]) (o := 0) (st := []) (f_X12_comesOn G (up P 0 1 0) (T) (A) (M) (P 0 1) ⟨by have q0 := b0_1 hB; (clear hb; omega), by have q0 := b0_1 hB; (clear hb; omega)⟩ hB1 (z0.1) (fun i i0 i1 => (((up_o (by decide)).trans rfl)).trans (z0.2 i i0 i1)) ((AM.fr (F := ([1], [])) z1 (FrM.s FrM.rf rfl) rfl)) ((MH.fr (F := ([1], [])) z2 (FrM.s FrM.rf rfl) rfl)) ((MMB.fr (F := ([1], [])) z3 (FrM.s FrM.rf rfl) rfl)) _ (fun rc3 hc3 Pc3 hBc3 hFc3 gc3_c ec3_0 => ⟨rc3, rfl, ?_⟩)) cf_X12_comesOn t_2184 rfl (by decide) rfl rfl rfl (Nat.le_of_ble_eq_true rfl) (by decide) rfl dX12_on_12
  have hco := gc3_c
  refine g_if_ne (tgt := 32) dX12_on_15 (by decide) ⟨by (clear hb gc3_c hco; omega), by (clear hb gc3_c hco; omega)⟩ (fun k4 => ?_) (fun k4 => ?_)
  · have k4n : 1 ≤ rc3 := by (clear hb gc3_c hco; omega)
    clear k4
    have r_hco := (hco.resolve_right (by (clear hb gc3_c hco; omega)))
    have r_gc3_c := (gc3_c.resolve_right (by (clear hb gc3_c hco; omega)))
    refine g_aload_n dX12_on_32 rfl ?_
    refine g_iconst dX12_on_33 ?_
    refine g_iconst dX12_on_34 ?_
    have hpm := ec3_0
    have hbk := hBc3
    refine g_vV (av := [vI 0, vI 1]) (o := 0) (st := []) (f_X12_copies G Pc3 0 1 (by decide) (by decide) hBc3 (by decide) _ (fun Pc5 hBc5 hFc5 gc5_o gc5_cy => ⟨rfl, ?_⟩)) cf_X12_copies t_1859 rfl (by decide) rfl rfl rfl (Nat.le_of_ble_eq_true rfl) (by decide) rfl dX12_on_35
    have hcy := gc5_cy
    have hfk := hFc5
    refine g_aload_n dX12_on_38 rfl ?_
    refine g_iconst dX12_on_39 ?_
    refine m_p60 rfl dX12_on_40 ?_
    have hB6 := bs_60 (z := 0) hBc5 (by decide)
    refine g_iconst dX12_on_43 ?_
    exact g_retZ dX12_on_44 rfl (by decide) (hQ 1 (by decide) _ hB6 (FrM.s (FrM.c (FrM.c (FrM.s FrM.rf rfl) hFc3 rfl) hFc5 rfl) rfl) (by have q0 := (((up_k (by decide)).trans ((hFc5.1 1 rfl).trans ((hFc3.1 1 rfl).trans up_same))) : (up Pc5 0 60 0) 0 1 = 0); (clear hb gc3_c hco gc5_o; omega)) (hco.elim (fun h => Or.inl ⟨rfl, h.2.1⟩) (fun h => by exfalso; (clear hb gc3_c hco gc5_o; omega))) (hco.elim (fun h => by obtain ⟨c0, c1, c2, c3, c4, c5, c6⟩ := h; rw [aOn_y c1]; exact hpm.ld ((up_o (by decide)).trans (hcy.1.1.trans c2)) ((up_o (by decide)).trans (hcy.1.2.1.trans c3)) ((up_o (by decide)).trans (hcy.1.2.2.1.trans c4)) ((up_o (by decide)).trans (hcy.1.2.2.2.trans c5)) up_same (fun p p0 p1 => (up_o (by decide)).trans (by have q := hcy.2.1 p p0 (by have w := c1.1; unfold oHd at w; have v := bl_13 (k := P 0 13) hB; have v2 := z3.b.2.1; (clear hb gc3_c hco gc5_o; omega)); rw [show 12 * 0 + p = p by (clear hb gc3_c hco gc5_o; omega), show 12 * 1 + p = 12 + p by (clear hb gc3_c hco gc5_o; omega)] at q; exact q.trans (c6 p p0 p1))) ((up_k (by decide)).trans (hfk.1 61 rfl)) ((up_k (by decide)).trans (hfk.1 92 rfl))) (fun h => by exfalso; (clear hb gc3_c hco gc5_o; omega))))
  · skip
    skip
    refine g_aload_n dX12_on_18 rfl ?_
    refine g_iconst dX12_on_19 ?_
    refine g_vI (av := [vI 5]) (o := 0) (st := []) (m_X12_refuses G Pc3 5 (by decide) hBc3  _ (fun rc7 hc7 Pc7 hBc7 hFc7 => ⟨rc7, rfl, ?_⟩)) cf_X12_refuses t_1667 rfl (by decide) rfl rfl rfl (Nat.le_of_ble_eq_true rfl) (by decide) rfl dX12_on_20
    refine g_if_lt (tgt := 30) dX12_on_23 (by decide) ⟨by (clear hb gc3_c hco k4; omega), by (clear hb gc3_c hco k4; omega)⟩ (fun k8 => ?_) (fun k8 => by exfalso; (clear hb gc3_c hco k4; omega))
    skip
    skip
    refine g_iconst dX12_on_30 ?_
    exact g_retZ dX12_on_31 rfl (by decide) (hQ 0 (by decide) _ hBc7 (FrM.c (FrM.c (FrM.s FrM.rf rfl) hFc3 rfl) hFc7 rfl) (by have q0 := (((hFc7.1 1 rfl).trans ((hFc3.1 1 rfl).trans up_same)) : Pc7 0 1 = 0); (clear hb gc3_c hco k4 k8; omega)) (hco.elim (fun h => by exfalso; (clear hb gc3_c hco k8; omega)) (fun h => Or.inr ⟨rfl, h.2⟩)) (hco.elim (fun h => by exfalso; (clear hb gc3_c hco k8; omega)) (fun h => by rw [aOn_n h.2]; exact (AM.fr (F := ([], [28])) ec3_0 (FrM.c FrM.rf hFc7 rfl) rfl))))
/-! What the reference answers: X12_openBy. -/
set_option maxRecDepth 100000 in
set_option maxHeartbeats 4000000 in
theorem f_X12_openBy (G : GT) (P : PH) (K : PH) (M : PH) (F : FT) (n : Int) (f : IF) (a1 : Int) (h_a1 : (-2147483648) ≤ a1 ∧ a1 ≤ 2147483647) (hB : BdM P) (p_on : 0 ≤ a1 ∧ a1 ≤ 255) (p_fb : ∀ p : Int, 0 ≤ p → p < n → 0 ≤ f p ∧ f p < M 0 2) (p_gw : GW M) (p_n12 : 0 ≤ n ∧ n ≤ 12) (z0 : ARG K M F n f P) (Q : Option PV → PH → Prop) (hQ : ∀ (r : Int) (_ : 0 ≤ r ∧ r ≤ 4095) (_ : OPe M f n a1 r), Q (some (vI r)) P) : Ct WSM G 1 iX12_openBy [vR 0, vI a1] P Q := by
  refine Ct.of (by decide) (l0 := [(0, vR 0), (1, vI a1)]) rfl (Nat.le_of_ble_eq_true rfl) ?_
  have hn62 := z0.1
  refine g_aload_n dX12_openBy_0 rfl ?_
  refine m_g66 (z := (P 0 66)) rfl dX12_openBy_1 rfl ?_
  refine g_istore_n (l1 := [(2, vI (P 0 66)), (0, vR 0), (1, vI a1)]) dX12_openBy_4 (by decide) rfl ?_
  refine g_iconst dX12_openBy_5 ?_
  refine g_istore_n (l1 := [(3, vI 0), (2, vI (P 0 66)), (0, vR 0), (1, vI a1)]) dX12_openBy_6 (by decide) rfl ?_
  have L7_0 : ∀ (n7_0 : Nat) (x7_3_0 : Int) (h_x7_3_0 : 0 ≤ x7_3_0 ∧ x7_3_0 ≤ 12) (x7_2_0 : Int) (h_x7_2_0 : 0 ≤ x7_2_0 ∧ x7_2_0 ≤ 4095) (i7_0_0 : OPs M f n a1 x7_3_0 x7_2_0) (i7_1_0 : x7_3_0 ≤ n) (hm7_0 : ((13 - x7_3_0) : Int).toNat < n7_0), Go WSM G 1 iX12_openBy 7 [(0, vR 0), (1, vI a1), (2, vI x7_2_0), (3, vI x7_3_0)] [] P Q := by
    intro n7_0
    induction n7_0 with
    | zero => intro x7_3_0 h_x7_3_0 x7_2_0 h_x7_2_0 i7_0_0 i7_1_0 hm7_0; exact absurd hm7_0 (Nat.not_lt_zero _)
    | succ n7_0 ih7_0 =>
    intro x7_3_0 h_x7_3_0 x7_2_0 h_x7_2_0 i7_0_0 i7_1_0 hm7_0
    refine g_iload_n dX12_openBy_7 rfl ?_
    refine g_aload_n dX12_openBy_8 rfl ?_
    refine m_g62 (z := (P 0 62)) rfl dX12_openBy_9 rfl ?_
    have f101 := b0_62 hB
    refine g_icmp_ge (tgt := 55) dX12_openBy_12 (by decide) ⟨by omega, by omega⟩ ⟨by have q0 := b0_62 hB; omega, by have q0 := b0_62 hB; omega⟩ (fun k102 => ?_) (fun k102 => ?_)
    · refine g_iload_n dX12_openBy_55 rfl ?_
      exact g_retI dX12_openBy_56 rfl (hQ x7_2_0 ⟨by omega, by omega⟩ (OPs.end i7_0_0 (by have q := z0.1; omega)))
    · refine g_iload_n dX12_openBy_15 rfl ?_
      refine g_aload_n dX12_openBy_16 rfl ?_
      refine m_g65 rfl dX12_openBy_17 ?_
      refine g_iload_n dX12_openBy_20 rfl ?_
      refine m_l43 (z := (P 43 x7_3_0)) dX12_openBy_21 ⟨by omega, by omega⟩ rfl ?_
      have hg9 := z0.2.1 x7_3_0 (by omega) (by omega)
      have hgr9 := p_fb x7_3_0 (by omega) (by omega)
      have hgb := p_gw (f x7_3_0) hgr9.1 hgr9.2
      refine g_iconst dX12_openBy_22 ?_
      have f103 := bl_43 (k := x7_3_0) hB
      refine g_icmp_eq (tgt := 46) dX12_openBy_23 (by decide) ⟨by have q0 := bl_43 (k := x7_3_0) hB; omega, by have q0 := bl_43 (k := x7_3_0) hB; omega⟩ (by decide) (fun k104 => ?_) (fun k104 => ?_)
      · refine g_iconst dX12_openBy_46 ?_
        refine g_ior dX12_openBy_47 ?_
        refine g_nm (fun b105 e_b105 => ?_)
        have h_b105 : 0 ≤ (ior x7_2_0 0) ∧ (ior x7_2_0 0) < 4096 := ior_b 12 (by decide) (x := x7_2_0) (y := 0) (show 0 ≤ x7_2_0 ∧ x7_2_0 < 4096 from ⟨by (first | (clear k104; omega) | omega), by (first | (clear k104; omega) | omega)⟩) (show 0 ≤ 0 ∧ 0 < 4096 from ⟨by (first | (clear k104; omega) | omega), by (first | (clear k104; omega) | omega)⟩)
        rw [← e_b105] at h_b105
        have hop9 : OPs M f n a1 (x7_3_0 + 1) b105 := by
          rw [e_b105]
          refine OPs.step i7_0_0 ⟨by (first | (clear k104; omega) | omega), by (first | (clear k104; omega) | omega)⟩ ⟨by (first | (clear k104; omega) | omega), by (first | (clear k104; omega) | omega), by (first | (clear k104; omega) | omega)⟩ ?_
          first
          | exact Or.inr ⟨rfl, Or.inl (by (first | (clear k104; omega) | omega))⟩
          | (have hb := bit_is (x := a1) (i := P 43 x7_3_0) ⟨by (first | (clear k104; omega) | omega), by (first | (clear k104; omega) | omega)⟩ ⟨by (first | (clear k104; omega) | omega), by (first | (clear k104; omega) | omega)⟩; rw [← hbl9, hg9] at hb; by_cases q : tb a1 (M 2 (f x7_3_0)) = true; exact Or.inl ⟨by (first | (clear k104; omega) | omega), q⟩; exfalso; rw [if_neg q] at hb; (first | (clear k104; omega) | omega))
          | (have hb := bit_is (x := a1) (i := P 43 x7_3_0) ⟨by (first | (clear k104; omega) | omega), by (first | (clear k104; omega) | omega)⟩ ⟨by (first | (clear k104; omega) | omega), by (first | (clear k104; omega) | omega)⟩; rw [← hbl9, hg9] at hb; by_cases q : tb a1 (M 2 (f x7_3_0)) = true; exfalso; rw [if_pos q] at hb; (first | (clear k104; omega) | omega); exact Or.inr ⟨by (first | (clear k104; omega) | omega), Or.inr (by simpa using q)⟩)
        refine g_istore_n (l1 := [(2, vI b105), (0, vR 0), (1, vI a1), (3, vI x7_3_0)]) dX12_openBy_48 (by decide) rfl ?_
        refine g_iinc (l1 := [(3, vI (x7_3_0 + 1)), (2, vI b105), (0, vR 0), (1, vI a1)]) dX12_openBy_49 rfl (by decide) rfl ?_
        refine g_goto (tgt := 7) dX12_openBy_52 (by decide) ?_
        refine g_forget (l1 := [(0, vR 0), (1, vI a1), (2, vI b105), (3, vI (x7_3_0 + 1))]) (by intro q hq; simp only [List.mem_cons, List.not_mem_nil, or_false] at hq ⊢; rcases hq with rfl | rfl | rfl | rfl <;> simp) ?_
        exact ih7_0 (x7_3_0 + 1) ⟨by (first | (clear k104; omega) | omega), by (first | (clear k104; omega) | omega)⟩ b105 ⟨by (first | (clear k104; omega) | omega), by (first | (clear k104; omega) | omega)⟩ (by first | exact hop9 | exact OPs.start z0.2.2.1) (by (first | (clear k104; omega) | omega)) (by (first | (clear k104; omega) | omega))
      · refine g_iload_n dX12_openBy_26 rfl ?_
        refine g_aload_n dX12_openBy_27 rfl ?_
        refine m_g65 rfl dX12_openBy_28 ?_
        refine g_iload_n dX12_openBy_31 rfl ?_
        refine m_l43 (z := (P 43 x7_3_0)) dX12_openBy_32 ⟨by (first | (clear k104; omega) | omega), by (first | (clear k104; omega) | omega)⟩ rfl ?_
        refine g_ishr dX12_openBy_33 ?_
        refine g_nm (fun b106 e_b106 => ?_)
        have h_b106 := ishr_ir a1 (P 43 x7_3_0)
        rw [← e_b106] at h_b106
        have f_b106_0 := bl_43 (k := x7_3_0) hB
        refine g_iconst dX12_openBy_34 ?_
        refine g_iand dX12_openBy_35 ?_
        refine g_nm (fun b107 e_b107 => ?_)
        have h_b107 := iand_r (x := b106) (y := 1) ⟨by (first | (clear k104; omega) | omega), by (first | (clear k104; omega) | omega)⟩
        rw [← e_b107] at h_b107
        refine g_iconst dX12_openBy_36 ?_
        have hbl9 : b107 = iand (ishr a1 (P 43 x7_3_0)) 1 := by rw [e_b107, e_b106]
        refine g_icmp_ne (tgt := 46) dX12_openBy_37 (by decide) ⟨by (first | (clear k104; omega) | omega), by (first | (clear k104; omega) | omega)⟩ (by decide) (fun k108 => ?_) (fun k108 => ?_)
        · have k108n : b107 ≤ 0 := by (first | (clear k104; omega) | omega)
          clear k108
          refine g_iconst dX12_openBy_46 ?_
          refine g_ior dX12_openBy_47 ?_
          refine g_nm (fun b109 e_b109 => ?_)
          have h_b109 : 0 ≤ (ior x7_2_0 0) ∧ (ior x7_2_0 0) < 4096 := ior_b 12 (by decide) (x := x7_2_0) (y := 0) (show 0 ≤ x7_2_0 ∧ x7_2_0 < 4096 from ⟨by (first | (clear k104; omega) | omega), by (first | (clear k104; omega) | omega)⟩) (show 0 ≤ 0 ∧ 0 < 4096 from ⟨by (first | (clear k104; omega) | omega), by (first | (clear k104; omega) | omega)⟩)
          rw [← e_b109] at h_b109
          have hop9 : OPs M f n a1 (x7_3_0 + 1) b109 := by
            rw [e_b109]
            refine OPs.step i7_0_0 ⟨by (first | (clear k104; omega) | omega), by (first | (clear k104; omega) | omega)⟩ ⟨by (first | (clear k104; omega) | omega), by (first | (clear k104; omega) | omega), by (first | (clear k104; omega) | omega)⟩ ?_
            first
            | exact Or.inr ⟨rfl, Or.inl (by (first | (clear k104; omega) | omega))⟩
            | (have hb := bit_is (x := a1) (i := P 43 x7_3_0) ⟨by (first | (clear k104; omega) | omega), by (first | (clear k104; omega) | omega)⟩ ⟨by (first | (clear k104; omega) | omega), by (first | (clear k104; omega) | omega)⟩; rw [← hbl9, hg9] at hb; by_cases q : tb a1 (M 2 (f x7_3_0)) = true; exact Or.inl ⟨by (first | (clear k104; omega) | omega), q⟩; exfalso; rw [if_neg q] at hb; (first | (clear k104; omega) | omega))
            | (have hb := bit_is (x := a1) (i := P 43 x7_3_0) ⟨by (first | (clear k104; omega) | omega), by (first | (clear k104; omega) | omega)⟩ ⟨by (first | (clear k104; omega) | omega), by (first | (clear k104; omega) | omega)⟩; rw [← hbl9, hg9] at hb; by_cases q : tb a1 (M 2 (f x7_3_0)) = true; exfalso; rw [if_pos q] at hb; (first | (clear k104; omega) | omega); exact Or.inr ⟨by (first | (clear k104; omega) | omega), Or.inr (by simpa using q)⟩)
          refine g_istore_n (l1 := [(2, vI b109), (0, vR 0), (1, vI a1), (3, vI x7_3_0)]) dX12_openBy_48 (by decide) rfl ?_
          refine g_iinc (l1 := [(3, vI (x7_3_0 + 1)), (2, vI b109), (0, vR 0), (1, vI a1)]) dX12_openBy_49 rfl (by decide) rfl ?_
          refine g_goto (tgt := 7) dX12_openBy_52 (by decide) ?_
          refine g_forget (l1 := [(0, vR 0), (1, vI a1), (2, vI b109), (3, vI (x7_3_0 + 1))]) (by intro q hq; simp only [List.mem_cons, List.not_mem_nil, or_false] at hq ⊢; rcases hq with rfl | rfl | rfl | rfl <;> simp) ?_
          exact ih7_0 (x7_3_0 + 1) ⟨by (first | (clear k104; omega) | omega), by (first | (clear k104; omega) | omega)⟩ b109 ⟨by (first | (clear k104; omega) | omega), by (first | (clear k104; omega) | omega)⟩ (by first | exact hop9 | exact OPs.start z0.2.2.1) (by (first | (clear k104; omega) | omega)) (by (first | (clear k104; omega) | omega))
        · refine g_iconst dX12_openBy_40 ?_
          refine g_iload_n dX12_openBy_41 rfl ?_
          refine g_ishl dX12_openBy_42 ?_
          refine g_nm (fun b110 e_b110 => ?_)
          have h_b110 : 1 ≤ (ishl 1 x7_3_0) ∧ (ishl 1 x7_3_0) ≤ 2048 := (ishl1 11 (by decide) (y := x7_3_0) ⟨by (first | (clear k104; omega) | omega), by (first | (clear k104; omega) | omega)⟩).2
          rw [← e_b110] at h_b110
          refine g_goto (tgt := 47) dX12_openBy_43 (by decide) ?_
          refine g_ior dX12_openBy_47 ?_
          refine g_nm (fun b111 e_b111 => ?_)
          have h_b111 : 0 ≤ (ior x7_2_0 b110) ∧ (ior x7_2_0 b110) < 4096 := ior_b 12 (by decide) (x := x7_2_0) (y := b110) (show 0 ≤ x7_2_0 ∧ x7_2_0 < 4096 from ⟨by (first | (clear k104; omega) | omega), by (first | (clear k104; omega) | omega)⟩) (show 0 ≤ b110 ∧ b110 < 4096 from ⟨by (first | (clear k104; omega) | omega), by (first | (clear k104; omega) | omega)⟩)
          rw [← e_b111] at h_b111
          have hop9 : OPs M f n a1 (x7_3_0 + 1) b111 := by
            rw [e_b111]
            refine OPs.step i7_0_0 ⟨by (first | (clear k104; omega) | omega), by (first | (clear k104; omega) | omega)⟩ ⟨by (first | (clear k104; omega) | omega), by (first | (clear k104; omega) | omega), by (first | (clear k104; omega) | omega)⟩ ?_
            first
            | exact Or.inr ⟨rfl, Or.inl (by (first | (clear k104; omega) | omega))⟩
            | (have hb := bit_is (x := a1) (i := P 43 x7_3_0) ⟨by (first | (clear k104; omega) | omega), by (first | (clear k104; omega) | omega)⟩ ⟨by (first | (clear k104; omega) | omega), by (first | (clear k104; omega) | omega)⟩; rw [← hbl9, hg9] at hb; by_cases q : tb a1 (M 2 (f x7_3_0)) = true; exact Or.inl ⟨by (first | (clear k104; omega) | omega), q⟩; exfalso; rw [if_neg q] at hb; (first | (clear k104; omega) | omega))
            | (have hb := bit_is (x := a1) (i := P 43 x7_3_0) ⟨by (first | (clear k104; omega) | omega), by (first | (clear k104; omega) | omega)⟩ ⟨by (first | (clear k104; omega) | omega), by (first | (clear k104; omega) | omega)⟩; rw [← hbl9, hg9] at hb; by_cases q : tb a1 (M 2 (f x7_3_0)) = true; exfalso; rw [if_pos q] at hb; (first | (clear k104; omega) | omega); exact Or.inr ⟨by (first | (clear k104; omega) | omega), Or.inr (by simpa using q)⟩)
          refine g_istore_n (l1 := [(2, vI b111), (0, vR 0), (1, vI a1), (3, vI x7_3_0)]) dX12_openBy_48 (by decide) rfl ?_
          refine g_iinc (l1 := [(3, vI (x7_3_0 + 1)), (2, vI b111), (0, vR 0), (1, vI a1)]) dX12_openBy_49 rfl (by decide) rfl ?_
          refine g_goto (tgt := 7) dX12_openBy_52 (by decide) ?_
          refine g_forget (l1 := [(0, vR 0), (1, vI a1), (2, vI b111), (3, vI (x7_3_0 + 1))]) (by intro q hq; simp only [List.mem_cons, List.not_mem_nil, or_false] at hq ⊢; rcases hq with rfl | rfl | rfl | rfl <;> simp) ?_
          exact ih7_0 (x7_3_0 + 1) ⟨by (first | (clear k104; omega) | omega), by (first | (clear k104; omega) | omega)⟩ b111 ⟨by (first | (clear k104; omega) | omega), by (first | (clear k104; omega) | omega)⟩ (by first | exact hop9 | exact OPs.start z0.2.2.1) (by (first | (clear k104; omega) | omega)) (by (first | (clear k104; omega) | omega))
  refine g_forget (l1 := [(0, vR 0), (1, vI a1), (2, vI (P 0 66)), (3, vI 0)]) (by intro q hq; simp only [List.mem_cons, List.not_mem_nil, or_false] at hq ⊢; rcases hq with rfl | rfl | rfl | rfl <;> simp) ?_
  exact L7_0 _ 0 (by decide) (P 0 66) ⟨by have q0 := b0_66 hB; omega, by have q0 := b0_66 hB; omega⟩ (by first | exact hop9 | exact OPs.start z0.2.2.1) (by have q0 := b0_66 hB; omega) (Nat.lt_succ_self _)
/-! What the reference answers: X12_placed. -/
set_option maxRecDepth 100000 in
set_option maxHeartbeats 4000000 in
theorem f_X12_placed (G : GT) (P : PH) (n : Int) (f : IF) (a1 : Int) (a2 : Int) (h_a1 : 0 ≤ a1 ∧ a1 ≤ 21) (h_a2 : 0 ≤ a2 ∧ a2 ≤ 4095) (hB : BdM P) (p_pn : P 0 62 = n ∧ n ≤ 12) (p_fb : ∀ p : Int, 0 ≤ p → p < n → 0 ≤ f p ∧ f p ≤ 11) (z0 : ODb a1 n f P) (Q : Option PV → PH → Prop) (hQ : ∀ (r : Int) (_ : 0 ≤ r ∧ r ≤ 4095) (_ : PLs n f a2 r), Q (some (vI r)) P) : Ct WSM G 1 iX12_placed [vR 0, vI a1, vI a2] P Q := by
  refine Ct.of (by decide) (l0 := [(0, vR 0), (1, vI a1), (2, vI a2)]) rfl (Nat.le_of_ble_eq_true rfl) ?_
  have hn9 := b0_62 hB
  refine g_iconst dX12_placed_0 ?_
  refine g_istore_n (l1 := [(3, vI 0), (0, vR 0), (1, vI a1), (2, vI a2)]) dX12_placed_1 (by decide) rfl ?_
  refine g_iconst dX12_placed_2 ?_
  refine g_istore (l1 := [(4, vI 0), (3, vI 0), (0, vR 0), (1, vI a1), (2, vI a2)]) dX12_placed_3 (by decide) rfl ?_
  have L5_0 : ∀ (n5_0 : Nat) (x5_4_0 : Int) (h_x5_4_0 : 0 ≤ x5_4_0 ∧ x5_4_0 ≤ 12) (x5_3_0 : Int) (h_x5_3_0 : 0 ≤ x5_3_0 ∧ x5_3_0 ≤ 4095) (i5_0_0 : PLs x5_4_0 f a2 x5_3_0) (i5_1_0 : x5_4_0 ≤ n) (hm5_0 : ((13 - x5_4_0) : Int).toNat < n5_0), Go WSM G 1 iX12_placed 5 [(0, vR 0), (1, vI a1), (2, vI a2), (3, vI x5_3_0), (4, vI x5_4_0)] [] P Q := by
    intro n5_0
    induction n5_0 with
    | zero => intro x5_4_0 h_x5_4_0 x5_3_0 h_x5_3_0 i5_0_0 i5_1_0 hm5_0; exact absurd hm5_0 (Nat.not_lt_zero _)
    | succ n5_0 ih5_0 =>
    intro x5_4_0 h_x5_4_0 x5_3_0 h_x5_3_0 i5_0_0 i5_1_0 hm5_0
    refine g_iload dX12_placed_5 rfl ?_
    refine g_aload_n dX12_placed_7 rfl ?_
    refine m_g62 (z := (P 0 62)) rfl dX12_placed_8 rfl ?_
    have f56 := b0_62 hB
    refine g_icmp_ge (tgt := 42) dX12_placed_11 (by decide) ⟨by omega, by omega⟩ ⟨by have q0 := b0_62 hB; omega, by have q0 := b0_62 hB; omega⟩ (fun k57 => ?_) (fun k57 => ?_)
    · refine g_iload_n dX12_placed_42 rfl ?_
      exact g_retI dX12_placed_43 rfl (hQ x5_3_0 ⟨by omega, by omega⟩ (by have q := i5_0_0; rw [show x5_4_0 = n by omega] at q; exact q))
    · refine g_iload_n dX12_placed_14 rfl ?_
      refine g_iload_n dX12_placed_15 rfl ?_
      refine g_aload_n dX12_placed_16 rfl ?_
      refine m_g54 rfl dX12_placed_17 ?_
      refine g_bipush dX12_placed_20 (by decide) ?_
      refine g_iload_n dX12_placed_22 rfl ?_
      refine g_imul dX12_placed_23 ?_
      refine g_iload dX12_placed_24 rfl ?_
      refine g_iadd dX12_placed_26 ?_
      refine m_l36 (z := (P 36 ((12 * a1) + x5_4_0))) dX12_placed_27 ⟨by omega, by omega⟩ rfl ?_
      refine g_ishr dX12_placed_28 ?_
      refine g_nm (fun b58 e_b58 => ?_)
      have h_b58 := ishr_ir a2 (P 36 ((12 * a1) + x5_4_0))
      rw [← e_b58] at h_b58
      have f_b58_0 := bl_36 (k := ((12 * a1) + x5_4_0)) hB
      refine g_iconst dX12_placed_29 ?_
      refine g_iand dX12_placed_30 ?_
      refine g_nm (fun b59 e_b59 => ?_)
      have h_b59 := iand_r (x := b58) (y := 1) ⟨by omega, by omega⟩
      rw [← e_b59] at h_b59
      refine g_iload dX12_placed_31 rfl ?_
      refine g_ishl dX12_placed_33 ?_
      refine g_nm (fun b60 e_b60 => ?_)
      have h_b60 : 0 ≤ (ishl b59 x5_4_0) ∧ (ishl b59 x5_4_0) ≤ 2048 := (ishl01 11 (by decide) (x := b59) (y := x5_4_0) ⟨by omega, by omega⟩ ⟨by omega, by omega⟩)
      rw [← e_b60] at h_b60
      refine g_ior dX12_placed_34 ?_
      refine g_nm (fun b61 e_b61 => ?_)
      have h_b61 : 0 ≤ (ior x5_3_0 b60) ∧ (ior x5_3_0 b60) < 4096 := ior_b 12 (by decide) (x := x5_3_0) (y := b60) (show 0 ≤ x5_3_0 ∧ x5_3_0 < 4096 from ⟨by omega, by omega⟩) (show 0 ≤ b60 ∧ b60 < 4096 from ⟨by omega, by omega⟩)
      rw [← e_b61] at h_b61
      have hf9 := z0.2 x5_4_0 (by omega) (by omega)
      have hb9 := p_fb x5_4_0 (by omega) (by omega)
      have hpl9 : PLs (x5_4_0 + 1) f a2 b61 := by
        have q := PLs.step i5_0_0 ⟨by omega, by omega⟩ ⟨by omega, by omega⟩ ⟨by omega, by omega⟩ hb9
        rw [e_b61, e_b60, e_b59, e_b58, hf9]
        exact q
      refine g_istore_n (l1 := [(3, vI b61), (0, vR 0), (1, vI a1), (2, vI a2), (4, vI x5_4_0)]) dX12_placed_35 (by decide) rfl ?_
      refine g_iinc (l1 := [(4, vI (x5_4_0 + 1)), (3, vI b61), (0, vR 0), (1, vI a1), (2, vI a2)]) dX12_placed_36 rfl (by decide) rfl ?_
      refine g_goto (tgt := 5) dX12_placed_39 (by decide) ?_
      refine g_forget (l1 := [(0, vR 0), (1, vI a1), (2, vI a2), (3, vI b61), (4, vI (x5_4_0 + 1))]) (by intro q hq; simp only [List.mem_cons, List.not_mem_nil, or_false] at hq ⊢; rcases hq with rfl | rfl | rfl | rfl | rfl <;> simp) ?_
      exact ih5_0 (x5_4_0 + 1) ⟨by omega, by omega⟩ b61 ⟨by omega, by omega⟩ (by first | exact hpl9 | exact PLs.start) (by omega) (by omega)
  refine g_forget (l1 := [(0, vR 0), (1, vI a1), (2, vI a2), (3, vI 0), (4, vI 0)]) (by intro q hq; simp only [List.mem_cons, List.not_mem_nil, or_false] at hq ⊢; rcases hq with rfl | rfl | rfl | rfl | rfl <;> simp) ?_
  exact L5_0 _ 0 (by decide) 0 (by decide) (by first | exact hpl9 | exact PLs.start) (by omega) (Nat.lt_succ_self _)
/-! What the reference answers: X12_arranges. -/
set_option maxRecDepth 100000 in
set_option maxHeartbeats 4000000 in
theorem f_X12_arranges (G : GT) (P : PH) (K : PH) (M : PH) (F : FT) (n : Int) (f : IF) (a1 : Int) (h_a1 : 0 ≤ a1 ∧ a1 ≤ 21) (hB : BdM P) (p_st : P 0 74 ≤ 199999999) (p_aw : AW K) (p_av : AV K M) (p_fb : ∀ p : Int, 0 ≤ p → p < n → 0 ≤ f p ∧ f p < M 0 2) (p_n12 : 0 ≤ n ∧ n ≤ 12) (v_MVw : MVw P) (v_RE : RE P) (z0 : MMB M P) (z1 : LYT K M F P) (z2 : ODb a1 n f P) (Q : Option PV → PH → Prop) (hQ : ∀ (P1 : PH) (_ : BdM P1) (_ : FrM ([62, 66, 74], [41, 42, 43]) P P1) (_ : P1 0 74 = P 0 74 + 1) (_ : MV P1) (_ : RE P1) (_ : RLt P1) (_ : ARG K M F n f P1), Q none P1) : Ct WSM G 2 iX12_arranges [vR 0, vI a1] P Q := by
  refine Ct.of (by decide) (l0 := [(0, vR 0), (1, vI a1)]) rfl (Nat.le_of_ble_eq_true rfl) ?_
  have hmb := z0.b
  have hav := p_av
  have hmg := z0.2.2.2.2.2
  have hn35 := z2.1
  have hm12 := p_av.2.2.2.1
  have hm00 := p_av.1
  have hszc : ∀ d : Int, 0 ≤ d → d < M 0 0 → 0 ≤ sz K (M 1 d) ∧ sz K (M 1 d) ≤ 2006 := fun d d0 d1 => sz_le p_aw (by have q := p_av.2.2.2.2 d d0 d1; exact ⟨by (clear hmb; omega), by (clear hmb; omega)⟩)
  have h33 : ∀ d : Int, 0 ≤ d → d < M 0 0 → P 33 d ≤ 2010 := fun d d0 d1 => by have q := (z1 d d0 d1).2.1; have w := dsl_le (f := mkf K M F d) (sz K (M 1 d)).toNat; have s := hszc d d0 d1; (clear hmb; omega)
  refine g_aload_n dX12_arranges_0 rfl ?_
  refine g_aload_n dX12_arranges_1 rfl ?_
  refine m_g53 rfl dX12_arranges_2 ?_
  refine g_iload_n dX12_arranges_5 rfl ?_
  refine m_l35 (z := (P 35 a1)) dX12_arranges_6 ⟨by (clear hmb; omega), by (clear hmb; omega)⟩ rfl ?_
  refine m_p62 rfl dX12_arranges_7 ?_
  have hB1 := bs_62 (z := (P 35 a1)) hB ⟨by have q0 := bl_35 (k := a1) hB; (clear hmb; omega), by have q0 := bl_35 (k := a1) hB; (clear hmb; omega)⟩
  refine g_aload_n dX12_arranges_10 rfl ?_
  refine g_iconst dX12_arranges_11 ?_
  refine m_p66 rfl dX12_arranges_12 ?_
  have hB2 := bs_66 (z := 0) hB1 (by decide)
  refine g_iconst dX12_arranges_15 ?_
  refine g_istore_n (l1 := [(2, vI 0), (0, vR 0), (1, vI a1)]) dX12_arranges_16 (by decide) rfl ?_
  have L17_2 : ∀ (n17_2 : Nat) (x17_2_2 : Int) (h_x17_2_2 : 0 ≤ x17_2_2 ∧ x17_2_2 ≤ 12) (H17_2 : PH) (hB17_2 : BdM H17_2) (hE17_2 : FrM ([66], [43]) (up (up P 0 62 (P 35 a1)) 0 66 0) H17_2) (i17_0_2 : ∀ p : Int, 0 ≤ p → p < x17_2_2 → H17_2 43 p = M 2 (f p)) (i17_1_2 : UGs M f x17_2_2 (H17_2 0 66)) (i17_2_2 : x17_2_2 ≤ n) (hm17_2 : ((13 - x17_2_2) : Int).toNat < n17_2), Go WSM G 2 iX12_arranges 17 [(0, vR 0), (1, vI a1), (2, vI x17_2_2)] [] H17_2 Q := by
    intro n17_2
    induction n17_2 with
    | zero => intro x17_2_2 h_x17_2_2 H17_2 hB17_2 hE17_2 i17_0_2 i17_1_2 i17_2_2 hm17_2; exact absurd hm17_2 (Nat.not_lt_zero _)
    | succ n17_2 ih17_2 =>
    intro x17_2_2 h_x17_2_2 H17_2 hB17_2 hE17_2 i17_0_2 i17_1_2 i17_2_2 hm17_2
    refine g_iload_n dX12_arranges_17 rfl ?_
    refine g_aload_n dX12_arranges_18 rfl ?_
    refine m_g62 (z := (P 35 a1)) rfl dX12_arranges_19 ((hE17_2.1 62 rfl).trans ((up_k (by decide)).trans up_same)) ?_
    have f10903 := bl_35 (k := a1) hB
    refine g_icmp_ge (tgt := 87) dX12_arranges_22 (by decide) ⟨by (clear hmb; omega), by (clear hmb; omega)⟩ ⟨by have q0 := bl_35 (k := a1) hB; (clear hmb; omega), by have q0 := bl_35 (k := a1) hB; (clear hmb; omega)⟩ (fun k10904 => ?_) (fun k10904 => ?_)
    · have hl9 : x17_2_2 = n := by have q := (((hE17_2.1 62 rfl).trans ((up_k (by decide)).trans up_same)) : H17_2 0 62 = (P 35 a1)); (clear hmb; omega)
      have hug7 := i17_1_2
      rw [hl9] at hug7
      have hgA8 := i17_0_2
      rw [hl9] at hgA8
      refine g_iconst dX12_arranges_87 ?_
      refine g_istore_n (l1 := [(2, vI 0), (0, vR 0), (1, vI a1)]) dX12_arranges_88 (by decide) rfl ?_
      have L89_10904 : ∀ (n89_10904 : Nat) (x89_2_10904 : Int) (h_x89_2_10904 : 0 ≤ x89_2_10904 ∧ x89_2_10904 ≤ 4) (H89_10904 : PH) (hB89_10904 : BdM H89_10904) (hE89_10904 : FrM ([], [41, 42]) H17_2 H89_10904) (i89_0_10904 : ∀ p : Int, 0 ≤ p → p < n → H89_10904 43 p = M 2 (f p)) (i89_1_10904 : UGs M f n (H89_10904 0 66)) (i89_2_10904 : PSs n f x89_2_10904 P H89_10904) (i89_3_10904 : x89_2_10904 ≤ M 0 0) (hm89_10904 : ((5 - x89_2_10904) : Int).toNat < n89_10904), Go WSM G 2 iX12_arranges 89 [(0, vR 0), (1, vI a1), (2, vI x89_2_10904)] [] H89_10904 Q := by
        intro n89_10904
        induction n89_10904 with
        | zero => intro x89_2_10904 h_x89_2_10904 H89_10904 hB89_10904 hE89_10904 i89_0_10904 i89_1_10904 i89_2_10904 i89_3_10904 hm89_10904; exact absurd hm89_10904 (Nat.not_lt_zero _)
        | succ n89_10904 ih89_10904 =>
        intro x89_2_10904 h_x89_2_10904 H89_10904 hB89_10904 hE89_10904 i89_0_10904 i89_1_10904 i89_2_10904 i89_3_10904 hm89_10904
        refine g_iload_n dX12_arranges_89 rfl ?_
        refine g_aload_n dX12_arranges_90 rfl ?_
        refine g_vI (av := []) (o := 0) (st := [vI x89_2_10904]) (m_X12_columns G H89_10904  hB89_10904  _ (fun rc11956 hc11956 gc11956_c => ⟨rc11956, rfl, ?_⟩)) cf_X12_columns t_1827 rfl (by decide) rfl rfl rfl (Nat.le_of_ble_eq_true rfl) (by decide) rfl dX12_arranges_91
        have z11957 : H89_10904 0 13 = (P 0 13) := ((hE89_10904.1 13 rfl).trans ((hE17_2.1 13 rfl).trans ((up_k (by decide)).trans ((up_k (by decide)).trans rfl))))
        have hcl9 : rc11956 = M 0 0 := by have q := gc11956_c; have q13 := (((hE89_10904.1 13 rfl).trans ((hE17_2.1 13 rfl).trans ((up_k (by decide)).trans ((up_k (by decide)).trans rfl)))) : H89_10904 0 13 = (P 0 13)); have q11 : ∀ j, H89_10904 11 j = P 11 j := fun j => ((congrFun (hE89_10904.2 11 rfl rfl) _).trans ((congrFun (hE17_2.2 11 rfl rfl) _).trans ((up_o (by decide)).trans ((up_o (by decide)).trans rfl)))); rw [q13, q11] at q; (omega)
        refine g_icmp_ge (tgt := 185) dX12_arranges_94 (by decide) ⟨by (clear hmb; omega), by (clear hmb; omega)⟩ ⟨by (clear hmb; omega), by (clear hmb; omega)⟩ (fun k11958 => ?_) (fun k11958 => ?_)
        · refine g_aload_n dX12_arranges_185 rfl ?_
          refine g_dup dX12_arranges_186 rfl ?_
          refine m_g74 (z := (P 0 74)) rfl dX12_arranges_187 ((hE89_10904.1 74 rfl).trans ((hE17_2.1 74 rfl).trans ((up_k (by decide)).trans ((up_k (by decide)).trans rfl)))) ?_
          refine g_iconst dX12_arranges_190 ?_
          refine g_iadd dX12_arranges_191 ?_
          have hgA9 := i89_0_10904
          have hug8 := i89_1_10904
          have hps4 := i89_2_10904
          rw [show x89_2_10904 = M 0 0 by (clear hmb; omega)] at hps4
          refine m_p74 rfl dX12_arranges_192 ?_
          have hB11959 := bs_74 (z := ((P 0 74) + 1)) hB89_10904 ⟨by have q0 := b0_74 hB; (clear hmb; omega), by have q0 := b0_74 hB; (clear hmb; omega)⟩
          have iv11960 : MV (up H89_10904 0 74 ((P 0 74) + 1)) := v_MVw.next (F := ([62, 66, 74], [41, 42, 43])) (FrM.s (FrM.c (FrM.c (FrM.s (FrM.s FrM.rf rfl) rfl) hE17_2 rfl) hE89_10904 rfl) rfl) rfl (by have q := (up_same : (up H89_10904 0 74 ((P 0 74) + 1)) 0 74 = ((P 0 74) + 1)); (clear hmb; omega))
          have iv11961 : RE (up H89_10904 0 74 ((P 0 74) + 1)) := v_RE.next (F := ([62, 66, 74], [41, 42, 43])) (FrM.s (FrM.c (FrM.c (FrM.s (FrM.s FrM.rf rfl) rfl) hE17_2 rfl) hE89_10904 rfl) rfl) rfl (by have q := (up_same : (up H89_10904 0 74 ((P 0 74) + 1)) 0 74 = ((P 0 74) + 1)); (clear hmb; omega))
          have iv11962 : RLt (up H89_10904 0 74 ((P 0 74) + 1)) := v_RE.nextL (F := ([62, 66, 74], [41, 42, 43])) (FrM.s (FrM.c (FrM.c (FrM.s (FrM.s FrM.rf rfl) rfl) hE17_2 rfl) hE89_10904 rfl) rfl) rfl (by have q := (up_same : (up H89_10904 0 74 ((P 0 74) + 1)) 0 74 = ((P 0 74) + 1)); (clear hmb; omega))
          exact g_retV dX12_arranges_195 rfl (hQ _ hB11959 (FrM.s (FrM.c (FrM.c (FrM.s (FrM.s FrM.rf rfl) rfl) hE17_2 rfl) hE89_10904 rfl) rfl) (by have q0 := (up_same : (up H89_10904 0 74 ((P 0 74) + 1)) 0 74 = ((P 0 74) + 1)); have q1 := b0_74 hB; (clear hmb; omega)) iv11960 iv11961 iv11962 (ARG.mk (LYT.fr z1 (show FrM ([62, 66, 74], [41, 42, 43]) _ _ from (FrM.s (FrM.c (FrM.c (FrM.s (FrM.s FrM.rf rfl) rfl) hE17_2 rfl) hE89_10904 rfl) rfl)) rfl) (fun j => ((up_o (by decide)).trans ((congrFun (hE89_10904.2 32 rfl rfl) _).trans ((congrFun (hE17_2.2 32 rfl rfl) _).trans ((up_o (by decide)).trans ((up_o (by decide)).trans rfl)))))) (fun j => ((up_o (by decide)).trans ((congrFun (hE89_10904.2 33 rfl rfl) _).trans ((congrFun (hE17_2.2 33 rfl rfl) _).trans ((up_o (by decide)).trans ((up_o (by decide)).trans rfl)))))) p_fb (by have q := (((up_k (by decide)).trans ((hE89_10904.1 62 rfl).trans ((hE17_2.1 62 rfl).trans ((up_k (by decide)).trans up_same)))) : (up H89_10904 0 74 ((P 0 74) + 1)) 0 62 = (P 35 a1)); (clear hmb; omega)) (fun p p0 p1 => Eq.trans ((up_o (by decide)).trans rfl) (hgA9 p p0 p1)) (by have q := hug8; first | exact q | (rw [show (up H89_10904 0 74 ((P 0 74) + 1)) 0 66 = _ from ((up_k (by decide)).trans ((hE89_10904.1 66 rfl).trans rfl))]; exact q)) hps4))
        · have hps9 := i89_2_10904
          have hgA9 := i89_0_10904
          have hug8 := i89_1_10904
          refine g_aload_n dX12_arranges_97 rfl ?_
          refine m_g64 rfl dX12_arranges_98 ?_
          refine g_iload_n dX12_arranges_101 rfl ?_
          refine g_iconst dX12_arranges_102 ?_
          refine g_aload_n dX12_arranges_103 rfl ?_
          refine m_g62 (z := (P 35 a1)) rfl dX12_arranges_104 ((hE89_10904.1 62 rfl).trans ((hE17_2.1 62 rfl).trans ((up_k (by decide)).trans up_same))) ?_
          refine g_ishl dX12_arranges_107 ?_
          refine g_nm (fun b11963 e_b11963 => ?_)
          have h_b11963 : 1 ≤ (ishl 1 (P 35 a1)) ∧ (ishl 1 (P 35 a1)) ≤ 4096 := (ishl1 12 (by decide) (y := (P 35 a1)) ⟨by have q0 := bl_35 (k := a1) hB; (clear hmb; omega), by have q0 := bl_35 (k := a1) hB; (clear hmb; omega)⟩).2
          rw [← e_b11963] at h_b11963
          refine g_iconst dX12_arranges_108 ?_
          refine g_isub dX12_arranges_109 ?_
          refine m_s42 dX12_arranges_110 ⟨by (clear hmb; omega), by (clear hmb; omega)⟩ ?_
          have hB11964 := ba_42 (z := (b11963 - 1)) (k := x89_2_10904) hB89_10904 ⟨by (clear hmb; omega), by (clear hmb; omega)⟩
          have hgA6 : ∀ p : Int, 0 ≤ p → p < n → (up H89_10904 42 x89_2_10904 (b11963 - 1)) 43 p = M 2 (f p) := fun p p0 p1 => Eq.trans ((up_o (by decide)).trans rfl) (hgA9 p p0 p1)
          have hug6 : UGs M f n ((up H89_10904 42 x89_2_10904 (b11963 - 1)) 0 66) := by rw [show (up H89_10904 42 x89_2_10904 (b11963 - 1)) 0 66 = _ from ((up_o (by decide)).trans rfl)]; exact hug8
          have hps8 : PSs n f x89_2_10904 P (up H89_10904 42 x89_2_10904 (b11963 - 1)) := hps9.other (fun d d0 d1 => h33 d d0 (by (clear hmb; omega))) (fun j _ => ((up_o (by decide)).trans rfl))
          refine g_iconst dX12_arranges_111 ?_
          refine g_istore_n (l1 := [(3, vI 0), (0, vR 0), (1, vI a1), (2, vI x89_2_10904)]) dX12_arranges_112 (by decide) rfl ?_
          have L113_11964 : ∀ (n113_11964 : Nat) (x113_3_11964 : Int) (h_x113_3_11964 : 0 ≤ x113_3_11964 ∧ x113_3_11964 ≤ 2009) (H113_11964 : PH) (hB113_11964 : BdM H113_11964) (hE113_11964 : FrM ([], [41, 42]) (up H89_10904 42 x89_2_10904 (b11963 - 1)) H113_11964) (i113_0_11964 : PSc n f x89_2_10904 x113_3_11964 P H113_11964) (i113_1_11964 : PSs n f x89_2_10904 P H113_11964) (i113_2_11964 : ∀ p : Int, 0 ≤ p → p < n → H113_11964 43 p = M 2 (f p)) (i113_3_11964 : UGs M f n (H113_11964 0 66)) (i113_4_11964 : x113_3_11964 ≤ P 33 x89_2_10904) (hm113_11964 : ((2010 - x113_3_11964) : Int).toNat < n113_11964), Go WSM G 2 iX12_arranges 113 [(0, vR 0), (1, vI a1), (2, vI x89_2_10904), (3, vI x113_3_11964)] [] H113_11964 Q := by
            intro n113_11964
            induction n113_11964 with
            | zero => intro x113_3_11964 h_x113_3_11964 H113_11964 hB113_11964 hE113_11964 i113_0_11964 i113_1_11964 i113_2_11964 i113_3_11964 i113_4_11964 hm113_11964; exact absurd hm113_11964 (Nat.not_lt_zero _)
            | succ n113_11964 ih113_11964 =>
            intro x113_3_11964 h_x113_3_11964 H113_11964 hB113_11964 hE113_11964 i113_0_11964 i113_1_11964 i113_2_11964 i113_3_11964 i113_4_11964 hm113_11964
            refine g_iload_n dX12_arranges_113 rfl ?_
            refine g_aload_n dX12_arranges_114 rfl ?_
            refine m_g50 rfl dX12_arranges_115 ?_
            refine g_iload_n dX12_arranges_118 rfl ?_
            refine m_l33 (z := (P 33 x89_2_10904)) dX12_arranges_119 ⟨by (clear hmb; omega), by (clear hmb; omega)⟩ ((congrFun (hE113_11964.2 33 rfl rfl) _).trans ((up_o (by decide)).trans ((congrFun (hE89_10904.2 33 rfl rfl) _).trans ((congrFun (hE17_2.2 33 rfl rfl) _).trans ((up_o (by decide)).trans ((up_o (by decide)).trans rfl)))))) ?_
            have f12099 := bl_33 (k := x89_2_10904) hB
            refine g_icmp_ge (tgt := 179) dX12_arranges_120 (by decide) ⟨by (clear hmb; omega), by (clear hmb; omega)⟩ ⟨by have q0 := bl_33 (k := x89_2_10904) hB; (clear hmb; omega), by have q0 := bl_33 (k := x89_2_10904) hB; (clear hmb; omega)⟩ (fun k12100 => ?_) (fun k12100 => ?_)
            · have hps5 : PSs n f (x89_2_10904 + 1) P H113_11964 := (i113_1_11964).next i113_0_11964 (by have q := (((congrFun (hE113_11964.2 33 rfl rfl) _).trans ((up_o (by decide)).trans ((congrFun (hE89_10904.2 33 rfl rfl) _).trans ((congrFun (hE17_2.2 33 rfl rfl) _).trans ((up_o (by decide)).trans ((up_o (by decide)).trans rfl)))))) : H113_11964 33 x89_2_10904 = (P 33 x89_2_10904)); (clear hmb; omega))
              refine g_iinc (l1 := [(2, vI (x89_2_10904 + 1)), (0, vR 0), (1, vI a1), (3, vI x113_3_11964)]) dX12_arranges_179 rfl (by decide) rfl ?_
              refine g_goto (tgt := 89) dX12_arranges_182 (by decide) ?_
              refine g_forget (l1 := [(0, vR 0), (1, vI a1), (2, vI (x89_2_10904 + 1))]) (by intro q hq; simp only [List.mem_cons, List.not_mem_nil, or_false] at hq ⊢; rcases hq with rfl | rfl | rfl <;> simp) ?_
              exact ih89_10904 (x89_2_10904 + 1) ⟨by (clear hmb; omega), by (clear hmb; omega)⟩ _ hB113_11964 (FrM.c (FrM.a (FrM.c FrM.rf hE89_10904 rfl) rfl rfl) hE113_11964 rfl) (by first | exact i113_2_11964 | exact hgA8) (by first | exact i113_3_11964 | exact hug7) (by first | exact hps5 | exact PSs.start) (by (clear hmb; omega)) (by (clear hmb; omega))
            · have hps7 := i113_1_11964
              have hpc7 := i113_0_11964
              refine g_aload_n dX12_arranges_123 rfl ?_
              refine m_g63 rfl dX12_arranges_124 ?_
              refine g_sipush dX12_arranges_127 (by decide) ?_
              refine g_iload_n dX12_arranges_130 rfl ?_
              refine g_imul dX12_arranges_131 ?_
              refine g_iload_n dX12_arranges_132 rfl ?_
              refine g_iadd dX12_arranges_133 ?_
              refine g_aload_n dX12_arranges_134 rfl ?_
              refine g_iload_n dX12_arranges_135 rfl ?_
              refine g_aload_n dX12_arranges_136 rfl ?_
              refine m_g49 rfl dX12_arranges_137 ?_
              refine g_sipush dX12_arranges_140 (by decide) ?_
              refine g_iload_n dX12_arranges_143 rfl ?_
              refine g_imul dX12_arranges_144 ?_
              refine g_iload_n dX12_arranges_145 rfl ?_
              refine g_iadd dX12_arranges_146 ?_
              refine m_l32 (z := (P 32 ((2010 * x89_2_10904) + x113_3_11964))) dX12_arranges_147 ⟨by (clear hmb; omega), by (clear hmb; omega)⟩ ((congrFun (hE113_11964.2 32 rfl rfl) _).trans ((up_o (by decide)).trans ((congrFun (hE89_10904.2 32 rfl rfl) _).trans ((congrFun (hE17_2.2 32 rfl rfl) _).trans ((up_o (by decide)).trans ((up_o (by decide)).trans rfl)))))) ?_
              have f12101 := bl_32 (k := ((2010 * x89_2_10904) + x113_3_11964)) hB
              refine g_vI (av := [vI a1, vI (P 32 ((2010 * x89_2_10904) + x113_3_11964))]) (o := 0) (st := [vI ((2010 * x89_2_10904) + x113_3_11964), vR 41]) (f_X12_placed G H113_11964 (n) (f) a1 (P 32 ((2010 * x89_2_10904) + x113_3_11964)) ⟨by (clear hmb; omega), by (clear hmb; omega)⟩ ⟨by have q0 := bl_32 (k := ((2010 * x89_2_10904) + x113_3_11964)) hB; (clear hmb; omega), by have q0 := bl_32 (k := ((2010 * x89_2_10904) + x113_3_11964)) hB; (clear hmb; omega)⟩ hB113_11964 (⟨by have q := (((hE113_11964.1 62 rfl).trans ((up_o (by decide)).trans ((hE89_10904.1 62 rfl).trans ((hE17_2.1 62 rfl).trans ((up_k (by decide)).trans up_same))))) : H113_11964 0 62 = (P 35 a1)); (clear hmb; omega), by (clear hmb; omega)⟩) (fun p p0 p1 => by have q := p_fb p p0 p1; exact ⟨q.1, by (clear hmb; omega)⟩) ((ODb.fr z2 (show FrM ([62, 66], [41, 42, 43]) _ _ from (FrM.c (FrM.a (FrM.c (FrM.c (FrM.s (FrM.s FrM.rf rfl) rfl) hE17_2 rfl) hE89_10904 rfl) rfl rfl) hE113_11964 rfl)) rfl)) _ (fun rc12102 hc12102 gc12102_pl => ⟨rc12102, rfl, ?_⟩)) cf_X12_placed t_1891 rfl (by decide) rfl rfl rfl (Nat.le_of_ble_eq_true rfl) (by decide) rfl dX12_arranges_148
              have hpl9 := gc12102_pl
              refine m_s41 dX12_arranges_151 ⟨by (clear hmb; omega), by (clear hmb; omega)⟩ ?_
              have hB12103 := ba_41 (z := rc12102) (k := ((2010 * x89_2_10904) + x113_3_11964)) hB113_11964 ⟨by (clear hmb; omega), by (clear hmb; omega)⟩
              refine g_aload_n dX12_arranges_152 rfl ?_
              refine m_g64 rfl dX12_arranges_153 ?_
              refine g_iload_n dX12_arranges_156 rfl ?_
              refine g_dup2 dX12_arranges_157 rfl rfl ?_
              refine m_l42 (z := (H113_11964 42 x89_2_10904)) dX12_arranges_158 ⟨by (clear hmb; omega), by (clear hmb; omega)⟩ ((up_o (by decide)).trans rfl) ?_
              refine g_aload_n dX12_arranges_159 rfl ?_
              refine m_g63 rfl dX12_arranges_160 ?_
              refine g_sipush dX12_arranges_163 (by decide) ?_
              refine g_iload_n dX12_arranges_166 rfl ?_
              refine g_imul dX12_arranges_167 ?_
              refine g_iload_n dX12_arranges_168 rfl ?_
              refine g_iadd dX12_arranges_169 ?_
              refine m_l41 (z := rc12102) dX12_arranges_170 ⟨by (clear hmb; omega), by (clear hmb; omega)⟩ up_same ?_
              refine g_iand dX12_arranges_171 ?_
              refine g_nm (fun b12104 e_b12104 => ?_)
              have h_b12104 := iand_l (x := (H113_11964 42 x89_2_10904)) (y := rc12102) ⟨by have q0 := bl_42 (k := x89_2_10904) hB113_11964; (clear hmb; omega), by have q0 := bl_42 (k := x89_2_10904) hB113_11964; (clear hmb; omega)⟩
              rw [← e_b12104] at h_b12104
              have f_b12104_0 := bl_42 (k := x89_2_10904) hB113_11964
              refine m_s42 dX12_arranges_172 ⟨by (clear hmb; omega), by (clear hmb; omega)⟩ ?_
              have hB12105 := ba_42 (z := b12104) (k := x89_2_10904) hB12103 ⟨by (clear hmb; omega), by (clear hmb; omega)⟩
              have hgA5 : ∀ p : Int, 0 ≤ p → p < n → (up (up H113_11964 41 ((2010 * x89_2_10904) + x113_3_11964) rc12102) 42 x89_2_10904 b12104) 43 p = M 2 (f p) := fun p p0 p1 => Eq.trans ((up_o (by decide)).trans ((up_o (by decide)).trans rfl)) (i113_2_11964 p p0 p1)
              have hug5 : UGs M f n ((up (up H113_11964 41 ((2010 * x89_2_10904) + x113_3_11964) rc12102) 42 x89_2_10904 b12104) 0 66) := by rw [show (up (up H113_11964 41 ((2010 * x89_2_10904) + x113_3_11964) rc12102) 42 x89_2_10904 b12104) 0 66 = _ from ((up_o (by decide)).trans ((up_o (by decide)).trans rfl))]; exact i113_3_11964
              have hps6 : PSs n f x89_2_10904 P (up (up H113_11964 41 ((2010 * x89_2_10904) + x113_3_11964) rc12102) 42 x89_2_10904 b12104) := hps7.other (fun d d0 d1 => h33 d d0 (by (clear hmb; omega))) (fun j hj9 => by first | exact ((up_o (by decide)).trans ((up_k hj).trans rfl)) | (have hj : j ≠ ((2010 * x89_2_10904) + x113_3_11964) := (by (clear hmb; omega)); exact ((up_o (by decide)).trans ((up_k hj).trans rfl))))
              have hpc6 : PSc n f x89_2_10904 (x113_3_11964 + 1) P (up (up H113_11964 41 ((2010 * x89_2_10904) + x113_3_11964) rc12102) 42 x89_2_10904 b12104) := hpc7.put (fun j hj9 => by first | exact ((up_o (by decide)).trans ((up_k hj).trans rfl)) | (have hj : j ≠ ((2010 * x89_2_10904) + x113_3_11964) := (by (clear hmb; omega)); exact ((up_o (by decide)).trans ((up_k hj).trans rfl)))) ((up_o (by decide)).trans up_same) hpl9
              refine g_iinc (l1 := [(3, vI (x113_3_11964 + 1)), (0, vR 0), (1, vI a1), (2, vI x89_2_10904)]) dX12_arranges_173 rfl (by decide) rfl ?_
              refine g_goto (tgt := 113) dX12_arranges_176 (by decide) ?_
              refine g_forget (l1 := [(0, vR 0), (1, vI a1), (2, vI x89_2_10904), (3, vI (x113_3_11964 + 1))]) (by intro q hq; simp only [List.mem_cons, List.not_mem_nil, or_false] at hq ⊢; rcases hq with rfl | rfl | rfl | rfl <;> simp) ?_
              exact ih113_11964 (x113_3_11964 + 1) ⟨by (clear hmb; omega), by (clear hmb; omega)⟩ _ hB12105 (FrM.a (FrM.a (FrM.c FrM.rf hE113_11964 rfl) rfl rfl) rfl rfl) (by first | exact hpc6 | exact PSc.start) (by first | exact hps6 | exact hps8) (by first | exact hgA5 | exact hgA6) (by first | exact hug5 | exact hug6) (by first | (clear hmb; omega) | (have q := bl_33 (k := x89_2_10904) hB; (first | (clear hmb; omega) | omega))) (by (clear hmb; omega))
          refine g_forget (l1 := [(0, vR 0), (1, vI a1), (2, vI x89_2_10904), (3, vI 0)]) (by intro q hq; simp only [List.mem_cons, List.not_mem_nil, or_false] at hq ⊢; rcases hq with rfl | rfl | rfl | rfl <;> simp) ?_
          exact L113_11964 _ 0 (by decide) _ hB11964 FrM.rf (by first | exact hpc6 | exact PSc.start) (by first | exact hps6 | exact hps8) (by first | exact hgA5 | exact hgA6) (by first | exact hug5 | exact hug6) (by first | (first | (clear hmb; omega) | omega) | (have q := bl_33 (k := x89_2_10904) hB; (clear hmb; omega))) (Nat.lt_succ_self _)
      refine g_forget (l1 := [(0, vR 0), (1, vI a1), (2, vI 0)]) (by intro q hq; simp only [List.mem_cons, List.not_mem_nil, or_false] at hq ⊢; rcases hq with rfl | rfl | rfl <;> simp) ?_
      exact L89_10904 _ 0 (by decide) _ hB17_2 FrM.rf (by first | exact i113_2_11964 | exact hgA8) (by first | exact i113_3_11964 | exact hug7) (by first | exact hps5 | exact PSs.start) (by (clear hmb; omega)) (Nat.lt_succ_self _)
    · have hfp9 := z2.2 x17_2_2 (by (clear hmb; omega)) (by (clear hmb; omega))
      have hfb9 := p_fb x17_2_2 (by (clear hmb; omega)) (by (clear hmb; omega))
      refine g_aload_n dX12_arranges_25 rfl ?_
      refine m_g65 rfl dX12_arranges_26 ?_
      refine g_iload_n dX12_arranges_29 rfl ?_
      refine g_aload_n dX12_arranges_30 rfl ?_
      refine m_g26 rfl dX12_arranges_31 ?_
      refine g_bipush dX12_arranges_34 (by decide) ?_
      refine g_aload_n dX12_arranges_36 rfl ?_
      refine m_g13 (z := (P 0 13)) rfl dX12_arranges_37 ((hE17_2.1 13 rfl).trans ((up_k (by decide)).trans ((up_k (by decide)).trans rfl))) ?_
      refine g_imul dX12_arranges_40 ?_
      refine g_aload_n dX12_arranges_41 rfl ?_
      refine m_g54 rfl dX12_arranges_42 ?_
      refine g_bipush dX12_arranges_45 (by decide) ?_
      refine g_iload_n dX12_arranges_47 rfl ?_
      refine g_imul dX12_arranges_48 ?_
      refine g_iload_n dX12_arranges_49 rfl ?_
      refine g_iadd dX12_arranges_50 ?_
      refine m_l36 (z := (P 36 ((12 * a1) + x17_2_2))) dX12_arranges_51 ⟨by (clear hmb; omega), by (clear hmb; omega)⟩ ((congrFun (hE17_2.2 36 rfl rfl) _).trans ((up_o (by decide)).trans ((up_o (by decide)).trans rfl))) ?_
      refine g_iadd dX12_arranges_52 ?_
      refine m_l14 (z := (P 14 ((12 * (P 0 13)) + (P 36 ((12 * a1) + x17_2_2))))) dX12_arranges_53 ⟨by have q0 := b0_13 hB; have q1 := bl_36 (k := ((12 * a1) + x17_2_2)) hB; (clear hmb; omega), by have q0 := b0_13 hB; have q1 := bl_36 (k := ((12 * a1) + x17_2_2)) hB; (clear hmb; omega)⟩ ((congrFun (hE17_2.2 14 rfl rfl) _).trans ((up_o (by decide)).trans ((up_o (by decide)).trans rfl))) ?_
      refine m_s43 dX12_arranges_54 ⟨by (clear hmb; omega), by (clear hmb; omega)⟩ ?_
      have hB12106 := ba_43 (z := (P 14 ((12 * (P 0 13)) + (P 36 ((12 * a1) + x17_2_2))))) (k := x17_2_2) hB17_2 ⟨by have q0 := bl_14 (k := ((12 * (P 0 13)) + (P 36 ((12 * a1) + x17_2_2)))) hB; (clear hmb; omega), by have q0 := bl_14 (k := ((12 * (P 0 13)) + (P 36 ((12 * a1) + x17_2_2)))) hB; (clear hmb; omega)⟩
      have hgv9 := (up_same : (up H17_2 43 x17_2_2 (P 14 ((12 * (P 0 13)) + (P 36 ((12 * a1) + x17_2_2))))) 43 x17_2_2 = (P 14 ((12 * (P 0 13)) + (P 36 ((12 * a1) + x17_2_2)))))
      have hga9 : ∀ p : Int, 0 ≤ p → p < x17_2_2 + 1 → (up H17_2 43 x17_2_2 (P 14 ((12 * (P 0 13)) + (P 36 ((12 * a1) + x17_2_2))))) 43 p = M 2 (f p) := by
        intro p p0 p1
        by_cases e : p = x17_2_2
        · rw [e]; refine Eq.trans up_same ?_; rw [hfp9]; exact hmg (f x17_2_2) hfb9.1 hfb9.2
        · have hj : p ≠ x17_2_2 := by (clear hmb; omega)
          exact Eq.trans ((up_k hj).trans rfl) (i17_0_2 p p0 (by (clear hmb hj; omega)))
      have hgl9 := hga9 x17_2_2 (by (clear hmb; omega)) (by (clear hmb; omega))
      refine g_aload_n dX12_arranges_55 rfl ?_
      refine g_dup dX12_arranges_56 rfl ?_
      refine m_g66 (z := (H17_2 0 66)) rfl dX12_arranges_57 ((up_o (by decide)).trans rfl) ?_
      refine g_aload_n dX12_arranges_60 rfl ?_
      refine m_g65 rfl dX12_arranges_61 ?_
      refine g_iload_n dX12_arranges_64 rfl ?_
      refine m_l43 (z := (P 14 ((12 * (P 0 13)) + (P 36 ((12 * a1) + x17_2_2))))) dX12_arranges_65 ⟨by (clear hmb; omega), by (clear hmb; omega)⟩ up_same ?_
      refine g_iconst dX12_arranges_66 ?_
      have f12107 := bl_14 (k := ((12 * (P 0 13)) + (P 36 ((12 * a1) + x17_2_2)))) hB
      refine g_icmp_ne (tgt := 76) dX12_arranges_67 (by decide) ⟨by have q0 := bl_14 (k := ((12 * (P 0 13)) + (P 36 ((12 * a1) + x17_2_2)))) hB; (clear hmb; omega), by have q0 := bl_14 (k := ((12 * (P 0 13)) + (P 36 ((12 * a1) + x17_2_2)))) hB; (clear hmb; omega)⟩ (by decide) (fun k12108 => ?_) (fun k12108 => ?_)
      · refine g_iconst dX12_arranges_76 ?_
        refine g_ior dX12_arranges_77 ?_
        refine g_nm (fun b12109 e_b12109 => ?_)
        have h_b12109 : 0 ≤ (ior (H17_2 0 66) 0) ∧ (ior (H17_2 0 66) 0) < 4096 := ior_b 12 (by decide) (x := (H17_2 0 66)) (y := 0) (show 0 ≤ (H17_2 0 66) ∧ (H17_2 0 66) < 4096 from ⟨by have q0 := b0_66 hB17_2; (clear hmb k12108; omega), by have q0 := b0_66 hB17_2; (clear hmb k12108; omega)⟩) (show 0 ≤ 0 ∧ 0 < 4096 from ⟨by (clear hmb k12108; omega), by (clear hmb k12108; omega)⟩)
        rw [← e_b12109] at h_b12109
        have hug9 : UGs M f (x17_2_2 + 1) b12109 := by
          rw [e_b12109]
          have h66 := b0_66 hB12106
          have h67 := (((up_o (by decide)).trans rfl) : (up H17_2 43 x17_2_2 (P 14 ((12 * (P 0 13)) + (P 36 ((12 * a1) + x17_2_2))))) 0 66 = (H17_2 0 66))
          exact UGs.step i17_1_2 ⟨by (clear hmb k12108; omega), by (clear hmb k12108; omega)⟩ ⟨by (clear hmb k12108; omega), by (clear hmb k12108; omega)⟩ (by first | exact Or.inl ⟨e_0, by (first | (clear hmb k12108; omega) | (clear hmb; omega) | (clear k12108; omega) | omega)⟩ | exact Or.inr ⟨rfl, by (clear hmb; omega)⟩)
        refine m_p66 rfl dX12_arranges_78 ?_
        have hB12110 := bs_66 (z := b12109) hB12106 ⟨by (clear hmb k12108; omega), by (clear hmb k12108; omega)⟩
        refine g_iinc (l1 := [(2, vI (x17_2_2 + 1)), (0, vR 0), (1, vI a1)]) dX12_arranges_81 rfl (by decide) rfl ?_
        refine g_goto (tgt := 17) dX12_arranges_84 (by decide) ?_
        refine g_forget (l1 := [(0, vR 0), (1, vI a1), (2, vI (x17_2_2 + 1))]) (by intro q hq; simp only [List.mem_cons, List.not_mem_nil, or_false] at hq ⊢; rcases hq with rfl | rfl | rfl <;> simp) ?_
        exact ih17_2 (x17_2_2 + 1) ⟨by (clear hmb k12108; omega), by (clear hmb k12108; omega)⟩ _ hB12110 (FrM.s (FrM.a (FrM.c FrM.rf hE17_2 rfl) rfl rfl) rfl) (by first | exact hga9 | exact fun p p0 p1 => Eq.trans (up_o (by decide)) (hga9 p p0 p1) | (intro p p0 p1; exfalso; (first | (clear hmb k12108; omega) | (clear hmb; omega) | (clear k12108; omega) | omega))) (by first | exact hug9 | (rw [up_same]; exact hug9) | (rw [show (up (up H17_2 43 x17_2_2 (P 14 ((12 * (P 0 13)) + (P 36 ((12 * a1) + x17_2_2))))) 0 66 b12109) 0 66 = 0 from up_same]; exact UGs.start)) (by (clear hmb k12108; omega)) (by (clear hmb k12108; omega))
      · refine g_iconst dX12_arranges_70 ?_
        refine g_iload_n dX12_arranges_71 rfl ?_
        refine g_ishl dX12_arranges_72 ?_
        refine g_nm (fun b12111 e_b12111 => ?_)
        have h_b12111 : 1 ≤ (ishl 1 x17_2_2) ∧ (ishl 1 x17_2_2) ≤ 2048 := (ishl1 11 (by decide) (y := x17_2_2) ⟨by (clear hmb k12108; omega), by (clear hmb k12108; omega)⟩).2
        rw [← e_b12111] at h_b12111
        refine g_goto (tgt := 77) dX12_arranges_73 (by decide) ?_
        refine g_ior dX12_arranges_77 ?_
        refine g_nm (fun b12112 e_b12112 => ?_)
        have h_b12112 : 0 ≤ (ior (H17_2 0 66) b12111) ∧ (ior (H17_2 0 66) b12111) < 4096 := ior_b 12 (by decide) (x := (H17_2 0 66)) (y := b12111) (show 0 ≤ (H17_2 0 66) ∧ (H17_2 0 66) < 4096 from ⟨by have q0 := b0_66 hB17_2; (clear hmb k12108; omega), by have q0 := b0_66 hB17_2; (clear hmb k12108; omega)⟩) (show 0 ≤ b12111 ∧ b12111 < 4096 from ⟨by (clear hmb k12108; omega), by (clear hmb k12108; omega)⟩)
        rw [← e_b12112] at h_b12112
        have hug9 : UGs M f (x17_2_2 + 1) b12112 := by
          rw [e_b12112]
          have h66 := b0_66 hB12106
          have h67 := (((up_o (by decide)).trans rfl) : (up H17_2 43 x17_2_2 (P 14 ((12 * (P 0 13)) + (P 36 ((12 * a1) + x17_2_2))))) 0 66 = (H17_2 0 66))
          exact UGs.step i17_1_2 ⟨by (clear hmb k12108; omega), by (clear hmb k12108; omega)⟩ ⟨by (clear hmb k12108; omega), by (clear hmb k12108; omega)⟩ (by first | exact Or.inl ⟨e_b12111, by (clear hmb; omega)⟩ | exact Or.inr ⟨rfl, by (first | (clear hmb k12108; omega) | (clear hmb; omega) | (clear k12108; omega) | omega)⟩)
        refine m_p66 rfl dX12_arranges_78 ?_
        have hB12113 := bs_66 (z := b12112) hB12106 ⟨by (clear hmb k12108; omega), by (clear hmb k12108; omega)⟩
        refine g_iinc (l1 := [(2, vI (x17_2_2 + 1)), (0, vR 0), (1, vI a1)]) dX12_arranges_81 rfl (by decide) rfl ?_
        refine g_goto (tgt := 17) dX12_arranges_84 (by decide) ?_
        refine g_forget (l1 := [(0, vR 0), (1, vI a1), (2, vI (x17_2_2 + 1))]) (by intro q hq; simp only [List.mem_cons, List.not_mem_nil, or_false] at hq ⊢; rcases hq with rfl | rfl | rfl <;> simp) ?_
        exact ih17_2 (x17_2_2 + 1) ⟨by (clear hmb k12108; omega), by (clear hmb k12108; omega)⟩ _ hB12113 (FrM.s (FrM.a (FrM.c FrM.rf hE17_2 rfl) rfl rfl) rfl) (by first | exact hga9 | exact fun p p0 p1 => Eq.trans (up_o (by decide)) (hga9 p p0 p1) | (intro p p0 p1; exfalso; (first | (clear hmb k12108; omega) | (clear hmb; omega) | (clear k12108; omega) | omega))) (by first | exact hug9 | (rw [up_same]; exact hug9) | (rw [show (up (up H17_2 43 x17_2_2 (P 14 ((12 * (P 0 13)) + (P 36 ((12 * a1) + x17_2_2))))) 0 66 b12112) 0 66 = 0 from up_same]; exact UGs.start)) (by (clear hmb k12108; omega)) (by (clear hmb k12108; omega))
  refine g_forget (l1 := [(0, vR 0), (1, vI a1), (2, vI 0)]) (by intro q hq; simp only [List.mem_cons, List.not_mem_nil, or_false] at hq ⊢; rcases hq with rfl | rfl | rfl <;> simp) ?_
  exact L17_2 _ 0 (by decide) _ hB2 FrM.rf (by first | exact hga9 | exact fun p p0 p1 => Eq.trans (up_o (by decide)) (hga9 p p0 p1) | (intro p p0 p1; exfalso; (clear hmb; omega))) (by first | exact hug9 | (rw [up_same]; exact hug9) | (rw [show (up (up P 0 62 (P 35 a1)) 0 66 0) 0 66 = 0 from up_same]; exact UGs.start)) (by (clear hmb; omega)) (Nat.lt_succ_self _)
/-! What the reference answers: X12_plants. -/
set_option maxRecDepth 100000 in
set_option maxHeartbeats 4000000 in
theorem f_X12_plants (G : GT) (P : PH) (K : PH) (M : PH) (F : FT) (n : Int) (f : IF) (a1 : Int) (a2 : Int) (h_a1 : 0 ≤ a1 ∧ a1 ≤ 21) (h_a2 : (-2147483648) ≤ a2 ∧ a2 ≤ 2147483647) (hB : BdM P) (p_st : P 0 74 ≤ 199999999) (p_aw : AW K) (p_av : AV K M) (p_fb : ∀ p : Int, 0 ≤ p → p < n → 0 ≤ f p ∧ f p < M 0 2) (p_n12 : 0 ≤ n ∧ n ≤ 12) (v_MVw : MVw P) (v_RE : RE P) (z0 : MMB M P) (z1 : LYT K M F P) (z2 : ODb a1 n f P) (Q : Option PV → PH → Prop) (hQ : ∀ (P1 : PH) (_ : BdM P1) (_ : FrM ([62, 66, 74, 76], [41, 42, 43]) P P1) (_ : P1 0 74 = P 0 74 + 1) (_ : MV P1) (_ : RE P1) (_ : RLt P1) (_ : ARG K M F n f P1), Q none P1) : Ct WSM G 3 iX12_plants [vR 0, vI a1, vI a2] P Q := by
  refine Ct.of (by decide) (l0 := [(0, vR 0), (1, vI a1), (2, vI a2)]) rfl (Nat.le_of_ble_eq_true rfl) ?_
  refine g_aload_n dX12_plants_0 rfl ?_
  refine g_iload_n dX12_plants_1 rfl ?_
  refine g_vV (av := [vI a1]) (o := 0) (st := []) (f_X12_arranges G P (K) (M) (F) (n) (f) a1 ⟨by omega, by omega⟩ hB (by have q0 := b0_74 hB; omega) p_aw (p_av) p_fb (by omega) v_MVw v_RE (z0) (z1) (z2) _ (fun Pc1 hBc1 hFc1 gc1_st vc1_MV vc1_RE vc1_RLt ec1_0 => ⟨rfl, ?_⟩)) cf_X12_arranges t_1887 rfl (by decide) rfl rfl rfl (Nat.le_of_ble_eq_true rfl) (by decide) rfl dX12_plants_2
  refine g_aload_n dX12_plants_5 rfl ?_
  refine g_iload_n dX12_plants_6 rfl ?_
  refine m_p76 rfl dX12_plants_7 ?_
  have hB2 := bs_76 (z := a2) hBc1 ⟨by omega, by omega⟩
  exact g_retV dX12_plants_10 rfl (hQ _ hB2 (FrM.s (FrM.c FrM.rf hFc1 rfl) rfl) (by have q0 := (((up_k (by decide)).trans rfl) : (up Pc1 0 76 a2) 0 74 = (Pc1 0 74)); have q1 := b0_74 hBc1; omega) (MV.fr (F := ([76], [])) vc1_MV (FrM.s FrM.rf rfl) rfl) (RE.fr (F := ([76], [])) vc1_RE (FrM.s FrM.rf rfl) rfl) (RLt.fr (F := ([76], [])) vc1_RLt (FrM.s FrM.rf rfl) rfl) ((ARG.fr ec1_0 (show FrM ([76], []) _ _ from (FrM.s FrM.rf rfl)) rfl)))
/-! What the reference answers: X12_see. -/
set_option maxRecDepth 100000 in
set_option maxHeartbeats 4000000 in
theorem f_X12_see (G : GT) (P : PH) (T : TT) (A : PH) (M : PH) (hB : BdM P) (z0 : CM T P) (z1 : AM A P) (z2 : MH M P) (z3 : MR M P) (Q : Option PV → PH → Prop) (hQ : ∀ (r : Int) (_ : (-2147483648) ≤ r ∧ r ≤ 2147483647) (P1 : PH) (_ : BdM P1) (_ : FrM ([1, 92], [28, 59, 60]) P P1) (_ : P1 0 1 = 0) (_ : (r = -1 ∧ ¬ seOk T M A) ∨ (r = T.2 / 3 ∧ seOk T M A)) (_ : AM (aSee T M A) P1), Q (some (vI r)) P1) : Ct WSM G 2 iX12_see [vR 0] P Q := by
  refine Ct.of (by decide) (l0 := [(0, vR 0)]) rfl (Nat.le_of_ble_eq_true rfl) ?_
  have hb := z1.b
  have ht := z0.1
  have hTv := z0.2
  have hmh := z2
  unfold MH at hmh
  have hmr := z3
  unfold MR at hmr
  have q44 := b0_44 hB
  have q1t := b0_1 hB
  refine g_aload_n dX12_see_0 rfl ?_
  refine m_g1 (z := (P 0 1)) rfl dX12_see_1 rfl ?_
  refine g_istore_n (l1 := [(1, vI (P 0 1)), (0, vR 0)]) dX12_see_4 (by decide) rfl ?_
  refine g_aload_n dX12_see_5 rfl ?_
  refine g_iconst dX12_see_6 ?_
  refine m_p1 rfl dX12_see_7 ?_
  have hB1 := bs_1 (z := 0) hB (by decide)
  refine g_aload_n dX12_see_10 rfl ?_
  refine m_g44 (z := (P 0 44)) rfl dX12_see_11 ((up_k (by decide)).trans rfl) ?_
  have f2 := b0_44 hB
  have J38_920 : ∀ (y38_0_920 : Int) (h_y38_0_920 : 0 ≤ y38_0_920 ∧ y38_0_920 ≤ 1) (i38_0_920 : (y38_0_920 = 1 ∧ 0 < M 0 0 ∧ 0 < T.2 ∧ T.2 % 3 = 0 ∧ T.2 ≤ 48) ∨ (y38_0_920 = 0 ∧ (M 0 0 ≤ 0 ∨ T.2 ≤ 0 ∨ T.2 % 3 ≠ 0 ∨ 48 < T.2))), Go WSM G 2 iX12_see 38 [(0, vR 0), (1, vI (P 0 1))] [vI y38_0_920] (up P 0 1 0) Q := by
    intro y38_0_920 h_y38_0_920 i38_0_920
    have hs0 : SEI T M A 0 y38_0_920 := SEI.st i38_0_920
    refine g_istore_n (l1 := [(2, vI y38_0_920), (0, vR 0), (1, vI (P 0 1))]) dX12_see_38 (by decide) rfl ?_
    refine g_iconst dX12_see_39 ?_
    refine g_istore_n (l1 := [(3, vI 0), (2, vI y38_0_920), (0, vR 0), (1, vI (P 0 1))]) dX12_see_40 (by decide) rfl ?_
    have L41_921 : ∀ (n41_921 : Nat) (x41_3_921 : Int) (h_x41_3_921 : 0 ≤ x41_3_921 ∧ x41_3_921 ≤ 1603) (x41_2_921 : Int) (h_x41_2_921 : 0 ≤ x41_2_921 ∧ x41_2_921 ≤ 1) (i41_0_921 : x41_2_921 = 0 ∨ (P 0 1) ≤ 48) (i41_1_921 : SEI T M A x41_3_921 x41_2_921) (i41_2_921 : x41_3_921 % 3 = 0) (hm41_921 : (1604 - x41_3_921 : Int).toNat < n41_921), Go WSM G 2 iX12_see 41 [(0, vR 0), (1, vI (P 0 1)), (2, vI x41_2_921), (3, vI x41_3_921)] [] (up P 0 1 0) Q := by
      intro n41_921
      induction n41_921 with
      | zero => intro x41_3_921 h_x41_3_921 x41_2_921 h_x41_2_921 i41_0_921 i41_1_921 i41_2_921 hm41_921; exact absurd hm41_921 (Nat.not_lt_zero _)
      | succ n41_921 ih41_921 =>
      intro x41_3_921 h_x41_3_921 x41_2_921 h_x41_2_921 i41_0_921 i41_1_921 i41_2_921 hm41_921
      refine g_iload_n dX12_see_41 rfl ?_
      refine g_iload_n dX12_see_42 rfl ?_
      have f1615 := b0_1 hB
      refine g_icmp_ge (tgt := 118) dX12_see_43 (by decide) ⟨by (clear hmh hmr i38_0_920 i41_0_921; omega), by (clear hmh hmr i38_0_920 i41_0_921; omega)⟩ ⟨by have q0 := b0_1 hB; (clear hmh hmr i38_0_920 i41_0_921; omega), by have q0 := b0_1 hB; (clear hmh hmr i38_0_920 i41_0_921; omega)⟩ (fun k1616 => ?_) (fun k1616 => ?_)
      · skip
        skip
        refine g_iload_n dX12_see_118 rfl ?_
        refine g_if_ne (tgt := 128) dX12_see_119 (by decide) ⟨by (clear hmh hmr i38_0_920 i41_0_921; omega), by (clear hmh hmr i38_0_920 i41_0_921; omega)⟩ (fun k1617 => ?_) (fun k1617 => ?_)
        · have k1617n : 1 ≤ x41_2_921 := by (clear hmh hmr i38_0_920 i41_0_921; omega)
          clear k1617
          have r_i41_0_921 := (i41_0_921.resolve_left (by (clear hmh hmr i38_0_920 i41_0_921; omega)))
          skip
          refine g_aload_n dX12_see_128 rfl ?_
          have hse := ((i41_1_921).on (by (clear hmh hmr i38_0_920 i41_0_921; omega))).end (by (clear hmh hmr i38_0_920 i41_0_921; omega))
          refine g_iload_n dX12_see_129 rfl ?_
          refine g_iconst dX12_see_130 ?_
          refine g_idiv dX12_see_131 ⟨(by decide), by decide⟩ ?_
          refine g_nm (fun b1618 e_b1618 => ?_)
          have h_b1618 := idiv_p (x := (P 0 1)) (y := 3) ⟨by have q0 := b0_1 hB; (clear hmh hmr i38_0_920 i41_0_921; omega), by have q0 := b0_1 hB; (clear hmh hmr i38_0_920 i41_0_921; omega)⟩ ⟨by (clear hmh hmr i38_0_920 i41_0_921; omega), by (clear hmh hmr i38_0_920 i41_0_921; omega)⟩
          rw [← e_b1618] at h_b1618
          have f_b1618_0 := b0_1 hB
          refine m_p92 rfl dX12_see_132 ?_
          have hB1619 := bs_92 (z := b1618) hB1 ⟨by (clear hmh hmr i38_0_920 i41_0_921; omega), by (clear hmh hmr i38_0_920 i41_0_921; omega)⟩
          refine g_iconst dX12_see_135 ?_
          refine g_istore_n (l1 := [(3, vI 0), (0, vR 0), (1, vI (P 0 1)), (2, vI x41_2_921)]) dX12_see_136 (by decide) rfl ?_
          have L137_1619 : ∀ (n137_1619 : Nat) (x137_3_1619 : Int) (h_x137_3_1619 : 0 ≤ x137_3_1619 ∧ x137_3_1619 ≤ 533) (H137_1619 : PH) (hB137_1619 : BdM H137_1619) (hE137_1619 : FrM ([], [59, 60]) (up (up P 0 1 0) 0 92 b1618) H137_1619) (hm137_1619 : ((534 - x137_3_1619) : Int).toNat < n137_1619), Go WSM G 2 iX12_see 137 [(0, vR 0), (3, vI x137_3_1619)] [] H137_1619 Q := by
            intro n137_1619
            induction n137_1619 with
            | zero => intro x137_3_1619 h_x137_3_1619 H137_1619 hB137_1619 hE137_1619 hm137_1619; exact absurd hm137_1619 (Nat.not_lt_zero _)
            | succ n137_1619 ih137_1619 =>
            intro x137_3_1619 h_x137_3_1619 H137_1619 hB137_1619 hE137_1619 hm137_1619
            refine g_iload_n dX12_see_137 rfl ?_
            refine g_aload_n dX12_see_138 rfl ?_
            refine m_g92 (z := b1618) rfl dX12_see_139 ((hE137_1619.1 92 rfl).trans up_same) ?_
            refine g_icmp_ge (tgt := 215) dX12_see_142 (by decide) ⟨by (clear hmh hmr i38_0_920 i41_0_921; omega), by (clear hmh hmr i38_0_920 i41_0_921; omega)⟩ ⟨by (clear hmh hmr i38_0_920 i41_0_921; omega), by (clear hmh hmr i38_0_920 i41_0_921; omega)⟩ (fun k1797 => ?_) (fun k1797 => ?_)
            · skip
              skip
              refine g_aload_n dX12_see_215 rfl ?_
              refine m_g92 (z := b1618) rfl dX12_see_216 ((hE137_1619.1 92 rfl).trans up_same) ?_
              exact g_retI dX12_see_219 rfl (hQ b1618 ⟨by (clear hmh hmr i38_0_920 i41_0_921; omega), by (clear hmh hmr i38_0_920 i41_0_921; omega)⟩ _ hB137_1619 (FrM.c (FrM.s (FrM.s FrM.rf rfl) rfl) hE137_1619 rfl) (by have q0 := (((hE137_1619.1 1 rfl).trans ((up_k (by decide)).trans up_same)) : H137_1619 0 1 = 0); (clear hmh hmr i38_0_920 i41_0_921; omega)) (Or.inr ⟨by have q := (((hE137_1619.1 92 rfl).trans up_same) : H137_1619 0 92 = b1618); (clear hmh hmr i38_0_920 i41_0_921; omega), hse⟩) (by rw [aSee_y hse]; exact z1.se (F := ([1, 92], [59, 60])) (by have q := (((hE137_1619.1 92 rfl).trans up_same) : H137_1619 0 92 = b1618); (clear hmh hmr i38_0_920 i41_0_921; omega)) (FrM.c (FrM.s (FrM.s FrM.rf rfl) rfl) hE137_1619 rfl) rfl))
            · skip
              skip
              refine g_aload_n dX12_see_145 rfl ?_
              refine m_g93 rfl dX12_see_146 ?_
              refine g_iload_n dX12_see_149 rfl ?_
              refine g_aload_n dX12_see_150 rfl ?_
              refine m_g0 rfl dX12_see_151 ?_
              refine g_iconst dX12_see_154 ?_
              refine g_iload_n dX12_see_155 rfl ?_
              refine g_imul dX12_see_156 ?_
              refine m_l1 (z := (P 1 (3 * x137_3_1619))) dX12_see_157 ⟨by (clear hmh hmr i38_0_920 i41_0_921; omega), by (clear hmh hmr i38_0_920 i41_0_921; omega)⟩ ((congrFun (hE137_1619.2 1 rfl rfl) _).trans ((up_o (by decide)).trans ((up_o (by decide)).trans rfl))) ?_
              refine g_bipush dX12_see_158 (by decide) ?_
              refine g_ishl dX12_see_160 ?_
              refine g_nm (fun b1798 e_b1798 => ?_)
              have h_b1798 : (ishl (P 1 (3 * x137_3_1619)) 8) = (P 1 (3 * x137_3_1619)) * 256 := ishl_c 8 (by decide) (x := (P 1 (3 * x137_3_1619))) (show IR ((P 1 (3 * x137_3_1619)) * 256) from ⟨by have q0 := bl_1 (k := (3 * x137_3_1619)) hB; (clear hmh hmr i38_0_920 i41_0_921; omega), by have q0 := bl_1 (k := (3 * x137_3_1619)) hB; (clear hmh hmr i38_0_920 i41_0_921; omega)⟩)
              rw [← e_b1798] at h_b1798
              have f_b1798_0 := bl_1 (k := (3 * x137_3_1619)) hB
              refine g_aload_n dX12_see_161 rfl ?_
              refine m_g0 rfl dX12_see_162 ?_
              refine g_iconst dX12_see_165 ?_
              refine g_iload_n dX12_see_166 rfl ?_
              refine g_imul dX12_see_167 ?_
              refine g_iconst dX12_see_168 ?_
              refine g_iadd dX12_see_169 ?_
              refine m_l1 (z := (P 1 ((3 * x137_3_1619) + 1))) dX12_see_170 ⟨by (clear hmh hmr i38_0_920 i41_0_921; omega), by (clear hmh hmr i38_0_920 i41_0_921; omega)⟩ ((congrFun (hE137_1619.2 1 rfl rfl) _).trans ((up_o (by decide)).trans ((up_o (by decide)).trans rfl))) ?_
              refine g_ior dX12_see_171 ?_
              refine g_nm (fun b1799 e_b1799 => ?_)
              have h_b1799 : 0 ≤ (ior b1798 (P 1 ((3 * x137_3_1619) + 1))) ∧ (ior b1798 (P 1 ((3 * x137_3_1619) + 1))) < 65536 := ior_b 16 (by decide) (x := b1798) (y := (P 1 ((3 * x137_3_1619) + 1))) (show 0 ≤ b1798 ∧ b1798 < 65536 from ⟨by (clear hmh hmr i38_0_920 i41_0_921; omega), by (clear hmh hmr i38_0_920 i41_0_921; omega)⟩) (show 0 ≤ (P 1 ((3 * x137_3_1619) + 1)) ∧ (P 1 ((3 * x137_3_1619) + 1)) < 65536 from ⟨by have q0 := bl_1 (k := ((3 * x137_3_1619) + 1)) hB; (clear hmh hmr i38_0_920 i41_0_921; omega), by have q0 := bl_1 (k := ((3 * x137_3_1619) + 1)) hB; (clear hmh hmr i38_0_920 i41_0_921; omega)⟩)
              rw [← e_b1799] at h_b1799
              refine m_s59 dX12_see_172 ⟨by (clear hmh hmr i38_0_920 i41_0_921; omega), by (clear hmh hmr i38_0_920 i41_0_921; omega)⟩ ?_
              have hB1800 := ba_59 (z := b1799) (k := x137_3_1619) hB137_1619 ⟨by (clear hmh hmr i38_0_920 i41_0_921; omega), by (clear hmh hmr i38_0_920 i41_0_921; omega)⟩
              refine g_aload_n dX12_see_173 rfl ?_
              refine m_g94 rfl dX12_see_174 ?_
              refine g_iload_n dX12_see_177 rfl ?_
              refine g_aload_n dX12_see_178 rfl ?_
              refine m_g0 rfl dX12_see_179 ?_
              refine g_iconst dX12_see_182 ?_
              refine g_iload_n dX12_see_183 rfl ?_
              refine g_imul dX12_see_184 ?_
              refine g_iconst dX12_see_185 ?_
              refine g_iadd dX12_see_186 ?_
              refine m_l1 (z := (P 1 ((3 * x137_3_1619) + 2))) dX12_see_187 ⟨by (clear hmh hmr i38_0_920 i41_0_921; omega), by (clear hmh hmr i38_0_920 i41_0_921; omega)⟩ ((up_o (by decide)).trans ((congrFun (hE137_1619.2 1 rfl rfl) _).trans ((up_o (by decide)).trans ((up_o (by decide)).trans rfl)))) ?_
              refine g_sipush dX12_see_188 (by decide) ?_
              have f1801 := bl_1 (k := ((3 * x137_3_1619) + 2)) hB
              refine g_icmp_ne (tgt := 198) dX12_see_191 (by decide) ⟨by have q0 := bl_1 (k := ((3 * x137_3_1619) + 2)) hB; (clear hmh hmr i38_0_920 i41_0_921; omega), by have q0 := bl_1 (k := ((3 * x137_3_1619) + 2)) hB; (clear hmh hmr i38_0_920 i41_0_921; omega)⟩ (by decide) (fun k1802 => ?_) (fun k1802 => ?_)
              · have k1802n : (P 1 ((3 * x137_3_1619) + 2)) ≤ 254 := by have q0 := bl_1 (k := ((3 * x137_3_1619) + 2)) hB; (clear hmh hmr i38_0_920 i41_0_921; omega)
                clear k1802
                skip
                skip
                refine g_aload_n dX12_see_198 rfl ?_
                refine m_g0 rfl dX12_see_199 ?_
                refine g_iconst dX12_see_202 ?_
                refine g_iload_n dX12_see_203 rfl ?_
                refine g_imul dX12_see_204 ?_
                refine g_iconst dX12_see_205 ?_
                refine g_iadd dX12_see_206 ?_
                refine m_l1 (z := (P 1 ((3 * x137_3_1619) + 2))) dX12_see_207 ⟨by (clear hmh hmr i38_0_920 i41_0_921; omega), by (clear hmh hmr i38_0_920 i41_0_921; omega)⟩ ((up_o (by decide)).trans ((congrFun (hE137_1619.2 1 rfl rfl) _).trans ((up_o (by decide)).trans ((up_o (by decide)).trans rfl)))) ?_
                refine m_s60 dX12_see_208 ⟨by (clear hmh hmr i38_0_920 i41_0_921; omega), by (clear hmh hmr i38_0_920 i41_0_921; omega)⟩ ?_
                have hB1803 := ba_60 (z := (P 1 ((3 * x137_3_1619) + 2))) (k := x137_3_1619) hB1800 ⟨by have q0 := bl_1 (k := ((3 * x137_3_1619) + 2)) hB; (clear hmh hmr i38_0_920 i41_0_921; omega), by have q0 := bl_1 (k := ((3 * x137_3_1619) + 2)) hB; (clear hmh hmr i38_0_920 i41_0_921; omega)⟩
                refine g_iinc (l1 := [(3, vI (x137_3_1619 + 1)), (0, vR 0)]) dX12_see_209 rfl (by decide) rfl ?_
                refine g_goto (tgt := 137) dX12_see_212 (by decide) ?_
                refine g_forget (l1 := [(0, vR 0), (3, vI (x137_3_1619 + 1))]) (by intro q hq; simp only [List.mem_cons, List.not_mem_nil, or_false] at hq ⊢; rcases hq with rfl | rfl <;> simp) ?_
                exact ih137_1619 (x137_3_1619 + 1) ⟨by (clear hmh hmr i38_0_920 i41_0_921; omega), by (clear hmh hmr i38_0_920 i41_0_921; omega)⟩ _ hB1803 (FrM.a (FrM.a (FrM.c FrM.rf hE137_1619 rfl) rfl rfl) rfl rfl) (by (clear hmh hmr i38_0_920 i41_0_921; omega))
              · skip
                skip
                refine g_iconst dX12_see_194 ?_
                refine g_goto (tgt := 208) dX12_see_195 (by decide) ?_
                refine m_s60 dX12_see_208 ⟨by (clear hmh hmr i38_0_920 i41_0_921; omega), by (clear hmh hmr i38_0_920 i41_0_921; omega)⟩ ?_
                have hB1804 := ba_60 (z := (-1)) (k := x137_3_1619) hB1800 (by decide)
                refine g_iinc (l1 := [(3, vI (x137_3_1619 + 1)), (0, vR 0)]) dX12_see_209 rfl (by decide) rfl ?_
                refine g_goto (tgt := 137) dX12_see_212 (by decide) ?_
                refine g_forget (l1 := [(0, vR 0), (3, vI (x137_3_1619 + 1))]) (by intro q hq; simp only [List.mem_cons, List.not_mem_nil, or_false] at hq ⊢; rcases hq with rfl | rfl <;> simp) ?_
                exact ih137_1619 (x137_3_1619 + 1) ⟨by (clear hmh hmr i38_0_920 i41_0_921; omega), by (clear hmh hmr i38_0_920 i41_0_921; omega)⟩ _ hB1804 (FrM.a (FrM.a (FrM.c FrM.rf hE137_1619 rfl) rfl rfl) rfl rfl) (by (clear hmh hmr i38_0_920 i41_0_921; omega))
          refine g_forget (l1 := [(0, vR 0), (3, vI 0)]) (by intro q hq; simp only [List.mem_cons, List.not_mem_nil, or_false] at hq ⊢; rcases hq with rfl | rfl <;> simp) ?_
          exact L137_1619 _ 0 (by decide) _ hB1619 FrM.rf (Nat.lt_succ_self _)
        · skip
          skip
          refine g_aload_n dX12_see_122 rfl ?_
          have hno := (i41_1_921).off (by (clear hmh hmr i38_0_920 i41_0_921; omega))
          refine g_iconst dX12_see_123 ?_
          refine g_vI (av := [vI 5]) (o := 0) (st := []) (m_X12_refuses G (up P 0 1 0) 5 (by decide) hB1  _ (fun rc1805 hc1805 Pc1805 hBc1805 hFc1805 => ⟨rc1805, rfl, ?_⟩)) cf_X12_refuses t_1667 rfl (by decide) rfl rfl rfl (Nat.le_of_ble_eq_true rfl) (by decide) rfl dX12_see_124
          exact g_retI dX12_see_127 rfl (hQ rc1805 ⟨by (clear hmh hmr i38_0_920 i41_0_921; omega), by (clear hmh hmr i38_0_920 i41_0_921; omega)⟩ _ hBc1805 (FrM.c (FrM.s FrM.rf rfl) hFc1805 rfl) (by have q0 := (((hFc1805.1 1 rfl).trans up_same) : Pc1805 0 1 = 0); (clear hmh hmr i38_0_920 i41_0_921; omega)) (Or.inl ⟨by (clear hmh hmr i38_0_920 i41_0_921; omega), hno⟩) (by rw [aSee_n hno]; exact (AM.fr (F := ([1], [28])) z1 (FrM.c (FrM.s FrM.rf rfl) hFc1805 rfl) rfl)))
      · skip
        skip
        refine g_iload_n dX12_see_46 rfl ?_
        refine g_if_eq (tgt := 118) dX12_see_47 (by decide) ⟨by (clear hmh hmr i38_0_920 i41_0_921; omega), by (clear hmh hmr i38_0_920 i41_0_921; omega)⟩ (fun k1806 => ?_) (fun k1806 => ?_)
        · skip
          skip
          refine g_iload_n dX12_see_118 rfl ?_
          refine g_if_ne (tgt := 128) dX12_see_119 (by decide) ⟨by (clear hmh hmr i38_0_920 i41_0_921; omega), by (clear hmh hmr i38_0_920 i41_0_921; omega)⟩ (fun k1807 => by exfalso; (clear hmh hmr i38_0_920 i41_0_921; omega)) (fun k1807 => ?_)
          skip
          skip
          refine g_aload_n dX12_see_122 rfl ?_
          have hno := (i41_1_921).off (by (clear hmh hmr i38_0_920 i41_0_921; omega))
          refine g_iconst dX12_see_123 ?_
          refine g_vI (av := [vI 5]) (o := 0) (st := []) (m_X12_refuses G (up P 0 1 0) 5 (by decide) hB1  _ (fun rc1808 hc1808 Pc1808 hBc1808 hFc1808 => ⟨rc1808, rfl, ?_⟩)) cf_X12_refuses t_1667 rfl (by decide) rfl rfl rfl (Nat.le_of_ble_eq_true rfl) (by decide) rfl dX12_see_124
          exact g_retI dX12_see_127 rfl (hQ rc1808 ⟨by (clear hmh hmr i38_0_920 i41_0_921; omega), by (clear hmh hmr i38_0_920 i41_0_921; omega)⟩ _ hBc1808 (FrM.c (FrM.s FrM.rf rfl) hFc1808 rfl) (by have q0 := (((hFc1808.1 1 rfl).trans up_same) : Pc1808 0 1 = 0); (clear hmh hmr i38_0_920 i41_0_921; omega)) (Or.inl ⟨by (clear hmh hmr i38_0_920 i41_0_921; omega), hno⟩) (by rw [aSee_n hno]; exact (AM.fr (F := ([1], [28])) z1 (FrM.c (FrM.s FrM.rf rfl) hFc1808 rfl) rfl)))
        · have k1806n : 1 ≤ x41_2_921 := by (clear hmh hmr i38_0_920 i41_0_921; omega)
          clear k1806
          have r_i41_0_921 := (i41_0_921.resolve_left (by (clear hmh hmr i38_0_920 i41_0_921; omega)))
          skip
          refine g_aload_n dX12_see_50 rfl ?_
          have hse1 := (i41_1_921).on (by (clear hmh hmr i38_0_920 i41_0_921; omega))
          have hsh := hse1.hd
          unfold sHd at hsh
          have hmr9 : P 0 52 = M 0 1 := by (clear hmh i38_0_920 i41_0_921; omega)
          have e0 := hTv x41_3_921 (by (clear hmh hmr i38_0_920 i41_0_921; omega)) (by (clear hmh hmr i38_0_920 i41_0_921; omega))
          have e1 := hTv (x41_3_921 + 1) (by (clear hmh hmr i38_0_920 i41_0_921; omega)) (by (clear hmh hmr i38_0_920 i41_0_921; omega))
          have e2 := hTv (x41_3_921 + 2) (by (clear hmh hmr i38_0_920 i41_0_921; omega)) (by (clear hmh hmr i38_0_920 i41_0_921; omega))
          have qb0 := bl_1 (k := x41_3_921) hB
          have qb1 := bl_1 (k := x41_3_921 + 1) hB
          have hl39 : x41_3_921 < T.2 := by (clear hmh hmr i38_0_920 i41_0_921; omega)
          refine m_g0 rfl dX12_see_51 ?_
          refine g_iload_n dX12_see_54 rfl ?_
          refine m_l1 (z := (P 1 x41_3_921)) dX12_see_55 ⟨by (clear hmh hmr i38_0_920 i41_0_921; omega), by (clear hmh hmr i38_0_920 i41_0_921; omega)⟩ ((up_o (by decide)).trans rfl) ?_
          refine g_bipush dX12_see_56 (by decide) ?_
          refine g_ishl dX12_see_58 ?_
          refine g_nm (fun b1809 e_b1809 => ?_)
          have h_b1809 : (ishl (P 1 x41_3_921) 8) = (P 1 x41_3_921) * 256 := ishl_c 8 (by decide) (x := (P 1 x41_3_921)) (show IR ((P 1 x41_3_921) * 256) from ⟨by have q0 := bl_1 (k := x41_3_921) hB; (clear hmh hmr i38_0_920 i41_0_921; omega), by have q0 := bl_1 (k := x41_3_921) hB; (clear hmh hmr i38_0_920 i41_0_921; omega)⟩)
          rw [← e_b1809] at h_b1809
          have f_b1809_0 := bl_1 (k := x41_3_921) hB
          refine g_aload_n dX12_see_59 rfl ?_
          refine m_g0 rfl dX12_see_60 ?_
          refine g_iload_n dX12_see_63 rfl ?_
          refine g_iconst dX12_see_64 ?_
          refine g_iadd dX12_see_65 ?_
          refine m_l1 (z := (P 1 (x41_3_921 + 1))) dX12_see_66 ⟨by (clear hmh hmr i38_0_920 i41_0_921; omega), by (clear hmh hmr i38_0_920 i41_0_921; omega)⟩ ((up_o (by decide)).trans rfl) ?_
          refine g_ior dX12_see_67 ?_
          refine g_nm (fun b1810 e_b1810 => ?_)
          have h_b1810 : 0 ≤ (ior b1809 (P 1 (x41_3_921 + 1))) ∧ (ior b1809 (P 1 (x41_3_921 + 1))) < 65536 := ior_b 16 (by decide) (x := b1809) (y := (P 1 (x41_3_921 + 1))) (show 0 ≤ b1809 ∧ b1809 < 65536 from ⟨by (clear hmh hmr i38_0_920 i41_0_921; omega), by (clear hmh hmr i38_0_920 i41_0_921; omega)⟩) (show 0 ≤ (P 1 (x41_3_921 + 1)) ∧ (P 1 (x41_3_921 + 1)) < 65536 from ⟨by have q0 := bl_1 (k := (x41_3_921 + 1)) hB; (clear hmh hmr i38_0_920 i41_0_921; omega), by have q0 := bl_1 (k := (x41_3_921 + 1)) hB; (clear hmh hmr i38_0_920 i41_0_921; omega)⟩)
          rw [← e_b1810] at h_b1810
          have hz := ior_hl8 (x := P 1 (x41_3_921 + 1)) (y := P 1 x41_3_921) ⟨by (clear hmh hmr i38_0_920 i41_0_921; omega), by (clear hmh hmr i38_0_920 i41_0_921; omega)⟩ (by (clear hmh hmr i38_0_920 i41_0_921; omega)) (by (clear hmh hmr i38_0_920 i41_0_921; omega))
          have e9 : b1810 = 256 * T.1 x41_3_921 + T.1 (x41_3_921 + 1) := by rw [e_b1810, h_b1809, hz]; (clear hmh hmr i38_0_920 i41_0_921; omega)
          refine g_aload_n dX12_see_68 rfl ?_
          refine m_g52 (z := (P 0 52)) rfl dX12_see_69 ((up_k (by decide)).trans rfl) ?_
          have f1811 := b0_52 hB
          have J111_1821 : ∀ (y111_0_1821 : Int) (h_y111_0_1821 : 0 ≤ y111_0_1821 ∧ y111_0_1821 ≤ 1) (i111_0_1821 : (y111_0_1821 = 1 ∧ 256 * T.1 x41_3_921 + T.1 (x41_3_921 + 1) < M 0 1 ∧ (T.1 (x41_3_921 + 2) = 255 ∨ T.1 (x41_3_921 + 2) < A 0 0)) ∨ (y111_0_1821 = 0 ∧ (M 0 1 ≤ 256 * T.1 x41_3_921 + T.1 (x41_3_921 + 1) ∨ (T.1 (x41_3_921 + 2) ≠ 255 ∧ A 0 0 ≤ T.1 (x41_3_921 + 2))))), Go WSM G 2 iX12_see 111 [(0, vR 0), (1, vI (P 0 1)), (3, vI x41_3_921)] [vI y111_0_1821] (up P 0 1 0) Q := by
            intro y111_0_1821 h_y111_0_1821 i111_0_1821
            refine g_istore_n (l1 := [(2, vI y111_0_1821), (0, vR 0), (1, vI (P 0 1)), (3, vI x41_3_921)]) dX12_see_111 (by decide) rfl ?_
            have hsei9 := hse1.nx (by (clear hmh hmr i38_0_920 i41_0_921 i111_0_1821; omega)) (by (clear hmh hmr i38_0_920 i41_0_921 i111_0_1821; omega)) hl39 i111_0_1821
            refine g_iinc (l1 := [(3, vI (x41_3_921 + 3)), (2, vI y111_0_1821), (0, vR 0), (1, vI (P 0 1))]) dX12_see_112 rfl (by decide) rfl ?_
            refine g_goto (tgt := 41) dX12_see_115 (by decide) ?_
            refine g_forget (l1 := [(0, vR 0), (1, vI (P 0 1)), (2, vI y111_0_1821), (3, vI (x41_3_921 + 3))]) (by intro q hq; simp only [List.mem_cons, List.not_mem_nil, or_false] at hq ⊢; rcases hq with rfl | rfl | rfl | rfl <;> simp) ?_
            exact ih41_921 (x41_3_921 + 3) ⟨by have q0 := b0_1 hB; (clear hmh hmr i38_0_920 i41_0_921 i111_0_1821; omega), by have q0 := b0_1 hB; (clear hmh hmr i38_0_920 i41_0_921 i111_0_1821; omega)⟩ y111_0_1821 ⟨by have q0 := b0_1 hB; (clear hmh hmr i38_0_920 i41_0_921 i111_0_1821; omega), by have q0 := b0_1 hB; (clear hmh hmr i38_0_920 i41_0_921 i111_0_1821; omega)⟩ (by (clear hmh hmr i38_0_920 i41_0_921 i111_0_1821; omega)) (by first | exact hsei9 | exact hs0) (by (clear hmh hmr i38_0_920 i41_0_921 i111_0_1821; omega)) (by (clear hmh hmr i38_0_920 i41_0_921 i111_0_1821; omega))
          have J110_1822 : ∀ (i110_0_1822 : M 0 1 ≤ 256 * T.1 x41_3_921 + T.1 (x41_3_921 + 1) ∨ (T.1 (x41_3_921 + 2) ≠ 255 ∧ A 0 0 ≤ T.1 (x41_3_921 + 2))), Go WSM G 2 iX12_see 110 [(0, vR 0), (1, vI (P 0 1)), (3, vI x41_3_921)] [] (up P 0 1 0) Q := by
            intro i110_0_1822
            refine g_iconst dX12_see_110 ?_
            refine g_forget (l1 := [(0, vR 0), (1, vI (P 0 1)), (3, vI x41_3_921)]) (by intro q hq; simp only [List.mem_cons, List.not_mem_nil, or_false] at hq ⊢; rcases hq with rfl | rfl | rfl <;> simp) ?_
            exact J111_1821 0 (by decide) (by (clear hmh hmr i38_0_920 i41_0_921; omega))
          refine g_icmp_ge (tgt := 110) dX12_see_72 (by decide) ⟨by (clear hmh hmr i38_0_920 i41_0_921; omega), by (clear hmh hmr i38_0_920 i41_0_921; omega)⟩ ⟨by have q0 := b0_52 hB; (clear hmh hmr i38_0_920 i41_0_921; omega), by have q0 := b0_52 hB; (clear hmh hmr i38_0_920 i41_0_921; omega)⟩ (fun k1824 => ?_) (fun k1824 => ?_)
          · skip
            have r_i38_0_920 := (i38_0_920.resolve_right (by (clear hmh hmr i38_0_920 i41_0_921; omega)))
            refine g_forget (l1 := [(0, vR 0), (1, vI (P 0 1)), (3, vI x41_3_921)]) (by intro q hq; simp only [List.mem_cons, List.not_mem_nil, or_false] at hq ⊢; rcases hq with rfl | rfl | rfl <;> simp) ?_
            exact J110_1822 (by (clear hmh hmr i38_0_920 i41_0_921; omega))
          · skip
            have r_i38_0_920 := (i38_0_920.resolve_right (by (clear hmh hmr i38_0_920 i41_0_921; omega)))
            refine g_aload_n dX12_see_75 rfl ?_
            refine m_g0 rfl dX12_see_76 ?_
            refine g_iload_n dX12_see_79 rfl ?_
            refine g_iconst dX12_see_80 ?_
            refine g_iadd dX12_see_81 ?_
            refine m_l1 (z := (P 1 (x41_3_921 + 2))) dX12_see_82 ⟨by (clear hmh hmr i38_0_920 i41_0_921; omega), by (clear hmh hmr i38_0_920 i41_0_921; omega)⟩ ((up_o (by decide)).trans rfl) ?_
            refine g_sipush dX12_see_83 (by decide) ?_
            have f1825 := bl_1 (k := (x41_3_921 + 2)) hB
            have J106_1828 : ∀ (i106_0_1828 : 256 * T.1 x41_3_921 + T.1 (x41_3_921 + 1) < M 0 1 ∧ (T.1 (x41_3_921 + 2) = 255 ∨ T.1 (x41_3_921 + 2) < A 0 0)), Go WSM G 2 iX12_see 106 [(0, vR 0), (1, vI (P 0 1)), (3, vI x41_3_921)] [] (up P 0 1 0) Q := by
              intro i106_0_1828
              refine g_iconst dX12_see_106 ?_
              refine g_goto (tgt := 111) dX12_see_107 (by decide) ?_
              refine g_forget (l1 := [(0, vR 0), (1, vI (P 0 1)), (3, vI x41_3_921)]) (by intro q hq; simp only [List.mem_cons, List.not_mem_nil, or_false] at hq ⊢; rcases hq with rfl | rfl | rfl <;> simp) ?_
              exact J111_1821 1 (by decide) (by (clear hmh hmr i38_0_920 i41_0_921; omega))
            refine g_icmp_eq (tgt := 106) dX12_see_86 (by decide) ⟨by have q0 := bl_1 (k := (x41_3_921 + 2)) hB; (clear hmh hmr i38_0_920 i41_0_921; omega), by have q0 := bl_1 (k := (x41_3_921 + 2)) hB; (clear hmh hmr i38_0_920 i41_0_921; omega)⟩ (by decide) (fun k1830 => ?_) (fun k1830 => ?_)
            · skip
              skip
              refine g_forget (l1 := [(0, vR 0), (1, vI (P 0 1)), (3, vI x41_3_921)]) (by intro q hq; simp only [List.mem_cons, List.not_mem_nil, or_false] at hq ⊢; rcases hq with rfl | rfl | rfl <;> simp) ?_
              exact J106_1828 (by (clear hmh hmr i38_0_920 i41_0_921; omega))
            · have k1830n : (P 1 (x41_3_921 + 2)) ≤ 254 := by have q0 := bl_1 (k := (x41_3_921 + 2)) hB; (clear hmh hmr i38_0_920 i41_0_921; omega)
              clear k1830
              skip
              skip
              refine g_aload_n dX12_see_89 rfl ?_
              refine m_g0 rfl dX12_see_90 ?_
              refine g_iload_n dX12_see_93 rfl ?_
              refine g_iconst dX12_see_94 ?_
              refine g_iadd dX12_see_95 ?_
              refine m_l1 (z := (P 1 (x41_3_921 + 2))) dX12_see_96 ⟨by (clear hmh hmr i38_0_920 i41_0_921; omega), by (clear hmh hmr i38_0_920 i41_0_921; omega)⟩ ((up_o (by decide)).trans rfl) ?_
              refine g_aload_n dX12_see_97 rfl ?_
              refine m_g53 rfl dX12_see_98 ?_
              refine g_iconst dX12_see_101 ?_
              refine m_l35 (z := (P 35 0)) dX12_see_102 (by decide) ((up_o (by decide)).trans rfl) ?_
              have f1831 := bl_35 (k := 0) hB
              refine g_icmp_ge (tgt := 110) dX12_see_103 (by decide) ⟨by have q0 := bl_1 (k := (x41_3_921 + 2)) hB; (clear hmh hmr i38_0_920 i41_0_921; omega), by have q0 := bl_1 (k := (x41_3_921 + 2)) hB; (clear hmh hmr i38_0_920 i41_0_921; omega)⟩ ⟨by have q0 := bl_35 (k := 0) hB; (clear hmh hmr i38_0_920 i41_0_921; omega), by have q0 := bl_35 (k := 0) hB; (clear hmh hmr i38_0_920 i41_0_921; omega)⟩ (fun k1832 => ?_) (fun k1832 => ?_)
              · skip
                skip
                refine g_forget (l1 := [(0, vR 0), (1, vI (P 0 1)), (3, vI x41_3_921)]) (by intro q hq; simp only [List.mem_cons, List.not_mem_nil, or_false] at hq ⊢; rcases hq with rfl | rfl | rfl <;> simp) ?_
                exact J110_1822 (by (clear hmh hmr i38_0_920 i41_0_921; omega))
              · skip
                skip
                refine g_forget (l1 := [(0, vR 0), (1, vI (P 0 1)), (3, vI x41_3_921)]) (by intro q hq; simp only [List.mem_cons, List.not_mem_nil, or_false] at hq ⊢; rcases hq with rfl | rfl | rfl <;> simp) ?_
                exact J106_1828 (by (clear hmh hmr i38_0_920 i41_0_921; omega))
    refine g_forget (l1 := [(0, vR 0), (1, vI (P 0 1)), (2, vI y38_0_920), (3, vI 0)]) (by intro q hq; simp only [List.mem_cons, List.not_mem_nil, or_false] at hq ⊢; rcases hq with rfl | rfl | rfl | rfl <;> simp) ?_
    exact L41_921 _ 0 (by decide) y38_0_920 ⟨by have q0 := b0_1 hB; (clear hmh hmr i38_0_920; omega), by have q0 := b0_1 hB; (clear hmh hmr i38_0_920; omega)⟩ (by (clear hmh hmr; omega)) (by first | exact hsei9 | exact hs0) (by (clear hmh hmr i38_0_920; omega)) (Nat.lt_succ_self _)
  have J37_1832 : ∀ (i37_0_1832 : M 0 0 ≤ 0 ∨ T.2 ≤ 0 ∨ T.2 % 3 ≠ 0 ∨ 48 < T.2), Go WSM G 2 iX12_see 37 [(0, vR 0), (1, vI (P 0 1))] [] (up P 0 1 0) Q := by
    intro i37_0_1832
    refine g_iconst dX12_see_37 ?_
    refine g_forget (l1 := [(0, vR 0), (1, vI (P 0 1))]) (by intro q hq; simp only [List.mem_cons, List.not_mem_nil, or_false] at hq ⊢; rcases hq with rfl | rfl <;> simp) ?_
    exact J38_920 0 (by decide) (by (clear hmh hmr; omega))
  refine g_if_eq (tgt := 37) dX12_see_14 (by decide) ⟨by have q0 := b0_44 hB; (clear hmh hmr; omega), by have q0 := b0_44 hB; (clear hmh hmr; omega)⟩ (fun k1834 => ?_) (fun k1834 => ?_)
  · refine g_forget (l1 := [(0, vR 0), (1, vI (P 0 1))]) (by intro q hq; simp only [List.mem_cons, List.not_mem_nil, or_false] at hq ⊢; rcases hq with rfl | rfl <;> simp) ?_
    exact J37_1832 (by (clear hmr; omega))
  · have k1834n : 1 ≤ (P 0 44) := by have q0 := b0_44 hB; (clear hmh hmr; omega)
    clear k1834
    refine g_iload_n dX12_see_17 rfl ?_
    have f1835 := b0_1 hB
    refine g_if_le (tgt := 37) dX12_see_18 (by decide) ⟨by have q0 := b0_1 hB; (clear hmh hmr; omega), by have q0 := b0_1 hB; (clear hmh hmr; omega)⟩ (fun k1836 => ?_) (fun k1836 => ?_)
    · refine g_forget (l1 := [(0, vR 0), (1, vI (P 0 1))]) (by intro q hq; simp only [List.mem_cons, List.not_mem_nil, or_false] at hq ⊢; rcases hq with rfl | rfl <;> simp) ?_
      exact J37_1832 (by (clear hmh hmr; omega))
    · refine g_iload_n dX12_see_21 rfl ?_
      refine g_iconst dX12_see_22 ?_
      refine g_irem dX12_see_23 ⟨(by decide), by decide⟩ ?_
      refine g_nm (fun b1837 e_b1837 => ?_)
      have h_b1837 := irem_b (x := (P 0 1)) (y := 3) ⟨by have q0 := b0_1 hB; (clear hmh hmr; omega), by have q0 := b0_1 hB; (clear hmh hmr; omega)⟩ ⟨by (clear hmh hmr; omega), by (clear hmh hmr; omega)⟩
      rw [← e_b1837] at h_b1837
      have f_b1837_0 := b0_1 hB
      have hz := e_b1837
      rw [irem_p ⟨by (clear hmh hmr; omega), by (clear hmh hmr; omega)⟩ ⟨by decide, by decide⟩] at hz
      refine g_if_ne (tgt := 37) dX12_see_24 (by decide) ⟨by (clear hmh hmr; omega), by (clear hmh hmr; omega)⟩ (fun k1838 => ?_) (fun k1838 => ?_)
      · have k1838n : 1 ≤ b1837 := by (clear hmh hmr; omega)
        clear k1838
        refine g_forget (l1 := [(0, vR 0), (1, vI (P 0 1))]) (by intro q hq; simp only [List.mem_cons, List.not_mem_nil, or_false] at hq ⊢; rcases hq with rfl | rfl <;> simp) ?_
        exact J37_1832 (by (clear hmh hmr; omega))
      · refine g_iload_n dX12_see_27 rfl ?_
        refine g_bipush dX12_see_28 (by decide) ?_
        refine g_icmp_gt (tgt := 37) dX12_see_30 (by decide) ⟨by have q0 := b0_1 hB; (clear hmh hmr; omega), by have q0 := b0_1 hB; (clear hmh hmr; omega)⟩ (by decide) (fun k1839 => ?_) (fun k1839 => ?_)
        · refine g_forget (l1 := [(0, vR 0), (1, vI (P 0 1))]) (by intro q hq; simp only [List.mem_cons, List.not_mem_nil, or_false] at hq ⊢; rcases hq with rfl | rfl <;> simp) ?_
          exact J37_1832 (by (clear hmh hmr; omega))
        · refine g_iconst dX12_see_33 ?_
          refine g_goto (tgt := 38) dX12_see_34 (by decide) ?_
          refine g_forget (l1 := [(0, vR 0), (1, vI (P 0 1))]) (by intro q hq; simp only [List.mem_cons, List.not_mem_nil, or_false] at hq ⊢; rcases hq with rfl | rfl <;> simp) ?_
          exact J38_920 1 (by decide) (by (clear hmr; omega))
/-! What the reference answers: X12_seed. -/
set_option maxRecDepth 100000 in
set_option maxHeartbeats 4000000 in
theorem f_X12_seed (G : GT) (P : PH) (A : PH) (a1 : Int) (h_a1 : (-2147483648) ≤ a1 ∧ a1 ≤ 2147483647) (hB : BdM P) (z0 : AM A P) (Q : Option PV → PH → Prop) (hQ : ∀ (r : Int) (_ : 0 ≤ r ∧ r ≤ 1) (P1 : PH) (_ : BdM P1) (_ : FrM ([61], [28]) P P1) (_ : (a1 < 0 ∧ r = 0) ∨ (0 ≤ a1 ∧ r = 1)) (_ : AM (aSeed A a1) P1), Q (some (vI r)) P1) : Ct WSM G 2 iX12_seed [vR 0, vI a1] P Q := by
  refine Ct.of (by decide) (l0 := [(0, vR 0), (1, vI a1)]) rfl (Nat.le_of_ble_eq_true rfl) ?_
  refine g_iload_n dX12_seed_0 rfl ?_
  refine g_if_ge (tgt := 18) dX12_seed_1 (by decide) ⟨by omega, by omega⟩ (fun k1 => ?_) (fun k1 => ?_)
  · refine g_aload_n dX12_seed_18 rfl ?_
    refine g_iload_n dX12_seed_19 rfl ?_
    refine g_i2l dX12_seed_20 ⟨by omega, by omega⟩ ?_
    refine m_p61 rfl dX12_seed_21 ?_
    have hB2 := bs_61 (z := a1) hB ⟨by omega, by omega⟩
    refine g_iconst dX12_seed_24 ?_
    exact g_retZ dX12_seed_25 rfl (by decide) (hQ 1 (by decide) _ hB2 (FrM.s FrM.rf rfl) (by omega) (by rw [aSeed_y (by omega)]; exact z0.sd up_same (FrM.s FrM.rf rfl)))
  · refine g_aload_n dX12_seed_4 rfl ?_
    refine g_iconst dX12_seed_5 ?_
    refine g_vI (av := [vI 5]) (o := 0) (st := []) (m_X12_refuses G P 5 (by decide) hB  _ (fun rc3 hc3 Pc3 hBc3 hFc3 => ⟨rc3, rfl, ?_⟩)) cf_X12_refuses t_1667 rfl (by decide) rfl rfl rfl (Nat.le_of_ble_eq_true rfl) (by decide) rfl dX12_seed_6
    refine g_if_lt (tgt := 16) dX12_seed_9 (by decide) ⟨by omega, by omega⟩ (fun k4 => ?_) (fun k4 => by exfalso; omega)
    refine g_iconst dX12_seed_16 ?_
    exact g_retZ dX12_seed_17 rfl (by decide) (hQ 0 (by decide) _ hBc3 (FrM.c FrM.rf hFc3 rfl) (by (clear k4; omega)) (by rw [aSeed_n (by (clear k4; omega))]; exact (AM.fr (F := ([], [28])) z0 (FrM.c FrM.rf hFc3 rfl) rfl)))
/-! What the reference answers: X12_setIn. -/
set_option maxRecDepth 100000 in
set_option maxHeartbeats 4000000 in
theorem f_X12_setIn (G : GT) (P : PH) (a1 : Int) (a2 : Int) (h_a1 : 0 ≤ a1 ∧ a1 ≤ 3) (h_a2 : 0 ≤ a2 ∧ a2 ≤ 2009) (hB : BdM P) (Q : Option PV → PH → Prop) (hQ : ∀ (r : Int) (_ : 0 ≤ r ∧ r ≤ 4095) (_ : r = P 41 (2010 * a1 + P 31 (2010 * a1 + a2))), Q (some (vI r)) P) : Ct WSM G 1 iX12_setIn [vR 0, vI a1, vI a2] P Q := by
  refine Ct.of (by decide) (l0 := [(0, vR 0), (1, vI a1), (2, vI a2)]) rfl (Nat.le_of_ble_eq_true rfl) ?_
  refine g_aload_n dX12_setIn_0 rfl ?_
  refine m_g63 rfl dX12_setIn_1 ?_
  refine g_sipush dX12_setIn_4 (by decide) ?_
  refine g_iload_n dX12_setIn_7 rfl ?_
  refine g_imul dX12_setIn_8 ?_
  refine g_aload_n dX12_setIn_9 rfl ?_
  refine m_g48 rfl dX12_setIn_10 ?_
  refine g_sipush dX12_setIn_13 (by decide) ?_
  refine g_iload_n dX12_setIn_16 rfl ?_
  refine g_imul dX12_setIn_17 ?_
  refine g_iload_n dX12_setIn_18 rfl ?_
  refine g_iadd dX12_setIn_19 ?_
  refine m_l31 (z := (P 31 ((2010 * a1) + a2))) dX12_setIn_20 ⟨by omega, by omega⟩ rfl ?_
  refine g_iadd dX12_setIn_21 ?_
  refine m_l41 (z := (P 41 ((2010 * a1) + (P 31 ((2010 * a1) + a2))))) dX12_setIn_22 ⟨by have q0 := bl_31 (k := ((2010 * a1) + a2)) hB; omega, by have q0 := bl_31 (k := ((2010 * a1) + a2)) hB; omega⟩ rfl ?_
  exact g_retI dX12_setIn_23 rfl (hQ (P 41 ((2010 * a1) + (P 31 ((2010 * a1) + a2)))) ⟨by have q0 := bl_41 (k := ((2010 * a1) + (P 31 ((2010 * a1) + a2)))) hB; omega, by have q0 := bl_41 (k := ((2010 * a1) + (P 31 ((2010 * a1) + a2)))) hB; omega⟩ (by have q0 := bl_41 (k := ((2010 * a1) + (P 31 ((2010 * a1) + a2)))) hB; have q1 := bl_31 (k := (2010 * a1 + a2)) hB; omega))
/-! What the reference answers: X12_fits. -/
set_option maxRecDepth 100000 in
set_option maxHeartbeats 4000000 in
theorem f_X12_fits (G : GT) (P : PH) (K : PH) (M : PH) (F : FT) (A : PH) (a1 : Int) (a2 : Int) (a3 : Int) (h_a1 : (-2147483648) ≤ a1 ∧ a1 ≤ 2147483647) (h_a2 : (-2147483648) ≤ a2 ∧ a2 ≤ 2147483647) (h_a3 : (-2147483648) ≤ a3 ∧ a3 ≤ 2147483647) (hB : BdM P) (p_st : P 0 74 ≤ 199999999) (p_im : P 0 44 = 1 ∨ A 0 0 ≤ 0) (p_aw : AW K) (p_av : AV K M) (p_ga : GA M A) (v_okC : okC P) (v_MVw : MVw P) (v_RE : RE P) (z0 : AM A P) (z1 : MH M P) (z2 : MKB K P) (z3 : MMB M P) (z4 : LYT K M F P) (Q : Option PV → PH → Prop) (hQ : ∀ (r : Int) (_ : (-2147483648) ≤ r ∧ r ≤ 2147483647) (P1 : PH) (_ : BdM P1) (_ : FrM ([62, 66, 74], [41, 42, 43]) P P1) (_ : P1 0 74 ≤ P 0 74 + 1) (_ : r = ftR K M F A a1 a2 a3) (_ : MVw P1) (_ : RE P1), Q (some (vI r)) P1) : Ct WSM G 3 iX12_fits [vR 0, vI a1, vI a2, vI a3] P Q := by
  refine Ct.of (by decide) (l0 := [(0, vR 0), (1, vI a1), (2, vI a2), (3, vI a3)]) rfl (Nat.le_of_ble_eq_true rfl) ?_
  have hb := z0.b
  have hmb := z3.b
  have hav := p_av
  have q35 := bl_35 (k := 0) hB
  refine g_aload_n dX12_fits_0 rfl ?_
  refine g_iload_n dX12_fits_1 rfl ?_
  refine g_vI (av := [vI a1]) (o := 0) (st := []) (f_X12_isPlace G P (A) a1 ⟨by (clear p_im hb hmb; omega), by (clear p_im hb hmb; omega)⟩ hB (by have q0 := b0_44 hB; (clear hb hmb; omega)) (z0) _ (fun rc1 hc1 gc1_p gc1_f => ⟨rc1, rfl, ?_⟩)) cf_X12_isPlace t_1883 rfl (by decide) rfl rfl rfl (Nat.le_of_ble_eq_true rfl) (by decide) rfl dX12_fits_2
  have f2 := b0_44 hB
  have f3 := bl_35 (k := 0) hB
  refine g_if_eq (tgt := 37) dX12_fits_5 (by decide) ⟨by (clear p_im hb hmb gc1_p gc1_f; omega), by (clear p_im hb hmb gc1_p gc1_f; omega)⟩ (fun k4 => ?_) (fun k4 => ?_)
  · skip
    skip
    skip
    refine g_iconst dX12_fits_37 ?_
    exact g_retI dX12_fits_38 rfl (hQ (-1) (by decide) _ hB FrM.rf (by have q0 := b0_74 hB; (clear p_im hb hmb gc1_p gc1_f k4; omega)) (by rw [ftR_n (by (clear p_im hb hmb gc1_p; omega))]) v_MVw v_RE)
  · have k4n : 1 ≤ rc1 := by (clear p_im hb hmb gc1_p gc1_f; omega)
    clear k4
    have r_gc1_f := (gc1_f.resolve_right (by (clear p_im hb hmb gc1_p gc1_f; omega)))
    have r_gc1_p := (gc1_p.resolve_left (by (clear p_im hb hmb gc1_p gc1_f; omega)))
    have r_p_im := (p_im.resolve_right (by (clear p_im hb hmb gc1_p gc1_f; omega)))
    refine g_iload_n dX12_fits_8 rfl ?_
    refine g_iconst dX12_fits_9 ?_
    refine g_aload_n dX12_fits_10 rfl ?_
    refine g_vI (av := []) (o := 0) (st := [vI 0, vI a2]) (m_X12_columns G P  hB  _ (fun rc5 hc5 gc5_c => ⟨rc5, rfl, ?_⟩)) cf_X12_columns t_1827 rfl (by decide) rfl rfl rfl (Nat.le_of_ble_eq_true rfl) (by decide) rfl dX12_fits_11
    refine g_iconst dX12_fits_14 ?_
    refine g_isub dX12_fits_15 ?_
    refine g_sI (av := [vI a2, vI 0, vI (rc5 - 1)]) (st := []) (m_X12_is G P a2 0 (rc5 - 1) ⟨by (clear p_im hb hmb gc1_p gc1_f; omega), by (clear p_im hb hmb gc1_p gc1_f; omega)⟩ (by decide) ⟨by (clear p_im hb hmb gc1_p gc1_f; omega), by (clear p_im hb hmb gc1_p gc1_f; omega)⟩ hB  _ (fun rc6 hc6 gc6_is => ⟨rc6, rfl, ?_⟩)) cf_X12_is t_1800 rfl (Nat.le_of_ble_eq_true rfl) (by decide) rfl dX12_fits_16
    refine g_if_eq (tgt := 37) dX12_fits_19 (by decide) ⟨by (clear p_im hb hmb gc1_p gc1_f gc6_is; omega), by (clear p_im hb hmb gc1_p gc1_f gc6_is; omega)⟩ (fun k7 => ?_) (fun k7 => ?_)
    · skip
      skip
      skip
      skip
      refine g_iconst dX12_fits_37 ?_
      exact g_retI dX12_fits_38 rfl (hQ (-1) (by decide) _ hB FrM.rf (by have q0 := b0_74 hB; (clear p_im hb hmb gc1_p gc1_f gc6_is k7; omega)) (by rw [ftR_n (by (omega))]) v_MVw v_RE)
    · have k7n : 1 ≤ rc6 := by (clear p_im hb hmb gc1_p gc1_f gc6_is; omega)
      clear k7
      have r_gc6_is := (gc6_is.resolve_right (by (clear p_im hb hmb gc1_p gc1_f gc6_is; omega)))
      skip
      skip
      skip
      refine g_iload_n dX12_fits_22 rfl ?_
      refine g_iconst dX12_fits_23 ?_
      refine g_aload_n dX12_fits_24 rfl ?_
      refine g_iload_n dX12_fits_25 rfl ?_
      refine g_vI (av := [vI a2]) (o := 0) (st := [vI 0, vI a3]) (m_X12_columnValues G P a2 ⟨by (clear p_im hb hmb gc1_p gc1_f gc6_is; omega), by (clear p_im hb hmb gc1_p gc1_f gc6_is; omega)⟩ hB (by have q0 := bl_11 (k := (P 0 13)) hB; (clear p_im hb hmb gc1_p gc1_f gc6_is; omega)) v_okC _ (fun rc8 hc8 gc8_v => ⟨rc8, rfl, ?_⟩)) cf_X12_columnValues t_1831 rfl (by decide) rfl rfl rfl (Nat.le_of_ble_eq_true rfl) (by decide) rfl dX12_fits_26
      have r12c : ∀ j, P 12 j = P 12 j := fun j => rfl
      have r3c : ∀ j, P 3 j = P 3 j := fun j => rfl
      have hcs : rc8 = sz K (M 1 a2) := by have q := gc8_v; rw [show P 0 13 = P 0 13 from rfl, r12c, vals_row (show P 3 = P 3 from funext r3c)] at q; rw [q]; exact z2.vl (z3.2.2.2.2.1 a2 (by (clear p_im hb hmb gc1_p gc1_f gc6_is; omega)) (by (clear p_im hb gc1_p gc1_f gc6_is; omega))) (by have q2 := p_av.2.2.2.2 a2 (by (clear p_im hb hmb gc1_p gc1_f gc6_is; omega)) (by (clear p_im hb gc1_p gc1_f gc6_is; omega)); (clear p_im hb hmb gc1_p gc1_f gc6_is; omega))
      refine g_iconst dX12_fits_29 ?_
      refine g_isub dX12_fits_30 ?_
      refine g_sI (av := [vI a3, vI 0, vI (rc8 - 1)]) (st := []) (m_X12_is G P a3 0 (rc8 - 1) ⟨by (clear p_im hb hmb gc1_p gc1_f gc6_is; omega), by (clear p_im hb hmb gc1_p gc1_f gc6_is; omega)⟩ (by decide) ⟨by (clear p_im hb hmb gc1_p gc1_f gc6_is; omega), by (clear p_im hb hmb gc1_p gc1_f gc6_is; omega)⟩ hB  _ (fun rc9 hc9 gc9_is => ⟨rc9, rfl, ?_⟩)) cf_X12_is t_1800 rfl (Nat.le_of_ble_eq_true rfl) (by decide) rfl dX12_fits_31
      refine g_if_ne (tgt := 39) dX12_fits_34 (by decide) ⟨by (clear p_im hb hmb gc1_p gc1_f gc6_is gc9_is; omega), by (clear p_im hb hmb gc1_p gc1_f gc6_is gc9_is; omega)⟩ (fun k10 => ?_) (fun k10 => ?_)
      · have k10n : 1 ≤ rc9 := by (clear p_im hb hmb gc1_p gc1_f gc6_is gc9_is; omega)
        clear k10
        have r_gc9_is := (gc9_is.resolve_right (by (clear p_im hb hmb gc1_p gc1_f gc6_is gc9_is; omega)))
        skip
        skip
        skip
        skip
        refine g_aload_n dX12_fits_39 rfl ?_
        refine g_iconst dX12_fits_40 ?_
        have iv11 : ODb 0 (A 0 0) (A 1) P := AM.od z0
        refine g_vV (av := [vI 0]) (o := 0) (st := []) (f_X12_arranges G P (K) (M) (F) (A 0 0) (A 1) 0 (by decide) hB (by have q0 := b0_74 hB; (clear p_im hb hmb gc1_p gc1_f gc6_is gc9_is; omega)) p_aw (p_av) (p_ga.1) (⟨by (clear p_im hb hmb gc1_p gc1_f gc6_is gc9_is; omega), by (clear p_im hmb gc1_p gc1_f gc6_is gc9_is; omega)⟩) v_MVw v_RE (z3) (z4) (iv11) _ (fun Pc12 hBc12 hFc12 gc12_st vc12_MV vc12_RE vc12_RLt ec12_0 => ⟨rfl, ?_⟩)) cf_X12_arranges t_1887 rfl (by decide) rfl rfl rfl (Nat.le_of_ble_eq_true rfl) (by decide) rfl dX12_fits_41
        refine g_aload_n dX12_fits_44 rfl ?_
        refine g_iload_n dX12_fits_45 rfl ?_
        refine g_iload_n dX12_fits_46 rfl ?_
        refine g_vI (av := [vI a2, vI a3]) (o := 0) (st := []) (f_X12_setIn G Pc12 a2 a3 ⟨by (clear p_im hb hmb gc1_p gc1_f gc6_is gc9_is; omega), by (clear p_im hb hmb gc1_p gc1_f gc6_is gc9_is; omega)⟩ ⟨by (clear p_im hb hmb gc1_p gc1_f gc6_is gc9_is; omega), by (clear p_im hb hmb gc1_p gc1_f gc6_is gc9_is; omega)⟩ hBc12  _ (fun rc13 hc13 gc13_s => ⟨rc13, rfl, ?_⟩)) cf_X12_setIn t_1907 rfl (by decide) rfl rfl rfl (Nat.le_of_ble_eq_true rfl) (by decide) rfl dX12_fits_47
        have hst9 := gc13_s
        obtain ⟨X9, hX9⟩ : ∃ X : Int, X = rc13 := ⟨_, rfl⟩
        refine g_iload_n dX12_fits_50 rfl ?_
        refine g_ishr dX12_fits_51 ?_
        refine g_nm (fun b14 e_b14 => ?_)
        have h_b14 := ishr_ir rc13 a1
        rw [← e_b14] at h_b14
        refine g_iconst dX12_fits_52 ?_
        refine g_iand dX12_fits_53 ?_
        refine g_nm (fun b15 e_b15 => ?_)
        have h_b15 := iand_r (x := b14) (y := 1) ⟨by (clear p_im hb hmb gc1_p gc1_f gc6_is gc9_is; omega), by (clear p_im hb hmb gc1_p gc1_f gc6_is gc9_is; omega)⟩
        rw [← e_b15] at h_b15
        have hr9 : b15 = b1 (tv K (F (A 1 a1) a2) a3 = 1) := by
          have hb9 := bit_is (x := X9) (i := a1) ⟨by (clear p_im hb hmb gc1_p gc1_f gc6_is gc9_is; omega), by (clear p_im hb hmb gc1_p gc1_f gc6_is gc9_is; omega)⟩ ⟨by (clear p_im hb hmb gc1_p gc1_f gc6_is gc9_is; omega), by (clear p_im hb hmb gc1_p gc1_f gc6_is gc9_is; omega)⟩
          have hs9 := (ec12_0).2.2.2 a2 a3 (by (clear p_im hb hmb gc1_p gc1_f gc6_is gc9_is; omega)) (by (clear p_im hb gc1_p gc1_f gc6_is gc9_is; omega)) (by (clear p_im hb hmb gc1_p gc1_f gc6_is gc9_is; omega)) (by (clear p_im hb hmb gc1_p gc1_f gc6_is gc9_is; omega)) a1 (by (clear p_im hb hmb gc1_p gc1_f gc6_is gc9_is; omega))
          rw [← hst9, ← hX9, decide_eq_true (show a1 < A 0 0 by (clear p_im hb hmb gc1_p gc1_f gc6_is gc9_is; omega)), Bool.true_and] at hs9
          rw [hs9] at hb9
          rw [e_b15, e_b14, ← hX9, hb9]
          unfold b1
          by_cases q : tv K (F (A 1 a1) a2) a3 = 1
          · rw [decide_eq_true q, if_pos rfl, if_pos q]
          · rw [decide_eq_false q, if_neg (by decide), if_neg q]
        exact g_retI dX12_fits_54 rfl (hQ b15 ⟨by (clear p_im hb hmb gc1_p gc1_f gc6_is gc9_is; omega), by (clear p_im hb hmb gc1_p gc1_f gc6_is gc9_is; omega)⟩ _ hBc12 (FrM.c FrM.rf hFc12 rfl) (by have q0 := b0_74 hBc12; (clear p_im hb hmb gc1_p gc1_f gc6_is gc9_is; omega)) (by rw [ftR_y (by (clear p_im hb gc1_p gc1_f gc6_is gc9_is; omega))]; exact hr9) (vc12_MV.w) vc12_RE)
      · skip
        skip
        skip
        skip
        skip
        refine g_iconst dX12_fits_37 ?_
        exact g_retI dX12_fits_38 rfl (hQ (-1) (by decide) _ hB FrM.rf (by have q0 := b0_74 hB; (clear p_im hb hmb gc1_p gc1_f gc6_is gc9_is k10; omega)) (by rw [ftR_n (by (clear p_im hb hmb gc1_p gc1_f gc6_is; omega))]) v_MVw v_RE)
/-! What the reference answers: X12_slot. -/
set_option maxRecDepth 100000 in
set_option maxHeartbeats 4000000 in
theorem f_X12_slot (G : GT) (P : PH) (a1 : Int) (h_a1 : 0 ≤ a1 ∧ a1 ≤ 20) (hB : BdM P) (Q : Option PV → PH → Prop) (hQ : ∀ (r : Int) (_ : 2 ≤ r ∧ r ≤ 21) (_ : r = 2 + (P 0 59 + a1) % 20), Q (some (vI r)) P) : Ct WSM G 1 iX12_slot [vR 0, vI a1] P Q := by
  refine Ct.of (by decide) (l0 := [(0, vR 0), (1, vI a1)]) rfl (Nat.le_of_ble_eq_true rfl) ?_
  refine g_iconst dX12_slot_0 ?_
  refine g_aload_n dX12_slot_1 rfl ?_
  refine m_g59 (z := (P 0 59)) rfl dX12_slot_2 rfl ?_
  refine g_iload_n dX12_slot_5 rfl ?_
  refine g_iadd dX12_slot_6 ?_
  refine g_bipush dX12_slot_7 (by decide) ?_
  refine g_irem dX12_slot_9 ⟨(by decide), by decide⟩ ?_
  refine g_nm (fun b1 e_b1 => ?_)
  have h_b1 := irem_b (x := ((P 0 59) + a1)) (y := 20) ⟨by have q0 := b0_59 hB; omega, by have q0 := b0_59 hB; omega⟩ ⟨by omega, by omega⟩
  rw [← e_b1] at h_b1
  have f_b1_0 := b0_59 hB
  have q59 := b0_59 hB
  have hz := e_b1
  rw [irem_p ⟨by omega, by omega⟩ ⟨by decide, by decide⟩] at hz
  refine g_iadd dX12_slot_10 ?_
  exact g_retI dX12_slot_11 rfl (hQ (2 + b1) ⟨by omega, by omega⟩ (by have q0 := b0_59 hB; omega))
/-! What the reference answers: X12_keeps. -/
set_option maxRecDepth 100000 in
set_option maxHeartbeats 4000000 in
theorem f_X12_keeps (G : GT) (P : PH) (A : PH) (k : Int) (hB : BdM P) (p_wa : WA k A) (z0 : AM A P) (Q : Option PV → PH → Prop) (hQ : ∀ (P1 : PH) (_ : BdM P1) (_ : FrM ([59, 60], [35, 36, 37, 38, 39, 40]) P P1) (_ : P1 35 0 = P 35 0) (_ : AM (aPush A) P1), Q none P1) : Ct WSM G 2 iX12_keeps [vR 0] P Q := by
  refine Ct.of (by decide) (l0 := [(0, vR 0)]) rfl (Nat.le_of_ble_eq_true rfl) ?_
  have hb := z0.b
  have hw4 := p_wa.2.1
  have q59 := b0_59 hB
  refine g_aload_n dX12_keeps_0 rfl ?_
  refine m_g60 (z := (P 0 60)) rfl dX12_keeps_1 rfl ?_
  refine g_bipush dX12_keeps_4 (by decide) ?_
  have f1 := b0_60 hB
  refine g_icmp_ne (tgt := 32) dX12_keeps_6 (by decide) ⟨by have q0 := b0_60 hB; (clear hb; omega), by have q0 := b0_60 hB; (clear hb; omega)⟩ (by decide) (fun k2 => ?_) (fun k2 => ?_)
  · have k2n : (P 0 60) ≤ 19 := by have q0 := b0_60 hB; (clear hb; omega)
    clear k2
    refine g_aload_n dX12_keeps_32 rfl ?_
    refine g_aload_n dX12_keeps_33 rfl ?_
    refine g_aload_n dX12_keeps_34 rfl ?_
    refine m_g60 (z := (P 0 60)) rfl dX12_keeps_35 rfl ?_
    refine g_vI (av := [vI (P 0 60)]) (o := 0) (st := [vR 0]) (f_X12_slot G P (P 0 60) ⟨by have q0 := b0_60 hB; (clear hb; omega), by have q0 := b0_60 hB; (clear hb; omega)⟩ hB  _ (fun rc3 hc3 gc3_s => ⟨rc3, rfl, ?_⟩)) cf_X12_slot t_1855 rfl (by decide) rfl rfl rfl (Nat.le_of_ble_eq_true rfl) (by decide) rfl dX12_keeps_38
    refine g_iconst dX12_keeps_41 ?_
    have r35 : ∀ j, P 35 j = P 35 j := fun j => rfl
    have r36 : ∀ j, P 36 j = P 36 j := fun j => rfl
    have r37 : ∀ j, P 37 j = P 37 j := fun j => rfl
    have r38 : ∀ j, P 38 j = P 38 j := fun j => rfl
    have r39 : ∀ j, P 39 j = P 39 j := fun j => rfl
    refine g_vV (av := [vI rc3, vI 0]) (o := 0) (st := []) (f_X12_copies G P rc3 0 ⟨by (clear hb; omega), by (clear hb; omega)⟩ (by decide) hB (by (clear hb; omega)) _ (fun Pc4 hBc4 hFc4 gc4_o gc4_cy => ⟨rfl, ?_⟩)) cf_X12_copies t_1859 rfl (by decide) rfl rfl rfl (Nat.le_of_ble_eq_true rfl) (by decide) rfl dX12_keeps_42
    have hcy := CY.row gc4_cy r35 r36 r37 r38 r39
    refine g_aload_n dX12_keeps_45 rfl ?_
    refine g_dup dX12_keeps_46 rfl ?_
    refine m_g60 (z := (P 0 60)) rfl dX12_keeps_47 ((hFc4.1 60 rfl).trans rfl) ?_
    refine g_iconst dX12_keeps_50 ?_
    refine g_iadd dX12_keeps_51 ?_
    refine m_p60 rfl dX12_keeps_52 ?_
    have hB5 := bs_60 (z := ((P 0 60) + 1)) hBc4 ⟨by have q0 := b0_60 hB; (clear hb gc4_o; omega), by have q0 := b0_60 hB; (clear hb gc4_o; omega)⟩
    exact g_retV dX12_keeps_55 rfl (hQ _ hB5 (FrM.s (FrM.c FrM.rf hFc4 rfl) rfl) (by have q0 := (((up_o (by decide)).trans rfl) : (up Pc4 0 60 ((P 0 60) + 1)) 35 0 = (Pc4 35 0)); have q1 := bl_35 (k := 0) hBc4; (clear hb; omega)) (AM.push z0 p_wa q59 hcy.r0 (by have h59 := (((up_k (by decide)).trans ((hFc4.1 59 rfl).trans rfl)) : (up Pc4 0 60 ((P 0 60) + 1)) 0 59 = (P 0 59)); have h60 := (up_same : (up Pc4 0 60 ((P 0 60) + 1)) 0 60 = ((P 0 60) + 1)); (clear gc4_o; omega)) ((up_k (by decide)).trans ((hFc4.1 61 rfl).trans rfl)) ((up_k (by decide)).trans ((hFc4.1 92 rfl).trans rfl))))
  · refine g_aload_n dX12_keeps_9 rfl ?_
    refine g_aload_n dX12_keeps_10 rfl ?_
    refine m_g59 (z := (P 0 59)) rfl dX12_keeps_11 rfl ?_
    refine g_iconst dX12_keeps_14 ?_
    refine g_iadd dX12_keeps_15 ?_
    refine g_bipush dX12_keeps_16 (by decide) ?_
    refine g_irem dX12_keeps_18 ⟨(by decide), by decide⟩ ?_
    refine g_nm (fun b6 e_b6 => ?_)
    have h_b6 := irem_b (x := ((P 0 59) + 1)) (y := 20) ⟨by have q0 := b0_59 hB; (clear hb k2; omega), by have q0 := b0_59 hB; (clear hb k2; omega)⟩ ⟨by (clear hb k2; omega), by (clear hb k2; omega)⟩
    rw [← e_b6] at h_b6
    have f_b6_0 := b0_59 hB
    have hz := e_b6
    rw [irem_p ⟨by (clear hb k2; omega), by (clear hb k2; omega)⟩ ⟨by decide, by decide⟩] at hz
    refine m_p59 rfl dX12_keeps_19 ?_
    have hB7 := bs_59 (z := b6) hB ⟨by (clear hb k2; omega), by (clear hb k2; omega)⟩
    refine g_aload_n dX12_keeps_22 rfl ?_
    refine g_dup dX12_keeps_23 rfl ?_
    refine m_g60 (z := (P 0 60)) rfl dX12_keeps_24 ((up_k (by decide)).trans rfl) ?_
    refine g_iconst dX12_keeps_27 ?_
    refine g_isub dX12_keeps_28 ?_
    refine m_p60 rfl dX12_keeps_29 ?_
    have hB8 := bs_60 (z := ((P 0 60) - 1)) hB7 ⟨by have q0 := b0_60 hB; (omega), by have q0 := b0_60 hB; (clear hb k2; omega)⟩
    refine g_aload_n dX12_keeps_32 rfl ?_
    refine g_aload_n dX12_keeps_33 rfl ?_
    refine g_aload_n dX12_keeps_34 rfl ?_
    refine m_g60 (z := ((P 0 60) - 1)) rfl dX12_keeps_35 up_same ?_
    refine g_vI (av := [vI ((P 0 60) - 1)]) (o := 0) (st := [vR 0]) (f_X12_slot G (up (up P 0 59 b6) 0 60 ((P 0 60) - 1)) ((P 0 60) - 1) ⟨by have q0 := b0_60 hB; (omega), by have q0 := b0_60 hB; (clear hb k2; omega)⟩ hB8  _ (fun rc9 hc9 gc9_s => ⟨rc9, rfl, ?_⟩)) cf_X12_slot t_1855 rfl (by decide) rfl rfl rfl (Nat.le_of_ble_eq_true rfl) (by decide) rfl dX12_keeps_38
    have z10 : (up (up P 0 59 b6) 0 60 ((P 0 60) - 1)) 0 59 = b6 := ((up_k (by decide)).trans up_same)
    refine g_iconst dX12_keeps_41 ?_
    have r35 : ∀ j, (up (up P 0 59 b6) 0 60 ((P 0 60) - 1)) 35 j = P 35 j := fun j => ((up_o (by decide)).trans ((up_o (by decide)).trans rfl))
    have r36 : ∀ j, (up (up P 0 59 b6) 0 60 ((P 0 60) - 1)) 36 j = P 36 j := fun j => ((up_o (by decide)).trans ((up_o (by decide)).trans rfl))
    have r37 : ∀ j, (up (up P 0 59 b6) 0 60 ((P 0 60) - 1)) 37 j = P 37 j := fun j => ((up_o (by decide)).trans ((up_o (by decide)).trans rfl))
    have r38 : ∀ j, (up (up P 0 59 b6) 0 60 ((P 0 60) - 1)) 38 j = P 38 j := fun j => ((up_o (by decide)).trans ((up_o (by decide)).trans rfl))
    have r39 : ∀ j, (up (up P 0 59 b6) 0 60 ((P 0 60) - 1)) 39 j = P 39 j := fun j => ((up_o (by decide)).trans ((up_o (by decide)).trans rfl))
    refine g_vV (av := [vI rc9, vI 0]) (o := 0) (st := []) (f_X12_copies G (up (up P 0 59 b6) 0 60 ((P 0 60) - 1)) rc9 0 ⟨by (clear hb k2; omega), by (clear hb k2; omega)⟩ (by decide) hB8 (by (clear hb k2; omega)) _ (fun Pc11 hBc11 hFc11 gc11_o gc11_cy => ⟨rfl, ?_⟩)) cf_X12_copies t_1859 rfl (by decide) rfl rfl rfl (Nat.le_of_ble_eq_true rfl) (by decide) rfl dX12_keeps_42
    have z12 : (up (up P 0 59 b6) 0 60 ((P 0 60) - 1)) 35 0 = (P 35 0) := ((up_o (by decide)).trans ((up_o (by decide)).trans rfl))
    have hcy := CY.row gc11_cy r35 r36 r37 r38 r39
    refine g_aload_n dX12_keeps_45 rfl ?_
    refine g_dup dX12_keeps_46 rfl ?_
    refine m_g60 (z := ((P 0 60) - 1)) rfl dX12_keeps_47 ((hFc11.1 60 rfl).trans up_same) ?_
    refine g_iconst dX12_keeps_50 ?_
    refine g_iadd dX12_keeps_51 ?_
    refine m_p60 rfl dX12_keeps_52 ?_
    have hB13 := bs_60 (z := (((P 0 60) - 1) + 1)) hBc11 ⟨by have q0 := b0_60 hB; (clear hb k2 gc11_o; omega), by have q0 := b0_60 hB; (clear hb k2 gc11_o; omega)⟩
    exact g_retV dX12_keeps_55 rfl (hQ _ hB13 (FrM.s (FrM.c (FrM.s (FrM.s FrM.rf rfl) rfl) hFc11 rfl) rfl) (by have q0 := (((up_o (by decide)).trans rfl) : (up Pc11 0 60 (((P 0 60) - 1) + 1)) 35 0 = (Pc11 35 0)); have q1 := bl_35 (k := 0) hBc11; (clear hb k2; omega)) (AM.push z0 p_wa q59 hcy.r0 (by have h59 := (((up_k (by decide)).trans ((hFc11.1 59 rfl).trans ((up_k (by decide)).trans up_same))) : (up Pc11 0 60 (((P 0 60) - 1) + 1)) 0 59 = b6); have h60 := (up_same : (up Pc11 0 60 (((P 0 60) - 1) + 1)) 0 60 = (((P 0 60) - 1) + 1)); (omega)) ((up_k (by decide)).trans ((hFc11.1 61 rfl).trans ((up_k (by decide)).trans ((up_k (by decide)).trans rfl)))) ((up_k (by decide)).trans ((hFc11.1 92 rfl).trans ((up_k (by decide)).trans ((up_k (by decide)).trans rfl))))))
/-! What the reference answers: X12_choose. -/
set_option maxRecDepth 100000 in
set_option maxHeartbeats 4000000 in
theorem f_X12_choose (G : GT) (P : PH) (A : PH) (k : Int) (M : PH) (a1 : Int) (h_a1 : (-2147483648) ≤ a1 ∧ a1 ≤ 2147483647) (hB : BdM P) (p_wa : WA k A) (z0 : AM A P) (z1 : MH M P) (Q : Option PV → PH → Prop) (hQ : ∀ (r : Int) (_ : 0 ≤ r ∧ r ≤ 1) (P1 : PH) (_ : BdM P1) (_ : FrM ([59, 60], [28, 35, 36, 37, 38, 39, 40]) P P1) (_ : (r = 0 ∧ (M 0 0 ≤ 0 ∨ a1 < 0 ∨ 3 < a1 ∨ A 0 2 = a1)) ∨ (r = 1 ∧ 0 < M 0 0 ∧ 0 ≤ a1 ∧ a1 ≤ 3 ∧ A 0 2 ≠ a1)) (_ : AM (aRule A M a1) P1), Q (some (vI r)) P1) : Ct WSM G 3 iX12_choose [vR 0, vI a1] P Q := by
  refine Ct.of (by decide) (l0 := [(0, vR 0), (1, vI a1)]) rfl (Nat.le_of_ble_eq_true rfl) ?_
  have hb := z0.b
  have q59 := b0_59 hB
  have hw1 := p_wa.1
  have hmh := z1
  unfold MH at hmh
  refine g_aload_n dX12_choose_0 rfl ?_
  refine m_g44 (z := (P 0 44)) rfl dX12_choose_1 rfl ?_
  have f1 := b0_44 hB
  refine g_if_eq (tgt := 26) dX12_choose_4 (by decide) ⟨by have q0 := b0_44 hB; (clear hb hmh; omega), by have q0 := b0_44 hB; (clear hb hmh; omega)⟩ (fun k2 => ?_) (fun k2 => ?_)
  · refine g_aload_n dX12_choose_26 rfl ?_
    refine g_iconst dX12_choose_27 ?_
    refine g_vI (av := [vI 3]) (o := 0) (st := []) (m_X12_refuses G P 3 (by decide) hB  _ (fun rc3 hc3 Pc3 hBc3 hFc3 => ⟨rc3, rfl, ?_⟩)) cf_X12_refuses t_1667 rfl (by decide) rfl rfl rfl (Nat.le_of_ble_eq_true rfl) (by decide) rfl dX12_choose_28
    refine g_if_lt (tgt := 38) dX12_choose_31 (by decide) ⟨by (clear hb hmh k2; omega), by (clear hb hmh k2; omega)⟩ (fun k4 => ?_) (fun k4 => by exfalso; (clear hb hmh k2; omega))
    refine g_iconst dX12_choose_38 ?_
    exact g_retZ dX12_choose_39 rfl (by decide) (hQ 0 (by decide) _ hBc3 (FrM.c FrM.rf hFc3 rfl) (by (omega)) (by rw [aRule_n (by (omega))]; exact (AM.fr (F := ([], [28])) z0 (FrM.c FrM.rf hFc3 rfl) rfl)))
  · have k2n : 1 ≤ (P 0 44) := by have q0 := b0_44 hB; (clear hb hmh; omega)
    clear k2
    refine g_iload_n dX12_choose_7 rfl ?_
    refine g_iconst dX12_choose_8 ?_
    refine g_iconst dX12_choose_9 ?_
    refine g_sI (av := [vI a1, vI 0, vI 3]) (st := []) (m_X12_is G P a1 0 3 ⟨by (clear hb hmh; omega), by (clear hb hmh; omega)⟩ (by decide) (by decide) hB  _ (fun rc5 hc5 gc5_is => ⟨rc5, rfl, ?_⟩)) cf_X12_is t_1800 rfl (Nat.le_of_ble_eq_true rfl) (by decide) rfl dX12_choose_10
    refine g_if_eq (tgt := 26) dX12_choose_13 (by decide) ⟨by (clear hb hmh gc5_is; omega), by (clear hb hmh gc5_is; omega)⟩ (fun k6 => ?_) (fun k6 => ?_)
    · skip
      refine g_aload_n dX12_choose_26 rfl ?_
      refine g_iconst dX12_choose_27 ?_
      refine g_vI (av := [vI 3]) (o := 0) (st := []) (m_X12_refuses G P 3 (by decide) hB  _ (fun rc7 hc7 Pc7 hBc7 hFc7 => ⟨rc7, rfl, ?_⟩)) cf_X12_refuses t_1667 rfl (by decide) rfl rfl rfl (Nat.le_of_ble_eq_true rfl) (by decide) rfl dX12_choose_28
      refine g_if_lt (tgt := 38) dX12_choose_31 (by decide) ⟨by (clear hb hmh gc5_is k6; omega), by (clear hb hmh gc5_is k6; omega)⟩ (fun k8 => ?_) (fun k8 => by exfalso; (clear hb hmh gc5_is k6; omega))
      skip
      refine g_iconst dX12_choose_38 ?_
      exact g_retZ dX12_choose_39 rfl (by decide) (hQ 0 (by decide) _ hBc7 (FrM.c FrM.rf hFc7 rfl) (by (clear hb; omega)) (by rw [aRule_n (by (clear hb; omega))]; exact (AM.fr (F := ([], [28])) z0 (FrM.c FrM.rf hFc7 rfl) rfl)))
    · have k6n : 1 ≤ rc5 := by (clear hb hmh gc5_is; omega)
      clear k6
      have r_gc5_is := (gc5_is.resolve_right (by (clear hb hmh gc5_is; omega)))
      refine g_aload_n dX12_choose_16 rfl ?_
      refine m_g56 rfl dX12_choose_17 ?_
      refine g_iconst dX12_choose_20 ?_
      refine m_l38 (z := (P 38 0)) dX12_choose_21 (by decide) rfl ?_
      refine g_iload_n dX12_choose_22 rfl ?_
      have f9 := bl_38 (k := 0) hB
      refine g_icmp_ne (tgt := 40) dX12_choose_23 (by decide) ⟨by have q0 := bl_38 (k := 0) hB; (clear hb hmh gc5_is; omega), by have q0 := bl_38 (k := 0) hB; (clear hb hmh gc5_is; omega)⟩ ⟨by (clear hb hmh gc5_is; omega), by (clear hb hmh gc5_is; omega)⟩ (fun k10 => ?_) (fun k10 => ?_)
      · skip
        refine g_aload_n dX12_choose_40 rfl ?_
        refine g_vV (av := []) (o := 0) (st := []) (f_X12_keeps G P (A) (k)  hB p_wa (z0) _ (fun Pc11 hBc11 hFc11 gc11_o ec11_0 => ⟨rfl, ?_⟩)) cf_X12_keeps t_2132 rfl (by decide) rfl rfl rfl (Nat.le_of_ble_eq_true rfl) (by decide) rfl dX12_choose_41
        have hpu := ec11_0
        have hbk := hBc11
        refine g_aload_n dX12_choose_44 rfl ?_
        refine m_g56 rfl dX12_choose_45 ?_
        refine g_iconst dX12_choose_48 ?_
        refine g_iload_n dX12_choose_49 rfl ?_
        refine m_s38 dX12_choose_50 (by decide) ?_
        have hB12 := ba_38 (z := a1) (k := 0) hBc11 ⟨by (clear hb hmh gc5_is k10; omega), by (clear hb hmh gc5_is k10; omega)⟩
        refine g_iconst dX12_choose_51 ?_
        exact g_retZ dX12_choose_52 rfl (by decide) (hQ 1 (by decide) _ hB12 (FrM.a (FrM.c FrM.rf hFc11 rfl) rfl rfl) (by (omega)) (by rw [aRule_y ⟨by (clear hb gc5_is k10; omega), by (clear hb hmh gc5_is k10; omega), by (clear hb hmh gc5_is k10; omega), by (omega)⟩]; exact AM.ru hpu p_wa (b0_59 hbk) up_same (fun j hj => up_k hj) (FrM.a FrM.rf rfl rfl)))
      · skip
        refine g_aload_n dX12_choose_26 rfl ?_
        refine g_iconst dX12_choose_27 ?_
        refine g_vI (av := [vI 3]) (o := 0) (st := []) (m_X12_refuses G P 3 (by decide) hB  _ (fun rc13 hc13 Pc13 hBc13 hFc13 => ⟨rc13, rfl, ?_⟩)) cf_X12_refuses t_1667 rfl (by decide) rfl rfl rfl (Nat.le_of_ble_eq_true rfl) (by decide) rfl dX12_choose_28
        refine g_if_lt (tgt := 38) dX12_choose_31 (by decide) ⟨by (clear hb hmh gc5_is k10; omega), by (clear hb hmh gc5_is k10; omega)⟩ (fun k14 => ?_) (fun k14 => by exfalso; (clear hb hmh gc5_is k10; omega))
        skip
        refine g_iconst dX12_choose_38 ?_
        exact g_retZ dX12_choose_39 rfl (by decide) (hQ 0 (by decide) _ hBc13 (FrM.c FrM.rf hFc13 rfl) (by (omega)) (by rw [aRule_n (by (omega))]; exact (AM.fr (F := ([], [28])) z0 (FrM.c FrM.rf hFc13 rfl) rfl)))
/-! What the reference answers: X12_drop. -/
set_option maxRecDepth 100000 in
set_option maxHeartbeats 4000000 in
theorem f_X12_drop (G : GT) (P : PH) (A : PH) (k : Int) (a1 : Int) (h_a1 : (-2147483648) ≤ a1 ∧ a1 ≤ 2147483647) (hB : BdM P) (p_im : P 0 44 = 1 ∨ A 0 0 ≤ 0) (p_wa : WA k A) (z0 : AM A P) (Q : Option PV → PH → Prop) (hQ : ∀ (r : Int) (_ : 0 ≤ r ∧ r ≤ 1) (P1 : PH) (_ : BdM P1) (_ : FrM ([59, 60], [28, 35, 36, 37, 38, 39, 40]) P P1) (_ : (r = 1 ∧ 0 ≤ a1 ∧ a1 < A 0 0) ∨ (r = 0 ∧ (a1 < 0 ∨ A 0 0 ≤ a1))) (_ : AM (aDrop A a1) P1), Q (some (vI r)) P1) : Ct WSM G 3 iX12_drop [vR 0, vI a1] P Q := by
  refine Ct.of (by decide) (l0 := [(0, vR 0), (1, vI a1)]) rfl (Nat.le_of_ble_eq_true rfl) ?_
  have hb := z0.b
  have q59 := b0_59 hB
  have hw1 := p_wa.1
  refine g_aload_n dX12_drop_0 rfl ?_
  refine g_iload_n dX12_drop_1 rfl ?_
  refine g_vI (av := [vI a1]) (o := 0) (st := []) (f_X12_isPlace G P (A) a1 ⟨by (clear p_im hb; omega), by (clear p_im hb; omega)⟩ hB (by have q0 := b0_44 hB; (clear hb; omega)) (z0) _ (fun rc1 hc1 gc1_p gc1_f => ⟨rc1, rfl, ?_⟩)) cf_X12_isPlace t_1883 rfl (by decide) rfl rfl rfl (Nat.le_of_ble_eq_true rfl) (by decide) rfl dX12_drop_2
  have f2 := b0_44 hB
  have f3 := bl_35 (k := 0) hB
  refine g_if_ne (tgt := 22) dX12_drop_5 (by decide) ⟨by (clear p_im hb gc1_p gc1_f; omega), by (clear p_im hb gc1_p gc1_f; omega)⟩ (fun k4 => ?_) (fun k4 => ?_)
  · have k4n : 1 ≤ rc1 := by (clear p_im hb gc1_p gc1_f; omega)
    clear k4
    have r_gc1_f := (gc1_f.resolve_right (by (clear p_im hb gc1_p gc1_f; omega)))
    have r_gc1_p := (gc1_p.resolve_left (by (clear p_im hb gc1_p gc1_f; omega)))
    have r_p_im := (p_im.resolve_right (by (clear p_im hb gc1_p gc1_f; omega)))
    refine g_aload_n dX12_drop_22 rfl ?_
    refine g_vV (av := []) (o := 0) (st := []) (f_X12_keeps G P (A) (k)  hB p_wa (z0) _ (fun Pc5 hBc5 hFc5 gc5_o ec5_0 => ⟨rfl, ?_⟩)) cf_X12_keeps t_2132 rfl (by decide) rfl rfl rfl (Nat.le_of_ble_eq_true rfl) (by decide) rfl dX12_drop_23
    have hpu := ec5_0
    have hbk := hBc5
    obtain ⟨Z, hZ⟩ : ∃ Z : PH, Pc5 = Z := ⟨_, rfl⟩
    have hbz := hpu.b
    refine g_iload_n dX12_drop_26 rfl ?_
    refine g_istore_n (l1 := [(2, vI a1), (0, vR 0), (1, vI a1)]) dX12_drop_27 (by decide) rfl ?_
    have L28_5 : ∀ (n28_5 : Nat) (x28_2_5 : Int) (h_x28_2_5 : 0 ≤ x28_2_5 ∧ x28_2_5 ≤ 11) (H28_5 : PH) (hB28_5 : BdM H28_5) (hE28_5 : FrM ([], [36]) Pc5 H28_5) (i28_0_5 : ∀ q : Int, q < x28_2_5 → H28_5 36 q = if q < a1 then Z 36 q else Z 36 (q + 1)) (i28_1_5 : ∀ q : Int, x28_2_5 ≤ q → H28_5 36 q = Z 36 q) (i28_2_5 : a1 ≤ x28_2_5) (hm28_5 : ((12 - x28_2_5) : Int).toNat < n28_5), Go WSM G 3 iX12_drop 28 [(0, vR 0), (2, vI x28_2_5)] [] H28_5 Q := by
      intro n28_5
      induction n28_5 with
      | zero => intro x28_2_5 h_x28_2_5 H28_5 hB28_5 hE28_5 i28_0_5 i28_1_5 i28_2_5 hm28_5; exact absurd hm28_5 (Nat.not_lt_zero _)
      | succ n28_5 ih28_5 =>
      intro x28_2_5 h_x28_2_5 H28_5 hB28_5 hE28_5 i28_0_5 i28_1_5 i28_2_5 hm28_5
      refine g_iload_n dX12_drop_28 rfl ?_
      refine g_iconst dX12_drop_29 ?_
      refine g_iadd dX12_drop_30 ?_
      refine g_aload_n dX12_drop_31 rfl ?_
      refine m_g53 rfl dX12_drop_32 ?_
      refine g_iconst dX12_drop_35 ?_
      refine m_l35 (z := (Pc5 35 0)) dX12_drop_36 (by decide) ((congrFun (hE28_5.2 35 rfl rfl) _).trans rfl) ?_
      have f23 := bl_35 (k := 0) hBc5
      refine g_icmp_ge (tgt := 60) dX12_drop_37 (by decide) ⟨by (clear p_im hb gc1_p gc1_f hbz; omega), by (clear p_im hb gc1_p gc1_f hbz; omega)⟩ ⟨by have q0 := bl_35 (k := 0) hBc5; (clear p_im hb gc1_p gc1_f hbz; omega), by have q0 := bl_35 (k := 0) hBc5; (clear p_im hb gc1_p gc1_f hbz; omega)⟩ (fun k24 => ?_) (fun k24 => ?_)
      · skip
        skip
        skip
        refine g_aload_n dX12_drop_60 rfl ?_
        refine m_g53 rfl dX12_drop_61 ?_
        refine g_iconst dX12_drop_64 ?_
        refine g_dup2 dX12_drop_65 rfl rfl ?_
        refine m_l35 (z := (Pc5 35 0)) dX12_drop_66 (by decide) ((congrFun (hE28_5.2 35 rfl rfl) _).trans rfl) ?_
        refine g_iconst dX12_drop_67 ?_
        refine g_isub dX12_drop_68 ?_
        refine m_s35 dX12_drop_69 (by decide) ?_
        have hB25 := ba_35 (z := ((Pc5 35 0) - 1)) (k := 0) hB28_5 ⟨by have q0 := bl_35 (k := 0) hBc5; (clear p_im hb gc1_p gc1_f hbz k24; omega), by have q0 := bl_35 (k := 0) hBc5; (clear p_im hb gc1_p gc1_f hbz k24; omega)⟩
        refine g_iconst dX12_drop_70 ?_
        exact g_retZ dX12_drop_71 rfl (by decide) (hQ 1 (by decide) _ hB25 (FrM.a (FrM.c (FrM.c FrM.rf hFc5 rfl) hE28_5 rfl) rfl rfl) (by (clear p_im hb gc1_p gc1_f hbz k24; omega)) (by subst hZ; exact AM.dr hpu p_wa (b0_59 hbk) ⟨by (clear p_im hb gc1_p gc1_f hbz k24; omega), by (clear p_im hb gc1_p gc1_f hbz k24; omega)⟩ up_same (fun j hj => ((up_k hj).trans ((congrFun (hE28_5.2 35 rfl rfl) _).trans rfl))) (fun q hq => Eq.trans (up_o (by decide)) ((i28_0_5 q (by (clear p_im hb gc1_p gc1_f hbz k24; omega))).trans (if_pos hq))) (fun q q0 q1 => Eq.trans (up_o (by decide)) ((i28_0_5 q (by have q9 := (((congrFun (hE28_5.2 35 rfl rfl) _).trans rfl) : H28_5 35 0 = (Pc5 35 0)); (clear p_im hb gc1_p gc1_f hbz; omega))).trans (if_neg (by (clear p_im hb gc1_p gc1_f hbz k24; omega))))) (fun j hj => Eq.trans (up_o (by decide)) (i28_1_5 j (by (clear p_im hb gc1_p gc1_f hbz k24; omega)))) (show FrM ([], [35, 36]) _ _ from (FrM.a (FrM.c FrM.rf hE28_5 rfl) rfl rfl))))
      · skip
        skip
        skip
        refine g_aload_n dX12_drop_40 rfl ?_
        refine m_g54 rfl dX12_drop_41 ?_
        refine g_iload_n dX12_drop_44 rfl ?_
        refine g_aload_n dX12_drop_45 rfl ?_
        refine m_g54 rfl dX12_drop_46 ?_
        refine g_iload_n dX12_drop_49 rfl ?_
        refine g_iconst dX12_drop_50 ?_
        refine g_iadd dX12_drop_51 ?_
        refine m_l36 (z := (H28_5 36 (x28_2_5 + 1))) dX12_drop_52 ⟨by (clear p_im hb gc1_p gc1_f hbz k24; omega), by (clear p_im hb gc1_p gc1_f hbz k24; omega)⟩ rfl ?_
        refine m_s36 dX12_drop_53 ⟨by (clear p_im hb gc1_p gc1_f hbz k24; omega), by (clear p_im hb gc1_p gc1_f hbz k24; omega)⟩ ?_
        have hB26 := ba_36 (z := (H28_5 36 (x28_2_5 + 1))) (k := x28_2_5) hB28_5 ⟨by have q0 := bl_36 (k := (x28_2_5 + 1)) hB28_5; (clear p_im hb gc1_p gc1_f hbz k24; omega), by have q0 := bl_36 (k := (x28_2_5 + 1)) hB28_5; (clear p_im hb gc1_p gc1_f hbz k24; omega)⟩
        have hC9 : ∀ q : Int, q < x28_2_5 + 1 → (up H28_5 36 x28_2_5 (H28_5 36 (x28_2_5 + 1))) 36 q = if q < a1 then Z 36 q else Z 36 (q + 1) := by
          intro q q1
          by_cases e : q = x28_2_5
          · rw [e, if_neg (by (clear p_im hb gc1_p gc1_f hbz k24; omega))]; exact Eq.trans up_same (i28_1_5 _ (by (clear p_im hb gc1_p gc1_f hbz k24; omega)))
          · have hj : q ≠ x28_2_5 := by (clear p_im hb gc1_p gc1_f hbz k24; omega)
            exact Eq.trans ((up_k hj).trans rfl) (i28_0_5 q (by (clear p_im hb gc1_p gc1_f hbz k24 hj; omega)))
        have hD9 : ∀ q : Int, x28_2_5 + 1 ≤ q → (up H28_5 36 x28_2_5 (H28_5 36 (x28_2_5 + 1))) 36 q = Z 36 q := by
          intro q q1
          have hj : q ≠ x28_2_5 := by (clear p_im hb gc1_p gc1_f hbz k24; omega)
          exact Eq.trans ((up_k hj).trans rfl) (i28_1_5 q (by (clear p_im hb gc1_p gc1_f hbz k24 hj; omega)))
        refine g_iinc (l1 := [(2, vI (x28_2_5 + 1)), (0, vR 0)]) dX12_drop_54 rfl (by decide) rfl ?_
        refine g_goto (tgt := 28) dX12_drop_57 (by decide) ?_
        refine g_forget (l1 := [(0, vR 0), (2, vI (x28_2_5 + 1))]) (by intro q hq; simp only [List.mem_cons, List.not_mem_nil, or_false] at hq ⊢; rcases hq with rfl | rfl <;> simp) ?_
        exact ih28_5 (x28_2_5 + 1) ⟨by (clear p_im hb gc1_p gc1_f hbz k24; omega), by (omega)⟩ _ hB26 (FrM.a (FrM.c FrM.rf hE28_5 rfl) rfl rfl) (by first | exact hC9 | (intro q q1; rw [if_pos q1, hZ])) (by first | exact hD9 | (intro q q1; rw [hZ])) (by (clear p_im hb gc1_p gc1_f hbz k24; omega)) (by (clear p_im hb gc1_p gc1_f hbz k24; omega))
    refine g_forget (l1 := [(0, vR 0), (2, vI a1)]) (by intro q hq; simp only [List.mem_cons, List.not_mem_nil, or_false] at hq ⊢; rcases hq with rfl | rfl <;> simp) ?_
    exact L28_5 _ a1 ⟨by (clear p_im hb gc1_p gc1_f hbz; omega), by (clear p_im hb gc1_p gc1_f hbz; omega)⟩ _ hBc5 FrM.rf (by first | exact hC9 | (intro q q1; rw [if_pos q1, hZ])) (by first | exact hD9 | (intro q q1; rw [hZ])) (by (clear p_im hb gc1_p gc1_f hbz; omega)) (Nat.lt_succ_self _)
  · skip
    skip
    skip
    refine g_aload_n dX12_drop_8 rfl ?_
    refine g_iconst dX12_drop_9 ?_
    refine g_vI (av := [vI 3]) (o := 0) (st := []) (m_X12_refuses G P 3 (by decide) hB  _ (fun rc27 hc27 Pc27 hBc27 hFc27 => ⟨rc27, rfl, ?_⟩)) cf_X12_refuses t_1667 rfl (by decide) rfl rfl rfl (Nat.le_of_ble_eq_true rfl) (by decide) rfl dX12_drop_10
    refine g_if_lt (tgt := 20) dX12_drop_13 (by decide) ⟨by (clear p_im hb gc1_p gc1_f k4; omega), by (clear p_im hb gc1_p gc1_f k4; omega)⟩ (fun k28 => ?_) (fun k28 => by exfalso; (clear p_im hb gc1_p gc1_f k4; omega))
    skip
    skip
    skip
    refine g_iconst dX12_drop_20 ?_
    exact g_retZ dX12_drop_21 rfl (by decide) (hQ 0 (by decide) _ hBc27 (FrM.c FrM.rf hFc27 rfl) (by (clear p_im hb gc1_p; omega)) (by rw [aDrop_n (by (clear p_im hb gc1_p; omega))]; exact (AM.fr (F := ([], [28])) z0 (FrM.c FrM.rf hFc27 rfl) rfl)))
/-! What the reference answers: X12_swap. -/
set_option maxRecDepth 100000 in
set_option maxHeartbeats 4000000 in
theorem f_X12_swap (G : GT) (P : PH) (A : PH) (k : Int) (a1 : Int) (a2 : Int) (h_a1 : (-2147483648) ≤ a1 ∧ a1 ≤ 2147483647) (h_a2 : (-2147483648) ≤ a2 ∧ a2 ≤ 2147483647) (hB : BdM P) (p_im : P 0 44 = 1 ∨ A 0 0 ≤ 0) (p_wa : WA k A) (z0 : AM A P) (Q : Option PV → PH → Prop) (hQ : ∀ (r : Int) (_ : 0 ≤ r ∧ r ≤ 1) (P1 : PH) (_ : BdM P1) (_ : FrM ([59, 60], [28, 35, 36, 37, 38, 39, 40]) P P1) (_ : (r = 1 ∧ 0 ≤ a1 ∧ a1 < A 0 0 ∧ 0 ≤ a2 ∧ a2 < A 0 0 ∧ a1 ≠ a2) ∨ (r = 0 ∧ (a1 < 0 ∨ A 0 0 ≤ a1 ∨ a2 < 0 ∨ A 0 0 ≤ a2 ∨ a1 = a2))) (_ : AM (aSwap A a1 a2) P1), Q (some (vI r)) P1) : Ct WSM G 3 iX12_swap [vR 0, vI a1, vI a2] P Q := by
  refine Ct.of (by decide) (l0 := [(0, vR 0), (1, vI a1), (2, vI a2)]) rfl (Nat.le_of_ble_eq_true rfl) ?_
  have hb := z0.b
  have q59 := b0_59 hB
  have hw1 := p_wa.1
  refine g_aload_n dX12_swap_0 rfl ?_
  refine g_iload_n dX12_swap_1 rfl ?_
  refine g_vI (av := [vI a1]) (o := 0) (st := []) (f_X12_isPlace G P (A) a1 ⟨by (clear p_im hb; omega), by (clear p_im hb; omega)⟩ hB (by have q0 := b0_44 hB; (clear hb; omega)) (z0) _ (fun rc1 hc1 gc1_p gc1_f => ⟨rc1, rfl, ?_⟩)) cf_X12_isPlace t_1883 rfl (by decide) rfl rfl rfl (Nat.le_of_ble_eq_true rfl) (by decide) rfl dX12_swap_2
  have f2 := b0_44 hB
  have f3 := bl_35 (k := 0) hB
  refine g_if_eq (tgt := 21) dX12_swap_5 (by decide) ⟨by (clear p_im hb gc1_p gc1_f; omega), by (clear p_im hb gc1_p gc1_f; omega)⟩ (fun k4 => ?_) (fun k4 => ?_)
  · skip
    skip
    skip
    refine g_aload_n dX12_swap_21 rfl ?_
    refine g_iconst dX12_swap_22 ?_
    refine g_vI (av := [vI 3]) (o := 0) (st := []) (m_X12_refuses G P 3 (by decide) hB  _ (fun rc5 hc5 Pc5 hBc5 hFc5 => ⟨rc5, rfl, ?_⟩)) cf_X12_refuses t_1667 rfl (by decide) rfl rfl rfl (Nat.le_of_ble_eq_true rfl) (by decide) rfl dX12_swap_23
    refine g_if_lt (tgt := 33) dX12_swap_26 (by decide) ⟨by (clear p_im hb gc1_p gc1_f k4; omega), by (clear p_im hb gc1_p gc1_f k4; omega)⟩ (fun k6 => ?_) (fun k6 => by exfalso; (clear p_im hb gc1_p gc1_f k4; omega))
    skip
    skip
    skip
    refine g_iconst dX12_swap_33 ?_
    exact g_retZ dX12_swap_34 rfl (by decide) (hQ 0 (by decide) _ hBc5 (FrM.c FrM.rf hFc5 rfl) (by (clear hb p_im; omega)) (by rw [aSwap_n (by (clear hb p_im; omega))]; exact (AM.fr (F := ([], [28])) z0 (FrM.c FrM.rf hFc5 rfl) rfl)))
  · have k4n : 1 ≤ rc1 := by (clear p_im hb gc1_p gc1_f; omega)
    clear k4
    have r_gc1_f := (gc1_f.resolve_right (by (clear p_im hb gc1_p gc1_f; omega)))
    have r_gc1_p := (gc1_p.resolve_left (by (clear p_im hb gc1_p gc1_f; omega)))
    have r_p_im := (p_im.resolve_right (by (clear p_im hb gc1_p gc1_f; omega)))
    refine g_aload_n dX12_swap_8 rfl ?_
    refine g_iload_n dX12_swap_9 rfl ?_
    refine g_vI (av := [vI a2]) (o := 0) (st := []) (f_X12_isPlace G P (A) a2 ⟨by (clear p_im hb gc1_p gc1_f; omega), by (clear p_im hb gc1_p gc1_f; omega)⟩ hB (by have q0 := b0_44 hB; (clear p_im hb gc1_p gc1_f; omega)) (z0) _ (fun rc7 hc7 gc7_p gc7_f => ⟨rc7, rfl, ?_⟩)) cf_X12_isPlace t_1883 rfl (by decide) rfl rfl rfl (Nat.le_of_ble_eq_true rfl) (by decide) rfl dX12_swap_10
    refine g_if_eq (tgt := 21) dX12_swap_13 (by decide) ⟨by (clear p_im hb gc1_p gc1_f gc7_p gc7_f; omega), by (clear p_im hb gc1_p gc1_f gc7_p gc7_f; omega)⟩ (fun k8 => ?_) (fun k8 => ?_)
    · skip
      skip
      skip
      skip
      skip
      refine g_aload_n dX12_swap_21 rfl ?_
      refine g_iconst dX12_swap_22 ?_
      refine g_vI (av := [vI 3]) (o := 0) (st := []) (m_X12_refuses G P 3 (by decide) hB  _ (fun rc9 hc9 Pc9 hBc9 hFc9 => ⟨rc9, rfl, ?_⟩)) cf_X12_refuses t_1667 rfl (by decide) rfl rfl rfl (Nat.le_of_ble_eq_true rfl) (by decide) rfl dX12_swap_23
      refine g_if_lt (tgt := 33) dX12_swap_26 (by decide) ⟨by (clear p_im hb gc1_p gc1_f gc7_p gc7_f k8; omega), by (clear p_im hb gc1_p gc1_f gc7_p gc7_f k8; omega)⟩ (fun k10 => ?_) (fun k10 => by exfalso; (clear p_im hb gc1_p gc1_f gc7_p gc7_f k8; omega))
      skip
      skip
      skip
      skip
      skip
      refine g_iconst dX12_swap_33 ?_
      exact g_retZ dX12_swap_34 rfl (by decide) (hQ 0 (by decide) _ hBc9 (FrM.c FrM.rf hFc9 rfl) (by (clear gc1_f gc1_p hb p_im; omega)) (by rw [aSwap_n (by (clear gc1_f gc1_p hb p_im; omega))]; exact (AM.fr (F := ([], [28])) z0 (FrM.c FrM.rf hFc9 rfl) rfl)))
    · have k8n : 1 ≤ rc7 := by (clear p_im hb gc1_p gc1_f gc7_p gc7_f; omega)
      clear k8
      have r_gc7_f := (gc7_f.resolve_right (by (clear p_im hb gc1_p gc1_f gc7_p gc7_f; omega)))
      have r_gc7_p := (gc7_p.resolve_left (by (clear p_im hb gc1_p gc1_f gc7_p gc7_f; omega)))
      skip
      skip
      skip
      refine g_iload_n dX12_swap_16 rfl ?_
      refine g_iload_n dX12_swap_17 rfl ?_
      refine g_icmp_ne (tgt := 35) dX12_swap_18 (by decide) ⟨by (clear p_im hb gc1_p gc1_f gc7_p gc7_f; omega), by (clear p_im hb gc1_p gc1_f gc7_p gc7_f; omega)⟩ ⟨by (clear p_im hb gc1_p gc1_f gc7_p gc7_f; omega), by (clear p_im hb gc1_p gc1_f gc7_p gc7_f; omega)⟩ (fun k11 => ?_) (fun k11 => ?_)
      · skip
        skip
        skip
        skip
        skip
        refine g_aload_n dX12_swap_35 rfl ?_
        refine g_vV (av := []) (o := 0) (st := []) (f_X12_keeps G P (A) (k)  hB p_wa (z0) _ (fun Pc12 hBc12 hFc12 gc12_o ec12_0 => ⟨rfl, ?_⟩)) cf_X12_keeps t_2132 rfl (by decide) rfl rfl rfl (Nat.le_of_ble_eq_true rfl) (by decide) rfl dX12_swap_36
        refine g_aload_n dX12_swap_39 rfl ?_
        refine g_iconst dX12_swap_40 ?_
        refine g_iload_n dX12_swap_41 rfl ?_
        refine g_iload_n dX12_swap_42 rfl ?_
        have hpu := ec12_0
        have hbk := hBc12
        refine g_vV (av := [vI 0, vI a1, vI a2]) (o := 0) (st := []) (f_X12_exchanges G Pc12 0 a1 a2 (by decide) ⟨by (clear p_im hb gc1_p gc1_f gc7_p gc7_f k11; omega), by (clear p_im hb gc1_p gc1_f gc7_p gc7_f k11; omega)⟩ ⟨by (clear p_im hb gc1_p gc1_f gc7_p gc7_f k11; omega), by (clear p_im hb gc1_p gc1_f gc7_p gc7_f k11; omega)⟩ hBc12  _ (fun Pc13 hBc13 hFc13 gc13_x1 gc13_x2 gc13_xo => ⟨rfl, ?_⟩)) cf_X12_exchanges t_2103 rfl (by decide) rfl rfl rfl (Nat.le_of_ble_eq_true rfl) (by decide) rfl dX12_swap_43
        have hsw9 := AM.sw hpu p_wa (b0_59 hbk) ⟨⟨by (clear p_im hb gc1_p gc1_f gc7_p gc7_f k11; omega), by (clear p_im hb gc1_p gc1_f gc7_p gc7_f k11; omega)⟩, ⟨by (clear p_im hb gc1_p gc1_f gc7_p gc7_f k11; omega), by (clear p_im hb gc1_p gc1_f gc7_p gc7_f k11; omega)⟩, by (clear p_im hb gc1_p gc1_f gc7_p gc7_f; omega)⟩ gc13_x1 gc13_x2 gc13_xo hFc13
        refine g_iconst dX12_swap_46 ?_
        exact g_retZ dX12_swap_47 rfl (by decide) (hQ 1 (by decide) _ hBc13 (FrM.c (FrM.c FrM.rf hFc12 rfl) hFc13 rfl) (by (clear p_im hb gc1_p gc1_f gc7_p gc7_f; omega)) (hsw9))
      · skip
        skip
        skip
        skip
        skip
        refine g_aload_n dX12_swap_21 rfl ?_
        refine g_iconst dX12_swap_22 ?_
        refine g_vI (av := [vI 3]) (o := 0) (st := []) (m_X12_refuses G P 3 (by decide) hB  _ (fun rc14 hc14 Pc14 hBc14 hFc14 => ⟨rc14, rfl, ?_⟩)) cf_X12_refuses t_1667 rfl (by decide) rfl rfl rfl (Nat.le_of_ble_eq_true rfl) (by decide) rfl dX12_swap_23
        refine g_if_lt (tgt := 33) dX12_swap_26 (by decide) ⟨by (clear p_im hb gc1_p gc1_f gc7_p gc7_f k11; omega), by (clear p_im hb gc1_p gc1_f gc7_p gc7_f k11; omega)⟩ (fun k15 => ?_) (fun k15 => by exfalso; (clear p_im hb gc1_p gc1_f gc7_p gc7_f k11; omega))
        skip
        skip
        skip
        skip
        skip
        refine g_iconst dX12_swap_33 ?_
        exact g_retZ dX12_swap_34 rfl (by decide) (hQ 0 (by decide) _ hBc14 (FrM.c FrM.rf hFc14 rfl) (by (clear p_im hb gc1_p gc1_f gc7_p gc7_f k15; omega)) (by rw [aSwap_n (by (clear p_im hb gc1_p gc1_f gc7_p gc7_f k15; omega))]; exact (AM.fr (F := ([], [28])) z0 (FrM.c FrM.rf hFc14 rfl) rfl)))
/-! What the reference answers: X12_turn. -/
set_option maxRecDepth 100000 in
set_option maxHeartbeats 4000000 in
theorem f_X12_turn (G : GT) (P : PH) (A : PH) (k : Int) (M : PH) (a1 : Int) (h_a1 : (-2147483648) ≤ a1 ∧ a1 ≤ 2147483647) (hB : BdM P) (p_wa : WA k A) (z0 : AM A P) (z1 : MH M P) (Q : Option PV → PH → Prop) (hQ : ∀ (r : Int) (_ : (-2147483648) ≤ r ∧ r ≤ 2147483647) (P1 : PH) (_ : BdM P1) (_ : FrM ([59, 60], [28, 35, 36, 37, 38, 39, 40]) P P1) (_ : (r = -1 ∧ (M 0 0 ≤ 0 ∨ a1 < 0 ∨ 7 < a1)) ∨ (r = iand (ishr (ixor (A 0 1) (ishl 1 a1)) a1) 1 ∧ 0 < M 0 0 ∧ 0 ≤ a1 ∧ a1 ≤ 7)) (_ : AM (aTurn A M a1) P1), Q (some (vI r)) P1) : Ct WSM G 3 iX12_turn [vR 0, vI a1] P Q := by
  refine Ct.of (by decide) (l0 := [(0, vR 0), (1, vI a1)]) rfl (Nat.le_of_ble_eq_true rfl) ?_
  have hb := z0.b
  have q59 := b0_59 hB
  have hw1 := p_wa.1
  have hmh := z1
  unfold MH at hmh
  refine g_aload_n dX12_turn_0 rfl ?_
  refine m_g44 (z := (P 0 44)) rfl dX12_turn_1 rfl ?_
  have f1 := b0_44 hB
  refine g_if_eq (tgt := 17) dX12_turn_4 (by decide) ⟨by have q0 := b0_44 hB; (clear hb hmh; omega), by have q0 := b0_44 hB; (clear hb hmh; omega)⟩ (fun k2 => ?_) (fun k2 => ?_)
  · refine g_aload_n dX12_turn_17 rfl ?_
    refine g_iconst dX12_turn_18 ?_
    refine g_vI (av := [vI 3]) (o := 0) (st := []) (m_X12_refuses G P 3 (by decide) hB  _ (fun rc3 hc3 Pc3 hBc3 hFc3 => ⟨rc3, rfl, ?_⟩)) cf_X12_refuses t_1667 rfl (by decide) rfl rfl rfl (Nat.le_of_ble_eq_true rfl) (by decide) rfl dX12_turn_19
    exact g_retI dX12_turn_22 rfl (hQ rc3 ⟨by (clear hb hmh k2; omega), by (clear hb hmh k2; omega)⟩ _ hBc3 (FrM.c FrM.rf hFc3 rfl) (by (clear hb; omega)) (by rw [aTurn_n (by (clear hb; omega))]; exact (AM.fr (F := ([], [28])) z0 (FrM.c FrM.rf hFc3 rfl) rfl)))
  · have k2n : 1 ≤ (P 0 44) := by have q0 := b0_44 hB; (clear hb hmh; omega)
    clear k2
    refine g_iload_n dX12_turn_7 rfl ?_
    refine g_iconst dX12_turn_8 ?_
    refine g_bipush dX12_turn_9 (by decide) ?_
    refine g_sI (av := [vI a1, vI 0, vI 7]) (st := []) (m_X12_is G P a1 0 7 ⟨by (clear hb hmh; omega), by (clear hb hmh; omega)⟩ (by decide) (by decide) hB  _ (fun rc4 hc4 gc4_is => ⟨rc4, rfl, ?_⟩)) cf_X12_is t_1800 rfl (Nat.le_of_ble_eq_true rfl) (by decide) rfl dX12_turn_11
    refine g_if_ne (tgt := 23) dX12_turn_14 (by decide) ⟨by (clear hb hmh gc4_is; omega), by (clear hb hmh gc4_is; omega)⟩ (fun k5 => ?_) (fun k5 => ?_)
    · have k5n : 1 ≤ rc4 := by (clear hb hmh gc4_is; omega)
      clear k5
      have r_gc4_is := (gc4_is.resolve_right (by (clear hb hmh gc4_is; omega)))
      refine g_aload_n dX12_turn_23 rfl ?_
      refine g_vV (av := []) (o := 0) (st := []) (f_X12_keeps G P (A) (k)  hB p_wa (z0) _ (fun Pc6 hBc6 hFc6 gc6_o ec6_0 => ⟨rfl, ?_⟩)) cf_X12_keeps t_2132 rfl (by decide) rfl rfl rfl (Nat.le_of_ble_eq_true rfl) (by decide) rfl dX12_turn_24
      have hpu := ec6_0
      have hbk := hBc6
      have hvk := hpu.b.2.1.trans (aPush_0 A 1 (by decide))
      refine g_aload_n dX12_turn_27 rfl ?_
      refine m_g55 rfl dX12_turn_28 ?_
      refine g_iconst dX12_turn_31 ?_
      refine g_dup2 dX12_turn_32 rfl rfl ?_
      refine m_l37 (z := (Pc6 37 0)) dX12_turn_33 (by decide) rfl ?_
      refine g_iconst dX12_turn_34 ?_
      refine g_iload_n dX12_turn_35 rfl ?_
      refine g_ishl dX12_turn_36 ?_
      refine g_nm (fun b7 e_b7 => ?_)
      have h_b7 : 1 ≤ (ishl 1 a1) ∧ (ishl 1 a1) ≤ 128 := (ishl1 7 (by decide) (y := a1) ⟨by (clear hb hmh gc4_is; omega), by (clear hb hmh gc4_is; omega)⟩).2
      rw [← e_b7] at h_b7
      refine g_ixor dX12_turn_37 ?_
      refine g_nm (fun b8 e_b8 => ?_)
      have h_b8 : 0 ≤ (ixor (Pc6 37 0) b7) ∧ (ixor (Pc6 37 0) b7) < 256 := ixor_b 8 (by decide) (x := (Pc6 37 0)) (y := b7) (show 0 ≤ (Pc6 37 0) ∧ (Pc6 37 0) < 256 from ⟨by have q0 := bl_37 (k := 0) hBc6; (clear hb hmh gc4_is; omega), by have q0 := bl_37 (k := 0) hBc6; (clear hb hmh gc4_is; omega)⟩) (show 0 ≤ b7 ∧ b7 < 256 from ⟨by (clear hb hmh gc4_is; omega), by (clear hb hmh gc4_is; omega)⟩)
      rw [← e_b8] at h_b8
      have hc9 : b8 = ixor (A 0 1) (ishl 1 a1) := by rw [e_b8, e_b7, hvk]
      refine m_s37 dX12_turn_38 (by decide) ?_
      have hB9 := ba_37 (z := b8) (k := 0) hBc6 ⟨by (clear hb hmh gc4_is; omega), by (clear hb hmh gc4_is; omega)⟩
      refine g_aload_n dX12_turn_39 rfl ?_
      refine m_g55 rfl dX12_turn_40 ?_
      refine g_iconst dX12_turn_43 ?_
      refine m_l37 (z := b8) dX12_turn_44 (by decide) up_same ?_
      refine g_iload_n dX12_turn_45 rfl ?_
      refine g_ishr dX12_turn_46 ?_
      refine g_nm (fun b10 e_b10 => ?_)
      have h_b10 := ishr_ir b8 a1
      rw [← e_b10] at h_b10
      refine g_iconst dX12_turn_47 ?_
      refine g_iand dX12_turn_48 ?_
      refine g_nm (fun b11 e_b11 => ?_)
      have h_b11 := iand_r (x := b10) (y := 1) ⟨by (clear hb hmh gc4_is; omega), by (clear hb hmh gc4_is; omega)⟩
      rw [← e_b11] at h_b11
      have hr9 : b11 = iand (ishr (ixor (A 0 1) (ishl 1 a1)) a1) 1 := by rw [e_b11, e_b10, hc9]
      exact g_retI dX12_turn_49 rfl (hQ b11 ⟨by (clear hb hmh gc4_is; omega), by (clear hb hmh gc4_is; omega)⟩ _ hB9 (FrM.a (FrM.c FrM.rf hFc6 rfl) rfl rfl) (by (clear hb gc4_is; omega)) (by rw [aTurn_y ⟨by (clear hb gc4_is; omega), by (clear hb hmh gc4_is; omega), by (clear hb hmh gc4_is; omega)⟩]; exact AM.on hpu p_wa (b0_59 hbk) (Eq.trans up_same hc9) (fun j hj => up_k hj) (FrM.a FrM.rf rfl rfl)))
    · skip
      refine g_aload_n dX12_turn_17 rfl ?_
      refine g_iconst dX12_turn_18 ?_
      refine g_vI (av := [vI 3]) (o := 0) (st := []) (m_X12_refuses G P 3 (by decide) hB  _ (fun rc12 hc12 Pc12 hBc12 hFc12 => ⟨rc12, rfl, ?_⟩)) cf_X12_refuses t_1667 rfl (by decide) rfl rfl rfl (Nat.le_of_ble_eq_true rfl) (by decide) rfl dX12_turn_19
      exact g_retI dX12_turn_22 rfl (hQ rc12 ⟨by (clear hb hmh gc4_is k5; omega), by (clear hb hmh gc4_is k5; omega)⟩ _ hBc12 (FrM.c FrM.rf hFc12 rfl) (by (clear hb hmh; omega)) (by rw [aTurn_n (by (clear hb hmh; omega))]; exact (AM.fr (F := ([], [28])) z0 (FrM.c FrM.rf hFc12 rfl) rfl)))
/-! What the reference answers: X12_undo. -/
set_option maxRecDepth 100000 in
set_option maxHeartbeats 4000000 in
theorem f_X12_undo (G : GT) (P : PH) (A : PH) (k : Int) (hB : BdM P) (p_wa : WA k A) (z0 : AM A P) (Q : Option PV → PH → Prop) (hQ : ∀ (r : Int) (_ : 0 ≤ r ∧ r ≤ 1) (P1 : PH) (_ : BdM P1) (_ : FrM ([60], [28, 35, 36, 37, 38, 39, 40]) P P1) (_ : (A 0 4 ≤ 0 ∧ r = 0) ∨ (0 < A 0 4 ∧ r = 1)) (_ : AM (aUndo A) P1), Q (some (vI r)) P1) : Ct WSM G 2 iX12_undo [vR 0] P Q := by
  refine Ct.of (by decide) (l0 := [(0, vR 0)]) rfl (Nat.le_of_ble_eq_true rfl) ?_
  have hb := z0.b
  have hw4 := p_wa.2.1
  have q59 := b0_59 hB
  refine g_aload_n dX12_undo_0 rfl ?_
  refine m_g60 (z := (P 0 60)) rfl dX12_undo_1 rfl ?_
  have f1 := b0_60 hB
  refine g_if_ne (tgt := 21) dX12_undo_4 (by decide) ⟨by have q0 := b0_60 hB; (clear hb; omega), by have q0 := b0_60 hB; (clear hb; omega)⟩ (fun k2 => ?_) (fun k2 => ?_)
  · have k2n : 1 ≤ (P 0 60) := by have q0 := b0_60 hB; (clear hb; omega)
    clear k2
    refine g_aload_n dX12_undo_21 rfl ?_
    refine g_dup dX12_undo_22 rfl ?_
    refine m_g60 (z := (P 0 60)) rfl dX12_undo_23 rfl ?_
    refine g_iconst dX12_undo_26 ?_
    refine g_isub dX12_undo_27 ?_
    refine m_p60 rfl dX12_undo_28 ?_
    have hB3 := bs_60 (z := ((P 0 60) - 1)) hB ⟨by have q0 := b0_60 hB; (clear hb; omega), by have q0 := b0_60 hB; (clear hb; omega)⟩
    refine g_aload_n dX12_undo_31 rfl ?_
    refine g_iconst dX12_undo_32 ?_
    refine g_aload_n dX12_undo_33 rfl ?_
    refine g_aload_n dX12_undo_34 rfl ?_
    refine m_g60 (z := ((P 0 60) - 1)) rfl dX12_undo_35 up_same ?_
    refine g_vI (av := [vI ((P 0 60) - 1)]) (o := 0) (st := [vI 0, vR 0]) (f_X12_slot G (up P 0 60 ((P 0 60) - 1)) ((P 0 60) - 1) ⟨by have q0 := b0_60 hB; (clear hb; omega), by have q0 := b0_60 hB; (clear hb; omega)⟩ hB3  _ (fun rc4 hc4 gc4_s => ⟨rc4, rfl, ?_⟩)) cf_X12_slot t_1855 rfl (by decide) rfl rfl rfl (Nat.le_of_ble_eq_true rfl) (by decide) rfl dX12_undo_38
    have z5 : (up P 0 60 ((P 0 60) - 1)) 0 59 = (P 0 59) := ((up_k (by decide)).trans rfl)
    have r35 : ∀ j, (up P 0 60 ((P 0 60) - 1)) 35 j = P 35 j := fun j => ((up_o (by decide)).trans rfl)
    have r36 : ∀ j, (up P 0 60 ((P 0 60) - 1)) 36 j = P 36 j := fun j => ((up_o (by decide)).trans rfl)
    have r37 : ∀ j, (up P 0 60 ((P 0 60) - 1)) 37 j = P 37 j := fun j => ((up_o (by decide)).trans rfl)
    have r38 : ∀ j, (up P 0 60 ((P 0 60) - 1)) 38 j = P 38 j := fun j => ((up_o (by decide)).trans rfl)
    have r39 : ∀ j, (up P 0 60 ((P 0 60) - 1)) 39 j = P 39 j := fun j => ((up_o (by decide)).trans rfl)
    refine g_vV (av := [vI 0, vI rc4]) (o := 0) (st := []) (f_X12_copies G (up P 0 60 ((P 0 60) - 1)) 0 rc4 (by decide) ⟨by (clear hb; omega), by (clear hb; omega)⟩ hB3 (by (clear hb; omega)) _ (fun Pc6 hBc6 hFc6 gc6_o gc6_cy => ⟨rfl, ?_⟩)) cf_X12_copies t_1859 rfl (by decide) rfl rfl rfl (Nat.le_of_ble_eq_true rfl) (by decide) rfl dX12_undo_41
    have z7 : (up P 0 60 ((P 0 60) - 1)) 35 0 = (P 35 0) := ((up_o (by decide)).trans rfl)
    have hcy := CY.row gc6_cy r35 r36 r37 r38 r39
    refine g_iconst dX12_undo_44 ?_
    exact g_retZ dX12_undo_45 rfl (by decide) (hQ 1 (by decide) _ hBc6 (FrM.c (FrM.s FrM.rf rfl) hFc6 rfl) (by (clear gc6_o; omega)) (by rw [aUndo_y (by (clear gc6_o; omega))]; exact AM.pop z0 p_wa (by (clear gc6_o; omega)) q59 (by have h59 := (((up_k (by decide)).trans rfl) : (up P 0 60 ((P 0 60) - 1)) 0 59 = (P 0 59)); rw [show 2 + (P 0 59 + (A 0 4 - 1)) % 20 = rc4 by (clear gc6_o; omega)]; exact hcy) ((hFc6.1 59 rfl).trans ((up_k (by decide)).trans rfl)) (by have h60 := (((hFc6.1 60 rfl).trans up_same) : Pc6 0 60 = ((P 0 60) - 1)); (clear gc6_o; omega)) ((hFc6.1 61 rfl).trans ((up_k (by decide)).trans rfl)) ((hFc6.1 92 rfl).trans ((up_k (by decide)).trans rfl))))
  · refine g_aload_n dX12_undo_7 rfl ?_
    refine g_iconst dX12_undo_8 ?_
    refine g_vI (av := [vI 4]) (o := 0) (st := []) (m_X12_refuses G P 4 (by decide) hB  _ (fun rc8 hc8 Pc8 hBc8 hFc8 => ⟨rc8, rfl, ?_⟩)) cf_X12_refuses t_1667 rfl (by decide) rfl rfl rfl (Nat.le_of_ble_eq_true rfl) (by decide) rfl dX12_undo_9
    refine g_if_lt (tgt := 19) dX12_undo_12 (by decide) ⟨by (clear hb k2; omega), by (clear hb k2; omega)⟩ (fun k9 => ?_) (fun k9 => by exfalso; (clear hb k2; omega))
    refine g_iconst dX12_undo_19 ?_
    exact g_retZ dX12_undo_20 rfl (by decide) (hQ 0 (by decide) _ hBc8 (FrM.c FrM.rf hFc8 rfl) (by (omega)) (by rw [aUndo_n (by (omega))]; exact (AM.fr (F := ([], [28])) z0 (FrM.c FrM.rf hFc8 rfl) rfl)))
