/-! What the reference answers: X12_values. -/
set_option maxRecDepth 100000 in
set_option maxHeartbeats 4000000 in
theorem f_X12_values (G : GT) (P : PH) (K : PH) (M : PH) (a1 : Int) (h_a1 : (-2147483648) ≤ a1 ∧ a1 ≤ 2147483647) (hB : BdM P) (p_aw : AW K) (z0 : MKB K P) (z1 : MH M P) (Q : Option PV → PH → Prop) (hQ : ∀ (r : Int) (_ : (-1) ≤ r ∧ r ≤ 2006) (_ : r = vls K M a1), Q (some (vI r)) P) : Ct WSM G 2 iX12_values [vR 0, vI a1] P Q := by
  refine Ct.of (by decide) (l0 := [(0, vR 0), (1, vI a1)]) rfl (Nat.le_of_ble_eq_true rfl) ?_
  have hb := z0.b
  have haw := p_aw.1
  have hmh := z1
  unfold MH at hmh
  have hvs := vls_s K M a1
  have hsz := sz_s K a1
  have hk : 0 ≤ a1 → a1 < K 0 0 → P 3 (4 * P 0 13 + a1) = K 2 a1 := fun h h1 => (z0.k h h1).2.1
  refine g_aload_n dX12_values_0 rfl ?_
  refine m_g44 (z := (P 0 44)) rfl dX12_values_1 rfl ?_
  have f1 := b0_44 hB
  refine g_if_eq (tgt := 26) dX12_values_4 (by decide) ⟨by have q0 := b0_44 hB; (first | (clear hb hmh hvs hsz hk; omega) | omega), by have q0 := b0_44 hB; (first | (clear hb hmh hvs hsz hk; omega) | omega)⟩ (fun k2 => ?_) (fun k2 => ?_)
  · first | (revert r_hsz; intro r_hsz) | have r_hsz := (hsz.resolve_right (by (clear hb hmh hvs hsz hk k2; omega))) | have r_hsz := (hsz.resolve_left (by (clear hb hmh hvs hsz hk k2; omega))) | skip
    first | (revert r_hvs; intro r_hvs) | have r_hvs := (hvs.resolve_right (by (clear hb hmh hvs hsz hk k2; omega))) | have r_hvs := (hvs.resolve_left (by (clear hb hmh hvs hsz hk k2; omega))) | skip
    refine g_iconst dX12_values_26 ?_
    exact g_retI dX12_values_27 rfl (hQ (-1) (by decide) (by (first | (clear hb hmh hvs hsz hk k2; omega) | (clear hb hmh hvs hsz hk; omega) | (clear hb hmh hvs hsz k2; omega) | (clear hb hmh hvs hk k2; omega) | (clear hb hmh hsz hk k2; omega) | (clear hb hvs hsz hk k2; omega) | (clear hmh hvs hsz hk k2; omega) | (clear hb hmh hvs hsz; omega) | (clear hmh hb; omega) | omega)))
  · have k2n : 1 ≤ (P 0 44) := by have q0 := b0_44 hB; (first | (clear hb hmh hvs hsz hk k2; omega) | (clear hb hmh hvs hsz hk; omega) | (clear hb hmh hvs hsz k2; omega) | (clear hb hmh hvs hk k2; omega) | (clear hb hmh hsz hk k2; omega) | (clear hb hvs hsz hk k2; omega) | (clear hmh hvs hsz hk k2; omega) | (clear hb hmh hvs hsz; omega) | (clear hmh hb; omega) | omega)
    clear k2
    first | (revert r_hsz; intro r_hsz) | have r_hsz := (hsz.resolve_right (by (clear hb hmh hvs hsz hk; omega))) | have r_hsz := (hsz.resolve_left (by (clear hb hmh hvs hsz hk; omega))) | skip
    first | (revert r_hvs; intro r_hvs) | have r_hvs := (hvs.resolve_right (by (clear hb hmh hvs hsz hk; omega))) | have r_hvs := (hvs.resolve_left (by (clear hb hmh hvs hsz hk; omega))) | skip
    refine g_iload_n dX12_values_7 rfl ?_
    refine g_iconst dX12_values_8 ?_
    refine g_aload_n dX12_values_9 rfl ?_
    refine m_g14 rfl dX12_values_10 ?_
    refine g_aload_n dX12_values_13 rfl ?_
    refine m_g13 (z := (P 0 13)) rfl dX12_values_14 rfl ?_
    refine m_l2 (z := (P 2 (P 0 13))) dX12_values_17 ⟨by have q0 := b0_13 hB; (first | (clear hb hmh hvs hsz hk; omega) | omega), by have q0 := b0_13 hB; (first | (clear hb hmh hvs hsz hk; omega) | omega)⟩ rfl ?_
    refine g_iconst dX12_values_18 ?_
    refine g_isub dX12_values_19 ?_
    have f3 := bl_2 (k := (P 0 13)) hB
    refine g_sI (av := [vI a1, vI (-1), vI ((P 2 (P 0 13)) - 1)]) (st := []) (m_X12_is G P a1 (-1) ((P 2 (P 0 13)) - 1) ⟨by (first | (clear hb hmh hvs hsz hk; omega) | omega), by (first | (clear hb hmh hvs hsz hk; omega) | omega)⟩ (by decide) ⟨by have q0 := bl_2 (k := (P 0 13)) hB; (first | (clear hb hmh hvs hsz hk; omega) | omega), by have q0 := bl_2 (k := (P 0 13)) hB; (first | (clear hb hmh hvs hsz hk; omega) | omega)⟩ hB  _ (fun rc4 hc4 gc4_is => ⟨rc4, rfl, ?_⟩)) cf_X12_is t_1800 rfl (Nat.le_of_ble_eq_true rfl) (by decide) rfl dX12_values_20
    refine g_if_ne (tgt := 28) dX12_values_23 (by decide) ⟨by (first | (clear hb hmh hvs hsz hk gc4_is; omega) | omega), by (first | (clear hb hmh hvs hsz hk gc4_is; omega) | omega)⟩ (fun k5 => ?_) (fun k5 => ?_)
    · have k5n : 1 ≤ rc4 := by (first | (clear hb hmh hvs hsz hk gc4_is k5; omega) | (clear hb hmh hvs hsz hk gc4_is; omega) | (clear hb hmh hvs hsz hk k5; omega) | (clear hb hmh hvs hsz gc4_is k5; omega) | (clear hb hmh hvs hk gc4_is k5; omega) | (clear hb hmh hsz hk gc4_is k5; omega) | (clear hb hvs hsz hk gc4_is k5; omega) | (clear hmh hvs hsz hk gc4_is k5; omega) | (clear hb hmh hvs hsz hk; omega) | (clear hvs hmh hb; omega) | omega)
      clear k5
      first | (revert r_gc4_is; intro r_gc4_is) | have r_gc4_is := (gc4_is.resolve_right (by (clear hb hmh hvs hsz hk gc4_is; omega))) | have r_gc4_is := (gc4_is.resolve_left (by (clear hb hmh hvs hsz hk gc4_is; omega))) | skip
      first | (revert r_hsz; intro r_hsz) | have r_hsz := (hsz.resolve_right (by (clear hb hmh hvs hsz hk gc4_is; omega))) | have r_hsz := (hsz.resolve_left (by (clear hb hmh hvs hsz hk gc4_is; omega))) | skip
      first | (revert r_hvs; intro r_hvs) | have r_hvs := (hvs.resolve_right (by (clear hb hmh hvs hsz hk gc4_is; omega))) | have r_hvs := (hvs.resolve_left (by (clear hb hmh hvs hsz hk gc4_is; omega))) | skip
      refine g_iload_n dX12_values_28 rfl ?_
      refine g_iconst dX12_values_29 ?_
      refine g_icmp_ne (tgt := 38) dX12_values_30 (by decide) ⟨by (first | (clear hb hmh hvs hsz hk gc4_is; omega) | omega), by (first | (clear hb hmh hvs hsz hk gc4_is; omega) | omega)⟩ (by decide) (fun k6 => ?_) (fun k6 => ?_)
      · have k6n : 0 ≤ a1 := by (first | (clear hb hmh hvs hsz hk gc4_is k6; omega) | (clear hb hmh hvs hsz hk gc4_is; omega) | (clear hb hmh hvs hsz hk k6; omega) | (clear hb hmh hvs hsz gc4_is k6; omega) | (clear hb hmh hvs hk gc4_is k6; omega) | (clear hb hmh hsz hk gc4_is k6; omega) | (clear hb hvs hsz hk gc4_is k6; omega) | (clear hmh hvs hsz hk gc4_is k6; omega) | (clear hb hmh hvs hsz hk; omega) | (clear hvs hmh hb; omega) | omega)
        clear k6
        first | (revert r_gc4_is; intro r_gc4_is) | have r_gc4_is := (gc4_is.resolve_right (by (clear hb hmh hvs hsz hk gc4_is; omega))) | have r_gc4_is := (gc4_is.resolve_left (by (clear hb hmh hvs hsz hk gc4_is; omega))) | skip
        first | (revert r_hsz; intro r_hsz) | have r_hsz := (hsz.resolve_right (by (clear hb hmh hvs hsz hk gc4_is; omega))) | have r_hsz := (hsz.resolve_left (by (clear hb hmh hvs hsz hk gc4_is; omega))) | skip
        first | (revert r_hvs; intro r_hvs) | have r_hvs := (hvs.resolve_right (by (clear hb hmh hvs hsz hk gc4_is; omega))) | have r_hvs := (hvs.resolve_left (by (clear hb hmh hvs hsz hk gc4_is; omega))) | skip
        refine g_aload_n dX12_values_38 rfl ?_
        refine m_g15 rfl dX12_values_39 ?_
        refine g_iconst dX12_values_42 ?_
        refine g_aload_n dX12_values_43 rfl ?_
        refine m_g13 (z := (P 0 13)) rfl dX12_values_44 rfl ?_
        refine g_imul dX12_values_47 ?_
        refine g_iload_n dX12_values_48 rfl ?_
        refine g_iadd dX12_values_49 ?_
        refine m_l3 (z := (P 3 ((4 * (P 0 13)) + a1))) dX12_values_50 ⟨by have q0 := b0_13 hB; (first | (clear hb hmh hvs hsz hk gc4_is; omega) | omega), by have q0 := b0_13 hB; (first | (clear hb hmh hvs hsz hk gc4_is; omega) | omega)⟩ rfl ?_
        exact g_retI dX12_values_51 rfl (hQ (P 3 ((4 * (P 0 13)) + a1)) ⟨by have q0 := bl_3 (k := ((4 * (P 0 13)) + a1)) hB; (first | (clear hb hmh hvs hsz hk gc4_is; omega) | omega), by have q0 := bl_3 (k := ((4 * (P 0 13)) + a1)) hB; (first | (clear hb hmh hvs hsz hk gc4_is; omega) | omega)⟩ (by have q0 := bl_3 (k := ((4 * (P 0 13)) + a1)) hB; (first | (clear hb hmh hvs hsz hk gc4_is; omega) | (clear hb hmh hvs hsz hk; omega) | (clear hb hmh hvs hsz gc4_is; omega) | (clear hb hmh hvs hk gc4_is; omega) | (clear hb hmh hsz hk gc4_is; omega) | (clear hb hvs hsz hk gc4_is; omega) | (clear hmh hvs hsz hk gc4_is; omega) | (clear hb hmh hvs hsz; omega) | (clear hmh hb; omega) | omega)))
      · first | (revert r_gc4_is; intro r_gc4_is) | have r_gc4_is := (gc4_is.resolve_right (by (clear hb hmh hvs hsz hk gc4_is k6; omega))) | have r_gc4_is := (gc4_is.resolve_left (by (clear hb hmh hvs hsz hk gc4_is k6; omega))) | skip
        first | (revert r_hsz; intro r_hsz) | have r_hsz := (hsz.resolve_right (by (clear hb hmh hvs hsz hk gc4_is k6; omega))) | have r_hsz := (hsz.resolve_left (by (clear hb hmh hvs hsz hk gc4_is k6; omega))) | skip
        first | (revert r_hvs; intro r_hvs) | have r_hvs := (hvs.resolve_right (by (clear hb hmh hvs hsz hk gc4_is k6; omega))) | have r_hvs := (hvs.resolve_left (by (clear hb hmh hvs hsz hk gc4_is k6; omega))) | skip
        refine g_bipush dX12_values_33 (by decide) ?_
        refine g_goto (tgt := 51) dX12_values_35 (by decide) ?_
        exact g_retI dX12_values_51 rfl (hQ 20 (by decide) (by (first | (clear hb hmh hvs hsz hk gc4_is k6; omega) | (clear hb hmh hvs hsz hk gc4_is; omega) | (clear hb hmh hvs hsz hk k6; omega) | (clear hb hmh hvs hsz gc4_is k6; omega) | (clear hb hmh hvs hk gc4_is k6; omega) | (clear hb hmh hsz hk gc4_is k6; omega) | (clear hb hvs hsz hk gc4_is k6; omega) | (clear hmh hvs hsz hk gc4_is k6; omega) | (clear hb hmh hvs hsz hk; omega) | (clear hvs hmh hb; omega) | omega)))
    · first | (revert r_gc4_is; intro r_gc4_is) | have r_gc4_is := (gc4_is.resolve_right (by (clear hb hmh hvs hsz hk gc4_is k5; omega))) | have r_gc4_is := (gc4_is.resolve_left (by (clear hb hmh hvs hsz hk gc4_is k5; omega))) | skip
      first | (revert r_hsz; intro r_hsz) | have r_hsz := (hsz.resolve_right (by (clear hb hmh hvs hsz hk gc4_is k5; omega))) | have r_hsz := (hsz.resolve_left (by (clear hb hmh hvs hsz hk gc4_is k5; omega))) | skip
      first | (revert r_hvs; intro r_hvs) | have r_hvs := (hvs.resolve_right (by (clear hb hmh hvs hsz hk gc4_is k5; omega))) | have r_hvs := (hvs.resolve_left (by (clear hb hmh hvs hsz hk gc4_is k5; omega))) | skip
      refine g_iconst dX12_values_26 ?_
      exact g_retI dX12_values_27 rfl (hQ (-1) (by decide) (by (first | (clear hb hmh hvs hsz hk gc4_is k5; omega) | (clear hb hmh hvs hsz hk gc4_is; omega) | (clear hb hmh hvs hsz hk k5; omega) | (clear hb hmh hvs hsz gc4_is k5; omega) | (clear hb hmh hvs hk gc4_is k5; omega) | (clear hb hmh hsz hk gc4_is k5; omega) | (clear hb hvs hsz hk gc4_is k5; omega) | (clear hmh hvs hsz hk gc4_is k5; omega) | (clear hb hmh hvs hsz hk; omega) | (clear hvs hmh hb; omega) | omega)))
