/-! What the reference answers: X12_undo. -/
set_option maxRecDepth 100000 in
set_option maxHeartbeats 4000000 in
theorem f_X12_undo (G : GT) (P : PH) (A : PH) (k : Int) (hB : BdM P) (p_wa : WA k A) (z0 : AM A P) (Q : Option PV → PH → Prop) (hQ : ∀ (r : Int) (_ : 0 ≤ r ∧ r ≤ 1) (P1 : PH) (_ : BdM P1) (_ : FrM ([60], [28, 35, 36, 37, 38, 39, 40]) P P1) (_ : (A 0 4 ≤ 0 ∧ r = 0) ∨ (0 < A 0 4 ∧ r = 1)) (_ : AM (aUndo A) P1), Q (some (vI r)) P1) : Ct WSM G 2 iX12_undo [vR 0] P Q := by
  refine Ct.of (by decide) (l0 := [(0, vR 0)]) rfl (Nat.le_of_ble_eq_true rfl) ?_
  have hb := z0.b
  have hw4 := p_wa.2.1
  have q59 := b0_59 hB
  refine g_aload_n dX12_undo_0 rfl ?_
  refine m_g60 (z := (P 0 60)) rfl dX12_undo_1 rfl ?_
  have f1 := b0_60 hB
  refine g_if_ne (tgt := 21) dX12_undo_4 (by decide) ⟨by have q0 := b0_60 hB; (clear hb; omega), by have q0 := b0_60 hB; (clear hb; omega)⟩ (fun k2 => ?_) (fun k2 => ?_)
  · have k2n : 1 ≤ (P 0 60) := by have q0 := b0_60 hB; (clear hb; omega)
    clear k2
    refine g_aload_n dX12_undo_21 rfl ?_
    refine g_dup dX12_undo_22 rfl ?_
    refine m_g60 (z := (P 0 60)) rfl dX12_undo_23 rfl ?_
    refine g_iconst dX12_undo_26 ?_
    refine g_isub dX12_undo_27 ?_
    refine m_p60 rfl dX12_undo_28 ?_
    have hB3 := bs_60 (z := ((P 0 60) - 1)) hB ⟨by have q0 := b0_60 hB; (clear hb; omega), by have q0 := b0_60 hB; (clear hb; omega)⟩
    refine g_aload_n dX12_undo_31 rfl ?_
    refine g_iconst dX12_undo_32 ?_
    refine g_aload_n dX12_undo_33 rfl ?_
    refine g_aload_n dX12_undo_34 rfl ?_
    refine m_g60 (z := ((P 0 60) - 1)) rfl dX12_undo_35 up_same ?_
    refine g_vI (av := [vI ((P 0 60) - 1)]) (o := 0) (st := [vI 0, vR 0]) (f_X12_slot G (up P 0 60 ((P 0 60) - 1)) ((P 0 60) - 1) ⟨by have q0 := b0_60 hB; (clear hb; omega), by have q0 := b0_60 hB; (clear hb; omega)⟩ hB3  _ (fun rc4 hc4 gc4_s => ⟨rc4, rfl, ?_⟩)) cf_X12_slot t_1855 rfl (by decide) rfl rfl rfl (Nat.le_of_ble_eq_true rfl) (by decide) rfl dX12_undo_38
    have z5 : (up P 0 60 ((P 0 60) - 1)) 0 59 = (P 0 59) := ((up_k (by decide)).trans rfl)
    have r35 : ∀ j, (up P 0 60 ((P 0 60) - 1)) 35 j = P 35 j := fun j => ((up_o (by decide)).trans rfl)
    have r36 : ∀ j, (up P 0 60 ((P 0 60) - 1)) 36 j = P 36 j := fun j => ((up_o (by decide)).trans rfl)
    have r37 : ∀ j, (up P 0 60 ((P 0 60) - 1)) 37 j = P 37 j := fun j => ((up_o (by decide)).trans rfl)
    have r38 : ∀ j, (up P 0 60 ((P 0 60) - 1)) 38 j = P 38 j := fun j => ((up_o (by decide)).trans rfl)
    have r39 : ∀ j, (up P 0 60 ((P 0 60) - 1)) 39 j = P 39 j := fun j => ((up_o (by decide)).trans rfl)
    refine g_vV (av := [vI 0, vI rc4]) (o := 0) (st := []) (f_X12_copies G (up P 0 60 ((P 0 60) - 1)) 0 rc4 (by decide) ⟨by (clear hb; omega), by (clear hb; omega)⟩ hB3 (by (clear hb; omega)) _ (fun Pc6 hBc6 hFc6 gc6_o gc6_cy => ⟨rfl, ?_⟩)) cf_X12_copies t_1859 rfl (by decide) rfl rfl rfl (Nat.le_of_ble_eq_true rfl) (by decide) rfl dX12_undo_41
    have z7 : (up P 0 60 ((P 0 60) - 1)) 35 0 = (P 35 0) := ((up_o (by decide)).trans rfl)
    have hcy := CY.row gc6_cy r35 r36 r37 r38 r39
    refine g_iconst dX12_undo_44 ?_
    exact g_retZ dX12_undo_45 rfl (by decide) (hQ 1 (by decide) _ hBc6 (FrM.c (FrM.s FrM.rf rfl) hFc6 rfl) (by (clear gc6_o; omega)) (by rw [aUndo_y (by (clear gc6_o; omega))]; exact AM.pop z0 p_wa (by (clear gc6_o; omega)) q59 (by have h59 := (((up_k (by decide)).trans rfl) : (up P 0 60 ((P 0 60) - 1)) 0 59 = (P 0 59)); rw [show 2 + (P 0 59 + (A 0 4 - 1)) % 20 = rc4 by (clear gc6_o; omega)]; exact hcy) ((hFc6.1 59 rfl).trans ((up_k (by decide)).trans rfl)) (by have h60 := (((hFc6.1 60 rfl).trans up_same) : Pc6 0 60 = ((P 0 60) - 1)); (clear gc6_o; omega)) ((hFc6.1 61 rfl).trans ((up_k (by decide)).trans rfl)) ((hFc6.1 92 rfl).trans ((up_k (by decide)).trans rfl))))
  · refine g_aload_n dX12_undo_7 rfl ?_
    refine g_iconst dX12_undo_8 ?_
    refine g_vI (av := [vI 4]) (o := 0) (st := []) (m_X12_refuses G P 4 (by decide) hB  _ (fun rc8 hc8 Pc8 hBc8 hFc8 => ⟨rc8, rfl, ?_⟩)) cf_X12_refuses t_1667 rfl (by decide) rfl rfl rfl (Nat.le_of_ble_eq_true rfl) (by decide) rfl dX12_undo_9
    refine g_if_lt (tgt := 19) dX12_undo_12 (by decide) ⟨by (clear hb k2; omega), by (clear hb k2; omega)⟩ (fun k9 => ?_) (fun k9 => by exfalso; (clear hb k2; omega))
    refine g_iconst dX12_undo_19 ?_
    exact g_retZ dX12_undo_20 rfl (by decide) (hQ 0 (by decide) _ hBc8 (FrM.c FrM.rf hFc8 rfl) (by (omega)) (by rw [aUndo_n (by (omega))]; exact (AM.fr (F := ([], [28])) z0 (FrM.c FrM.rf hFc8 rfl) rfl)))
/-! What the reference answers: X12_values. -/
set_option maxRecDepth 100000 in
set_option maxHeartbeats 4000000 in
theorem f_X12_values (G : GT) (P : PH) (K : PH) (M : PH) (a1 : Int) (h_a1 : (-2147483648) ≤ a1 ∧ a1 ≤ 2147483647) (hB : BdM P) (p_aw : AW K) (z0 : MKB K P) (z1 : MH M P) (Q : Option PV → PH → Prop) (hQ : ∀ (r : Int) (_ : (-1) ≤ r ∧ r ≤ 2006) (_ : r = vls K M a1), Q (some (vI r)) P) : Ct WSM G 2 iX12_values [vR 0, vI a1] P Q := by
  refine Ct.of (by decide) (l0 := [(0, vR 0), (1, vI a1)]) rfl (Nat.le_of_ble_eq_true rfl) ?_
  have hb := z0.b
  have haw := p_aw.1
  have hmh := z1
  unfold MH at hmh
  have hvs := vls_s K M a1
  have hsz := sz_s K a1
  have hk : 0 ≤ a1 → a1 < K 0 0 → P 3 (4 * P 0 13 + a1) = K 2 a1 := fun h h1 => (z0.k h h1).2.1
  refine g_aload_n dX12_values_0 rfl ?_
  refine m_g44 (z := (P 0 44)) rfl dX12_values_1 rfl ?_
  have f1 := b0_44 hB
  refine g_if_eq (tgt := 26) dX12_values_4 (by decide) ⟨by have q0 := b0_44 hB; (clear hb hmh hvs hsz hk; omega), by have q0 := b0_44 hB; (clear hb hmh hvs hsz hk; omega)⟩ (fun k2 => ?_) (fun k2 => ?_)
  · skip
    skip
    refine g_iconst dX12_values_26 ?_
    exact g_retI dX12_values_27 rfl (hQ (-1) (by decide) (by (omega)))
  · have k2n : 1 ≤ (P 0 44) := by have q0 := b0_44 hB; (clear hb hmh hvs hsz hk; omega)
    clear k2
    skip
    skip
    refine g_iload_n dX12_values_7 rfl ?_
    refine g_iconst dX12_values_8 ?_
    refine g_aload_n dX12_values_9 rfl ?_
    refine m_g14 rfl dX12_values_10 ?_
    refine g_aload_n dX12_values_13 rfl ?_
    refine m_g13 (z := (P 0 13)) rfl dX12_values_14 rfl ?_
    refine m_l2 (z := (P 2 (P 0 13))) dX12_values_17 ⟨by have q0 := b0_13 hB; (clear hb hmh hvs hsz hk; omega), by have q0 := b0_13 hB; (clear hb hmh hvs hsz hk; omega)⟩ rfl ?_
    refine g_iconst dX12_values_18 ?_
    refine g_isub dX12_values_19 ?_
    have f3 := bl_2 (k := (P 0 13)) hB
    refine g_sI (av := [vI a1, vI (-1), vI ((P 2 (P 0 13)) - 1)]) (st := []) (m_X12_is G P a1 (-1) ((P 2 (P 0 13)) - 1) ⟨by (clear hb hmh hvs hsz hk; omega), by (clear hb hmh hvs hsz hk; omega)⟩ (by decide) ⟨by have q0 := bl_2 (k := (P 0 13)) hB; (clear hb hmh hvs hsz hk; omega), by have q0 := bl_2 (k := (P 0 13)) hB; (clear hb hmh hvs hsz hk; omega)⟩ hB  _ (fun rc4 hc4 gc4_is => ⟨rc4, rfl, ?_⟩)) cf_X12_is t_1800 rfl (Nat.le_of_ble_eq_true rfl) (by decide) rfl dX12_values_20
    refine g_if_ne (tgt := 28) dX12_values_23 (by decide) ⟨by (clear hb hmh hvs hsz hk gc4_is; omega), by (clear hb hmh hvs hsz hk gc4_is; omega)⟩ (fun k5 => ?_) (fun k5 => ?_)
    · have k5n : 1 ≤ rc4 := by (clear hb hmh hvs hsz hk gc4_is; omega)
      clear k5
      have r_gc4_is := (gc4_is.resolve_right (by (clear hb hmh hvs hsz hk gc4_is; omega)))
      skip
      skip
      refine g_iload_n dX12_values_28 rfl ?_
      refine g_iconst dX12_values_29 ?_
      refine g_icmp_ne (tgt := 38) dX12_values_30 (by decide) ⟨by (clear hb hmh hvs hsz hk gc4_is; omega), by (clear hb hmh hvs hsz hk gc4_is; omega)⟩ (by decide) (fun k6 => ?_) (fun k6 => ?_)
      · have k6n : 0 ≤ a1 := by (clear hb hmh hvs hsz hk gc4_is; omega)
        clear k6
        skip
        have r_hsz := (hsz.resolve_left (by (clear hb hmh hvs hsz hk gc4_is; omega)))
        skip
        refine g_aload_n dX12_values_38 rfl ?_
        refine m_g15 rfl dX12_values_39 ?_
        refine g_iconst dX12_values_42 ?_
        refine g_aload_n dX12_values_43 rfl ?_
        refine m_g13 (z := (P 0 13)) rfl dX12_values_44 rfl ?_
        refine g_imul dX12_values_47 ?_
        refine g_iload_n dX12_values_48 rfl ?_
        refine g_iadd dX12_values_49 ?_
        refine m_l3 (z := (P 3 ((4 * (P 0 13)) + a1))) dX12_values_50 ⟨by have q0 := b0_13 hB; (clear hb hmh hvs hsz hk gc4_is; omega), by have q0 := b0_13 hB; (clear hb hmh hvs hsz hk gc4_is; omega)⟩ rfl ?_
        exact g_retI dX12_values_51 rfl (hQ (P 3 ((4 * (P 0 13)) + a1)) ⟨by have q0 := bl_3 (k := ((4 * (P 0 13)) + a1)) hB; (clear hb hmh hvs hsz hk gc4_is; omega), by have q0 := bl_3 (k := ((4 * (P 0 13)) + a1)) hB; (clear hb hmh hvs hsz hk gc4_is; omega)⟩ (by have q0 := bl_3 (k := ((4 * (P 0 13)) + a1)) hB; (omega)))
      · skip
        skip
        skip
        refine g_bipush dX12_values_33 (by decide) ?_
        refine g_goto (tgt := 51) dX12_values_35 (by decide) ?_
        exact g_retI dX12_values_51 rfl (hQ 20 (by decide) (by (omega)))
    · skip
      skip
      skip
      refine g_iconst dX12_values_26 ?_
      exact g_retI dX12_values_27 rfl (hQ (-1) (by decide) (by (omega)))
