/-! What the reference answers: X12_isKindHere. -/
set_option maxRecDepth 100000 in
set_option maxHeartbeats 4000000 in
theorem f_X12_isKindHere (G : GT) (P : PH) (T : TT) (p : Int) (hB : BdM P) (z0 : MS T p P) (Q : Option PV → PH → Prop) (hQ : ∀ (r : Int) (_ : 0 ≤ r ∧ r ≤ 1) (_ : r = 0 ∨ P 0 3 = 1) (_ : (r = 1 ∧ tK T p = 1 ∧ (tO T p = -1 ∨ tO T p = 7)) ∨ (r = 0 ∧ (tK T p ≠ 1 ∨ (tO T p ≠ -1 ∧ tO T p ≠ 7)))), Q (some (vI r)) P) : Ct WSM G 2 iX12_isKindHere [vR 0] P Q := by
  refine Ct.of (by decide) (l0 := [(0, vR 0)]) rfl (Nat.le_of_ble_eq_true rfl) ?_
  have ht : tK T p ≠ 4 → P 0 3 = tK T p ∧ P 0 5 = tE T p := z0.tok
  have hv : tK T p = 1 → P 0 7 = tW T p := z0.word
  have hbad := z0.bad
  have ho7 := own_is (T := T) (p := p) 7 (by decide) 7239021 (by decide +kernel)
  have hor := tO_r T p
  refine g_aload_n dX12_isKindHere_0 rfl ?_
  refine m_g3 (z := (P 0 3)) rfl dX12_isKindHere_1 rfl ?_
  refine g_iconst dX12_isKindHere_4 ?_
  have f1 := b0_3 hB
  refine g_icmp_ne (tgt := 41) dX12_isKindHere_5 (by decide) ⟨by have q0 := b0_3 hB; omega, by have q0 := b0_3 hB; omega⟩ (by decide) (fun k2 => ?_) (fun k2 => ?_)
  · refine g_iconst dX12_isKindHere_41 ?_
    exact g_retZ dX12_isKindHere_42 rfl (by decide) (hQ 0 (by decide) (by have q0 := b0_3 hB; omega) (by omega))
  · refine g_aload_n dX12_isKindHere_8 rfl ?_
    refine m_g12 (z := (P 0 12)) rfl dX12_isKindHere_9 rfl ?_
    refine g_iconst dX12_isKindHere_12 ?_
    have f3 := b0_12 hB
    refine g_icmp_ne (tgt := 41) dX12_isKindHere_13 (by decide) ⟨by have q0 := b0_12 hB; omega, by have q0 := b0_12 hB; omega⟩ (by decide) (fun k4 => ?_) (fun k4 => ?_)
    · refine g_iconst dX12_isKindHere_41 ?_
      exact g_retZ dX12_isKindHere_42 rfl (by decide) (hQ 0 (by decide) (by have q0 := b0_3 hB; omega) (by omega))
    · refine g_aload_n dX12_isKindHere_16 rfl ?_
      refine g_ldc2 (z := 7239021) dX12_isKindHere_17 t_1732 (by decide) ?_
      refine g_vI (av := [vL 7239021]) (o := 0) (st := []) (f_X12_isWord G P (T) (p) 7239021 (by decide) hB (z0) _ (fun rc5 hc5 gc5_w gc5_f => ⟨rc5, rfl, ?_⟩)) cf_X12_isWord t_1706 rfl (by decide) rfl rfl rfl (Nat.le_of_ble_eq_true rfl) (by decide) rfl dX12_isKindHere_20
      refine g_if_ne (tgt := 37) dX12_isKindHere_23 (by decide) ⟨by omega, by omega⟩ (fun k6 => ?_) (fun k6 => ?_)
      · refine g_iconst dX12_isKindHere_37 ?_
        refine g_goto (tgt := 42) dX12_isKindHere_38 (by decide) ?_
        exact g_retZ dX12_isKindHere_42 rfl (by decide) (hQ 1 (by decide) (by have q0 := b0_3 hB; omega) (by omega))
      · refine g_aload_n dX12_isKindHere_26 rfl ?_
        refine g_aload_n dX12_isKindHere_27 rfl ?_
        refine m_g7 (z := (P 0 7)) rfl dX12_isKindHere_28 rfl ?_
        have f7 := b0_7 hB
        refine g_vI (av := [vL (P 0 7)]) (o := 0) (st := []) (f_X12_isOwn G P (P 0 7) ⟨by have q0 := b0_7 hB; omega, by have q0 := b0_7 hB; omega⟩ hB  _ (fun rc8 hc8 gc8_o => ⟨rc8, rfl, ?_⟩)) cf_X12_isOwn t_1722 rfl (by decide) rfl rfl rfl (Nat.le_of_ble_eq_true rfl) (by decide) rfl dX12_isKindHere_31
        have hown := own_r (T := T) (p := p) gc8_o hv
        refine g_if_ne (tgt := 41) dX12_isKindHere_34 (by decide) ⟨by omega, by omega⟩ (fun k9 => ?_) (fun k9 => ?_)
        · refine g_iconst dX12_isKindHere_41 ?_
          exact g_retZ dX12_isKindHere_42 rfl (by decide) (hQ 0 (by decide) (by have q0 := b0_3 hB; omega) (by omega))
        · refine g_iconst dX12_isKindHere_37 ?_
          refine g_goto (tgt := 42) dX12_isKindHere_38 (by decide) ?_
          exact g_retZ dX12_isKindHere_42 rfl (by decide) (hQ 1 (by decide) (by have q0 := b0_3 hB; omega) (by omega))
