/-! What the reference answers: X12_isOwn. -/
set_option maxRecDepth 100000 in
set_option maxHeartbeats 4000000 in
theorem f_X12_isOwn (G : GT) (P : PH) (a1 : Int) (h_a1 : (-9223372036854775808) ≤ a1 ∧ a1 ≤ 9223372036854775807) (hB : BdM P) (Q : Option PV → PH → Prop) (hQ : ∀ (r : Int) (_ : 0 ≤ r ∧ r ≤ 1) (_ : (r = 1 ∧ oWS a1) ∨ (r = 0 ∧ ¬ oWS a1)), Q (some (vI r)) P) : Ct WSM G 1 iX12_isOwn [vR 0, vL a1] P Q := by
  refine Ct.of (by decide) (l0 := [(0, vR 0), (1, vL a1)]) rfl (Nat.le_of_ble_eq_true rfl) ?_
  refine g_lload_n dX12_isOwn_0 rfl ?_
  refine g_ldc2 (z := 1802071652) dX12_isOwn_1 t_1705 (by decide) ?_
  refine g_lcmp dX12_isOwn_4 ⟨by omega, by omega⟩ (by decide) ?_
  refine g_nm (fun b1 e_b1 => ?_)
  have h_b1 := lcmpv_b a1 1802071652
  have h0_b1 := lcmpv_0 (x := a1) (y := 1802071652)
  have h1_b1 := lcmpv_lt (x := a1) (y := 1802071652)
  have h2_b1 := lcmpv_gt (x := a1) (y := 1802071652)
  rw [← e_b1] at h_b1 h0_b1 h1_b1 h2_b1
  refine g_if_eq (tgt := 40) dX12_isOwn_5 (by decide) ⟨by omega, by omega⟩ (fun k2 => ?_) (fun k2 => ?_)
  · refine g_iconst dX12_isOwn_40 ?_
    exact g_retZ dX12_isOwn_41 rfl (by decide) (hQ 1 (by decide) (by first | exact Or.inl ⟨rfl, oWS_t (by omega)⟩ | exact Or.inr ⟨rfl, oWS_f (by omega)⟩))
  · refine g_lload_n dX12_isOwn_8 rfl ?_
    refine g_ldc2 (z := 6516590) dX12_isOwn_9 t_1726 (by decide) ?_
    refine g_lcmp dX12_isOwn_12 ⟨by omega, by omega⟩ (by decide) ?_
    refine g_nm (fun b3 e_b3 => ?_)
    have h_b3 := lcmpv_b a1 6516590
    have h0_b3 := lcmpv_0 (x := a1) (y := 6516590)
    have h1_b3 := lcmpv_lt (x := a1) (y := 6516590)
    have h2_b3 := lcmpv_gt (x := a1) (y := 6516590)
    rw [← e_b3] at h_b3 h0_b3 h1_b3 h2_b3
    refine g_if_eq (tgt := 40) dX12_isOwn_13 (by decide) ⟨by omega, by omega⟩ (fun k4 => ?_) (fun k4 => ?_)
    · refine g_iconst dX12_isOwn_40 ?_
      exact g_retZ dX12_isOwn_41 rfl (by decide) (hQ 1 (by decide) (by first | exact Or.inl ⟨rfl, oWS_t (by omega)⟩ | exact Or.inr ⟨rfl, oWS_f (by omega)⟩))
    · refine g_lload_n dX12_isOwn_16 rfl ?_
      refine g_ldc2 (z := 469786452840) dX12_isOwn_17 t_1727 (by decide) ?_
      refine g_lcmp dX12_isOwn_20 ⟨by omega, by omega⟩ (by decide) ?_
      refine g_nm (fun b5 e_b5 => ?_)
      have h_b5 := lcmpv_b a1 469786452840
      have h0_b5 := lcmpv_0 (x := a1) (y := 469786452840)
      have h1_b5 := lcmpv_lt (x := a1) (y := 469786452840)
      have h2_b5 := lcmpv_gt (x := a1) (y := 469786452840)
      rw [← e_b5] at h_b5 h0_b5 h1_b5 h2_b5
      refine g_if_eq (tgt := 40) dX12_isOwn_21 (by decide) ⟨by omega, by omega⟩ (fun k6 => ?_) (fun k6 => ?_)
      · refine g_iconst dX12_isOwn_40 ?_
        exact g_retZ dX12_isOwn_41 rfl (by decide) (hQ 1 (by decide) (by first | exact Or.inl ⟨rfl, oWS_t (by omega)⟩ | exact Or.inr ⟨rfl, oWS_f (by omega)⟩))
      · refine g_lload_n dX12_isOwn_24 rfl ?_
        refine g_ldc2 (z := 6386285) dX12_isOwn_25 t_1728 (by decide) ?_
        refine g_lcmp dX12_isOwn_28 ⟨by omega, by omega⟩ (by decide) ?_
        refine g_nm (fun b7 e_b7 => ?_)
        have h_b7 := lcmpv_b a1 6386285
        have h0_b7 := lcmpv_0 (x := a1) (y := 6386285)
        have h1_b7 := lcmpv_lt (x := a1) (y := 6386285)
        have h2_b7 := lcmpv_gt (x := a1) (y := 6386285)
        rw [← e_b7] at h_b7 h0_b7 h1_b7 h2_b7
        refine g_if_eq (tgt := 40) dX12_isOwn_29 (by decide) ⟨by omega, by omega⟩ (fun k8 => ?_) (fun k8 => ?_)
        · refine g_iconst dX12_isOwn_40 ?_
          exact g_retZ dX12_isOwn_41 rfl (by decide) (hQ 1 (by decide) (by first | exact Or.inl ⟨rfl, oWS_t (by omega)⟩ | exact Or.inr ⟨rfl, oWS_f (by omega)⟩))
        · refine g_lload_n dX12_isOwn_32 rfl ?_
          refine g_ldc2 (z := 2003330414) dX12_isOwn_33 t_1729 (by decide) ?_
          refine g_lcmp dX12_isOwn_36 ⟨by omega, by omega⟩ (by decide) ?_
          refine g_nm (fun b9 e_b9 => ?_)
          have h_b9 := lcmpv_b a1 2003330414
          have h0_b9 := lcmpv_0 (x := a1) (y := 2003330414)
          have h1_b9 := lcmpv_lt (x := a1) (y := 2003330414)
          have h2_b9 := lcmpv_gt (x := a1) (y := 2003330414)
          rw [← e_b9] at h_b9 h0_b9 h1_b9 h2_b9
          refine g_if_ne (tgt := 42) dX12_isOwn_37 (by decide) ⟨by omega, by omega⟩ (fun k10 => ?_) (fun k10 => ?_)
          · refine g_lload_n dX12_isOwn_42 rfl ?_
            refine g_ldc2 (z := 1920298085) dX12_isOwn_43 t_1730 (by decide) ?_
            refine g_lcmp dX12_isOwn_46 ⟨by omega, by omega⟩ (by decide) ?_
            refine g_nm (fun b11 e_b11 => ?_)
            have h_b11 := lcmpv_b a1 1920298085
            have h0_b11 := lcmpv_0 (x := a1) (y := 1920298085)
            have h1_b11 := lcmpv_lt (x := a1) (y := 1920298085)
            have h2_b11 := lcmpv_gt (x := a1) (y := 1920298085)
            rw [← e_b11] at h_b11 h0_b11 h1_b11 h2_b11
            refine g_if_eq (tgt := 82) dX12_isOwn_47 (by decide) ⟨by omega, by omega⟩ (fun k12 => ?_) (fun k12 => ?_)
            · refine g_iconst dX12_isOwn_82 ?_
              exact g_retZ dX12_isOwn_83 rfl (by decide) (hQ 1 (by decide) (by first | exact Or.inl ⟨rfl, oWS_t (by omega)⟩ | exact Or.inr ⟨rfl, oWS_f (by omega)⟩))
            · refine g_lload_n dX12_isOwn_50 rfl ?_
              refine g_ldc2 (z := 108256335193460) dX12_isOwn_51 t_1731 (by decide) ?_
              refine g_lcmp dX12_isOwn_54 ⟨by omega, by omega⟩ (by decide) ?_
              refine g_nm (fun b13 e_b13 => ?_)
              have h_b13 := lcmpv_b a1 108256335193460
              have h0_b13 := lcmpv_0 (x := a1) (y := 108256335193460)
              have h1_b13 := lcmpv_lt (x := a1) (y := 108256335193460)
              have h2_b13 := lcmpv_gt (x := a1) (y := 108256335193460)
              rw [← e_b13] at h_b13 h0_b13 h1_b13 h2_b13
              refine g_if_eq (tgt := 82) dX12_isOwn_55 (by decide) ⟨by omega, by omega⟩ (fun k14 => ?_) (fun k14 => ?_)
              · refine g_iconst dX12_isOwn_82 ?_
                exact g_retZ dX12_isOwn_83 rfl (by decide) (hQ 1 (by decide) (by first | exact Or.inl ⟨rfl, oWS_t (by omega)⟩ | exact Or.inr ⟨rfl, oWS_f (by omega)⟩))
              · refine g_lload_n dX12_isOwn_58 rfl ?_
                refine g_ldc2 (z := 7239021) dX12_isOwn_59 t_1732 (by decide) ?_
                refine g_lcmp dX12_isOwn_62 ⟨by omega, by omega⟩ (by decide) ?_
                refine g_nm (fun b15 e_b15 => ?_)
                have h_b15 := lcmpv_b a1 7239021
                have h0_b15 := lcmpv_0 (x := a1) (y := 7239021)
                have h1_b15 := lcmpv_lt (x := a1) (y := 7239021)
                have h2_b15 := lcmpv_gt (x := a1) (y := 7239021)
                rw [← e_b15] at h_b15 h0_b15 h1_b15 h2_b15
                refine g_if_eq (tgt := 82) dX12_isOwn_63 (by decide) ⟨by omega, by omega⟩ (fun k16 => ?_) (fun k16 => ?_)
                · refine g_iconst dX12_isOwn_82 ?_
                  exact g_retZ dX12_isOwn_83 rfl (by decide) (hQ 1 (by decide) (by first | exact Or.inl ⟨rfl, oWS_t (by omega)⟩ | exact Or.inr ⟨rfl, oWS_f (by omega)⟩))
                · refine g_lload_n dX12_isOwn_66 rfl ?_
                  refine g_ldc2 (z := 6385273) dX12_isOwn_67 t_1733 (by decide) ?_
                  refine g_lcmp dX12_isOwn_70 ⟨by omega, by omega⟩ (by decide) ?_
                  refine g_nm (fun b17 e_b17 => ?_)
                  have h_b17 := lcmpv_b a1 6385273
                  have h0_b17 := lcmpv_0 (x := a1) (y := 6385273)
                  have h1_b17 := lcmpv_lt (x := a1) (y := 6385273)
                  have h2_b17 := lcmpv_gt (x := a1) (y := 6385273)
                  rw [← e_b17] at h_b17 h0_b17 h1_b17 h2_b17
                  refine g_if_eq (tgt := 82) dX12_isOwn_71 (by decide) ⟨by omega, by omega⟩ (fun k18 => ?_) (fun k18 => ?_)
                  · refine g_iconst dX12_isOwn_82 ?_
                    exact g_retZ dX12_isOwn_83 rfl (by decide) (hQ 1 (by decide) (by first | exact Or.inl ⟨rfl, oWS_t (by omega)⟩ | exact Or.inr ⟨rfl, oWS_f (by omega)⟩))
                  · refine g_lload_n dX12_isOwn_74 rfl ?_
                    refine g_ldc2 (z := 28530) dX12_isOwn_75 t_1734 (by decide) ?_
                    refine g_lcmp dX12_isOwn_78 ⟨by omega, by omega⟩ (by decide) ?_
                    refine g_nm (fun b19 e_b19 => ?_)
                    have h_b19 := lcmpv_b a1 28530
                    have h0_b19 := lcmpv_0 (x := a1) (y := 28530)
                    have h1_b19 := lcmpv_lt (x := a1) (y := 28530)
                    have h2_b19 := lcmpv_gt (x := a1) (y := 28530)
                    rw [← e_b19] at h_b19 h0_b19 h1_b19 h2_b19
                    refine g_if_ne (tgt := 84) dX12_isOwn_79 (by decide) ⟨by omega, by omega⟩ (fun k20 => ?_) (fun k20 => ?_)
                    · refine g_lload_n dX12_isOwn_84 rfl ?_
                      refine g_ldc2 (z := 29807) dX12_isOwn_85 t_1735 (by decide) ?_
                      refine g_lcmp dX12_isOwn_88 ⟨by omega, by omega⟩ (by decide) ?_
                      refine g_nm (fun b21 e_b21 => ?_)
                      have h_b21 := lcmpv_b a1 29807
                      have h0_b21 := lcmpv_0 (x := a1) (y := 29807)
                      have h1_b21 := lcmpv_lt (x := a1) (y := 29807)
                      have h2_b21 := lcmpv_gt (x := a1) (y := 29807)
                      rw [← e_b21] at h_b21 h0_b21 h1_b21 h2_b21
                      refine g_if_ne (tgt := 94) dX12_isOwn_89 (by decide) ⟨by omega, by omega⟩ (fun k22 => ?_) (fun k22 => ?_)
                      · refine g_iconst dX12_isOwn_94 ?_
                        exact g_retZ dX12_isOwn_95 rfl (by decide) (hQ 0 (by decide) (by first | exact Or.inl ⟨rfl, oWS_t (by omega)⟩ | exact Or.inr ⟨rfl, oWS_f (by omega)⟩))
                      · refine g_iconst dX12_isOwn_92 ?_
                        exact g_retZ dX12_isOwn_93 rfl (by decide) (hQ 1 (by decide) (by first | exact Or.inl ⟨rfl, oWS_t (by omega)⟩ | exact Or.inr ⟨rfl, oWS_f (by omega)⟩))
                    · refine g_iconst dX12_isOwn_82 ?_
                      exact g_retZ dX12_isOwn_83 rfl (by decide) (hQ 1 (by decide) (by first | exact Or.inl ⟨rfl, oWS_t (by omega)⟩ | exact Or.inr ⟨rfl, oWS_f (by omega)⟩))
          · refine g_iconst dX12_isOwn_40 ?_
            exact g_retZ dX12_isOwn_41 rfl (by decide) (hQ 1 (by decide) (by first | exact Or.inl ⟨rfl, oWS_t (by omega)⟩ | exact Or.inr ⟨rfl, oWS_f (by omega)⟩))
