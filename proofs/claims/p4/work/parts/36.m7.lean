/-! Contracts of the reference: m7. -/
set_option maxRecDepth 100000 in
set_option maxHeartbeats 4000000 in
theorem m_X12_known (G : GT) (P : PH) (a1 : Int) (h_a1 : (-1) ≤ a1 ∧ a1 ≤ 4) (hB : BdM P) (p_lx : (P 0 3 = 0 ∨ P 0 4 + 1 ≤ P 0 5) ∧ P 0 4 ≤ P 0 5) (Q : Option PV → PH → Prop) (hQ : ∀ (r : Int) (_ : 0 ≤ r ∧ r ≤ 4) (P1 : PH) (_ : BdM P1) (_ : FrM ([8, 9], []) P P1) (_ : (P1 0 3 = 0 ∨ P1 0 4 + 1 ≤ P1 0 5) ∧ P1 0 4 ≤ P1 0 5) (_ : P 0 4 ≤ P1 0 4) (_ : P 0 8 ≤ 0 ∨ 0 < P1 0 8) (_ : 0 < P1 0 8 ∨ r = 4 ∨ (r < a1 ∧ 1 ≤ P1 3 (4 * P 0 37 + r) ∧ r < P1 2 (P 0 37))), Q (some (vI r)) P1) : Ct WSM G 3 iX12_known [vR 0, vI a1] P Q := by
  refine Ct.of (by decide) (l0 := [(0, vR 0), (1, vI a1)]) rfl (Nat.le_of_ble_eq_true rfl) ?_
  refine g_aload_n dX12_known_0 rfl ?_
  refine g_vV (av := []) (o := 0) (st := []) (m_X12_lex G P  hB  _ (fun Pc1 hBc1 hFc1 gc1_pe => ⟨rfl, ?_⟩)) cf_X12_lex t_1697 rfl (by decide) rfl rfl rfl (Nat.le_of_ble_eq_true rfl) (by decide) rfl dX12_known_1
  refine g_aload_n dX12_known_4 rfl ?_
  refine m_g8 (z := (Pc1 0 8)) rfl dX12_known_5 rfl ?_
  have f2 := b0_8 hBc1
  refine g_if_le (tgt := 13) dX12_known_8 (by decide) ⟨by have q0 := b0_8 hBc1; omega, by have q0 := b0_8 hBc1; omega⟩ (fun k3 => ?_) (fun k3 => ?_)
  · refine g_aload_n dX12_known_13 rfl ?_
    refine g_ldc2 (z := 7239021) dX12_known_14 t_1732 (by decide) ?_
    refine g_vI (av := [vL 7239021]) (o := 0) (st := []) (m_X12_isWord G Pc1 7239021 (by decide) hBc1  _ (fun rc4 hc4 gc4_w => ⟨rc4, rfl, ?_⟩)) cf_X12_isWord t_1706 rfl (by decide) rfl rfl rfl (Nat.le_of_ble_eq_true rfl) (by decide) rfl dX12_known_17
    have z5 : Pc1 0 3 = (P 0 3) := ((hFc1.1 3 rfl).trans rfl)
    have z6 : Pc1 0 7 = (P 0 7) := ((hFc1.1 7 rfl).trans rfl)
    refine g_istore_n (l1 := [(2, vI rc4), (0, vR 0), (1, vI a1)]) dX12_known_20 (by decide) rfl ?_
    refine g_aload_n dX12_known_21 rfl ?_
    refine m_g3 (z := (P 0 3)) rfl dX12_known_22 ((hFc1.1 3 rfl).trans rfl) ?_
    refine g_iconst dX12_known_25 ?_
    have f7 := b0_3 hB
    have J53_151 : ∀ (H53_151 : PH) (hB53_151 : BdM H53_151) (hE53_151 : FrM ([8, 9], []) Pc1 H53_151), Go WSM G 3 iX12_known 53 [(0, vR 0), (1, vI a1), (2, vI rc4)] [] H53_151 Q := by
      intro H53_151 hB53_151 hE53_151
      refine g_aload_n dX12_known_53 rfl ?_
      refine m_g8 (z := (H53_151 0 8)) rfl dX12_known_54 rfl ?_
      have f153 := b0_8 hB53_151
      have J64_220 : ∀ (_ : True), Go WSM G 3 iX12_known 64 [(0, vR 0), (1, vI a1), (2, vI rc4)] [] H53_151 Q := by
        intro _
        refine g_iconst dX12_known_64 ?_
        refine g_goto (tgt := 76) dX12_known_65 (by decide) ?_
        refine g_istore_n (l1 := [(3, vI 4), (0, vR 0), (1, vI a1), (2, vI rc4)]) dX12_known_76 (by decide) rfl ?_
        refine g_aload_n dX12_known_77 rfl ?_
        refine m_g8 (z := (H53_151 0 8)) rfl dX12_known_78 rfl ?_
        have J123_234 : ∀ (H123_234 : PH) (hB123_234 : BdM H123_234) (hE123_234 : FrM ([8, 9], []) H53_151 H123_234) (i123_0_234 : 0 < H123_234 0 8 ∨ 4 = 4 ∨ (0 ≤ 4 ∧ 4 < a1 ∧ 1 ≤ H123_234 3 (4 * P 0 37 + 4) ∧ 4 < P 2 (P 0 37))), Go WSM G 3 iX12_known 123 [(0, vR 0), (3, vI 4)] [] H123_234 Q := by
          intro H123_234 hB123_234 hE123_234 i123_0_234
          refine g_aload_n dX12_known_123 rfl ?_
          refine m_g8 (z := (H123_234 0 8)) rfl dX12_known_124 rfl ?_
          have f236 := b0_8 hB123_234
          refine g_if_le (tgt := 134) dX12_known_127 (by decide) ⟨by have q0 := b0_8 hB123_234; omega, by have q0 := b0_8 hB123_234; omega⟩ (fun k237 => ?_) (fun k237 => ?_)
          · refine g_iload_n dX12_known_134 rfl ?_
            exact g_retI dX12_known_135 rfl (hQ 4 (by decide) _ hB123_234 (FrM.c (FrM.c (FrM.c FrM.rf hFc1 rfl) hE53_151 rfl) hE123_234 rfl) (by have q0 := (((hE123_234.1 3 rfl).trans ((hE53_151.1 3 rfl).trans ((hFc1.1 3 rfl).trans rfl))) : H123_234 0 3 = (P 0 3)); have q1 := b0_3 hB; have q2 := (((hE123_234.1 4 rfl).trans ((hE53_151.1 4 rfl).trans ((hFc1.1 4 rfl).trans rfl))) : H123_234 0 4 = (P 0 4)); have q3 := b0_4 hB; have q4 := (((hE123_234.1 5 rfl).trans ((hE53_151.1 5 rfl).trans ((hFc1.1 5 rfl).trans rfl))) : H123_234 0 5 = (P 0 5)); have q5 := b0_5 hB; omega) (by have q0 := (((hE123_234.1 4 rfl).trans ((hE53_151.1 4 rfl).trans ((hFc1.1 4 rfl).trans rfl))) : H123_234 0 4 = (P 0 4)); have q1 := b0_4 hB; omega) (by have q0 := b0_8 hB123_234; omega) (by first | (left; have q8 := (rfl : H123_234 0 8 = (H123_234 0 8)); omega) | (have q2 := (((congrFun (hE123_234.2 2 rfl rfl) _).trans ((congrFun (hE53_151.2 2 rfl rfl) _).trans ((congrFun (hFc1.2 2 rfl rfl) _).trans rfl))) : H123_234 2 (P 0 37) = (P 2 (P 0 37))); have q3 := (((congrFun (hE123_234.2 3 rfl rfl) _).trans ((congrFun (hE53_151.2 3 rfl rfl) _).trans ((congrFun (hFc1.2 3 rfl rfl) _).trans rfl))) : H123_234 3 (4 * P 0 37 + 4) = (P 3 (4 * P 0 37 + 4))); omega)))
          · refine g_iconst dX12_known_130 ?_
            refine g_goto (tgt := 135) dX12_known_131 (by decide) ?_
            exact g_retI dX12_known_135 rfl (hQ 4 (by decide) _ hB123_234 (FrM.c (FrM.c (FrM.c FrM.rf hFc1 rfl) hE53_151 rfl) hE123_234 rfl) (by have q0 := (((hE123_234.1 3 rfl).trans ((hE53_151.1 3 rfl).trans ((hFc1.1 3 rfl).trans rfl))) : H123_234 0 3 = (P 0 3)); have q1 := b0_3 hB; have q2 := (((hE123_234.1 4 rfl).trans ((hE53_151.1 4 rfl).trans ((hFc1.1 4 rfl).trans rfl))) : H123_234 0 4 = (P 0 4)); have q3 := b0_4 hB; have q4 := (((hE123_234.1 5 rfl).trans ((hE53_151.1 5 rfl).trans ((hFc1.1 5 rfl).trans rfl))) : H123_234 0 5 = (P 0 5)); have q5 := b0_5 hB; omega) (by have q0 := (((hE123_234.1 4 rfl).trans ((hE53_151.1 4 rfl).trans ((hFc1.1 4 rfl).trans rfl))) : H123_234 0 4 = (P 0 4)); have q1 := b0_4 hB; omega) (by have q0 := b0_8 hB123_234; omega) (by first | (left; have q8 := (rfl : H123_234 0 8 = (H123_234 0 8)); omega) | (have q2 := (((congrFun (hE123_234.2 2 rfl rfl) _).trans ((congrFun (hE53_151.2 2 rfl rfl) _).trans ((congrFun (hFc1.2 2 rfl rfl) _).trans rfl))) : H123_234 2 (P 0 37) = (P 2 (P 0 37))); have q3 := (((congrFun (hE123_234.2 3 rfl rfl) _).trans ((congrFun (hE53_151.2 3 rfl rfl) _).trans ((congrFun (hFc1.2 3 rfl rfl) _).trans rfl))) : H123_234 3 (4 * P 0 37 + 4) = (P 3 (4 * P 0 37 + 4))); omega)))
        refine g_if_ne (tgt := 123) dX12_known_81 (by decide) ⟨by have q0 := b0_8 hB53_151; omega, by have q0 := b0_8 hB53_151; omega⟩ (fun k238 => ?_) (fun k238 => ?_)
        · refine g_forget (l1 := [(0, vR 0), (3, vI 4)]) (by intro q hq; simp only [List.mem_cons, List.not_mem_nil, or_false] at hq ⊢; rcases hq with rfl | rfl <;> simp) ?_
          exact J123_234 _ hB53_151 FrM.rf (by have q0 := b0_8 hB53_151; have q1 := (((congrFun (hE53_151.2 3 rfl rfl) _).trans ((congrFun (hFc1.2 3 rfl rfl) _).trans rfl)) : H53_151 3 (4 * P 0 37 + 4) = (P 3 (4 * P 0 37 + 4))); have q2 := bl_3 (k := (4 * P 0 37 + 4)) hB; omega)
        · refine g_iload_n dX12_known_84 rfl ?_
          refine g_if_ne (tgt := 123) dX12_known_85 (by decide) ⟨by omega, by omega⟩ (fun k239 => ?_) (fun k239 => ?_)
          · refine g_forget (l1 := [(0, vR 0), (3, vI 4)]) (by intro q hq; simp only [List.mem_cons, List.not_mem_nil, or_false] at hq ⊢; rcases hq with rfl | rfl <;> simp) ?_
            exact J123_234 _ hB53_151 FrM.rf (by have q0 := b0_8 hB53_151; have q1 := (((congrFun (hE53_151.2 3 rfl rfl) _).trans ((congrFun (hFc1.2 3 rfl rfl) _).trans rfl)) : H53_151 3 (4 * P 0 37 + 4) = (P 3 (4 * P 0 37 + 4))); have q2 := bl_3 (k := (4 * P 0 37 + 4)) hB; omega)
          · refine g_iload_n dX12_known_88 rfl ?_
            refine g_iconst dX12_known_89 ?_
            have J114_243 : ∀ (_ : True), Go WSM G 3 iX12_known 114 [(0, vR 0), (3, vI 4)] [] H53_151 Q := by
              intro _
              refine g_aload_n dX12_known_114 rfl ?_
              refine g_iconst dX12_known_115 ?_
              refine g_aload_n dX12_known_116 rfl ?_
              refine m_g4 (z := (P 0 4)) rfl dX12_known_117 ((hE53_151.1 4 rfl).trans ((hFc1.1 4 rfl).trans rfl)) ?_
              have f245 := b0_4 hB
              refine g_vV (av := [vI 3, vI (P 0 4)]) (o := 0) (st := []) (m_X12_blame G H53_151 3 (P 0 4) (by decide) ⟨by have q0 := b0_4 hB; omega, by have q0 := b0_4 hB; omega⟩ hB53_151  _ (fun Pc246 hBc246 hFc246 gc246_f gc246_pe => ⟨rfl, ?_⟩)) cf_X12_blame t_1701 rfl (by decide) rfl rfl rfl (Nat.le_of_ble_eq_true rfl) (by decide) rfl dX12_known_120
              refine g_forget (l1 := [(0, vR 0), (3, vI 4)]) (by intro q hq; simp only [List.mem_cons, List.not_mem_nil, or_false] at hq ⊢; rcases hq with rfl | rfl <;> simp) ?_
              exact J123_234 _ hBc246 (FrM.c FrM.rf hFc246 rfl) (by have q0 := b0_8 hBc246; have q1 := (((congrFun (hFc246.2 3 rfl rfl) _).trans ((congrFun (hE53_151.2 3 rfl rfl) _).trans ((congrFun (hFc1.2 3 rfl rfl) _).trans rfl))) : Pc246 3 (4 * P 0 37 + 4) = (P 3 (4 * P 0 37 + 4))); have q2 := bl_3 (k := (4 * P 0 37 + 4)) hB; omega)
            refine g_icmp_eq (tgt := 114) dX12_known_90 (by decide) (by decide) (by decide) (fun k247 => by exfalso; omega) (fun k247 => ?_)
            refine g_iload_n dX12_known_93 rfl ?_
            refine g_iload_n dX12_known_94 rfl ?_
            refine g_icmp_ge (tgt := 114) dX12_known_95 (by decide) (by decide) ⟨by omega, by omega⟩ (fun k248 => ?_) (fun k248 => by exfalso; omega)
            refine g_forget (l1 := [(0, vR 0), (3, vI 4)]) (by intro q hq; simp only [List.mem_cons, List.not_mem_nil, or_false] at hq ⊢; rcases hq with rfl | rfl <;> simp) ?_
            exact J114_243 trivial
      refine g_if_gt (tgt := 64) dX12_known_57 (by decide) ⟨by have q0 := b0_8 hB53_151; omega, by have q0 := b0_8 hB53_151; omega⟩ (fun k249 => ?_) (fun k249 => ?_)
      · refine g_forget (l1 := [(0, vR 0), (1, vI a1), (2, vI rc4)]) (by intro q hq; simp only [List.mem_cons, List.not_mem_nil, or_false] at hq ⊢; rcases hq with rfl | rfl | rfl <;> simp) ?_
        exact J64_220 trivial
      · refine g_iload_n dX12_known_60 rfl ?_
        refine g_if_eq (tgt := 68) dX12_known_61 (by decide) ⟨by omega, by omega⟩ (fun k250 => ?_) (fun k250 => ?_)
        · refine g_aload_n dX12_known_68 rfl ?_
          refine g_aload_n dX12_known_69 rfl ?_
          refine m_g7 (z := (P 0 7)) rfl dX12_known_70 ((hE53_151.1 7 rfl).trans ((hFc1.1 7 rfl).trans rfl)) ?_
          have f251 := b0_7 hB
          refine g_vI (av := [vL (P 0 7)]) (o := 0) (st := []) (m_X12_kindNamed G H53_151 (P 0 7) ⟨by have q0 := b0_7 hB; omega, by have q0 := b0_7 hB; omega⟩ hB53_151  _ (fun rc252 hc252 gc252_k => ⟨rc252, rfl, ?_⟩)) cf_X12_kindNamed t_1736 rfl (by decide) rfl rfl rfl (Nat.le_of_ble_eq_true rfl) (by decide) rfl dX12_known_73
          have z253 : H53_151 0 37 = (P 0 37) := ((hE53_151.1 37 rfl).trans ((hFc1.1 37 rfl).trans rfl))
          have ek37 := (((hE53_151.1 37 rfl).trans ((hFc1.1 37 rfl).trans rfl)) : H53_151 0 37 = (P 0 37))
          try rw [ek37] at gc252_k
          have ek2 := (((congrFun (hE53_151.2 2 rfl rfl) _).trans ((congrFun (hFc1.2 2 rfl rfl) _).trans rfl)) : H53_151 2 (P 0 37) = (P 2 (P 0 37)))
          try rw [ek2] at gc252_k
          refine g_istore_n (l1 := [(3, vI rc252), (0, vR 0), (1, vI a1), (2, vI rc4)]) dX12_known_76 (by decide) rfl ?_
          refine g_aload_n dX12_known_77 rfl ?_
          refine m_g8 (z := (H53_151 0 8)) rfl dX12_known_78 rfl ?_
          have J123_270 : ∀ (H123_270 : PH) (hB123_270 : BdM H123_270) (hE123_270 : FrM ([8, 9], []) H53_151 H123_270) (i123_0_270 : 0 < H123_270 0 8 ∨ rc252 = 4 ∨ (0 ≤ rc252 ∧ rc252 < a1 ∧ 1 ≤ H123_270 3 (4 * P 0 37 + rc252) ∧ rc252 < P 2 (P 0 37))), Go WSM G 3 iX12_known 123 [(0, vR 0), (3, vI rc252)] [] H123_270 Q := by
            intro H123_270 hB123_270 hE123_270 i123_0_270
            refine g_aload_n dX12_known_123 rfl ?_
            refine m_g8 (z := (H123_270 0 8)) rfl dX12_known_124 rfl ?_
            have f272 := b0_8 hB123_270
            refine g_if_le (tgt := 134) dX12_known_127 (by decide) ⟨by have q0 := b0_8 hB123_270; omega, by have q0 := b0_8 hB123_270; omega⟩ (fun k273 => ?_) (fun k273 => ?_)
            · refine g_iload_n dX12_known_134 rfl ?_
              exact g_retI dX12_known_135 rfl (hQ rc252 ⟨by omega, by omega⟩ _ hB123_270 (FrM.c (FrM.c (FrM.c FrM.rf hFc1 rfl) hE53_151 rfl) hE123_270 rfl) (by have q0 := (((hE123_270.1 3 rfl).trans ((hE53_151.1 3 rfl).trans ((hFc1.1 3 rfl).trans rfl))) : H123_270 0 3 = (P 0 3)); have q1 := b0_3 hB; have q2 := (((hE123_270.1 4 rfl).trans ((hE53_151.1 4 rfl).trans ((hFc1.1 4 rfl).trans rfl))) : H123_270 0 4 = (P 0 4)); have q3 := b0_4 hB; have q4 := (((hE123_270.1 5 rfl).trans ((hE53_151.1 5 rfl).trans ((hFc1.1 5 rfl).trans rfl))) : H123_270 0 5 = (P 0 5)); have q5 := b0_5 hB; omega) (by have q0 := (((hE123_270.1 4 rfl).trans ((hE53_151.1 4 rfl).trans ((hFc1.1 4 rfl).trans rfl))) : H123_270 0 4 = (P 0 4)); have q1 := b0_4 hB; omega) (by have q0 := b0_8 hB123_270; omega) (by first | (left; have q8 := (rfl : H123_270 0 8 = (H123_270 0 8)); omega) | (have q2 := (((congrFun (hE123_270.2 2 rfl rfl) _).trans ((congrFun (hE53_151.2 2 rfl rfl) _).trans ((congrFun (hFc1.2 2 rfl rfl) _).trans rfl))) : H123_270 2 (P 0 37) = (P 2 (P 0 37))); have q3 := (((congrFun (hE123_270.2 3 rfl rfl) _).trans ((congrFun (hE53_151.2 3 rfl rfl) _).trans ((congrFun (hFc1.2 3 rfl rfl) _).trans rfl))) : H123_270 3 (4 * P 0 37 + rc252) = (P 3 (4 * P 0 37 + rc252))); omega)))
            · refine g_iconst dX12_known_130 ?_
              refine g_goto (tgt := 135) dX12_known_131 (by decide) ?_
              exact g_retI dX12_known_135 rfl (hQ 4 (by decide) _ hB123_270 (FrM.c (FrM.c (FrM.c FrM.rf hFc1 rfl) hE53_151 rfl) hE123_270 rfl) (by have q0 := (((hE123_270.1 3 rfl).trans ((hE53_151.1 3 rfl).trans ((hFc1.1 3 rfl).trans rfl))) : H123_270 0 3 = (P 0 3)); have q1 := b0_3 hB; have q2 := (((hE123_270.1 4 rfl).trans ((hE53_151.1 4 rfl).trans ((hFc1.1 4 rfl).trans rfl))) : H123_270 0 4 = (P 0 4)); have q3 := b0_4 hB; have q4 := (((hE123_270.1 5 rfl).trans ((hE53_151.1 5 rfl).trans ((hFc1.1 5 rfl).trans rfl))) : H123_270 0 5 = (P 0 5)); have q5 := b0_5 hB; omega) (by have q0 := (((hE123_270.1 4 rfl).trans ((hE53_151.1 4 rfl).trans ((hFc1.1 4 rfl).trans rfl))) : H123_270 0 4 = (P 0 4)); have q1 := b0_4 hB; omega) (by have q0 := b0_8 hB123_270; omega) (by first | (left; have q8 := (rfl : H123_270 0 8 = (H123_270 0 8)); omega) | (have q2 := (((congrFun (hE123_270.2 2 rfl rfl) _).trans ((congrFun (hE53_151.2 2 rfl rfl) _).trans ((congrFun (hFc1.2 2 rfl rfl) _).trans rfl))) : H123_270 2 (P 0 37) = (P 2 (P 0 37))); have q3 := (((congrFun (hE123_270.2 3 rfl rfl) _).trans ((congrFun (hE53_151.2 3 rfl rfl) _).trans ((congrFun (hFc1.2 3 rfl rfl) _).trans rfl))) : H123_270 3 (4 * P 0 37 + 4) = (P 3 (4 * P 0 37 + 4))); omega)))
          refine g_if_ne (tgt := 123) dX12_known_81 (by decide) ⟨by have q0 := b0_8 hB53_151; omega, by have q0 := b0_8 hB53_151; omega⟩ (fun k274 => by exfalso; have q0 := b0_8 hB53_151; omega) (fun k274 => ?_)
          refine g_iload_n dX12_known_84 rfl ?_
          refine g_if_ne (tgt := 123) dX12_known_85 (by decide) ⟨by omega, by omega⟩ (fun k275 => by exfalso; omega) (fun k275 => ?_)
          refine g_iload_n dX12_known_88 rfl ?_
          refine g_iconst dX12_known_89 ?_
          have J114_281 : ∀ (_ : True), Go WSM G 3 iX12_known 114 [(0, vR 0), (3, vI rc252)] [] H53_151 Q := by
            intro _
            refine g_aload_n dX12_known_114 rfl ?_
            refine g_iconst dX12_known_115 ?_
            refine g_aload_n dX12_known_116 rfl ?_
            refine m_g4 (z := (P 0 4)) rfl dX12_known_117 ((hE53_151.1 4 rfl).trans ((hFc1.1 4 rfl).trans rfl)) ?_
            have f283 := b0_4 hB
            refine g_vV (av := [vI 3, vI (P 0 4)]) (o := 0) (st := []) (m_X12_blame G H53_151 3 (P 0 4) (by decide) ⟨by have q0 := b0_4 hB; omega, by have q0 := b0_4 hB; omega⟩ hB53_151  _ (fun Pc284 hBc284 hFc284 gc284_f gc284_pe => ⟨rfl, ?_⟩)) cf_X12_blame t_1701 rfl (by decide) rfl rfl rfl (Nat.le_of_ble_eq_true rfl) (by decide) rfl dX12_known_120
            refine g_forget (l1 := [(0, vR 0), (3, vI rc252)]) (by intro q hq; simp only [List.mem_cons, List.not_mem_nil, or_false] at hq ⊢; rcases hq with rfl | rfl <;> simp) ?_
            exact J123_270 _ hBc284 (FrM.c FrM.rf hFc284 rfl) (by have q0 := b0_8 hBc284; have q1 := (((congrFun (hFc284.2 3 rfl rfl) _).trans ((congrFun (hE53_151.2 3 rfl rfl) _).trans ((congrFun (hFc1.2 3 rfl rfl) _).trans rfl))) : Pc284 3 (4 * P 0 37 + rc252) = (P 3 (4 * P 0 37 + rc252))); have q2 := bl_3 (k := (4 * P 0 37 + rc252)) hB; omega)
          refine g_icmp_eq (tgt := 114) dX12_known_90 (by decide) ⟨by omega, by omega⟩ (by decide) (fun k285 => ?_) (fun k285 => ?_)
          · refine g_forget (l1 := [(0, vR 0), (3, vI rc252)]) (by intro q hq; simp only [List.mem_cons, List.not_mem_nil, or_false] at hq ⊢; rcases hq with rfl | rfl <;> simp) ?_
            exact J114_281 trivial
          · refine g_iload_n dX12_known_93 rfl ?_
            refine g_iload_n dX12_known_94 rfl ?_
            refine g_icmp_ge (tgt := 114) dX12_known_95 (by decide) ⟨by omega, by omega⟩ ⟨by omega, by omega⟩ (fun k286 => ?_) (fun k286 => ?_)
            · refine g_forget (l1 := [(0, vR 0), (3, vI rc252)]) (by intro q hq; simp only [List.mem_cons, List.not_mem_nil, or_false] at hq ⊢; rcases hq with rfl | rfl <;> simp) ?_
              exact J114_281 trivial
            · refine g_aload_n dX12_known_98 rfl ?_
              refine m_g15 rfl dX12_known_99 ?_
              refine g_iconst dX12_known_102 ?_
              refine g_aload_n dX12_known_103 rfl ?_
              refine m_g37 (z := (P 0 37)) rfl dX12_known_104 ((hE53_151.1 37 rfl).trans ((hFc1.1 37 rfl).trans rfl)) ?_
              refine g_imul dX12_known_107 ?_
              refine g_iload_n dX12_known_108 rfl ?_
              refine g_iadd dX12_known_109 ?_
              refine m_l3 (z := (P 3 ((4 * (P 0 37)) + rc252))) dX12_known_110 ⟨by have q0 := b0_37 hB; omega, by have q0 := b0_37 hB; omega⟩ ((congrFun (hE53_151.2 3 rfl rfl) _).trans ((congrFun (hFc1.2 3 rfl rfl) _).trans rfl)) ?_
              have f287 := bl_3 (k := ((4 * (P 0 37)) + rc252)) hB
              refine g_if_ne (tgt := 123) dX12_known_111 (by decide) ⟨by have q0 := bl_3 (k := ((4 * (P 0 37)) + rc252)) hB; omega, by have q0 := bl_3 (k := ((4 * (P 0 37)) + rc252)) hB; omega⟩ (fun k288 => ?_) (fun k288 => ?_)
              · refine g_forget (l1 := [(0, vR 0), (3, vI rc252)]) (by intro q hq; simp only [List.mem_cons, List.not_mem_nil, or_false] at hq ⊢; rcases hq with rfl | rfl <;> simp) ?_
                exact J123_270 _ hB53_151 FrM.rf (by have q0 := b0_8 hB53_151; have q1 := (((congrFun (hE53_151.2 3 rfl rfl) _).trans ((congrFun (hFc1.2 3 rfl rfl) _).trans rfl)) : H53_151 3 (4 * P 0 37 + rc252) = (P 3 (4 * P 0 37 + rc252))); have q2 := bl_3 (k := (4 * P 0 37 + rc252)) hB; omega)
              · refine g_forget (l1 := [(0, vR 0), (3, vI rc252)]) (by intro q hq; simp only [List.mem_cons, List.not_mem_nil, or_false] at hq ⊢; rcases hq with rfl | rfl <;> simp) ?_
                exact J114_281 trivial
        · refine g_forget (l1 := [(0, vR 0), (1, vI a1), (2, vI rc4)]) (by intro q hq; simp only [List.mem_cons, List.not_mem_nil, or_false] at hq ⊢; rcases hq with rfl | rfl | rfl <;> simp) ?_
          exact J64_220 trivial
    have J44_288 : ∀ (_ : True), Go WSM G 3 iX12_known 44 [(0, vR 0), (1, vI a1), (2, vI rc4)] [] Pc1 Q := by
      intro _
      refine g_aload_n dX12_known_44 rfl ?_
      refine g_iconst dX12_known_45 ?_
      refine g_aload_n dX12_known_46 rfl ?_
      refine m_g4 (z := (P 0 4)) rfl dX12_known_47 ((hFc1.1 4 rfl).trans rfl) ?_
      have f290 := b0_4 hB
      refine g_vV (av := [vI 1, vI (P 0 4)]) (o := 0) (st := []) (m_X12_blame G Pc1 1 (P 0 4) (by decide) ⟨by have q0 := b0_4 hB; omega, by have q0 := b0_4 hB; omega⟩ hBc1  _ (fun Pc291 hBc291 hFc291 gc291_f gc291_pe => ⟨rfl, ?_⟩)) cf_X12_blame t_1701 rfl (by decide) rfl rfl rfl (Nat.le_of_ble_eq_true rfl) (by decide) rfl dX12_known_50
      refine g_forget (l1 := [(0, vR 0), (1, vI a1), (2, vI rc4)]) (by intro q hq; simp only [List.mem_cons, List.not_mem_nil, or_false] at hq ⊢; rcases hq with rfl | rfl | rfl <;> simp) ?_
      exact J53_151 _ hBc291 (FrM.c FrM.rf hFc291 rfl)
    refine g_icmp_ne (tgt := 44) dX12_known_26 (by decide) ⟨by have q0 := b0_3 hB; omega, by have q0 := b0_3 hB; omega⟩ (by decide) (fun k292 => ?_) (fun k292 => ?_)
    · refine g_forget (l1 := [(0, vR 0), (1, vI a1), (2, vI rc4)]) (by intro q hq; simp only [List.mem_cons, List.not_mem_nil, or_false] at hq ⊢; rcases hq with rfl | rfl | rfl <;> simp) ?_
      exact J44_288 trivial
    · refine g_aload_n dX12_known_29 rfl ?_
      refine g_aload_n dX12_known_30 rfl ?_
      refine m_g7 (z := (P 0 7)) rfl dX12_known_31 ((hFc1.1 7 rfl).trans rfl) ?_
      have f293 := b0_7 hB
      refine g_vI (av := [vL (P 0 7)]) (o := 0) (st := []) (m_X12_isOwn G Pc1 (P 0 7) ⟨by have q0 := b0_7 hB; omega, by have q0 := b0_7 hB; omega⟩ hBc1  _ (fun rc294 hc294 => ⟨rc294, rfl, ?_⟩)) cf_X12_isOwn t_1722 rfl (by decide) rfl rfl rfl (Nat.le_of_ble_eq_true rfl) (by decide) rfl dX12_known_34
      refine g_if_eq (tgt := 53) dX12_known_37 (by decide) ⟨by omega, by omega⟩ (fun k295 => ?_) (fun k295 => ?_)
      · refine g_forget (l1 := [(0, vR 0), (1, vI a1), (2, vI rc4)]) (by intro q hq; simp only [List.mem_cons, List.not_mem_nil, or_false] at hq ⊢; rcases hq with rfl | rfl | rfl <;> simp) ?_
        exact J53_151 _ hBc1 FrM.rf
      · refine g_iload_n dX12_known_40 rfl ?_
        refine g_if_ne (tgt := 53) dX12_known_41 (by decide) ⟨by omega, by omega⟩ (fun k296 => ?_) (fun k296 => ?_)
        · refine g_forget (l1 := [(0, vR 0), (1, vI a1), (2, vI rc4)]) (by intro q hq; simp only [List.mem_cons, List.not_mem_nil, or_false] at hq ⊢; rcases hq with rfl | rfl | rfl <;> simp) ?_
          exact J53_151 _ hBc1 FrM.rf
        · refine g_forget (l1 := [(0, vR 0), (1, vI a1), (2, vI rc4)]) (by intro q hq; simp only [List.mem_cons, List.not_mem_nil, or_false] at hq ⊢; rcases hq with rfl | rfl | rfl <;> simp) ?_
          exact J44_288 trivial
  · refine g_iconst dX12_known_11 ?_
    exact g_retI dX12_known_12 rfl (hQ 0 (by decide) _ hBc1 (FrM.c FrM.rf hFc1 rfl) (by have q0 := (((hFc1.1 3 rfl).trans rfl) : Pc1 0 3 = (P 0 3)); have q1 := b0_3 hB; have q2 := (((hFc1.1 4 rfl).trans rfl) : Pc1 0 4 = (P 0 4)); have q3 := b0_4 hB; have q4 := (((hFc1.1 5 rfl).trans rfl) : Pc1 0 5 = (P 0 5)); have q5 := b0_5 hB; omega) (by have q0 := (((hFc1.1 4 rfl).trans rfl) : Pc1 0 4 = (P 0 4)); have q1 := b0_4 hB; omega) (by have q0 := b0_8 hBc1; omega) (by first | (left; have q8 := (rfl : Pc1 0 8 = (Pc1 0 8)); omega) | (have q2 := (((congrFun (hFc1.2 2 rfl rfl) _).trans rfl) : Pc1 2 (P 0 37) = (P 2 (P 0 37))); have q3 := (((congrFun (hFc1.2 3 rfl rfl) _).trans rfl) : Pc1 3 (4 * P 0 37 + 0) = (P 3 (4 * P 0 37 + 0))); omega)))
set_option maxRecDepth 100000 in
set_option maxHeartbeats 4000000 in
theorem m_X12_ruleIs (G : GT) (P : PH) (hB : BdM P) (p_lx : (P 0 3 = 0 ∨ P 0 4 + 1 ≤ P 0 5) ∧ P 0 4 ≤ P 0 5) (Q : Option PV → PH → Prop) (hQ : ∀ (P1 : PH) (_ : BdM P1) (_ : FrM ([3, 4, 5, 6, 7, 8, 9, 12], [15]) P P1) (_ : (P1 0 3 = 0 ∨ P1 0 4 + 1 ≤ P1 0 5) ∧ P1 0 4 ≤ P1 0 5) (_ : P 0 4 ≤ P1 0 4) (_ : P 0 8 ≤ 0 ∨ 0 < P1 0 8), Q none P1) : Ct WSM G 4 iX12_ruleIs [vR 0] P Q := by
  refine Ct.of (by decide) (l0 := [(0, vR 0)]) rfl (Nat.le_of_ble_eq_true rfl) ?_
  refine g_aload_n dX12_ruleIs_0 rfl ?_
  refine g_iconst dX12_ruleIs_1 ?_
  refine g_vI (av := [vI 0]) (o := 0) (st := []) (m_X12_isCounted G P 0 (by decide) hB (by have q0 := b0_3 hB; have q1 := b0_4 hB; have q2 := b0_5 hB; omega) _ (fun rc1 hc1 Pc1 hBc1 hFc1 gc1_lx gc1_mo gc1_pe gc1_c gc1_ad => ⟨rc1, rfl, ?_⟩)) cf_X12_isCounted t_1714 rfl (by decide) rfl rfl rfl (Nat.le_of_ble_eq_true rfl) (by decide) rfl dX12_ruleIs_2
  refine g_if_ne (tgt := 9) dX12_ruleIs_5 (by decide) ⟨by omega, by omega⟩ (fun k2 => ?_) (fun k2 => ?_)
  · refine g_aload_n dX12_ruleIs_9 rfl ?_
    refine m_g27 rfl dX12_ruleIs_10 ?_
    refine g_aload_n dX12_ruleIs_13 rfl ?_
    refine m_g37 (z := (P 0 37)) rfl dX12_ruleIs_14 ((hFc1.1 37 rfl).trans rfl) ?_
    refine g_aload_n dX12_ruleIs_17 rfl ?_
    refine g_iconst dX12_ruleIs_18 ?_
    refine g_iconst dX12_ruleIs_19 ?_
    refine g_vI (av := [vI 0, vI 3]) (o := 0) (st := [vI (P 0 37), vR 15]) (m_X12_number G Pc1 0 3 (by decide) (by decide) hBc1 (by have q0 := b0_3 hBc1; have q1 := b0_4 hBc1; have q2 := b0_5 hBc1; omega) _ (fun rc3 hc3 Pc3 hBc3 hFc3 gc3_lx gc3_mo gc3_pe gc3_ad => ⟨rc3, rfl, ?_⟩)) cf_X12_number t_1796 rfl (by decide) rfl rfl rfl (Nat.le_of_ble_eq_true rfl) (by decide) rfl dX12_ruleIs_20
    refine m_s15 dX12_ruleIs_23 ⟨by have q0 := b0_37 hB; omega, by have q0 := b0_37 hB; omega⟩ ?_
    have hB4 := ba_15 (z := rc3) (k := (P 0 37)) hBc3 ⟨by omega, by omega⟩
    exact g_retV dX12_ruleIs_24 rfl (hQ _ hB4 (FrM.a (FrM.c (FrM.c FrM.rf hFc1 rfl) hFc3 rfl) rfl rfl) (by have q0 := (((up_o (by decide)).trans rfl) : (up Pc3 15 (P 0 37) rc3) 0 3 = (Pc3 0 3)); have q1 := b0_3 hBc3; have q2 := (((up_o (by decide)).trans rfl) : (up Pc3 15 (P 0 37) rc3) 0 4 = (Pc3 0 4)); have q3 := b0_4 hBc3; have q4 := (((up_o (by decide)).trans rfl) : (up Pc3 15 (P 0 37) rc3) 0 5 = (Pc3 0 5)); have q5 := b0_5 hBc3; omega) (by have q0 := (((up_o (by decide)).trans rfl) : (up Pc3 15 (P 0 37) rc3) 0 4 = (Pc3 0 4)); have q1 := b0_4 hBc3; omega) (by have q0 := (((up_o (by decide)).trans rfl) : (up Pc3 15 (P 0 37) rc3) 0 8 = (Pc3 0 8)); have q1 := b0_8 hBc3; omega))
  · exact g_retV dX12_ruleIs_8 rfl (hQ _ hBc1 (FrM.c FrM.rf hFc1 rfl) (by have q0 := b0_3 hBc1; have q1 := b0_4 hBc1; have q2 := b0_5 hBc1; omega) (by have q0 := b0_4 hBc1; omega) (by have q0 := b0_8 hBc1; omega))
set_option maxRecDepth 100000 in
set_option maxHeartbeats 4000000 in
theorem m_X12_budgetIs (G : GT) (P : PH) (hB : BdM P) (p_lx : (P 0 3 = 0 ∨ P 0 4 + 1 ≤ P 0 5) ∧ P 0 4 ≤ P 0 5) (Q : Option PV → PH → Prop) (hQ : ∀ (P1 : PH) (_ : BdM P1) (_ : FrM ([3, 4, 5, 6, 7, 8, 9, 12], [16]) P P1) (_ : (P1 0 3 = 0 ∨ P1 0 4 + 1 ≤ P1 0 5) ∧ P1 0 4 ≤ P1 0 5) (_ : P 0 4 ≤ P1 0 4) (_ : P 0 8 ≤ 0 ∨ 0 < P1 0 8) (_ : 0 < P1 0 8 ∨ (1 ≤ P1 16 (P 0 37) ∧ P1 16 (P 0 37) ≤ 999)) (_ : ∀ j : Int, j ≠ P 0 37 → P1 16 j = P 16 j), Q none P1) : Ct WSM G 4 iX12_budgetIs [vR 0] P Q := by
  refine Ct.of (by decide) (l0 := [(0, vR 0)]) rfl (Nat.le_of_ble_eq_true rfl) ?_
  refine g_aload_n dX12_budgetIs_0 rfl ?_
  refine g_iconst dX12_budgetIs_1 ?_
  refine g_vI (av := [vI 0]) (o := 0) (st := []) (m_X12_isCounted G P 0 (by decide) hB (by have q0 := b0_3 hB; have q1 := b0_4 hB; have q2 := b0_5 hB; omega) _ (fun rc1 hc1 Pc1 hBc1 hFc1 gc1_lx gc1_mo gc1_pe gc1_c gc1_ad => ⟨rc1, rfl, ?_⟩)) cf_X12_isCounted t_1714 rfl (by decide) rfl rfl rfl (Nat.le_of_ble_eq_true rfl) (by decide) rfl dX12_budgetIs_2
  refine g_if_ne (tgt := 9) dX12_budgetIs_5 (by decide) ⟨by omega, by omega⟩ (fun k2 => ?_) (fun k2 => ?_)
  · refine g_aload_n dX12_budgetIs_9 rfl ?_
    refine m_g28 rfl dX12_budgetIs_10 ?_
    refine g_aload_n dX12_budgetIs_13 rfl ?_
    refine m_g37 (z := (P 0 37)) rfl dX12_budgetIs_14 ((hFc1.1 37 rfl).trans rfl) ?_
    refine g_aload_n dX12_budgetIs_17 rfl ?_
    refine g_iconst dX12_budgetIs_18 ?_
    refine g_sipush dX12_budgetIs_19 (by decide) ?_
    refine g_vI (av := [vI 1, vI 999]) (o := 0) (st := [vI (P 0 37), vR 16]) (m_X12_number G Pc1 1 999 (by decide) (by decide) hBc1 (by have q0 := b0_3 hBc1; have q1 := b0_4 hBc1; have q2 := b0_5 hBc1; omega) _ (fun rc3 hc3 Pc3 hBc3 hFc3 gc3_lx gc3_mo gc3_pe gc3_ad => ⟨rc3, rfl, ?_⟩)) cf_X12_number t_1796 rfl (by decide) rfl rfl rfl (Nat.le_of_ble_eq_true rfl) (by decide) rfl dX12_budgetIs_22
    refine m_s16 dX12_budgetIs_25 ⟨by have q0 := b0_37 hB; omega, by have q0 := b0_37 hB; omega⟩ ?_
    have hB4 := ba_16 (z := rc3) (k := (P 0 37)) hBc3 ⟨by omega, by omega⟩
    exact g_retV dX12_budgetIs_26 rfl (hQ _ hB4 (FrM.a (FrM.c (FrM.c FrM.rf hFc1 rfl) hFc3 rfl) rfl rfl) (by have q0 := (((up_o (by decide)).trans rfl) : (up Pc3 16 (P 0 37) rc3) 0 3 = (Pc3 0 3)); have q1 := b0_3 hBc3; have q2 := (((up_o (by decide)).trans rfl) : (up Pc3 16 (P 0 37) rc3) 0 4 = (Pc3 0 4)); have q3 := b0_4 hBc3; have q4 := (((up_o (by decide)).trans rfl) : (up Pc3 16 (P 0 37) rc3) 0 5 = (Pc3 0 5)); have q5 := b0_5 hBc3; omega) (by have q0 := (((up_o (by decide)).trans rfl) : (up Pc3 16 (P 0 37) rc3) 0 4 = (Pc3 0 4)); have q1 := b0_4 hBc3; omega) (by have q0 := (((up_o (by decide)).trans rfl) : (up Pc3 16 (P 0 37) rc3) 0 8 = (Pc3 0 8)); have q1 := b0_8 hBc3; omega) (by have q := (up_same : (up Pc3 16 (P 0 37) rc3) 16 (P 0 37) = rc3); have q8 := (((up_o (by decide)).trans rfl) : (up Pc3 16 (P 0 37) rc3) 0 8 = (Pc3 0 8)); omega) (fun j hj => ((up_k hj).trans ((congrFun (hFc3.2 16 rfl rfl) _).trans ((congrFun (hFc1.2 16 rfl rfl) _).trans rfl)))))
  · exact g_retV dX12_budgetIs_8 rfl (hQ _ hBc1 (FrM.c FrM.rf hFc1 rfl) (by have q0 := b0_3 hBc1; have q1 := b0_4 hBc1; have q2 := b0_5 hBc1; omega) (by have q0 := b0_4 hBc1; omega) (by have q0 := b0_8 hBc1; omega) (by have q0 := b0_8 hBc1; have q1 := (((congrFun (hFc1.2 16 rfl rfl) _).trans rfl) : Pc1 16 (Pc1 0 37) = (P 16 (Pc1 0 37))); have q2 := bl_16 (k := (Pc1 0 37)) hB; omega) (fun j hj => ((congrFun (hFc1.2 16 rfl rfl) _).trans rfl)))
set_option maxRecDepth 100000 in
set_option maxHeartbeats 4000000 in
theorem m_X12_finishes (G : GT) (P : PH) (a1 : Int) (h_a1 : 0 ≤ a1 ∧ a1 ≤ 2147483647) (hB : BdM P) (p_lx : (P 0 3 = 0 ∨ P 0 4 + 1 ≤ P 0 5) ∧ P 0 4 ≤ P 0 5) (Q : Option PV → PH → Prop) (hQ : ∀ (P1 : PH) (_ : BdM P1) (_ : FrM ([3, 4, 5, 6, 7, 8, 9, 12], []) P P1) (_ : (P1 0 3 = 0 ∨ P1 0 4 + 1 ≤ P1 0 5) ∧ P1 0 4 ≤ P1 0 5) (_ : P 0 4 ≤ P1 0 4) (_ : P 0 8 ≤ 0 ∨ 0 < P1 0 8) (_ : 0 < P1 0 8 ∨ P 0 4 + 1 ≤ P1 0 4), Q none P1) : Ct WSM G 4 iX12_finishes [vR 0, vI a1] P Q := by
  refine Ct.of (by decide) (l0 := [(0, vR 0), (1, vI a1)]) rfl (Nat.le_of_ble_eq_true rfl) ?_
  refine g_aload_n dX12_finishes_0 rfl ?_
  refine g_vV (av := []) (o := 0) (st := []) (m_X12_lex G P  hB  _ (fun Pc1 hBc1 hFc1 gc1_pe => ⟨rfl, ?_⟩)) cf_X12_lex t_1697 rfl (by decide) rfl rfl rfl (Nat.le_of_ble_eq_true rfl) (by decide) rfl dX12_finishes_1
  refine g_aload_n dX12_finishes_4 rfl ?_
  refine m_g8 (z := (Pc1 0 8)) rfl dX12_finishes_5 rfl ?_
  have f2 := b0_8 hBc1
  refine g_if_le (tgt := 12) dX12_finishes_8 (by decide) ⟨by have q0 := b0_8 hBc1; omega, by have q0 := b0_8 hBc1; omega⟩ (fun k3 => ?_) (fun k3 => ?_)
  · refine g_aload_n dX12_finishes_12 rfl ?_
    refine m_g5 (z := (P 0 5)) rfl dX12_finishes_13 ((hFc1.1 5 rfl).trans rfl) ?_
    refine g_istore_n (l1 := [(2, vI (P 0 5)), (0, vR 0), (1, vI a1)]) dX12_finishes_16 (by decide) rfl ?_
    have L17_3 : ∀ (n17_3 : Nat) (x17_2_3 : Int) (h_x17_2_3 : 0 ≤ x17_2_3 ∧ x17_2_3 ≤ 1600) (hm17_3 : ((1601 - x17_2_3) : Int).toNat < n17_3), Go WSM G 4 iX12_finishes 17 [(0, vR 0), (1, vI a1), (2, vI x17_2_3)] [] Pc1 Q := by
      intro n17_3
      induction n17_3 with
      | zero => intro x17_2_3 h_x17_2_3 hm17_3; exact absurd hm17_3 (Nat.not_lt_zero _)
      | succ n17_3 ih17_3 =>
      intro x17_2_3 h_x17_2_3 hm17_3
      refine g_iload_n dX12_finishes_17 rfl ?_
      refine g_aload_n dX12_finishes_18 rfl ?_
      refine m_g2 (z := (P 0 2)) rfl dX12_finishes_19 ((hFc1.1 2 rfl).trans rfl) ?_
      have f146 := b0_2 hB
      refine g_icmp_ge (tgt := 53) dX12_finishes_22 (by decide) ⟨by omega, by omega⟩ ⟨by have q0 := b0_2 hB; omega, by have q0 := b0_2 hB; omega⟩ (fun k147 => ?_) (fun k147 => ?_)
      · refine g_aload_n dX12_finishes_53 rfl ?_
        refine g_bipush dX12_finishes_54 (by decide) ?_
        refine g_vI (av := [vI 59]) (o := 0) (st := []) (m_X12_isSign G Pc1 59 (by decide) hBc1  _ (fun rc148 hc148 gc148_s => ⟨rc148, rfl, ?_⟩)) cf_X12_isSign t_1772 rfl (by decide) rfl rfl rfl (Nat.le_of_ble_eq_true rfl) (by decide) rfl dX12_finishes_56
        have z149 : Pc1 0 3 = (P 0 3) := ((hFc1.1 3 rfl).trans rfl)
        have z150 : Pc1 0 6 = (P 0 6) := ((hFc1.1 6 rfl).trans rfl)
        refine g_if_eq (tgt := 83) dX12_finishes_59 (by decide) ⟨by omega, by omega⟩ (fun k151 => ?_) (fun k151 => ?_)
        · refine g_aload_n dX12_finishes_83 rfl ?_
          refine g_bipush dX12_finishes_84 (by decide) ?_
          refine g_vV (av := [vI 59]) (o := 0) (st := []) (m_X12_must G Pc1 59 (by decide) hBc1 (by have q0 := (((hFc1.1 3 rfl).trans rfl) : Pc1 0 3 = (P 0 3)); have q1 := b0_3 hB; have q2 := (((hFc1.1 4 rfl).trans rfl) : Pc1 0 4 = (P 0 4)); have q3 := b0_4 hB; have q4 := (((hFc1.1 5 rfl).trans rfl) : Pc1 0 5 = (P 0 5)); have q5 := b0_5 hB; omega) _ (fun Pc152 hBc152 hFc152 gc152_lx gc152_mo gc152_pe gc152_ad => ⟨rfl, ?_⟩)) cf_X12_must t_1768 rfl (by decide) rfl rfl rfl (Nat.le_of_ble_eq_true rfl) (by decide) rfl dX12_finishes_86
          have z153 : Pc1 0 4 = (P 0 4) := ((hFc1.1 4 rfl).trans rfl)
          exact g_retV dX12_finishes_89 rfl (hQ _ hBc152 (FrM.c (FrM.c FrM.rf hFc1 rfl) hFc152 rfl) (by have q0 := b0_3 hBc152; have q1 := b0_4 hBc152; have q2 := b0_5 hBc152; omega) (by have q0 := b0_4 hBc152; omega) (by have q0 := b0_8 hBc152; omega) (by have q0 := b0_8 hBc152; have q1 := b0_4 hBc152; omega))
        · refine g_iload_n dX12_finishes_62 rfl ?_
          refine g_bipush dX12_finishes_63 (by decide) ?_
          refine g_icmp_ne (tgt := 83) dX12_finishes_65 (by decide) ⟨by omega, by omega⟩ (by decide) (fun k154 => ?_) (fun k154 => ?_)
          · refine g_aload_n dX12_finishes_83 rfl ?_
            refine g_bipush dX12_finishes_84 (by decide) ?_
            refine g_vV (av := [vI 59]) (o := 0) (st := []) (m_X12_must G Pc1 59 (by decide) hBc1 (by have q0 := (((hFc1.1 3 rfl).trans rfl) : Pc1 0 3 = (P 0 3)); have q1 := b0_3 hB; have q2 := (((hFc1.1 4 rfl).trans rfl) : Pc1 0 4 = (P 0 4)); have q3 := b0_4 hB; have q4 := (((hFc1.1 5 rfl).trans rfl) : Pc1 0 5 = (P 0 5)); have q5 := b0_5 hB; omega) _ (fun Pc155 hBc155 hFc155 gc155_lx gc155_mo gc155_pe gc155_ad => ⟨rfl, ?_⟩)) cf_X12_must t_1768 rfl (by decide) rfl rfl rfl (Nat.le_of_ble_eq_true rfl) (by decide) rfl dX12_finishes_86
            have z156 : Pc1 0 4 = (P 0 4) := ((hFc1.1 4 rfl).trans rfl)
            exact g_retV dX12_finishes_89 rfl (hQ _ hBc155 (FrM.c (FrM.c FrM.rf hFc1 rfl) hFc155 rfl) (by have q0 := b0_3 hBc155; have q1 := b0_4 hBc155; have q2 := b0_5 hBc155; omega) (by have q0 := b0_4 hBc155; omega) (by have q0 := b0_8 hBc155; omega) (by have q0 := b0_8 hBc155; have q1 := b0_4 hBc155; omega))
          · refine g_iload_n dX12_finishes_68 rfl ?_
            refine g_aload_n dX12_finishes_69 rfl ?_
            refine m_g2 (z := (P 0 2)) rfl dX12_finishes_70 ((hFc1.1 2 rfl).trans rfl) ?_
            refine g_icmp_ge (tgt := 83) dX12_finishes_73 (by decide) ⟨by omega, by omega⟩ ⟨by have q0 := b0_2 hB; omega, by have q0 := b0_2 hB; omega⟩ (fun k157 => ?_) (fun k157 => ?_)
            · refine g_aload_n dX12_finishes_83 rfl ?_
              refine g_bipush dX12_finishes_84 (by decide) ?_
              refine g_vV (av := [vI 59]) (o := 0) (st := []) (m_X12_must G Pc1 59 (by decide) hBc1 (by have q0 := (((hFc1.1 3 rfl).trans rfl) : Pc1 0 3 = (P 0 3)); have q1 := b0_3 hB; have q2 := (((hFc1.1 4 rfl).trans rfl) : Pc1 0 4 = (P 0 4)); have q3 := b0_4 hB; have q4 := (((hFc1.1 5 rfl).trans rfl) : Pc1 0 5 = (P 0 5)); have q5 := b0_5 hB; omega) _ (fun Pc158 hBc158 hFc158 gc158_lx gc158_mo gc158_pe gc158_ad => ⟨rfl, ?_⟩)) cf_X12_must t_1768 rfl (by decide) rfl rfl rfl (Nat.le_of_ble_eq_true rfl) (by decide) rfl dX12_finishes_86
              have z159 : Pc1 0 4 = (P 0 4) := ((hFc1.1 4 rfl).trans rfl)
              exact g_retV dX12_finishes_89 rfl (hQ _ hBc158 (FrM.c (FrM.c FrM.rf hFc1 rfl) hFc158 rfl) (by have q0 := b0_3 hBc158; have q1 := b0_4 hBc158; have q2 := b0_5 hBc158; omega) (by have q0 := b0_4 hBc158; omega) (by have q0 := b0_8 hBc158; omega) (by have q0 := b0_8 hBc158; have q1 := b0_4 hBc158; omega))
            · refine g_aload_n dX12_finishes_76 rfl ?_
              refine g_bipush dX12_finishes_77 (by decide) ?_
              refine g_iload_n dX12_finishes_79 rfl ?_
              refine g_vV (av := [vI 6, vI x17_2_3]) (o := 0) (st := []) (m_X12_blame G Pc1 6 x17_2_3 (by decide) ⟨by omega, by omega⟩ hBc1  _ (fun Pc160 hBc160 hFc160 gc160_f gc160_pe => ⟨rfl, ?_⟩)) cf_X12_blame t_1701 rfl (by decide) rfl rfl rfl (Nat.le_of_ble_eq_true rfl) (by decide) rfl dX12_finishes_80
              refine g_aload_n dX12_finishes_83 rfl ?_
              refine g_bipush dX12_finishes_84 (by decide) ?_
              refine g_vV (av := [vI 59]) (o := 0) (st := []) (m_X12_must G Pc160 59 (by decide) hBc160 (by have q0 := (((hFc160.1 3 rfl).trans ((hFc1.1 3 rfl).trans rfl)) : Pc160 0 3 = (P 0 3)); have q1 := b0_3 hB; have q2 := (((hFc160.1 4 rfl).trans ((hFc1.1 4 rfl).trans rfl)) : Pc160 0 4 = (P 0 4)); have q3 := b0_4 hB; have q4 := (((hFc160.1 5 rfl).trans ((hFc1.1 5 rfl).trans rfl)) : Pc160 0 5 = (P 0 5)); have q5 := b0_5 hB; omega) _ (fun Pc161 hBc161 hFc161 gc161_lx gc161_mo gc161_pe gc161_ad => ⟨rfl, ?_⟩)) cf_X12_must t_1768 rfl (by decide) rfl rfl rfl (Nat.le_of_ble_eq_true rfl) (by decide) rfl dX12_finishes_86
              have z162 : Pc160 0 4 = (P 0 4) := ((hFc160.1 4 rfl).trans ((hFc1.1 4 rfl).trans rfl))
              exact g_retV dX12_finishes_89 rfl (hQ _ hBc161 (FrM.c (FrM.c (FrM.c FrM.rf hFc1 rfl) hFc160 rfl) hFc161 rfl) (by have q0 := b0_3 hBc161; have q1 := b0_4 hBc161; have q2 := b0_5 hBc161; omega) (by have q0 := b0_4 hBc161; omega) (by have q0 := b0_8 hBc161; omega) (by have q0 := b0_8 hBc161; have q1 := b0_4 hBc161; omega))
      · refine g_aload_n dX12_finishes_25 rfl ?_
        refine m_g0 rfl dX12_finishes_26 ?_
        refine g_iload_n dX12_finishes_29 rfl ?_
        refine m_l1 (z := (P 1 x17_2_3)) dX12_finishes_30 ⟨by omega, by omega⟩ ((congrFun (hFc1.2 1 rfl rfl) _).trans rfl) ?_
        refine g_bipush dX12_finishes_31 (by decide) ?_
        have f163 := bl_1 (k := x17_2_3) hB
        refine g_icmp_eq (tgt := 47) dX12_finishes_33 (by decide) ⟨by have q0 := bl_1 (k := x17_2_3) hB; omega, by have q0 := bl_1 (k := x17_2_3) hB; omega⟩ (by decide) (fun k164 => ?_) (fun k164 => ?_)
        · refine g_iinc (l1 := [(2, vI (x17_2_3 + 1)), (0, vR 0), (1, vI a1)]) dX12_finishes_47 rfl (by decide) rfl ?_
          refine g_goto (tgt := 17) dX12_finishes_50 (by decide) ?_
          refine g_forget (l1 := [(0, vR 0), (1, vI a1), (2, vI (x17_2_3 + 1))]) (by intro q hq; simp only [List.mem_cons, List.not_mem_nil, or_false] at hq ⊢; rcases hq with rfl | rfl | rfl <;> simp) ?_
          exact ih17_3 (x17_2_3 + 1) ⟨by omega, by omega⟩ (by omega)
        · refine g_aload_n dX12_finishes_36 rfl ?_
          refine m_g0 rfl dX12_finishes_37 ?_
          refine g_iload_n dX12_finishes_40 rfl ?_
          refine m_l1 (z := (P 1 x17_2_3)) dX12_finishes_41 ⟨by omega, by omega⟩ ((congrFun (hFc1.2 1 rfl rfl) _).trans rfl) ?_
          refine g_bipush dX12_finishes_42 (by decide) ?_
          refine g_icmp_ne (tgt := 53) dX12_finishes_44 (by decide) ⟨by have q0 := bl_1 (k := x17_2_3) hB; omega, by have q0 := bl_1 (k := x17_2_3) hB; omega⟩ (by decide) (fun k165 => ?_) (fun k165 => ?_)
          · refine g_aload_n dX12_finishes_53 rfl ?_
            refine g_bipush dX12_finishes_54 (by decide) ?_
            refine g_vI (av := [vI 59]) (o := 0) (st := []) (m_X12_isSign G Pc1 59 (by decide) hBc1  _ (fun rc166 hc166 gc166_s => ⟨rc166, rfl, ?_⟩)) cf_X12_isSign t_1772 rfl (by decide) rfl rfl rfl (Nat.le_of_ble_eq_true rfl) (by decide) rfl dX12_finishes_56
            have z167 : Pc1 0 3 = (P 0 3) := ((hFc1.1 3 rfl).trans rfl)
            have z168 : Pc1 0 6 = (P 0 6) := ((hFc1.1 6 rfl).trans rfl)
            refine g_if_eq (tgt := 83) dX12_finishes_59 (by decide) ⟨by omega, by omega⟩ (fun k169 => ?_) (fun k169 => ?_)
            · refine g_aload_n dX12_finishes_83 rfl ?_
              refine g_bipush dX12_finishes_84 (by decide) ?_
              refine g_vV (av := [vI 59]) (o := 0) (st := []) (m_X12_must G Pc1 59 (by decide) hBc1 (by have q0 := (((hFc1.1 3 rfl).trans rfl) : Pc1 0 3 = (P 0 3)); have q1 := b0_3 hB; have q2 := (((hFc1.1 4 rfl).trans rfl) : Pc1 0 4 = (P 0 4)); have q3 := b0_4 hB; have q4 := (((hFc1.1 5 rfl).trans rfl) : Pc1 0 5 = (P 0 5)); have q5 := b0_5 hB; omega) _ (fun Pc170 hBc170 hFc170 gc170_lx gc170_mo gc170_pe gc170_ad => ⟨rfl, ?_⟩)) cf_X12_must t_1768 rfl (by decide) rfl rfl rfl (Nat.le_of_ble_eq_true rfl) (by decide) rfl dX12_finishes_86
              have z171 : Pc1 0 4 = (P 0 4) := ((hFc1.1 4 rfl).trans rfl)
              exact g_retV dX12_finishes_89 rfl (hQ _ hBc170 (FrM.c (FrM.c FrM.rf hFc1 rfl) hFc170 rfl) (by have q0 := b0_3 hBc170; have q1 := b0_4 hBc170; have q2 := b0_5 hBc170; omega) (by have q0 := b0_4 hBc170; omega) (by have q0 := b0_8 hBc170; omega) (by have q0 := b0_8 hBc170; have q1 := b0_4 hBc170; omega))
            · refine g_iload_n dX12_finishes_62 rfl ?_
              refine g_bipush dX12_finishes_63 (by decide) ?_
              refine g_icmp_ne (tgt := 83) dX12_finishes_65 (by decide) ⟨by omega, by omega⟩ (by decide) (fun k172 => ?_) (fun k172 => ?_)
              · refine g_aload_n dX12_finishes_83 rfl ?_
                refine g_bipush dX12_finishes_84 (by decide) ?_
                refine g_vV (av := [vI 59]) (o := 0) (st := []) (m_X12_must G Pc1 59 (by decide) hBc1 (by have q0 := (((hFc1.1 3 rfl).trans rfl) : Pc1 0 3 = (P 0 3)); have q1 := b0_3 hB; have q2 := (((hFc1.1 4 rfl).trans rfl) : Pc1 0 4 = (P 0 4)); have q3 := b0_4 hB; have q4 := (((hFc1.1 5 rfl).trans rfl) : Pc1 0 5 = (P 0 5)); have q5 := b0_5 hB; omega) _ (fun Pc173 hBc173 hFc173 gc173_lx gc173_mo gc173_pe gc173_ad => ⟨rfl, ?_⟩)) cf_X12_must t_1768 rfl (by decide) rfl rfl rfl (Nat.le_of_ble_eq_true rfl) (by decide) rfl dX12_finishes_86
                have z174 : Pc1 0 4 = (P 0 4) := ((hFc1.1 4 rfl).trans rfl)
                exact g_retV dX12_finishes_89 rfl (hQ _ hBc173 (FrM.c (FrM.c FrM.rf hFc1 rfl) hFc173 rfl) (by have q0 := b0_3 hBc173; have q1 := b0_4 hBc173; have q2 := b0_5 hBc173; omega) (by have q0 := b0_4 hBc173; omega) (by have q0 := b0_8 hBc173; omega) (by have q0 := b0_8 hBc173; have q1 := b0_4 hBc173; omega))
              · refine g_iload_n dX12_finishes_68 rfl ?_
                refine g_aload_n dX12_finishes_69 rfl ?_
                refine m_g2 (z := (P 0 2)) rfl dX12_finishes_70 ((hFc1.1 2 rfl).trans rfl) ?_
                refine g_icmp_ge (tgt := 83) dX12_finishes_73 (by decide) ⟨by omega, by omega⟩ ⟨by have q0 := b0_2 hB; omega, by have q0 := b0_2 hB; omega⟩ (fun k175 => ?_) (fun k175 => ?_)
                · refine g_aload_n dX12_finishes_83 rfl ?_
                  refine g_bipush dX12_finishes_84 (by decide) ?_
                  refine g_vV (av := [vI 59]) (o := 0) (st := []) (m_X12_must G Pc1 59 (by decide) hBc1 (by have q0 := (((hFc1.1 3 rfl).trans rfl) : Pc1 0 3 = (P 0 3)); have q1 := b0_3 hB; have q2 := (((hFc1.1 4 rfl).trans rfl) : Pc1 0 4 = (P 0 4)); have q3 := b0_4 hB; have q4 := (((hFc1.1 5 rfl).trans rfl) : Pc1 0 5 = (P 0 5)); have q5 := b0_5 hB; omega) _ (fun Pc176 hBc176 hFc176 gc176_lx gc176_mo gc176_pe gc176_ad => ⟨rfl, ?_⟩)) cf_X12_must t_1768 rfl (by decide) rfl rfl rfl (Nat.le_of_ble_eq_true rfl) (by decide) rfl dX12_finishes_86
                  have z177 : Pc1 0 4 = (P 0 4) := ((hFc1.1 4 rfl).trans rfl)
                  exact g_retV dX12_finishes_89 rfl (hQ _ hBc176 (FrM.c (FrM.c FrM.rf hFc1 rfl) hFc176 rfl) (by have q0 := b0_3 hBc176; have q1 := b0_4 hBc176; have q2 := b0_5 hBc176; omega) (by have q0 := b0_4 hBc176; omega) (by have q0 := b0_8 hBc176; omega) (by have q0 := b0_8 hBc176; have q1 := b0_4 hBc176; omega))
                · refine g_aload_n dX12_finishes_76 rfl ?_
                  refine g_bipush dX12_finishes_77 (by decide) ?_
                  refine g_iload_n dX12_finishes_79 rfl ?_
                  refine g_vV (av := [vI 6, vI x17_2_3]) (o := 0) (st := []) (m_X12_blame G Pc1 6 x17_2_3 (by decide) ⟨by omega, by omega⟩ hBc1  _ (fun Pc178 hBc178 hFc178 gc178_f gc178_pe => ⟨rfl, ?_⟩)) cf_X12_blame t_1701 rfl (by decide) rfl rfl rfl (Nat.le_of_ble_eq_true rfl) (by decide) rfl dX12_finishes_80
                  refine g_aload_n dX12_finishes_83 rfl ?_
                  refine g_bipush dX12_finishes_84 (by decide) ?_
                  refine g_vV (av := [vI 59]) (o := 0) (st := []) (m_X12_must G Pc178 59 (by decide) hBc178 (by have q0 := (((hFc178.1 3 rfl).trans ((hFc1.1 3 rfl).trans rfl)) : Pc178 0 3 = (P 0 3)); have q1 := b0_3 hB; have q2 := (((hFc178.1 4 rfl).trans ((hFc1.1 4 rfl).trans rfl)) : Pc178 0 4 = (P 0 4)); have q3 := b0_4 hB; have q4 := (((hFc178.1 5 rfl).trans ((hFc1.1 5 rfl).trans rfl)) : Pc178 0 5 = (P 0 5)); have q5 := b0_5 hB; omega) _ (fun Pc179 hBc179 hFc179 gc179_lx gc179_mo gc179_pe gc179_ad => ⟨rfl, ?_⟩)) cf_X12_must t_1768 rfl (by decide) rfl rfl rfl (Nat.le_of_ble_eq_true rfl) (by decide) rfl dX12_finishes_86
                  have z180 : Pc178 0 4 = (P 0 4) := ((hFc178.1 4 rfl).trans ((hFc1.1 4 rfl).trans rfl))
                  exact g_retV dX12_finishes_89 rfl (hQ _ hBc179 (FrM.c (FrM.c (FrM.c FrM.rf hFc1 rfl) hFc178 rfl) hFc179 rfl) (by have q0 := b0_3 hBc179; have q1 := b0_4 hBc179; have q2 := b0_5 hBc179; omega) (by have q0 := b0_4 hBc179; omega) (by have q0 := b0_8 hBc179; omega) (by have q0 := b0_8 hBc179; have q1 := b0_4 hBc179; omega))
          · refine g_iinc (l1 := [(2, vI (x17_2_3 + 1)), (0, vR 0), (1, vI a1)]) dX12_finishes_47 rfl (by decide) rfl ?_
            refine g_goto (tgt := 17) dX12_finishes_50 (by decide) ?_
            refine g_forget (l1 := [(0, vR 0), (1, vI a1), (2, vI (x17_2_3 + 1))]) (by intro q hq; simp only [List.mem_cons, List.not_mem_nil, or_false] at hq ⊢; rcases hq with rfl | rfl | rfl <;> simp) ?_
            exact ih17_3 (x17_2_3 + 1) ⟨by omega, by omega⟩ (by omega)
    refine g_forget (l1 := [(0, vR 0), (1, vI a1), (2, vI (P 0 5))]) (by intro q hq; simp only [List.mem_cons, List.not_mem_nil, or_false] at hq ⊢; rcases hq with rfl | rfl | rfl <;> simp) ?_
    exact L17_3 _ (P 0 5) ⟨by have q0 := b0_5 hB; omega, by have q0 := b0_5 hB; omega⟩ (Nat.lt_succ_self _)
  · exact g_retV dX12_finishes_11 rfl (hQ _ hBc1 (FrM.c FrM.rf hFc1 rfl) (by have q0 := (((hFc1.1 3 rfl).trans rfl) : Pc1 0 3 = (P 0 3)); have q1 := b0_3 hB; have q2 := (((hFc1.1 4 rfl).trans rfl) : Pc1 0 4 = (P 0 4)); have q3 := b0_4 hB; have q4 := (((hFc1.1 5 rfl).trans rfl) : Pc1 0 5 = (P 0 5)); have q5 := b0_5 hB; omega) (by have q0 := (((hFc1.1 4 rfl).trans rfl) : Pc1 0 4 = (P 0 4)); have q1 := b0_4 hB; omega) (by have q0 := b0_8 hBc1; omega) (by have q0 := b0_8 hBc1; have q1 := (((hFc1.1 4 rfl).trans rfl) : Pc1 0 4 = (P 0 4)); have q2 := b0_4 hB; omega))
set_option maxRecDepth 100000 in
set_option maxHeartbeats 4000000 in
theorem m_X12_kindIs (G : GT) (P : PH) (hB : BdM P) (p_lx : (P 0 3 = 0 ∨ P 0 4 + 1 ≤ P 0 5) ∧ P 0 4 ≤ P 0 5) (v_KVP : KVP P) (v_KC : KC P) (v_CF : CF P) (v_ZT : ZT P) (v_ZO : ZO P) (v_ZC : ZC P) (v_ZI : ZI P) (Q : Option PV → PH → Prop) (hQ : ∀ (P1 : PH) (_ : BdM P1) (_ : FrM ([3, 4, 5, 6, 7, 8, 9, 12], [2, 3, 4, 22]) P P1) (_ : (P1 0 3 = 0 ∨ P1 0 4 + 1 ≤ P1 0 5) ∧ P1 0 4 ≤ P1 0 5) (_ : P 0 4 ≤ P1 0 4) (_ : P 0 8 ≤ 0 ∨ 0 < P1 0 8) (_ : 0 < P1 0 8 ∨ P 0 38 = 0) (_ : KVP P1) (_ : KC P1) (_ : CF P1) (_ : ZT P1) (_ : ZO P1) (_ : ZC P1), Q none P1) : Ct WSM G 4 iX12_kindIs [vR 0] P Q := by
  refine Ct.of (by decide) (l0 := [(0, vR 0)]) rfl (Nat.le_of_ble_eq_true rfl) ?_
  refine g_aload_n dX12_kindIs_0 rfl ?_
  refine m_g38 (z := (P 0 38)) rfl dX12_kindIs_1 rfl ?_
  have f1 := b0_38 hB
  have J16_38 : ∀ (H16_38 : PH) (hB16_38 : BdM H16_38) (hE16_38 : FrM ([8, 9], []) P H16_38) (i16_0_38 : 0 < H16_38 0 8 ∨ P 0 38 = 0) (i16_1_38 : P 0 8 ≤ 0 ∨ 0 < H16_38 0 8) (i16_2_38 : P 0 4 ≤ H16_38 0 4) (i16_3_38 : (H16_38 0 3 = 0 ∨ H16_38 0 4 + 1 ≤ H16_38 0 5) ∧ H16_38 0 4 ≤ H16_38 0 5), Go WSM G 4 iX12_kindIs 16 [(0, vR 0)] [] H16_38 Q := by
    intro H16_38 hB16_38 hE16_38 i16_0_38 i16_1_38 i16_2_38 i16_3_38
    refine g_aload_n dX12_kindIs_16 rfl ?_
    refine g_aload_n dX12_kindIs_17 rfl ?_
    refine m_g14 rfl dX12_kindIs_18 ?_
    refine g_aload_n dX12_kindIs_21 rfl ?_
    refine m_g37 (z := (P 0 37)) rfl dX12_kindIs_22 ((hE16_38.1 37 rfl).trans rfl) ?_
    refine m_l2 (z := (P 2 (P 0 37))) dX12_kindIs_25 ⟨by have q0 := b0_37 hB; omega, by have q0 := b0_37 hB; omega⟩ ((congrFun (hE16_38.2 2 rfl rfl) _).trans rfl) ?_
    refine g_iconst dX12_kindIs_26 ?_
    have f40 := bl_2 (k := (P 0 37)) hB
    refine g_icmp_ne (tgt := 34) dX12_kindIs_27 (by decide) ⟨by have q0 := bl_2 (k := (P 0 37)) hB; omega, by have q0 := bl_2 (k := (P 0 37)) hB; omega⟩ (by decide) (fun k41 => ?_) (fun k41 => ?_)
    · refine g_iconst dX12_kindIs_34 ?_
      refine g_vI (av := [vI 0]) (o := 0) (st := []) (m_X12_isCounted G H16_38 0 (by decide) hB16_38 (by have q0 := (((hE16_38.1 3 rfl).trans rfl) : H16_38 0 3 = (P 0 3)); have q1 := b0_3 hB; have q2 := (((hE16_38.1 4 rfl).trans rfl) : H16_38 0 4 = (P 0 4)); have q3 := b0_4 hB; have q4 := (((hE16_38.1 5 rfl).trans rfl) : H16_38 0 5 = (P 0 5)); have q5 := b0_5 hB; omega) _ (fun rc42 hc42 Pc42 hBc42 hFc42 gc42_lx gc42_mo gc42_pe gc42_c gc42_ad => ⟨rc42, rfl, ?_⟩)) cf_X12_isCounted t_1714 rfl (by decide) rfl rfl rfl (Nat.le_of_ble_eq_true rfl) (by decide) rfl dX12_kindIs_35
      have z43 : H16_38 0 4 = (P 0 4) := ((hE16_38.1 4 rfl).trans rfl)
      have z44 : H16_38 0 3 = (P 0 3) := ((hE16_38.1 3 rfl).trans rfl)
      refine g_if_ne (tgt := 42) dX12_kindIs_38 (by decide) ⟨by omega, by omega⟩ (fun k45 => ?_) (fun k45 => ?_)
      · refine g_aload_n dX12_kindIs_42 rfl ?_
        refine g_vL (av := []) (o := 0) (st := []) (m_X12_fresh G Pc42  hBc42 (by have q0 := b0_3 hBc42; have q1 := b0_4 hBc42; have q2 := b0_5 hBc42; omega) _ (fun rc46 hc46 Pc46 hBc46 hFc46 gc46_lx gc46_mo gc46_pe => ⟨rc46, rfl, ?_⟩)) cf_X12_fresh t_1718 rfl (by decide) rfl rfl rfl (Nat.le_of_ble_eq_true rfl) (by decide) rfl dX12_kindIs_43
        refine g_lstore_n (l1 := [(1, vL rc46), (0, vR 0)]) dX12_kindIs_46 (by decide) rfl ?_
        refine g_aload_n dX12_kindIs_47 rfl ?_
        refine m_g8 (z := (Pc46 0 8)) rfl dX12_kindIs_48 rfl ?_
        have f47 := b0_8 hBc46
        refine g_if_le (tgt := 55) dX12_kindIs_51 (by decide) ⟨by have q0 := b0_8 hBc46; omega, by have q0 := b0_8 hBc46; omega⟩ (fun k48 => ?_) (fun k48 => ?_)
        · refine g_iconst dX12_kindIs_55 ?_
          refine g_aload_n dX12_kindIs_56 rfl ?_
          refine m_g37 (z := (P 0 37)) rfl dX12_kindIs_57 ((hFc46.1 37 rfl).trans ((hFc42.1 37 rfl).trans ((hE16_38.1 37 rfl).trans rfl))) ?_
          refine g_imul dX12_kindIs_60 ?_
          refine g_aload_n dX12_kindIs_61 rfl ?_
          refine m_g14 rfl dX12_kindIs_62 ?_
          refine g_aload_n dX12_kindIs_65 rfl ?_
          refine m_g37 (z := (P 0 37)) rfl dX12_kindIs_66 ((hFc46.1 37 rfl).trans ((hFc42.1 37 rfl).trans ((hE16_38.1 37 rfl).trans rfl))) ?_
          refine m_l2 (z := (P 2 (P 0 37))) dX12_kindIs_69 ⟨by have q0 := b0_37 hB; omega, by have q0 := b0_37 hB; omega⟩ ((congrFun (hFc46.2 2 rfl rfl) _).trans ((congrFun (hFc42.2 2 rfl rfl) _).trans ((congrFun (hE16_38.2 2 rfl rfl) _).trans rfl))) ?_
          refine g_iadd dX12_kindIs_70 ?_
          refine g_istore_n (l1 := [(3, vI ((4 * (P 0 37)) + (P 2 (P 0 37)))), (1, vL rc46), (0, vR 0)]) dX12_kindIs_71 (by decide) rfl ?_
          refine g_aload_n dX12_kindIs_72 rfl ?_
          refine m_g34 rfl dX12_kindIs_73 ?_
          refine g_iload_n dX12_kindIs_76 rfl ?_
          refine g_lload_n dX12_kindIs_77 rfl ?_
          refine m_s22 dX12_kindIs_78 ⟨by have q0 := b0_37 hB; have q1 := bl_2 (k := (P 0 37)) hB; omega, by have q0 := b0_37 hB; have q1 := bl_2 (k := (P 0 37)) hB; omega⟩ ?_
          have hB49 := ba_22 (z := rc46) (k := ((4 * (P 0 37)) + (P 2 (P 0 37)))) hBc46 ⟨by omega, by omega⟩
          refine g_aload_n dX12_kindIs_79 rfl ?_
          refine m_g15 rfl dX12_kindIs_80 ?_
          refine g_iload_n dX12_kindIs_83 rfl ?_
          refine g_iconst dX12_kindIs_84 ?_
          refine m_s3 dX12_kindIs_85 ⟨by have q0 := b0_37 hB; have q1 := bl_2 (k := (P 0 37)) hB; omega, by have q0 := b0_37 hB; have q1 := bl_2 (k := (P 0 37)) hB; omega⟩ ?_
          have hB50 := ba_3 (z := 0) (k := ((4 * (P 0 37)) + (P 2 (P 0 37)))) hB49 (by decide)
          refine g_aload_n dX12_kindIs_86 rfl ?_
          refine m_g16 rfl dX12_kindIs_87 ?_
          refine g_iload_n dX12_kindIs_90 rfl ?_
          refine g_iconst dX12_kindIs_91 ?_
          refine m_s4 dX12_kindIs_92 ⟨by have q0 := b0_37 hB; have q1 := bl_2 (k := (P 0 37)) hB; omega, by have q0 := b0_37 hB; have q1 := bl_2 (k := (P 0 37)) hB; omega⟩ ?_
          have hB51 := ba_4 (z := 0) (k := ((4 * (P 0 37)) + (P 2 (P 0 37)))) hB50 (by decide)
          refine g_aload_n dX12_kindIs_93 rfl ?_
          refine m_g14 rfl dX12_kindIs_94 ?_
          refine g_aload_n dX12_kindIs_97 rfl ?_
          refine m_g37 (z := (P 0 37)) rfl dX12_kindIs_98 ((up_o (by decide)).trans ((up_o (by decide)).trans ((up_o (by decide)).trans ((hFc46.1 37 rfl).trans ((hFc42.1 37 rfl).trans ((hE16_38.1 37 rfl).trans rfl)))))) ?_
          refine g_dup2 dX12_kindIs_101 rfl rfl ?_
          refine m_l2 (z := (P 2 (P 0 37))) dX12_kindIs_102 ⟨by have q0 := b0_37 hB; omega, by have q0 := b0_37 hB; omega⟩ ((up_o (by decide)).trans ((up_o (by decide)).trans ((up_o (by decide)).trans ((congrFun (hFc46.2 2 rfl rfl) _).trans ((congrFun (hFc42.2 2 rfl rfl) _).trans ((congrFun (hE16_38.2 2 rfl rfl) _).trans rfl)))))) ?_
          refine g_iconst dX12_kindIs_103 ?_
          refine g_iadd dX12_kindIs_104 ?_
          refine m_s2 dX12_kindIs_105 ⟨by have q0 := b0_37 hB; omega, by have q0 := b0_37 hB; omega⟩ ?_
          have hB52 := ba_2 (z := ((P 2 (P 0 37)) + 1)) (k := (P 0 37)) hB51 ⟨by have q0 := bl_2 (k := (P 0 37)) hB; omega, by have q0 := bl_2 (k := (P 0 37)) hB; omega⟩
          have iv53 : KVP (up (up (up (up Pc46 22 ((4 * (P 0 37)) + (P 2 (P 0 37))) rc46) 3 ((4 * (P 0 37)) + (P 2 (P 0 37))) 0) 4 ((4 * (P 0 37)) + (P 2 (P 0 37))) 0) 2 (P 0 37) ((P 2 (P 0 37)) + 1)) := v_KVP.step (i := ((4 * (P 0 37)) + (P 2 (P 0 37)))) (fun j hj => ((up_o (by decide)).trans ((up_o (by decide)).trans ((up_k hj).trans ((up_o (by decide)).trans ((congrFun (hFc46.2 3 rfl rfl) _).trans ((congrFun (hFc42.2 3 rfl rfl) _).trans ((congrFun (hE16_38.2 3 rfl rfl) _).trans rfl)))))))) (fun j hj => ((up_o (by decide)).trans ((up_k hj).trans ((up_o (by decide)).trans ((up_o (by decide)).trans ((congrFun (hFc46.2 4 rfl rfl) _).trans ((congrFun (hFc42.2 4 rfl rfl) _).trans ((congrFun (hE16_38.2 4 rfl rfl) _).trans rfl)))))))) (by have q3 := (((up_o (by decide)).trans ((up_o (by decide)).trans up_same)) : (up (up (up (up Pc46 22 ((4 * (P 0 37)) + (P 2 (P 0 37))) rc46) 3 ((4 * (P 0 37)) + (P 2 (P 0 37))) 0) 4 ((4 * (P 0 37)) + (P 2 (P 0 37))) 0) 2 (P 0 37) ((P 2 (P 0 37)) + 1)) 3 ((4 * (P 0 37)) + (P 2 (P 0 37))) = 0); have q4 := (((up_o (by decide)).trans up_same) : (up (up (up (up Pc46 22 ((4 * (P 0 37)) + (P 2 (P 0 37))) rc46) 3 ((4 * (P 0 37)) + (P 2 (P 0 37))) 0) 4 ((4 * (P 0 37)) + (P 2 (P 0 37))) 0) 2 (P 0 37) ((P 2 (P 0 37)) + 1)) 4 ((4 * (P 0 37)) + (P 2 (P 0 37))) = 0); omega)
          have iv54 : KC (up (up (up (up Pc46 22 ((4 * (P 0 37)) + (P 2 (P 0 37))) rc46) 3 ((4 * (P 0 37)) + (P 2 (P 0 37))) 0) 4 ((4 * (P 0 37)) + (P 2 (P 0 37))) 0) 2 (P 0 37) ((P 2 (P 0 37)) + 1)) := v_KC.kind hB ((up_o (by decide)).trans ((up_o (by decide)).trans ((up_o (by decide)).trans ((up_o (by decide)).trans ((hFc46.1 37 rfl).trans ((hFc42.1 37 rfl).trans ((hE16_38.1 37 rfl).trans rfl))))))) up_same ((up_o (by decide)).trans ((up_o (by decide)).trans ((up_o (by decide)).trans ((up_o (by decide)).trans ((congrFun (hFc46.2 5 rfl rfl) _).trans ((congrFun (hFc42.2 5 rfl rfl) _).trans ((congrFun (hE16_38.2 5 rfl rfl) _).trans rfl))))))) ((up_o (by decide)).trans up_same)
          have iv55 : ZT (up (up (up (up Pc46 22 ((4 * (P 0 37)) + (P 2 (P 0 37))) rc46) 3 ((4 * (P 0 37)) + (P 2 (P 0 37))) 0) 4 ((4 * (P 0 37)) + (P 2 (P 0 37))) 0) 2 (P 0 37) ((P 2 (P 0 37)) + 1)) := v_ZT.kind (i := P 0 37) (K := P 2 (P 0 37)) v_CF hB rfl (by have q := bl_2 (k := P 0 37) hB; omega) (fun j hj => ((up_o (by decide)).trans ((up_o (by decide)).trans ((up_k hj).trans ((up_o (by decide)).trans ((congrFun (hFc46.2 3 rfl rfl) _).trans ((congrFun (hFc42.2 3 rfl rfl) _).trans ((congrFun (hE16_38.2 3 rfl rfl) _).trans rfl)))))))) (fun j hj => ((up_k hj).trans ((up_o (by decide)).trans ((up_o (by decide)).trans ((up_o (by decide)).trans ((congrFun (hFc46.2 2 rfl rfl) _).trans ((congrFun (hFc42.2 2 rfl rfl) _).trans ((congrFun (hE16_38.2 2 rfl rfl) _).trans rfl)))))))) up_same (fun j => ((up_o (by decide)).trans ((up_o (by decide)).trans ((up_o (by decide)).trans ((up_o (by decide)).trans ((congrFun (hFc46.2 5 rfl rfl) _).trans ((congrFun (hFc42.2 5 rfl rfl) _).trans ((congrFun (hE16_38.2 5 rfl rfl) _).trans rfl)))))))) (fun j => ((up_o (by decide)).trans ((up_o (by decide)).trans ((up_o (by decide)).trans ((up_o (by decide)).trans ((congrFun (hFc46.2 6 rfl rfl) _).trans ((congrFun (hFc42.2 6 rfl rfl) _).trans ((congrFun (hE16_38.2 6 rfl rfl) _).trans rfl)))))))) (fun j => ((up_o (by decide)).trans ((up_o (by decide)).trans ((up_o (by decide)).trans ((up_o (by decide)).trans ((congrFun (hFc46.2 7 rfl rfl) _).trans ((congrFun (hFc42.2 7 rfl rfl) _).trans ((congrFun (hE16_38.2 7 rfl rfl) _).trans rfl)))))))) (fun j => ((up_o (by decide)).trans ((up_o (by decide)).trans ((up_o (by decide)).trans ((up_o (by decide)).trans ((congrFun (hFc46.2 8 rfl rfl) _).trans ((congrFun (hFc42.2 8 rfl rfl) _).trans ((congrFun (hE16_38.2 8 rfl rfl) _).trans rfl)))))))) (fun j => ((up_o (by decide)).trans ((up_o (by decide)).trans ((up_o (by decide)).trans ((up_o (by decide)).trans ((congrFun (hFc46.2 10 rfl rfl) _).trans ((congrFun (hFc42.2 10 rfl rfl) _).trans ((congrFun (hE16_38.2 10 rfl rfl) _).trans rfl))))))))
          have iv56 : ZO (up (up (up (up Pc46 22 ((4 * (P 0 37)) + (P 2 (P 0 37))) rc46) 3 ((4 * (P 0 37)) + (P 2 (P 0 37))) 0) 4 ((4 * (P 0 37)) + (P 2 (P 0 37))) 0) 2 (P 0 37) ((P 2 (P 0 37)) + 1)) := v_ZO.kind (i := P 0 37) (K := P 2 (P 0 37)) hB rfl (fun j hj => ((up_o (by decide)).trans ((up_o (by decide)).trans ((up_k hj).trans ((up_o (by decide)).trans ((congrFun (hFc46.2 3 rfl rfl) _).trans ((congrFun (hFc42.2 3 rfl rfl) _).trans ((congrFun (hE16_38.2 3 rfl rfl) _).trans rfl)))))))) ((up_o (by decide)).trans ((up_o (by decide)).trans up_same)) (fun j hj => ((up_k hj).trans ((up_o (by decide)).trans ((up_o (by decide)).trans ((up_o (by decide)).trans ((congrFun (hFc46.2 2 rfl rfl) _).trans ((congrFun (hFc42.2 2 rfl rfl) _).trans ((congrFun (hE16_38.2 2 rfl rfl) _).trans rfl)))))))) up_same (fun j => ((up_o (by decide)).trans ((up_o (by decide)).trans ((up_o (by decide)).trans ((up_o (by decide)).trans ((congrFun (hFc46.2 5 rfl rfl) _).trans ((congrFun (hFc42.2 5 rfl rfl) _).trans ((congrFun (hE16_38.2 5 rfl rfl) _).trans rfl)))))))) (fun j => ((up_o (by decide)).trans ((up_o (by decide)).trans ((up_o (by decide)).trans ((up_o (by decide)).trans ((congrFun (hFc46.2 6 rfl rfl) _).trans ((congrFun (hFc42.2 6 rfl rfl) _).trans ((congrFun (hE16_38.2 6 rfl rfl) _).trans rfl)))))))) (fun j => ((up_o (by decide)).trans ((up_o (by decide)).trans ((up_o (by decide)).trans ((up_o (by decide)).trans ((congrFun (hFc46.2 9 rfl rfl) _).trans ((congrFun (hFc42.2 9 rfl rfl) _).trans ((congrFun (hE16_38.2 9 rfl rfl) _).trans rfl)))))))) (fun j => ((up_o (by decide)).trans ((up_o (by decide)).trans ((up_o (by decide)).trans ((up_o (by decide)).trans ((congrFun (hFc46.2 10 rfl rfl) _).trans ((congrFun (hFc42.2 10 rfl rfl) _).trans ((congrFun (hE16_38.2 10 rfl rfl) _).trans rfl))))))))
          have iv57 : ZC (up (up (up (up Pc46 22 ((4 * (P 0 37)) + (P 2 (P 0 37))) rc46) 3 ((4 * (P 0 37)) + (P 2 (P 0 37))) 0) 4 ((4 * (P 0 37)) + (P 2 (P 0 37))) 0) 2 (P 0 37) ((P 2 (P 0 37)) + 1)) := v_ZC.kind (i := P 0 37) (K := P 2 (P 0 37)) hB (b0_37 hB) rfl (by have q := bl_2 (k := P 0 37) hB; omega) (v_ZI (by omega)).1 (fun j hj => ((up_o (by decide)).trans ((up_o (by decide)).trans ((up_k hj).trans ((up_o (by decide)).trans ((congrFun (hFc46.2 3 rfl rfl) _).trans ((congrFun (hFc42.2 3 rfl rfl) _).trans ((congrFun (hE16_38.2 3 rfl rfl) _).trans rfl)))))))) (fun j hj => ((up_k hj).trans ((up_o (by decide)).trans ((up_o (by decide)).trans ((up_o (by decide)).trans ((congrFun (hFc46.2 2 rfl rfl) _).trans ((congrFun (hFc42.2 2 rfl rfl) _).trans ((congrFun (hE16_38.2 2 rfl rfl) _).trans rfl)))))))) (fun j => ((up_o (by decide)).trans ((up_o (by decide)).trans ((up_o (by decide)).trans ((up_o (by decide)).trans ((congrFun (hFc46.2 11 rfl rfl) _).trans ((congrFun (hFc42.2 11 rfl rfl) _).trans ((congrFun (hE16_38.2 11 rfl rfl) _).trans rfl)))))))) (fun j => ((up_o (by decide)).trans ((up_o (by decide)).trans ((up_o (by decide)).trans ((up_o (by decide)).trans ((congrFun (hFc46.2 12 rfl rfl) _).trans ((congrFun (hFc42.2 12 rfl rfl) _).trans ((congrFun (hE16_38.2 12 rfl rfl) _).trans rfl))))))))
          exact g_retV dX12_kindIs_106 rfl (hQ _ hB52 (FrM.a (FrM.a (FrM.a (FrM.a (FrM.c (FrM.c (FrM.c FrM.rf hE16_38 rfl) hFc42 rfl) hFc46 rfl) rfl rfl) rfl rfl) rfl rfl) rfl rfl) (by have q0 := (((up_o (by decide)).trans ((up_o (by decide)).trans ((up_o (by decide)).trans ((up_o (by decide)).trans rfl)))) : (up (up (up (up Pc46 22 ((4 * (P 0 37)) + (P 2 (P 0 37))) rc46) 3 ((4 * (P 0 37)) + (P 2 (P 0 37))) 0) 4 ((4 * (P 0 37)) + (P 2 (P 0 37))) 0) 2 (P 0 37) ((P 2 (P 0 37)) + 1)) 0 3 = (Pc46 0 3)); have q1 := b0_3 hBc46; have q2 := (((up_o (by decide)).trans ((up_o (by decide)).trans ((up_o (by decide)).trans ((up_o (by decide)).trans rfl)))) : (up (up (up (up Pc46 22 ((4 * (P 0 37)) + (P 2 (P 0 37))) rc46) 3 ((4 * (P 0 37)) + (P 2 (P 0 37))) 0) 4 ((4 * (P 0 37)) + (P 2 (P 0 37))) 0) 2 (P 0 37) ((P 2 (P 0 37)) + 1)) 0 4 = (Pc46 0 4)); have q3 := b0_4 hBc46; have q4 := (((up_o (by decide)).trans ((up_o (by decide)).trans ((up_o (by decide)).trans ((up_o (by decide)).trans rfl)))) : (up (up (up (up Pc46 22 ((4 * (P 0 37)) + (P 2 (P 0 37))) rc46) 3 ((4 * (P 0 37)) + (P 2 (P 0 37))) 0) 4 ((4 * (P 0 37)) + (P 2 (P 0 37))) 0) 2 (P 0 37) ((P 2 (P 0 37)) + 1)) 0 5 = (Pc46 0 5)); have q5 := b0_5 hBc46; omega) (by have q0 := (((up_o (by decide)).trans ((up_o (by decide)).trans ((up_o (by decide)).trans ((up_o (by decide)).trans rfl)))) : (up (up (up (up Pc46 22 ((4 * (P 0 37)) + (P 2 (P 0 37))) rc46) 3 ((4 * (P 0 37)) + (P 2 (P 0 37))) 0) 4 ((4 * (P 0 37)) + (P 2 (P 0 37))) 0) 2 (P 0 37) ((P 2 (P 0 37)) + 1)) 0 4 = (Pc46 0 4)); have q1 := b0_4 hBc46; omega) (by have q0 := (((up_o (by decide)).trans ((up_o (by decide)).trans ((up_o (by decide)).trans ((up_o (by decide)).trans rfl)))) : (up (up (up (up Pc46 22 ((4 * (P 0 37)) + (P 2 (P 0 37))) rc46) 3 ((4 * (P 0 37)) + (P 2 (P 0 37))) 0) 4 ((4 * (P 0 37)) + (P 2 (P 0 37))) 0) 2 (P 0 37) ((P 2 (P 0 37)) + 1)) 0 8 = (Pc46 0 8)); have q1 := b0_8 hBc46; omega) (by have q0 := (((up_o (by decide)).trans ((up_o (by decide)).trans ((up_o (by decide)).trans ((up_o (by decide)).trans rfl)))) : (up (up (up (up Pc46 22 ((4 * (P 0 37)) + (P 2 (P 0 37))) rc46) 3 ((4 * (P 0 37)) + (P 2 (P 0 37))) 0) 4 ((4 * (P 0 37)) + (P 2 (P 0 37))) 0) 2 (P 0 37) ((P 2 (P 0 37)) + 1)) 0 8 = (Pc46 0 8)); have q1 := b0_8 hBc46; have q2 := (((up_o (by decide)).trans ((up_o (by decide)).trans ((up_o (by decide)).trans ((up_o (by decide)).trans ((hFc46.1 38 rfl).trans ((hFc42.1 38 rfl).trans ((hE16_38.1 38 rfl).trans rfl))))))) : (up (up (up (up Pc46 22 ((4 * (P 0 37)) + (P 2 (P 0 37))) rc46) 3 ((4 * (P 0 37)) + (P 2 (P 0 37))) 0) 4 ((4 * (P 0 37)) + (P 2 (P 0 37))) 0) 2 (P 0 37) ((P 2 (P 0 37)) + 1)) 0 38 = (P 0 38)); have q3 := b0_38 hB; omega) iv53 iv54 (CF.fr (F := ([3, 4, 5, 6, 7, 8, 9, 12], [2, 3, 4, 22])) v_CF (FrM.a (FrM.a (FrM.a (FrM.a (FrM.c (FrM.c (FrM.c FrM.rf hE16_38 rfl) hFc42 rfl) hFc46 rfl) rfl rfl) rfl rfl) rfl rfl) rfl rfl) rfl) iv55 iv56 iv57)
        · exact g_retV dX12_kindIs_54 rfl (hQ _ hBc46 (FrM.c (FrM.c (FrM.c FrM.rf hE16_38 rfl) hFc42 rfl) hFc46 rfl) (by have q0 := b0_3 hBc46; have q1 := b0_4 hBc46; have q2 := b0_5 hBc46; omega) (by have q0 := b0_4 hBc46; omega) (by have q0 := b0_8 hBc46; omega) (by have q0 := b0_8 hBc46; have q1 := (((hFc46.1 38 rfl).trans ((hFc42.1 38 rfl).trans ((hE16_38.1 38 rfl).trans rfl))) : Pc46 0 38 = (P 0 38)); have q2 := b0_38 hB; omega) (KVP.fr (F := ([3, 4, 5, 6, 7, 8, 9, 12], [])) v_KVP (FrM.c (FrM.c (FrM.c FrM.rf hE16_38 rfl) hFc42 rfl) hFc46 rfl) rfl) (KC.fr (F := ([3, 4, 5, 6, 7, 8, 9, 12], [])) v_KC (FrM.c (FrM.c (FrM.c FrM.rf hE16_38 rfl) hFc42 rfl) hFc46 rfl) rfl) (CF.fr (F := ([3, 4, 5, 6, 7, 8, 9, 12], [])) v_CF (FrM.c (FrM.c (FrM.c FrM.rf hE16_38 rfl) hFc42 rfl) hFc46 rfl) rfl) (ZT.fr (F := ([3, 4, 5, 6, 7, 8, 9, 12], [])) v_ZT (FrM.c (FrM.c (FrM.c FrM.rf hE16_38 rfl) hFc42 rfl) hFc46 rfl) rfl) (ZO.fr (F := ([3, 4, 5, 6, 7, 8, 9, 12], [])) v_ZO (FrM.c (FrM.c (FrM.c FrM.rf hE16_38 rfl) hFc42 rfl) hFc46 rfl) rfl) (ZC.fr (F := ([3, 4, 5, 6, 7, 8, 9, 12], [])) v_ZC (FrM.c (FrM.c (FrM.c FrM.rf hE16_38 rfl) hFc42 rfl) hFc46 rfl) rfl))
      · exact g_retV dX12_kindIs_41 rfl (hQ _ hBc42 (FrM.c (FrM.c FrM.rf hE16_38 rfl) hFc42 rfl) (by have q0 := b0_3 hBc42; have q1 := b0_4 hBc42; have q2 := b0_5 hBc42; omega) (by have q0 := b0_4 hBc42; omega) (by have q0 := b0_8 hBc42; omega) (by have q0 := b0_8 hBc42; have q1 := (((hFc42.1 38 rfl).trans ((hE16_38.1 38 rfl).trans rfl)) : Pc42 0 38 = (P 0 38)); have q2 := b0_38 hB; omega) (KVP.fr (F := ([3, 4, 5, 6, 7, 8, 9, 12], [])) v_KVP (FrM.c (FrM.c FrM.rf hE16_38 rfl) hFc42 rfl) rfl) (KC.fr (F := ([3, 4, 5, 6, 7, 8, 9, 12], [])) v_KC (FrM.c (FrM.c FrM.rf hE16_38 rfl) hFc42 rfl) rfl) (CF.fr (F := ([3, 4, 5, 6, 7, 8, 9, 12], [])) v_CF (FrM.c (FrM.c FrM.rf hE16_38 rfl) hFc42 rfl) rfl) (ZT.fr (F := ([3, 4, 5, 6, 7, 8, 9, 12], [])) v_ZT (FrM.c (FrM.c FrM.rf hE16_38 rfl) hFc42 rfl) rfl) (ZO.fr (F := ([3, 4, 5, 6, 7, 8, 9, 12], [])) v_ZO (FrM.c (FrM.c FrM.rf hE16_38 rfl) hFc42 rfl) rfl) (ZC.fr (F := ([3, 4, 5, 6, 7, 8, 9, 12], [])) v_ZC (FrM.c (FrM.c FrM.rf hE16_38 rfl) hFc42 rfl) rfl))
    · refine g_iconst dX12_kindIs_30 ?_
      refine g_goto (tgt := 35) dX12_kindIs_31 (by decide) ?_
      refine g_vI (av := [vI 1]) (o := 0) (st := []) (m_X12_isCounted G H16_38 1 (by decide) hB16_38 (by have q0 := (((hE16_38.1 3 rfl).trans rfl) : H16_38 0 3 = (P 0 3)); have q1 := b0_3 hB; have q2 := (((hE16_38.1 4 rfl).trans rfl) : H16_38 0 4 = (P 0 4)); have q3 := b0_4 hB; have q4 := (((hE16_38.1 5 rfl).trans rfl) : H16_38 0 5 = (P 0 5)); have q5 := b0_5 hB; omega) _ (fun rc58 hc58 Pc58 hBc58 hFc58 gc58_lx gc58_mo gc58_pe gc58_c gc58_ad => ⟨rc58, rfl, ?_⟩)) cf_X12_isCounted t_1714 rfl (by decide) rfl rfl rfl (Nat.le_of_ble_eq_true rfl) (by decide) rfl dX12_kindIs_35
      have z59 : H16_38 0 4 = (P 0 4) := ((hE16_38.1 4 rfl).trans rfl)
      have z60 : H16_38 0 3 = (P 0 3) := ((hE16_38.1 3 rfl).trans rfl)
      refine g_if_ne (tgt := 42) dX12_kindIs_38 (by decide) ⟨by omega, by omega⟩ (fun k61 => ?_) (fun k61 => ?_)
      · refine g_aload_n dX12_kindIs_42 rfl ?_
        refine g_vL (av := []) (o := 0) (st := []) (m_X12_fresh G Pc58  hBc58 (by have q0 := b0_3 hBc58; have q1 := b0_4 hBc58; have q2 := b0_5 hBc58; omega) _ (fun rc62 hc62 Pc62 hBc62 hFc62 gc62_lx gc62_mo gc62_pe => ⟨rc62, rfl, ?_⟩)) cf_X12_fresh t_1718 rfl (by decide) rfl rfl rfl (Nat.le_of_ble_eq_true rfl) (by decide) rfl dX12_kindIs_43
        refine g_lstore_n (l1 := [(1, vL rc62), (0, vR 0)]) dX12_kindIs_46 (by decide) rfl ?_
        refine g_aload_n dX12_kindIs_47 rfl ?_
        refine m_g8 (z := (Pc62 0 8)) rfl dX12_kindIs_48 rfl ?_
        have f63 := b0_8 hBc62
        refine g_if_le (tgt := 55) dX12_kindIs_51 (by decide) ⟨by have q0 := b0_8 hBc62; omega, by have q0 := b0_8 hBc62; omega⟩ (fun k64 => ?_) (fun k64 => ?_)
        · refine g_iconst dX12_kindIs_55 ?_
          refine g_aload_n dX12_kindIs_56 rfl ?_
          refine m_g37 (z := (P 0 37)) rfl dX12_kindIs_57 ((hFc62.1 37 rfl).trans ((hFc58.1 37 rfl).trans ((hE16_38.1 37 rfl).trans rfl))) ?_
          refine g_imul dX12_kindIs_60 ?_
          refine g_aload_n dX12_kindIs_61 rfl ?_
          refine m_g14 rfl dX12_kindIs_62 ?_
          refine g_aload_n dX12_kindIs_65 rfl ?_
          refine m_g37 (z := (P 0 37)) rfl dX12_kindIs_66 ((hFc62.1 37 rfl).trans ((hFc58.1 37 rfl).trans ((hE16_38.1 37 rfl).trans rfl))) ?_
          refine m_l2 (z := (P 2 (P 0 37))) dX12_kindIs_69 ⟨by have q0 := b0_37 hB; omega, by have q0 := b0_37 hB; omega⟩ ((congrFun (hFc62.2 2 rfl rfl) _).trans ((congrFun (hFc58.2 2 rfl rfl) _).trans ((congrFun (hE16_38.2 2 rfl rfl) _).trans rfl))) ?_
          refine g_iadd dX12_kindIs_70 ?_
          refine g_istore_n (l1 := [(3, vI ((4 * (P 0 37)) + (P 2 (P 0 37)))), (1, vL rc62), (0, vR 0)]) dX12_kindIs_71 (by decide) rfl ?_
          refine g_aload_n dX12_kindIs_72 rfl ?_
          refine m_g34 rfl dX12_kindIs_73 ?_
          refine g_iload_n dX12_kindIs_76 rfl ?_
          refine g_lload_n dX12_kindIs_77 rfl ?_
          refine m_s22 dX12_kindIs_78 ⟨by have q0 := b0_37 hB; have q1 := bl_2 (k := (P 0 37)) hB; omega, by have q0 := b0_37 hB; have q1 := bl_2 (k := (P 0 37)) hB; omega⟩ ?_
          have hB65 := ba_22 (z := rc62) (k := ((4 * (P 0 37)) + (P 2 (P 0 37)))) hBc62 ⟨by omega, by omega⟩
          refine g_aload_n dX12_kindIs_79 rfl ?_
          refine m_g15 rfl dX12_kindIs_80 ?_
          refine g_iload_n dX12_kindIs_83 rfl ?_
          refine g_iconst dX12_kindIs_84 ?_
          refine m_s3 dX12_kindIs_85 ⟨by have q0 := b0_37 hB; have q1 := bl_2 (k := (P 0 37)) hB; omega, by have q0 := b0_37 hB; have q1 := bl_2 (k := (P 0 37)) hB; omega⟩ ?_
          have hB66 := ba_3 (z := 0) (k := ((4 * (P 0 37)) + (P 2 (P 0 37)))) hB65 (by decide)
          refine g_aload_n dX12_kindIs_86 rfl ?_
          refine m_g16 rfl dX12_kindIs_87 ?_
          refine g_iload_n dX12_kindIs_90 rfl ?_
          refine g_iconst dX12_kindIs_91 ?_
          refine m_s4 dX12_kindIs_92 ⟨by have q0 := b0_37 hB; have q1 := bl_2 (k := (P 0 37)) hB; omega, by have q0 := b0_37 hB; have q1 := bl_2 (k := (P 0 37)) hB; omega⟩ ?_
          have hB67 := ba_4 (z := 0) (k := ((4 * (P 0 37)) + (P 2 (P 0 37)))) hB66 (by decide)
          refine g_aload_n dX12_kindIs_93 rfl ?_
          refine m_g14 rfl dX12_kindIs_94 ?_
          refine g_aload_n dX12_kindIs_97 rfl ?_
          refine m_g37 (z := (P 0 37)) rfl dX12_kindIs_98 ((up_o (by decide)).trans ((up_o (by decide)).trans ((up_o (by decide)).trans ((hFc62.1 37 rfl).trans ((hFc58.1 37 rfl).trans ((hE16_38.1 37 rfl).trans rfl)))))) ?_
          refine g_dup2 dX12_kindIs_101 rfl rfl ?_
          refine m_l2 (z := (P 2 (P 0 37))) dX12_kindIs_102 ⟨by have q0 := b0_37 hB; omega, by have q0 := b0_37 hB; omega⟩ ((up_o (by decide)).trans ((up_o (by decide)).trans ((up_o (by decide)).trans ((congrFun (hFc62.2 2 rfl rfl) _).trans ((congrFun (hFc58.2 2 rfl rfl) _).trans ((congrFun (hE16_38.2 2 rfl rfl) _).trans rfl)))))) ?_
          refine g_iconst dX12_kindIs_103 ?_
          refine g_iadd dX12_kindIs_104 ?_
          refine m_s2 dX12_kindIs_105 ⟨by have q0 := b0_37 hB; omega, by have q0 := b0_37 hB; omega⟩ ?_
          have hB68 := ba_2 (z := ((P 2 (P 0 37)) + 1)) (k := (P 0 37)) hB67 ⟨by have q0 := bl_2 (k := (P 0 37)) hB; omega, by have q0 := bl_2 (k := (P 0 37)) hB; omega⟩
          have iv69 : KVP (up (up (up (up Pc62 22 ((4 * (P 0 37)) + (P 2 (P 0 37))) rc62) 3 ((4 * (P 0 37)) + (P 2 (P 0 37))) 0) 4 ((4 * (P 0 37)) + (P 2 (P 0 37))) 0) 2 (P 0 37) ((P 2 (P 0 37)) + 1)) := v_KVP.step (i := ((4 * (P 0 37)) + (P 2 (P 0 37)))) (fun j hj => ((up_o (by decide)).trans ((up_o (by decide)).trans ((up_k hj).trans ((up_o (by decide)).trans ((congrFun (hFc62.2 3 rfl rfl) _).trans ((congrFun (hFc58.2 3 rfl rfl) _).trans ((congrFun (hE16_38.2 3 rfl rfl) _).trans rfl)))))))) (fun j hj => ((up_o (by decide)).trans ((up_k hj).trans ((up_o (by decide)).trans ((up_o (by decide)).trans ((congrFun (hFc62.2 4 rfl rfl) _).trans ((congrFun (hFc58.2 4 rfl rfl) _).trans ((congrFun (hE16_38.2 4 rfl rfl) _).trans rfl)))))))) (by have q3 := (((up_o (by decide)).trans ((up_o (by decide)).trans up_same)) : (up (up (up (up Pc62 22 ((4 * (P 0 37)) + (P 2 (P 0 37))) rc62) 3 ((4 * (P 0 37)) + (P 2 (P 0 37))) 0) 4 ((4 * (P 0 37)) + (P 2 (P 0 37))) 0) 2 (P 0 37) ((P 2 (P 0 37)) + 1)) 3 ((4 * (P 0 37)) + (P 2 (P 0 37))) = 0); have q4 := (((up_o (by decide)).trans up_same) : (up (up (up (up Pc62 22 ((4 * (P 0 37)) + (P 2 (P 0 37))) rc62) 3 ((4 * (P 0 37)) + (P 2 (P 0 37))) 0) 4 ((4 * (P 0 37)) + (P 2 (P 0 37))) 0) 2 (P 0 37) ((P 2 (P 0 37)) + 1)) 4 ((4 * (P 0 37)) + (P 2 (P 0 37))) = 0); omega)
          have iv70 : KC (up (up (up (up Pc62 22 ((4 * (P 0 37)) + (P 2 (P 0 37))) rc62) 3 ((4 * (P 0 37)) + (P 2 (P 0 37))) 0) 4 ((4 * (P 0 37)) + (P 2 (P 0 37))) 0) 2 (P 0 37) ((P 2 (P 0 37)) + 1)) := v_KC.kind hB ((up_o (by decide)).trans ((up_o (by decide)).trans ((up_o (by decide)).trans ((up_o (by decide)).trans ((hFc62.1 37 rfl).trans ((hFc58.1 37 rfl).trans ((hE16_38.1 37 rfl).trans rfl))))))) up_same ((up_o (by decide)).trans ((up_o (by decide)).trans ((up_o (by decide)).trans ((up_o (by decide)).trans ((congrFun (hFc62.2 5 rfl rfl) _).trans ((congrFun (hFc58.2 5 rfl rfl) _).trans ((congrFun (hE16_38.2 5 rfl rfl) _).trans rfl))))))) ((up_o (by decide)).trans up_same)
          have iv71 : ZT (up (up (up (up Pc62 22 ((4 * (P 0 37)) + (P 2 (P 0 37))) rc62) 3 ((4 * (P 0 37)) + (P 2 (P 0 37))) 0) 4 ((4 * (P 0 37)) + (P 2 (P 0 37))) 0) 2 (P 0 37) ((P 2 (P 0 37)) + 1)) := v_ZT.kind (i := P 0 37) (K := P 2 (P 0 37)) v_CF hB rfl (by have q := bl_2 (k := P 0 37) hB; omega) (fun j hj => ((up_o (by decide)).trans ((up_o (by decide)).trans ((up_k hj).trans ((up_o (by decide)).trans ((congrFun (hFc62.2 3 rfl rfl) _).trans ((congrFun (hFc58.2 3 rfl rfl) _).trans ((congrFun (hE16_38.2 3 rfl rfl) _).trans rfl)))))))) (fun j hj => ((up_k hj).trans ((up_o (by decide)).trans ((up_o (by decide)).trans ((up_o (by decide)).trans ((congrFun (hFc62.2 2 rfl rfl) _).trans ((congrFun (hFc58.2 2 rfl rfl) _).trans ((congrFun (hE16_38.2 2 rfl rfl) _).trans rfl)))))))) up_same (fun j => ((up_o (by decide)).trans ((up_o (by decide)).trans ((up_o (by decide)).trans ((up_o (by decide)).trans ((congrFun (hFc62.2 5 rfl rfl) _).trans ((congrFun (hFc58.2 5 rfl rfl) _).trans ((congrFun (hE16_38.2 5 rfl rfl) _).trans rfl)))))))) (fun j => ((up_o (by decide)).trans ((up_o (by decide)).trans ((up_o (by decide)).trans ((up_o (by decide)).trans ((congrFun (hFc62.2 6 rfl rfl) _).trans ((congrFun (hFc58.2 6 rfl rfl) _).trans ((congrFun (hE16_38.2 6 rfl rfl) _).trans rfl)))))))) (fun j => ((up_o (by decide)).trans ((up_o (by decide)).trans ((up_o (by decide)).trans ((up_o (by decide)).trans ((congrFun (hFc62.2 7 rfl rfl) _).trans ((congrFun (hFc58.2 7 rfl rfl) _).trans ((congrFun (hE16_38.2 7 rfl rfl) _).trans rfl)))))))) (fun j => ((up_o (by decide)).trans ((up_o (by decide)).trans ((up_o (by decide)).trans ((up_o (by decide)).trans ((congrFun (hFc62.2 8 rfl rfl) _).trans ((congrFun (hFc58.2 8 rfl rfl) _).trans ((congrFun (hE16_38.2 8 rfl rfl) _).trans rfl)))))))) (fun j => ((up_o (by decide)).trans ((up_o (by decide)).trans ((up_o (by decide)).trans ((up_o (by decide)).trans ((congrFun (hFc62.2 10 rfl rfl) _).trans ((congrFun (hFc58.2 10 rfl rfl) _).trans ((congrFun (hE16_38.2 10 rfl rfl) _).trans rfl))))))))
          have iv72 : ZO (up (up (up (up Pc62 22 ((4 * (P 0 37)) + (P 2 (P 0 37))) rc62) 3 ((4 * (P 0 37)) + (P 2 (P 0 37))) 0) 4 ((4 * (P 0 37)) + (P 2 (P 0 37))) 0) 2 (P 0 37) ((P 2 (P 0 37)) + 1)) := v_ZO.kind (i := P 0 37) (K := P 2 (P 0 37)) hB rfl (fun j hj => ((up_o (by decide)).trans ((up_o (by decide)).trans ((up_k hj).trans ((up_o (by decide)).trans ((congrFun (hFc62.2 3 rfl rfl) _).trans ((congrFun (hFc58.2 3 rfl rfl) _).trans ((congrFun (hE16_38.2 3 rfl rfl) _).trans rfl)))))))) ((up_o (by decide)).trans ((up_o (by decide)).trans up_same)) (fun j hj => ((up_k hj).trans ((up_o (by decide)).trans ((up_o (by decide)).trans ((up_o (by decide)).trans ((congrFun (hFc62.2 2 rfl rfl) _).trans ((congrFun (hFc58.2 2 rfl rfl) _).trans ((congrFun (hE16_38.2 2 rfl rfl) _).trans rfl)))))))) up_same (fun j => ((up_o (by decide)).trans ((up_o (by decide)).trans ((up_o (by decide)).trans ((up_o (by decide)).trans ((congrFun (hFc62.2 5 rfl rfl) _).trans ((congrFun (hFc58.2 5 rfl rfl) _).trans ((congrFun (hE16_38.2 5 rfl rfl) _).trans rfl)))))))) (fun j => ((up_o (by decide)).trans ((up_o (by decide)).trans ((up_o (by decide)).trans ((up_o (by decide)).trans ((congrFun (hFc62.2 6 rfl rfl) _).trans ((congrFun (hFc58.2 6 rfl rfl) _).trans ((congrFun (hE16_38.2 6 rfl rfl) _).trans rfl)))))))) (fun j => ((up_o (by decide)).trans ((up_o (by decide)).trans ((up_o (by decide)).trans ((up_o (by decide)).trans ((congrFun (hFc62.2 9 rfl rfl) _).trans ((congrFun (hFc58.2 9 rfl rfl) _).trans ((congrFun (hE16_38.2 9 rfl rfl) _).trans rfl)))))))) (fun j => ((up_o (by decide)).trans ((up_o (by decide)).trans ((up_o (by decide)).trans ((up_o (by decide)).trans ((congrFun (hFc62.2 10 rfl rfl) _).trans ((congrFun (hFc58.2 10 rfl rfl) _).trans ((congrFun (hE16_38.2 10 rfl rfl) _).trans rfl))))))))
          have iv73 : ZC (up (up (up (up Pc62 22 ((4 * (P 0 37)) + (P 2 (P 0 37))) rc62) 3 ((4 * (P 0 37)) + (P 2 (P 0 37))) 0) 4 ((4 * (P 0 37)) + (P 2 (P 0 37))) 0) 2 (P 0 37) ((P 2 (P 0 37)) + 1)) := v_ZC.kind (i := P 0 37) (K := P 2 (P 0 37)) hB (b0_37 hB) rfl (by have q := bl_2 (k := P 0 37) hB; omega) (v_ZI (by omega)).1 (fun j hj => ((up_o (by decide)).trans ((up_o (by decide)).trans ((up_k hj).trans ((up_o (by decide)).trans ((congrFun (hFc62.2 3 rfl rfl) _).trans ((congrFun (hFc58.2 3 rfl rfl) _).trans ((congrFun (hE16_38.2 3 rfl rfl) _).trans rfl)))))))) (fun j hj => ((up_k hj).trans ((up_o (by decide)).trans ((up_o (by decide)).trans ((up_o (by decide)).trans ((congrFun (hFc62.2 2 rfl rfl) _).trans ((congrFun (hFc58.2 2 rfl rfl) _).trans ((congrFun (hE16_38.2 2 rfl rfl) _).trans rfl)))))))) (fun j => ((up_o (by decide)).trans ((up_o (by decide)).trans ((up_o (by decide)).trans ((up_o (by decide)).trans ((congrFun (hFc62.2 11 rfl rfl) _).trans ((congrFun (hFc58.2 11 rfl rfl) _).trans ((congrFun (hE16_38.2 11 rfl rfl) _).trans rfl)))))))) (fun j => ((up_o (by decide)).trans ((up_o (by decide)).trans ((up_o (by decide)).trans ((up_o (by decide)).trans ((congrFun (hFc62.2 12 rfl rfl) _).trans ((congrFun (hFc58.2 12 rfl rfl) _).trans ((congrFun (hE16_38.2 12 rfl rfl) _).trans rfl))))))))
          exact g_retV dX12_kindIs_106 rfl (hQ _ hB68 (FrM.a (FrM.a (FrM.a (FrM.a (FrM.c (FrM.c (FrM.c FrM.rf hE16_38 rfl) hFc58 rfl) hFc62 rfl) rfl rfl) rfl rfl) rfl rfl) rfl rfl) (by have q0 := (((up_o (by decide)).trans ((up_o (by decide)).trans ((up_o (by decide)).trans ((up_o (by decide)).trans rfl)))) : (up (up (up (up Pc62 22 ((4 * (P 0 37)) + (P 2 (P 0 37))) rc62) 3 ((4 * (P 0 37)) + (P 2 (P 0 37))) 0) 4 ((4 * (P 0 37)) + (P 2 (P 0 37))) 0) 2 (P 0 37) ((P 2 (P 0 37)) + 1)) 0 3 = (Pc62 0 3)); have q1 := b0_3 hBc62; have q2 := (((up_o (by decide)).trans ((up_o (by decide)).trans ((up_o (by decide)).trans ((up_o (by decide)).trans rfl)))) : (up (up (up (up Pc62 22 ((4 * (P 0 37)) + (P 2 (P 0 37))) rc62) 3 ((4 * (P 0 37)) + (P 2 (P 0 37))) 0) 4 ((4 * (P 0 37)) + (P 2 (P 0 37))) 0) 2 (P 0 37) ((P 2 (P 0 37)) + 1)) 0 4 = (Pc62 0 4)); have q3 := b0_4 hBc62; have q4 := (((up_o (by decide)).trans ((up_o (by decide)).trans ((up_o (by decide)).trans ((up_o (by decide)).trans rfl)))) : (up (up (up (up Pc62 22 ((4 * (P 0 37)) + (P 2 (P 0 37))) rc62) 3 ((4 * (P 0 37)) + (P 2 (P 0 37))) 0) 4 ((4 * (P 0 37)) + (P 2 (P 0 37))) 0) 2 (P 0 37) ((P 2 (P 0 37)) + 1)) 0 5 = (Pc62 0 5)); have q5 := b0_5 hBc62; omega) (by have q0 := (((up_o (by decide)).trans ((up_o (by decide)).trans ((up_o (by decide)).trans ((up_o (by decide)).trans rfl)))) : (up (up (up (up Pc62 22 ((4 * (P 0 37)) + (P 2 (P 0 37))) rc62) 3 ((4 * (P 0 37)) + (P 2 (P 0 37))) 0) 4 ((4 * (P 0 37)) + (P 2 (P 0 37))) 0) 2 (P 0 37) ((P 2 (P 0 37)) + 1)) 0 4 = (Pc62 0 4)); have q1 := b0_4 hBc62; omega) (by have q0 := (((up_o (by decide)).trans ((up_o (by decide)).trans ((up_o (by decide)).trans ((up_o (by decide)).trans rfl)))) : (up (up (up (up Pc62 22 ((4 * (P 0 37)) + (P 2 (P 0 37))) rc62) 3 ((4 * (P 0 37)) + (P 2 (P 0 37))) 0) 4 ((4 * (P 0 37)) + (P 2 (P 0 37))) 0) 2 (P 0 37) ((P 2 (P 0 37)) + 1)) 0 8 = (Pc62 0 8)); have q1 := b0_8 hBc62; omega) (by have q0 := (((up_o (by decide)).trans ((up_o (by decide)).trans ((up_o (by decide)).trans ((up_o (by decide)).trans rfl)))) : (up (up (up (up Pc62 22 ((4 * (P 0 37)) + (P 2 (P 0 37))) rc62) 3 ((4 * (P 0 37)) + (P 2 (P 0 37))) 0) 4 ((4 * (P 0 37)) + (P 2 (P 0 37))) 0) 2 (P 0 37) ((P 2 (P 0 37)) + 1)) 0 8 = (Pc62 0 8)); have q1 := b0_8 hBc62; have q2 := (((up_o (by decide)).trans ((up_o (by decide)).trans ((up_o (by decide)).trans ((up_o (by decide)).trans ((hFc62.1 38 rfl).trans ((hFc58.1 38 rfl).trans ((hE16_38.1 38 rfl).trans rfl))))))) : (up (up (up (up Pc62 22 ((4 * (P 0 37)) + (P 2 (P 0 37))) rc62) 3 ((4 * (P 0 37)) + (P 2 (P 0 37))) 0) 4 ((4 * (P 0 37)) + (P 2 (P 0 37))) 0) 2 (P 0 37) ((P 2 (P 0 37)) + 1)) 0 38 = (P 0 38)); have q3 := b0_38 hB; omega) iv69 iv70 (CF.fr (F := ([3, 4, 5, 6, 7, 8, 9, 12], [2, 3, 4, 22])) v_CF (FrM.a (FrM.a (FrM.a (FrM.a (FrM.c (FrM.c (FrM.c FrM.rf hE16_38 rfl) hFc58 rfl) hFc62 rfl) rfl rfl) rfl rfl) rfl rfl) rfl rfl) rfl) iv71 iv72 iv73)
        · exact g_retV dX12_kindIs_54 rfl (hQ _ hBc62 (FrM.c (FrM.c (FrM.c FrM.rf hE16_38 rfl) hFc58 rfl) hFc62 rfl) (by have q0 := b0_3 hBc62; have q1 := b0_4 hBc62; have q2 := b0_5 hBc62; omega) (by have q0 := b0_4 hBc62; omega) (by have q0 := b0_8 hBc62; omega) (by have q0 := b0_8 hBc62; have q1 := (((hFc62.1 38 rfl).trans ((hFc58.1 38 rfl).trans ((hE16_38.1 38 rfl).trans rfl))) : Pc62 0 38 = (P 0 38)); have q2 := b0_38 hB; omega) (KVP.fr (F := ([3, 4, 5, 6, 7, 8, 9, 12], [])) v_KVP (FrM.c (FrM.c (FrM.c FrM.rf hE16_38 rfl) hFc58 rfl) hFc62 rfl) rfl) (KC.fr (F := ([3, 4, 5, 6, 7, 8, 9, 12], [])) v_KC (FrM.c (FrM.c (FrM.c FrM.rf hE16_38 rfl) hFc58 rfl) hFc62 rfl) rfl) (CF.fr (F := ([3, 4, 5, 6, 7, 8, 9, 12], [])) v_CF (FrM.c (FrM.c (FrM.c FrM.rf hE16_38 rfl) hFc58 rfl) hFc62 rfl) rfl) (ZT.fr (F := ([3, 4, 5, 6, 7, 8, 9, 12], [])) v_ZT (FrM.c (FrM.c (FrM.c FrM.rf hE16_38 rfl) hFc58 rfl) hFc62 rfl) rfl) (ZO.fr (F := ([3, 4, 5, 6, 7, 8, 9, 12], [])) v_ZO (FrM.c (FrM.c (FrM.c FrM.rf hE16_38 rfl) hFc58 rfl) hFc62 rfl) rfl) (ZC.fr (F := ([3, 4, 5, 6, 7, 8, 9, 12], [])) v_ZC (FrM.c (FrM.c (FrM.c FrM.rf hE16_38 rfl) hFc58 rfl) hFc62 rfl) rfl))
      · exact g_retV dX12_kindIs_41 rfl (hQ _ hBc58 (FrM.c (FrM.c FrM.rf hE16_38 rfl) hFc58 rfl) (by have q0 := b0_3 hBc58; have q1 := b0_4 hBc58; have q2 := b0_5 hBc58; omega) (by have q0 := b0_4 hBc58; omega) (by have q0 := b0_8 hBc58; omega) (by have q0 := b0_8 hBc58; have q1 := (((hFc58.1 38 rfl).trans ((hE16_38.1 38 rfl).trans rfl)) : Pc58 0 38 = (P 0 38)); have q2 := b0_38 hB; omega) (KVP.fr (F := ([3, 4, 5, 6, 7, 8, 9, 12], [])) v_KVP (FrM.c (FrM.c FrM.rf hE16_38 rfl) hFc58 rfl) rfl) (KC.fr (F := ([3, 4, 5, 6, 7, 8, 9, 12], [])) v_KC (FrM.c (FrM.c FrM.rf hE16_38 rfl) hFc58 rfl) rfl) (CF.fr (F := ([3, 4, 5, 6, 7, 8, 9, 12], [])) v_CF (FrM.c (FrM.c FrM.rf hE16_38 rfl) hFc58 rfl) rfl) (ZT.fr (F := ([3, 4, 5, 6, 7, 8, 9, 12], [])) v_ZT (FrM.c (FrM.c FrM.rf hE16_38 rfl) hFc58 rfl) rfl) (ZO.fr (F := ([3, 4, 5, 6, 7, 8, 9, 12], [])) v_ZO (FrM.c (FrM.c FrM.rf hE16_38 rfl) hFc58 rfl) rfl) (ZC.fr (F := ([3, 4, 5, 6, 7, 8, 9, 12], [])) v_ZC (FrM.c (FrM.c FrM.rf hE16_38 rfl) hFc58 rfl) rfl))
  refine g_if_eq (tgt := 16) dX12_kindIs_4 (by decide) ⟨by have q0 := b0_38 hB; omega, by have q0 := b0_38 hB; omega⟩ (fun k74 => ?_) (fun k74 => ?_)
  · refine g_forget (l1 := [(0, vR 0)]) (by intro q hq; simp only [List.mem_cons, List.not_mem_nil, or_false] at hq ⊢; rcases hq with rfl <;> simp) ?_
    exact J16_38 _ hB FrM.rf (by have q0 := b0_8 hB; omega) (by have q0 := b0_8 hB; omega) (by have q0 := b0_4 hB; omega) (by have q0 := b0_3 hB; have q1 := b0_4 hB; have q2 := b0_5 hB; omega)
  · refine g_aload_n dX12_kindIs_7 rfl ?_
    refine g_iconst dX12_kindIs_8 ?_
    refine g_aload_n dX12_kindIs_9 rfl ?_
    refine m_g4 (z := (P 0 4)) rfl dX12_kindIs_10 rfl ?_
    have f75 := b0_4 hB
    refine g_vV (av := [vI 1, vI (P 0 4)]) (o := 0) (st := []) (m_X12_blame G P 1 (P 0 4) (by decide) ⟨by have q0 := b0_4 hB; omega, by have q0 := b0_4 hB; omega⟩ hB  _ (fun Pc76 hBc76 hFc76 gc76_f gc76_pe => ⟨rfl, ?_⟩)) cf_X12_blame t_1701 rfl (by decide) rfl rfl rfl (Nat.le_of_ble_eq_true rfl) (by decide) rfl dX12_kindIs_13
    refine g_forget (l1 := [(0, vR 0)]) (by intro q hq; simp only [List.mem_cons, List.not_mem_nil, or_false] at hq ⊢; rcases hq with rfl <;> simp) ?_
    exact J16_38 _ hBc76 (FrM.c FrM.rf hFc76 rfl) (by have q0 := b0_8 hBc76; omega) (by have q0 := b0_8 hBc76; omega) (by have q0 := (((hFc76.1 4 rfl).trans rfl) : Pc76 0 4 = (P 0 4)); have q1 := b0_4 hB; omega) (by have q0 := (((hFc76.1 3 rfl).trans rfl) : Pc76 0 3 = (P 0 3)); have q1 := b0_3 hB; have q2 := (((hFc76.1 4 rfl).trans rfl) : Pc76 0 4 = (P 0 4)); have q3 := b0_4 hB; have q4 := (((hFc76.1 5 rfl).trans rfl) : Pc76 0 5 = (P 0 5)); have q5 := b0_5 hB; omega)
