/-! Contracts of the reference: m7. -/
set_option maxRecDepth 100000 in
set_option maxHeartbeats 4000000 in
theorem m_X12_known (G : GT) (P : PH) (a1 : Int) (h_a1 : (-1) ≤ a1 ∧ a1 ≤ 4) (hB : BdM P) (p_lx : (P 0 3 = 0 ∨ P 0 4 + 1 ≤ P 0 5) ∧ P 0 4 ≤ P 0 5) (Q : Option PV → PH → Prop) (hQ : ∀ (r : Int) (_ : 0 ≤ r ∧ r ≤ 4) (P1 : PH) (_ : BdM P1) (_ : FrM ([8, 9], []) P P1) (_ : (P1 0 3 = 0 ∨ P1 0 4 + 1 ≤ P1 0 5) ∧ P1 0 4 ≤ P1 0 5) (_ : P 0 4 ≤ P1 0 4) (_ : P 0 8 ≤ 0 ∨ 0 < P1 0 8) (_ : 0 < P1 0 8 ∨ r = 4 ∨ (r < a1 ∧ 1 ≤ P1 3 (4 * P 0 37 + r))), Q (some (vI r)) P1) : Ct WSM G 3 iX12_known [vR 0, vI a1] P Q := by
  refine Ct.of (by decide) (l0 := [(0, vR 0), (1, vI a1)]) rfl (Nat.le_of_ble_eq_true rfl) ?_
  refine g_aload_n dX12_known_0 rfl ?_
  refine g_vV (av := []) (o := 0) (st := []) (m_X12_lex G P  hB  _ (fun Pc1 hBc1 hFc1 gc1_pe => ⟨rfl, ?_⟩)) cf_X12_lex t_1697 rfl (by decide) rfl rfl rfl (Nat.le_of_ble_eq_true rfl) (by decide) rfl dX12_known_1
  refine g_aload_n dX12_known_4 rfl ?_
  refine m_g8 (z := (Pc1 0 8)) rfl dX12_known_5 rfl ?_
  have f2 := b0_8 hBc1
  refine g_if_le (tgt := 13) dX12_known_8 (by decide) ⟨by have q0 := b0_8 hBc1; omega, by have q0 := b0_8 hBc1; omega⟩ (fun k3 => ?_) (fun k3 => ?_)
  · refine g_aload_n dX12_known_13 rfl ?_
    refine g_ldc2 (z := 7239021) dX12_known_14 t_1732 (by decide) ?_
    refine g_vI (av := [vL 7239021]) (o := 0) (st := []) (m_X12_isWord G Pc1 7239021 (by decide) hBc1  _ (fun rc4 hc4 gc4_w => ⟨rc4, rfl, ?_⟩)) cf_X12_isWord t_1706 rfl (by decide) rfl rfl rfl (Nat.le_of_ble_eq_true rfl) (by decide) rfl dX12_known_17
    have z5 : Pc1 0 3 = (P 0 3) := ((hFc1.1 3 rfl).trans rfl)
    have z6 : Pc1 0 7 = (P 0 7) := ((hFc1.1 7 rfl).trans rfl)
    refine g_istore_n (l1 := [(2, vI rc4), (0, vR 0), (1, vI a1)]) dX12_known_20 (by decide) rfl ?_
    refine g_aload_n dX12_known_21 rfl ?_
    refine m_g3 (z := (P 0 3)) rfl dX12_known_22 ((hFc1.1 3 rfl).trans rfl) ?_
    refine g_iconst dX12_known_25 ?_
    have f7 := b0_3 hB
    have J53_151 : ∀ (H53_151 : PH) (hB53_151 : BdM H53_151) (hE53_151 : FrM ([8, 9], []) Pc1 H53_151), Go WSM G 3 iX12_known 53 [(0, vR 0), (1, vI a1), (2, vI rc4)] [] H53_151 Q := by
      intro H53_151 hB53_151 hE53_151
      refine g_aload_n dX12_known_53 rfl ?_
      refine m_g8 (z := (H53_151 0 8)) rfl dX12_known_54 rfl ?_
      have f153 := b0_8 hB53_151
      have J64_220 : ∀ (_ : True), Go WSM G 3 iX12_known 64 [(0, vR 0), (1, vI a1), (2, vI rc4)] [] H53_151 Q := by
        intro _
        refine g_iconst dX12_known_64 ?_
        refine g_goto (tgt := 76) dX12_known_65 (by decide) ?_
        refine g_istore_n (l1 := [(3, vI 4), (0, vR 0), (1, vI a1), (2, vI rc4)]) dX12_known_76 (by decide) rfl ?_
        refine g_aload_n dX12_known_77 rfl ?_
        refine m_g8 (z := (H53_151 0 8)) rfl dX12_known_78 rfl ?_
        have J123_234 : ∀ (H123_234 : PH) (hB123_234 : BdM H123_234) (hE123_234 : FrM ([8, 9], []) H53_151 H123_234) (i123_0_234 : 0 < H123_234 0 8 ∨ 4 = 4 ∨ (0 ≤ 4 ∧ 4 < a1 ∧ 1 ≤ H123_234 3 (4 * P 0 37 + 4))), Go WSM G 3 iX12_known 123 [(0, vR 0), (3, vI 4)] [] H123_234 Q := by
          intro H123_234 hB123_234 hE123_234 i123_0_234
          refine g_aload_n dX12_known_123 rfl ?_
          refine m_g8 (z := (H123_234 0 8)) rfl dX12_known_124 rfl ?_
          have f236 := b0_8 hB123_234
          refine g_if_le (tgt := 134) dX12_known_127 (by decide) ⟨by have q0 := b0_8 hB123_234; omega, by have q0 := b0_8 hB123_234; omega⟩ (fun k237 => ?_) (fun k237 => ?_)
          · refine g_iload_n dX12_known_134 rfl ?_
            exact g_retI dX12_known_135 rfl (hQ 4 (by decide) _ hB123_234 (FrM.c (FrM.c (FrM.c FrM.rf hFc1 rfl) hE53_151 rfl) hE123_234 rfl) (by have q0 := (((hE123_234.1 3 rfl).trans ((hE53_151.1 3 rfl).trans ((hFc1.1 3 rfl).trans rfl))) : H123_234 0 3 = (P 0 3)); have q1 := b0_3 hB; have q2 := (((hE123_234.1 4 rfl).trans ((hE53_151.1 4 rfl).trans ((hFc1.1 4 rfl).trans rfl))) : H123_234 0 4 = (P 0 4)); have q3 := b0_4 hB; have q4 := (((hE123_234.1 5 rfl).trans ((hE53_151.1 5 rfl).trans ((hFc1.1 5 rfl).trans rfl))) : H123_234 0 5 = (P 0 5)); have q5 := b0_5 hB; omega) (by have q0 := (((hE123_234.1 4 rfl).trans ((hE53_151.1 4 rfl).trans ((hFc1.1 4 rfl).trans rfl))) : H123_234 0 4 = (P 0 4)); have q1 := b0_4 hB; omega) (by have q0 := b0_8 hB123_234; omega) (by have q0 := b0_8 hB123_234; have q1 := (((congrFun (hE123_234.2 3 rfl rfl) _).trans ((congrFun (hE53_151.2 3 rfl rfl) _).trans ((congrFun (hFc1.2 3 rfl rfl) _).trans rfl))) : H123_234 3 (4 * H123_234 0 37 + 4) = (P 3 (4 * H123_234 0 37 + 4))); have q2 := bl_3 (k := (4 * H123_234 0 37 + 4)) hB; omega))
          · refine g_iconst dX12_known_130 ?_
            refine g_goto (tgt := 135) dX12_known_131 (by decide) ?_
            exact g_retI dX12_known_135 rfl (hQ 4 (by decide) _ hB123_234 (FrM.c (FrM.c (FrM.c FrM.rf hFc1 rfl) hE53_151 rfl) hE123_234 rfl) (by have q0 := (((hE123_234.1 3 rfl).trans ((hE53_151.1 3 rfl).trans ((hFc1.1 3 rfl).trans rfl))) : H123_234 0 3 = (P 0 3)); have q1 := b0_3 hB; have q2 := (((hE123_234.1 4 rfl).trans ((hE53_151.1 4 rfl).trans ((hFc1.1 4 rfl).trans rfl))) : H123_234 0 4 = (P 0 4)); have q3 := b0_4 hB; have q4 := (((hE123_234.1 5 rfl).trans ((hE53_151.1 5 rfl).trans ((hFc1.1 5 rfl).trans rfl))) : H123_234 0 5 = (P 0 5)); have q5 := b0_5 hB; omega) (by have q0 := (((hE123_234.1 4 rfl).trans ((hE53_151.1 4 rfl).trans ((hFc1.1 4 rfl).trans rfl))) : H123_234 0 4 = (P 0 4)); have q1 := b0_4 hB; omega) (by have q0 := b0_8 hB123_234; omega) (by have q0 := b0_8 hB123_234; have q1 := (((congrFun (hE123_234.2 3 rfl rfl) _).trans ((congrFun (hE53_151.2 3 rfl rfl) _).trans ((congrFun (hFc1.2 3 rfl rfl) _).trans rfl))) : H123_234 3 (4 * H123_234 0 37 + 4) = (P 3 (4 * H123_234 0 37 + 4))); have q2 := bl_3 (k := (4 * H123_234 0 37 + 4)) hB; omega))
        refine g_if_ne (tgt := 123) dX12_known_81 (by decide) ⟨by have q0 := b0_8 hB53_151; omega, by have q0 := b0_8 hB53_151; omega⟩ (fun k238 => ?_) (fun k238 => ?_)
        · refine g_forget (l1 := [(0, vR 0), (3, vI 4)]) (by intro q hq; simp only [List.mem_cons, List.not_mem_nil, or_false] at hq ⊢; rcases hq with rfl | rfl <;> simp) ?_
          exact J123_234 _ hB53_151 FrM.rf (by have q0 := b0_8 hB53_151; have q1 := (((congrFun (hE53_151.2 3 rfl rfl) _).trans ((congrFun (hFc1.2 3 rfl rfl) _).trans rfl)) : H53_151 3 (4 * P 0 37 + 4) = (P 3 (4 * P 0 37 + 4))); have q2 := bl_3 (k := (4 * P 0 37 + 4)) hB; omega)
        · refine g_iload_n dX12_known_84 rfl ?_
          refine g_if_ne (tgt := 123) dX12_known_85 (by decide) ⟨by omega, by omega⟩ (fun k239 => ?_) (fun k239 => ?_)
          · refine g_forget (l1 := [(0, vR 0), (3, vI 4)]) (by intro q hq; simp only [List.mem_cons, List.not_mem_nil, or_false] at hq ⊢; rcases hq with rfl | rfl <;> simp) ?_
            exact J123_234 _ hB53_151 FrM.rf (by have q0 := b0_8 hB53_151; have q1 := (((congrFun (hE53_151.2 3 rfl rfl) _).trans ((congrFun (hFc1.2 3 rfl rfl) _).trans rfl)) : H53_151 3 (4 * P 0 37 + 4) = (P 3 (4 * P 0 37 + 4))); have q2 := bl_3 (k := (4 * P 0 37 + 4)) hB; omega)
          · refine g_iload_n dX12_known_88 rfl ?_
            refine g_iconst dX12_known_89 ?_
            have J114_243 : ∀ (_ : True), Go WSM G 3 iX12_known 114 [(0, vR 0), (3, vI 4)] [] H53_151 Q := by
              intro _
              refine g_aload_n dX12_known_114 rfl ?_
              refine g_iconst dX12_known_115 ?_
              refine g_aload_n dX12_known_116 rfl ?_
              refine m_g4 (z := (P 0 4)) rfl dX12_known_117 ((hE53_151.1 4 rfl).trans ((hFc1.1 4 rfl).trans rfl)) ?_
              have f245 := b0_4 hB
              refine g_vV (av := [vI 3, vI (P 0 4)]) (o := 0) (st := []) (m_X12_blame G H53_151 3 (P 0 4) (by decide) ⟨by have q0 := b0_4 hB; omega, by have q0 := b0_4 hB; omega⟩ hB53_151  _ (fun Pc246 hBc246 hFc246 gc246_f gc246_pe => ⟨rfl, ?_⟩)) cf_X12_blame t_1701 rfl (by decide) rfl rfl rfl (Nat.le_of_ble_eq_true rfl) (by decide) rfl dX12_known_120
              refine g_forget (l1 := [(0, vR 0), (3, vI 4)]) (by intro q hq; simp only [List.mem_cons, List.not_mem_nil, or_false] at hq ⊢; rcases hq with rfl | rfl <;> simp) ?_
              exact J123_234 _ hBc246 (FrM.c FrM.rf hFc246 rfl) (by have q0 := b0_8 hBc246; have q1 := (((congrFun (hFc246.2 3 rfl rfl) _).trans ((congrFun (hE53_151.2 3 rfl rfl) _).trans ((congrFun (hFc1.2 3 rfl rfl) _).trans rfl))) : Pc246 3 (4 * P 0 37 + 4) = (P 3 (4 * P 0 37 + 4))); have q2 := bl_3 (k := (4 * P 0 37 + 4)) hB; omega)
            refine g_icmp_eq (tgt := 114) dX12_known_90 (by decide) (by decide) (by decide) (fun k247 => by exfalso; omega) (fun k247 => ?_)
            refine g_iload_n dX12_known_93 rfl ?_
            refine g_iload_n dX12_known_94 rfl ?_
            refine g_icmp_ge (tgt := 114) dX12_known_95 (by decide) (by decide) ⟨by omega, by omega⟩ (fun k248 => ?_) (fun k248 => by exfalso; omega)
            refine g_forget (l1 := [(0, vR 0), (3, vI 4)]) (by intro q hq; simp only [List.mem_cons, List.not_mem_nil, or_false] at hq ⊢; rcases hq with rfl | rfl <;> simp) ?_
            exact J114_243 trivial
      refine g_if_gt (tgt := 64) dX12_known_57 (by decide) ⟨by have q0 := b0_8 hB53_151; omega, by have q0 := b0_8 hB53_151; omega⟩ (fun k249 => ?_) (fun k249 => ?_)
      · refine g_forget (l1 := [(0, vR 0), (1, vI a1), (2, vI rc4)]) (by intro q hq; simp only [List.mem_cons, List.not_mem_nil, or_false] at hq ⊢; rcases hq with rfl | rfl | rfl <;> simp) ?_
        exact J64_220 trivial
      · refine g_iload_n dX12_known_60 rfl ?_
        refine g_if_eq (tgt := 68) dX12_known_61 (by decide) ⟨by omega, by omega⟩ (fun k250 => ?_) (fun k250 => ?_)
        · refine g_aload_n dX12_known_68 rfl ?_
          refine g_aload_n dX12_known_69 rfl ?_
          refine m_g7 (z := (P 0 7)) rfl dX12_known_70 ((hE53_151.1 7 rfl).trans ((hFc1.1 7 rfl).trans rfl)) ?_
          have f251 := b0_7 hB
          refine g_vI (av := [vL (P 0 7)]) (o := 0) (st := []) (m_X12_kindNamed G H53_151 (P 0 7) ⟨by have q0 := b0_7 hB; omega, by have q0 := b0_7 hB; omega⟩ hB53_151  _ (fun rc252 hc252 gc252_k => ⟨rc252, rfl, ?_⟩)) cf_X12_kindNamed t_1736 rfl (by decide) rfl rfl rfl (Nat.le_of_ble_eq_true rfl) (by decide) rfl dX12_known_73
          have z253 : H53_151 0 37 = (P 0 37) := ((hE53_151.1 37 rfl).trans ((hFc1.1 37 rfl).trans rfl))
          refine g_istore_n (l1 := [(3, vI rc252), (0, vR 0), (1, vI a1), (2, vI rc4)]) dX12_known_76 (by decide) rfl ?_
          refine g_aload_n dX12_known_77 rfl ?_
          refine m_g8 (z := (H53_151 0 8)) rfl dX12_known_78 rfl ?_
          have J123_270 : ∀ (H123_270 : PH) (hB123_270 : BdM H123_270) (hE123_270 : FrM ([8, 9], []) H53_151 H123_270) (i123_0_270 : 0 < H123_270 0 8 ∨ rc252 = 4 ∨ (0 ≤ rc252 ∧ rc252 < a1 ∧ 1 ≤ H123_270 3 (4 * P 0 37 + rc252))), Go WSM G 3 iX12_known 123 [(0, vR 0), (3, vI rc252)] [] H123_270 Q := by
            intro H123_270 hB123_270 hE123_270 i123_0_270
            refine g_aload_n dX12_known_123 rfl ?_
            refine m_g8 (z := (H123_270 0 8)) rfl dX12_known_124 rfl ?_
            have f272 := b0_8 hB123_270
            refine g_if_le (tgt := 134) dX12_known_127 (by decide) ⟨by have q0 := b0_8 hB123_270; omega, by have q0 := b0_8 hB123_270; omega⟩ (fun k273 => ?_) (fun k273 => ?_)
            · refine g_iload_n dX12_known_134 rfl ?_
              exact g_retI dX12_known_135 rfl (hQ rc252 ⟨by omega, by omega⟩ _ hB123_270 (FrM.c (FrM.c (FrM.c FrM.rf hFc1 rfl) hE53_151 rfl) hE123_270 rfl) (by have q0 := (((hE123_270.1 3 rfl).trans ((hE53_151.1 3 rfl).trans ((hFc1.1 3 rfl).trans rfl))) : H123_270 0 3 = (P 0 3)); have q1 := b0_3 hB; have q2 := (((hE123_270.1 4 rfl).trans ((hE53_151.1 4 rfl).trans ((hFc1.1 4 rfl).trans rfl))) : H123_270 0 4 = (P 0 4)); have q3 := b0_4 hB; have q4 := (((hE123_270.1 5 rfl).trans ((hE53_151.1 5 rfl).trans ((hFc1.1 5 rfl).trans rfl))) : H123_270 0 5 = (P 0 5)); have q5 := b0_5 hB; omega) (by have q0 := (((hE123_270.1 4 rfl).trans ((hE53_151.1 4 rfl).trans ((hFc1.1 4 rfl).trans rfl))) : H123_270 0 4 = (P 0 4)); have q1 := b0_4 hB; omega) (by have q0 := b0_8 hB123_270; omega) (by have q0 := b0_8 hB123_270; have q1 := (((congrFun (hE123_270.2 3 rfl rfl) _).trans ((congrFun (hE53_151.2 3 rfl rfl) _).trans ((congrFun (hFc1.2 3 rfl rfl) _).trans rfl))) : H123_270 3 (4 * H123_270 0 37 + rc252) = (P 3 (4 * H123_270 0 37 + rc252))); have q2 := bl_3 (k := (4 * H123_270 0 37 + rc252)) hB; omega))
            · refine g_iconst dX12_known_130 ?_
              refine g_goto (tgt := 135) dX12_known_131 (by decide) ?_
              exact g_retI dX12_known_135 rfl (hQ 4 (by decide) _ hB123_270 (FrM.c (FrM.c (FrM.c FrM.rf hFc1 rfl) hE53_151 rfl) hE123_270 rfl) (by have q0 := (((hE123_270.1 3 rfl).trans ((hE53_151.1 3 rfl).trans ((hFc1.1 3 rfl).trans rfl))) : H123_270 0 3 = (P 0 3)); have q1 := b0_3 hB; have q2 := (((hE123_270.1 4 rfl).trans ((hE53_151.1 4 rfl).trans ((hFc1.1 4 rfl).trans rfl))) : H123_270 0 4 = (P 0 4)); have q3 := b0_4 hB; have q4 := (((hE123_270.1 5 rfl).trans ((hE53_151.1 5 rfl).trans ((hFc1.1 5 rfl).trans rfl))) : H123_270 0 5 = (P 0 5)); have q5 := b0_5 hB; omega) (by have q0 := (((hE123_270.1 4 rfl).trans ((hE53_151.1 4 rfl).trans ((hFc1.1 4 rfl).trans rfl))) : H123_270 0 4 = (P 0 4)); have q1 := b0_4 hB; omega) (by have q0 := b0_8 hB123_270; omega) (by have q0 := b0_8 hB123_270; have q1 := (((congrFun (hE123_270.2 3 rfl rfl) _).trans ((congrFun (hE53_151.2 3 rfl rfl) _).trans ((congrFun (hFc1.2 3 rfl rfl) _).trans rfl))) : H123_270 3 (4 * H123_270 0 37 + 4) = (P 3 (4 * H123_270 0 37 + 4))); have q2 := bl_3 (k := (4 * H123_270 0 37 + 4)) hB; omega))
          refine g_if_ne (tgt := 123) dX12_known_81 (by decide) ⟨by have q0 := b0_8 hB53_151; omega, by have q0 := b0_8 hB53_151; omega⟩ (fun k274 => by exfalso; have q0 := b0_8 hB53_151; omega) (fun k274 => ?_)
          refine g_iload_n dX12_known_84 rfl ?_
          refine g_if_ne (tgt := 123) dX12_known_85 (by decide) ⟨by omega, by omega⟩ (fun k275 => by exfalso; omega) (fun k275 => ?_)
          refine g_iload_n dX12_known_88 rfl ?_
          refine g_iconst dX12_known_89 ?_
          have J114_281 : ∀ (_ : True), Go WSM G 3 iX12_known 114 [(0, vR 0), (3, vI rc252)] [] H53_151 Q := by
            intro _
            refine g_aload_n dX12_known_114 rfl ?_
            refine g_iconst dX12_known_115 ?_
            refine g_aload_n dX12_known_116 rfl ?_
            refine m_g4 (z := (P 0 4)) rfl dX12_known_117 ((hE53_151.1 4 rfl).trans ((hFc1.1 4 rfl).trans rfl)) ?_
            have f283 := b0_4 hB
            refine g_vV (av := [vI 3, vI (P 0 4)]) (o := 0) (st := []) (m_X12_blame G H53_151 3 (P 0 4) (by decide) ⟨by have q0 := b0_4 hB; omega, by have q0 := b0_4 hB; omega⟩ hB53_151  _ (fun Pc284 hBc284 hFc284 gc284_f gc284_pe => ⟨rfl, ?_⟩)) cf_X12_blame t_1701 rfl (by decide) rfl rfl rfl (Nat.le_of_ble_eq_true rfl) (by decide) rfl dX12_known_120
            refine g_forget (l1 := [(0, vR 0), (3, vI rc252)]) (by intro q hq; simp only [List.mem_cons, List.not_mem_nil, or_false] at hq ⊢; rcases hq with rfl | rfl <;> simp) ?_
            exact J123_270 _ hBc284 (FrM.c FrM.rf hFc284 rfl) (by have q0 := b0_8 hBc284; have q1 := (((congrFun (hFc284.2 3 rfl rfl) _).trans ((congrFun (hE53_151.2 3 rfl rfl) _).trans ((congrFun (hFc1.2 3 rfl rfl) _).trans rfl))) : Pc284 3 (4 * P 0 37 + rc252) = (P 3 (4 * P 0 37 + rc252))); have q2 := bl_3 (k := (4 * P 0 37 + rc252)) hB; omega)
          refine g_icmp_eq (tgt := 114) dX12_known_90 (by decide) ⟨by omega, by omega⟩ (by decide) (fun k285 => ?_) (fun k285 => ?_)
          · refine g_forget (l1 := [(0, vR 0), (3, vI rc252)]) (by intro q hq; simp only [List.mem_cons, List.not_mem_nil, or_false] at hq ⊢; rcases hq with rfl | rfl <;> simp) ?_
            exact J114_281 trivial
          · refine g_iload_n dX12_known_93 rfl ?_
            refine g_iload_n dX12_known_94 rfl ?_
            refine g_icmp_ge (tgt := 114) dX12_known_95 (by decide) ⟨by omega, by omega⟩ ⟨by omega, by omega⟩ (fun k286 => ?_) (fun k286 => ?_)
            · refine g_forget (l1 := [(0, vR 0), (3, vI rc252)]) (by intro q hq; simp only [List.mem_cons, List.not_mem_nil, or_false] at hq ⊢; rcases hq with rfl | rfl <;> simp) ?_
              exact J114_281 trivial
            · refine g_aload_n dX12_known_98 rfl ?_
              refine m_g15 rfl dX12_known_99 ?_
              refine g_iconst dX12_known_102 ?_
              refine g_aload_n dX12_known_103 rfl ?_
              refine m_g37 (z := (P 0 37)) rfl dX12_known_104 ((hE53_151.1 37 rfl).trans ((hFc1.1 37 rfl).trans rfl)) ?_
              refine g_imul dX12_known_107 ?_
              refine g_iload_n dX12_known_108 rfl ?_
              refine g_iadd dX12_known_109 ?_
              refine m_l3 (z := (P 3 ((4 * (P 0 37)) + rc252))) dX12_known_110 ⟨by have q0 := b0_37 hB; omega, by have q0 := b0_37 hB; omega⟩ ((congrFun (hE53_151.2 3 rfl rfl) _).trans ((congrFun (hFc1.2 3 rfl rfl) _).trans rfl)) ?_
              have f287 := bl_3 (k := ((4 * (P 0 37)) + rc252)) hB
              refine g_if_ne (tgt := 123) dX12_known_111 (by decide) ⟨by have q0 := bl_3 (k := ((4 * (P 0 37)) + rc252)) hB; omega, by have q0 := bl_3 (k := ((4 * (P 0 37)) + rc252)) hB; omega⟩ (fun k288 => ?_) (fun k288 => ?_)
              · refine g_forget (l1 := [(0, vR 0), (3, vI rc252)]) (by intro q hq; simp only [List.mem_cons, List.not_mem_nil, or_false] at hq ⊢; rcases hq with rfl | rfl <;> simp) ?_
                exact J123_270 _ hB53_151 FrM.rf (by have q0 := b0_8 hB53_151; have q1 := (((congrFun (hE53_151.2 3 rfl rfl) _).trans ((congrFun (hFc1.2 3 rfl rfl) _).trans rfl)) : H53_151 3 (4 * P 0 37 + rc252) = (P 3 (4 * P 0 37 + rc252))); have q2 := bl_3 (k := (4 * P 0 37 + rc252)) hB; omega)
              · refine g_forget (l1 := [(0, vR 0), (3, vI rc252)]) (by intro q hq; simp only [List.mem_cons, List.not_mem_nil, or_false] at hq ⊢; rcases hq with rfl | rfl <;> simp) ?_
                exact J114_281 trivial
        · refine g_forget (l1 := [(0, vR 0), (1, vI a1), (2, vI rc4)]) (by intro q hq; simp only [List.mem_cons, List.not_mem_nil, or_false] at hq ⊢; rcases hq with rfl | rfl | rfl <;> simp) ?_
          exact J64_220 trivial
    have J44_288 : ∀ (_ : True), Go WSM G 3 iX12_known 44 [(0, vR 0), (1, vI a1), (2, vI rc4)] [] Pc1 Q := by
      intro _
      refine g_aload_n dX12_known_44 rfl ?_
      refine g_iconst dX12_known_45 ?_
      refine g_aload_n dX12_known_46 rfl ?_
      refine m_g4 (z := (P 0 4)) rfl dX12_known_47 ((hFc1.1 4 rfl).trans rfl) ?_
      have f290 := b0_4 hB
      refine g_vV (av := [vI 1, vI (P 0 4)]) (o := 0) (st := []) (m_X12_blame G Pc1 1 (P 0 4) (by decide) ⟨by have q0 := b0_4 hB; omega, by have q0 := b0_4 hB; omega⟩ hBc1  _ (fun Pc291 hBc291 hFc291 gc291_f gc291_pe => ⟨rfl, ?_⟩)) cf_X12_blame t_1701 rfl (by decide) rfl rfl rfl (Nat.le_of_ble_eq_true rfl) (by decide) rfl dX12_known_50
      refine g_forget (l1 := [(0, vR 0), (1, vI a1), (2, vI rc4)]) (by intro q hq; simp only [List.mem_cons, List.not_mem_nil, or_false] at hq ⊢; rcases hq with rfl | rfl | rfl <;> simp) ?_
      exact J53_151 _ hBc291 (FrM.c FrM.rf hFc291 rfl)
    refine g_icmp_ne (tgt := 44) dX12_known_26 (by decide) ⟨by have q0 := b0_3 hB; omega, by have q0 := b0_3 hB; omega⟩ (by decide) (fun k292 => ?_) (fun k292 => ?_)
    · refine g_forget (l1 := [(0, vR 0), (1, vI a1), (2, vI rc4)]) (by intro q hq; simp only [List.mem_cons, List.not_mem_nil, or_false] at hq ⊢; rcases hq with rfl | rfl | rfl <;> simp) ?_
      exact J44_288 trivial
    · refine g_aload_n dX12_known_29 rfl ?_
      refine g_aload_n dX12_known_30 rfl ?_
      refine m_g7 (z := (P 0 7)) rfl dX12_known_31 ((hFc1.1 7 rfl).trans rfl) ?_
      have f293 := b0_7 hB
      refine g_vI (av := [vL (P 0 7)]) (o := 0) (st := []) (m_X12_isOwn G Pc1 (P 0 7) ⟨by have q0 := b0_7 hB; omega, by have q0 := b0_7 hB; omega⟩ hBc1  _ (fun rc294 hc294 => ⟨rc294, rfl, ?_⟩)) cf_X12_isOwn t_1722 rfl (by decide) rfl rfl rfl (Nat.le_of_ble_eq_true rfl) (by decide) rfl dX12_known_34
      refine g_if_eq (tgt := 53) dX12_known_37 (by decide) ⟨by omega, by omega⟩ (fun k295 => ?_) (fun k295 => ?_)
      · refine g_forget (l1 := [(0, vR 0), (1, vI a1), (2, vI rc4)]) (by intro q hq; simp only [List.mem_cons, List.not_mem_nil, or_false] at hq ⊢; rcases hq with rfl | rfl | rfl <;> simp) ?_
        exact J53_151 _ hBc1 FrM.rf
      · refine g_iload_n dX12_known_40 rfl ?_
        refine g_if_ne (tgt := 53) dX12_known_41 (by decide) ⟨by omega, by omega⟩ (fun k296 => ?_) (fun k296 => ?_)
        · refine g_forget (l1 := [(0, vR 0), (1, vI a1), (2, vI rc4)]) (by intro q hq; simp only [List.mem_cons, List.not_mem_nil, or_false] at hq ⊢; rcases hq with rfl | rfl | rfl <;> simp) ?_
          exact J53_151 _ hBc1 FrM.rf
        · refine g_forget (l1 := [(0, vR 0), (1, vI a1), (2, vI rc4)]) (by intro q hq; simp only [List.mem_cons, List.not_mem_nil, or_false] at hq ⊢; rcases hq with rfl | rfl | rfl <;> simp) ?_
          exact J44_288 trivial
  · refine g_iconst dX12_known_11 ?_
    exact g_retI dX12_known_12 rfl (hQ 0 (by decide) _ hBc1 (FrM.c FrM.rf hFc1 rfl) (by have q0 := (((hFc1.1 3 rfl).trans rfl) : Pc1 0 3 = (P 0 3)); have q1 := b0_3 hB; have q2 := (((hFc1.1 4 rfl).trans rfl) : Pc1 0 4 = (P 0 4)); have q3 := b0_4 hB; have q4 := (((hFc1.1 5 rfl).trans rfl) : Pc1 0 5 = (P 0 5)); have q5 := b0_5 hB; omega) (by have q0 := (((hFc1.1 4 rfl).trans rfl) : Pc1 0 4 = (P 0 4)); have q1 := b0_4 hB; omega) (by have q0 := b0_8 hBc1; omega) (by have q0 := b0_8 hBc1; have q1 := (((congrFun (hFc1.2 3 rfl rfl) _).trans rfl) : Pc1 3 (4 * Pc1 0 37 + 0) = (P 3 (4 * Pc1 0 37 + 0))); have q2 := bl_3 (k := (4 * Pc1 0 37 + 0)) hB; omega))
set_option maxRecDepth 100000 in
set_option maxHeartbeats 4000000 in
theorem m_X12_ruleIs (G : GT) (P : PH) (hB : BdM P) (p_lx : (P 0 3 = 0 ∨ P 0 4 + 1 ≤ P 0 5) ∧ P 0 4 ≤ P 0 5) (Q : Option PV → PH → Prop) (hQ : ∀ (P1 : PH) (_ : BdM P1) (_ : FrM ([3, 4, 5, 6, 7, 8, 9, 12], [15]) P P1) (_ : (P1 0 3 = 0 ∨ P1 0 4 + 1 ≤ P1 0 5) ∧ P1 0 4 ≤ P1 0 5) (_ : P 0 4 ≤ P1 0 4) (_ : P 0 8 ≤ 0 ∨ 0 < P1 0 8), Q none P1) : Ct WSM G 4 iX12_ruleIs [vR 0] P Q := by
  refine Ct.of (by decide) (l0 := [(0, vR 0)]) rfl (Nat.le_of_ble_eq_true rfl) ?_
  refine g_aload_n dX12_ruleIs_0 rfl ?_
  refine g_iconst dX12_ruleIs_1 ?_
  refine g_vI (av := [vI 0]) (o := 0) (st := []) (m_X12_isCounted G P 0 (by decide) hB (by have q0 := b0_3 hB; have q1 := b0_4 hB; have q2 := b0_5 hB; omega) _ (fun rc1 hc1 Pc1 hBc1 hFc1 gc1_lx gc1_mo gc1_pe gc1_c gc1_ad => ⟨rc1, rfl, ?_⟩)) cf_X12_isCounted t_1714 rfl (by decide) rfl rfl rfl (Nat.le_of_ble_eq_true rfl) (by decide) rfl dX12_ruleIs_2
  refine g_if_ne (tgt := 9) dX12_ruleIs_5 (by decide) ⟨by omega, by omega⟩ (fun k2 => ?_) (fun k2 => ?_)
  · refine g_aload_n dX12_ruleIs_9 rfl ?_
    refine m_g27 rfl dX12_ruleIs_10 ?_
    refine g_aload_n dX12_ruleIs_13 rfl ?_
    refine m_g37 (z := (P 0 37)) rfl dX12_ruleIs_14 ((hFc1.1 37 rfl).trans rfl) ?_
    refine g_aload_n dX12_ruleIs_17 rfl ?_
    refine g_iconst dX12_ruleIs_18 ?_
    refine g_iconst dX12_ruleIs_19 ?_
    refine g_vI (av := [vI 0, vI 3]) (o := 0) (st := [vI (P 0 37), vR 15]) (m_X12_number G Pc1 0 3 (by decide) (by decide) hBc1 (by have q0 := b0_3 hBc1; have q1 := b0_4 hBc1; have q2 := b0_5 hBc1; omega) _ (fun rc3 hc3 Pc3 hBc3 hFc3 gc3_lx gc3_mo gc3_pe gc3_ad => ⟨rc3, rfl, ?_⟩)) cf_X12_number t_1796 rfl (by decide) rfl rfl rfl (Nat.le_of_ble_eq_true rfl) (by decide) rfl dX12_ruleIs_20
    refine m_s15 dX12_ruleIs_23 ⟨by have q0 := b0_37 hB; omega, by have q0 := b0_37 hB; omega⟩ ?_
    have hB4 := ba_15 (z := rc3) (k := (P 0 37)) hBc3 ⟨by omega, by omega⟩
    exact g_retV dX12_ruleIs_24 rfl (hQ _ hB4 (FrM.a (FrM.c (FrM.c FrM.rf hFc1 rfl) hFc3 rfl) rfl rfl) (by have q0 := (((up_o (by decide)).trans rfl) : (up Pc3 15 (P 0 37) rc3) 0 3 = (Pc3 0 3)); have q1 := b0_3 hBc3; have q2 := (((up_o (by decide)).trans rfl) : (up Pc3 15 (P 0 37) rc3) 0 4 = (Pc3 0 4)); have q3 := b0_4 hBc3; have q4 := (((up_o (by decide)).trans rfl) : (up Pc3 15 (P 0 37) rc3) 0 5 = (Pc3 0 5)); have q5 := b0_5 hBc3; omega) (by have q0 := (((up_o (by decide)).trans rfl) : (up Pc3 15 (P 0 37) rc3) 0 4 = (Pc3 0 4)); have q1 := b0_4 hBc3; omega) (by have q0 := (((up_o (by decide)).trans rfl) : (up Pc3 15 (P 0 37) rc3) 0 8 = (Pc3 0 8)); have q1 := b0_8 hBc3; omega))
  · exact g_retV dX12_ruleIs_8 rfl (hQ _ hBc1 (FrM.c FrM.rf hFc1 rfl) (by have q0 := b0_3 hBc1; have q1 := b0_4 hBc1; have q2 := b0_5 hBc1; omega) (by have q0 := b0_4 hBc1; omega) (by have q0 := b0_8 hBc1; omega))
set_option maxRecDepth 100000 in
set_option maxHeartbeats 4000000 in
theorem m_X12_budgetIs (G : GT) (P : PH) (hB : BdM P) (p_lx : (P 0 3 = 0 ∨ P 0 4 + 1 ≤ P 0 5) ∧ P 0 4 ≤ P 0 5) (Q : Option PV → PH → Prop) (hQ : ∀ (P1 : PH) (_ : BdM P1) (_ : FrM ([3, 4, 5, 6, 7, 8, 9, 12], [16]) P P1) (_ : (P1 0 3 = 0 ∨ P1 0 4 + 1 ≤ P1 0 5) ∧ P1 0 4 ≤ P1 0 5) (_ : P 0 4 ≤ P1 0 4) (_ : P 0 8 ≤ 0 ∨ 0 < P1 0 8) (_ : 0 < P1 0 8 ∨ (1 ≤ P1 16 (P 0 37) ∧ P1 16 (P 0 37) ≤ 999)), Q none P1) : Ct WSM G 4 iX12_budgetIs [vR 0] P Q := by
  refine Ct.of (by decide) (l0 := [(0, vR 0)]) rfl (Nat.le_of_ble_eq_true rfl) ?_
  refine g_aload_n dX12_budgetIs_0 rfl ?_
  refine g_iconst dX12_budgetIs_1 ?_
  refine g_vI (av := [vI 0]) (o := 0) (st := []) (m_X12_isCounted G P 0 (by decide) hB (by have q0 := b0_3 hB; have q1 := b0_4 hB; have q2 := b0_5 hB; omega) _ (fun rc1 hc1 Pc1 hBc1 hFc1 gc1_lx gc1_mo gc1_pe gc1_c gc1_ad => ⟨rc1, rfl, ?_⟩)) cf_X12_isCounted t_1714 rfl (by decide) rfl rfl rfl (Nat.le_of_ble_eq_true rfl) (by decide) rfl dX12_budgetIs_2
  refine g_if_ne (tgt := 9) dX12_budgetIs_5 (by decide) ⟨by omega, by omega⟩ (fun k2 => ?_) (fun k2 => ?_)
  · refine g_aload_n dX12_budgetIs_9 rfl ?_
    refine m_g28 rfl dX12_budgetIs_10 ?_
    refine g_aload_n dX12_budgetIs_13 rfl ?_
    refine m_g37 (z := (P 0 37)) rfl dX12_budgetIs_14 ((hFc1.1 37 rfl).trans rfl) ?_
    refine g_aload_n dX12_budgetIs_17 rfl ?_
    refine g_iconst dX12_budgetIs_18 ?_
    refine g_sipush dX12_budgetIs_19 (by decide) ?_
    refine g_vI (av := [vI 1, vI 999]) (o := 0) (st := [vI (P 0 37), vR 16]) (m_X12_number G Pc1 1 999 (by decide) (by decide) hBc1 (by have q0 := b0_3 hBc1; have q1 := b0_4 hBc1; have q2 := b0_5 hBc1; omega) _ (fun rc3 hc3 Pc3 hBc3 hFc3 gc3_lx gc3_mo gc3_pe gc3_ad => ⟨rc3, rfl, ?_⟩)) cf_X12_number t_1796 rfl (by decide) rfl rfl rfl (Nat.le_of_ble_eq_true rfl) (by decide) rfl dX12_budgetIs_22
    refine m_s16 dX12_budgetIs_25 ⟨by have q0 := b0_37 hB; omega, by have q0 := b0_37 hB; omega⟩ ?_
    have hB4 := ba_16 (z := rc3) (k := (P 0 37)) hBc3 ⟨by omega, by omega⟩
    exact g_retV dX12_budgetIs_26 rfl (hQ _ hB4 (FrM.a (FrM.c (FrM.c FrM.rf hFc1 rfl) hFc3 rfl) rfl rfl) (by have q0 := (((up_o (by decide)).trans rfl) : (up Pc3 16 (P 0 37) rc3) 0 3 = (Pc3 0 3)); have q1 := b0_3 hBc3; have q2 := (((up_o (by decide)).trans rfl) : (up Pc3 16 (P 0 37) rc3) 0 4 = (Pc3 0 4)); have q3 := b0_4 hBc3; have q4 := (((up_o (by decide)).trans rfl) : (up Pc3 16 (P 0 37) rc3) 0 5 = (Pc3 0 5)); have q5 := b0_5 hBc3; omega) (by have q0 := (((up_o (by decide)).trans rfl) : (up Pc3 16 (P 0 37) rc3) 0 4 = (Pc3 0 4)); have q1 := b0_4 hBc3; omega) (by have q0 := (((up_o (by decide)).trans rfl) : (up Pc3 16 (P 0 37) rc3) 0 8 = (Pc3 0 8)); have q1 := b0_8 hBc3; omega) (by have q := (up_same : (up Pc3 16 (P 0 37) rc3) 16 (P 0 37) = rc3); have q8 := (((up_o (by decide)).trans rfl) : (up Pc3 16 (P 0 37) rc3) 0 8 = (Pc3 0 8)); omega))
  · exact g_retV dX12_budgetIs_8 rfl (hQ _ hBc1 (FrM.c FrM.rf hFc1 rfl) (by have q0 := b0_3 hBc1; have q1 := b0_4 hBc1; have q2 := b0_5 hBc1; omega) (by have q0 := b0_4 hBc1; omega) (by have q0 := b0_8 hBc1; omega) (by have q0 := b0_8 hBc1; have q1 := (((congrFun (hFc1.2 16 rfl rfl) _).trans rfl) : Pc1 16 (Pc1 0 37) = (P 16 (Pc1 0 37))); have q2 := bl_16 (k := (Pc1 0 37)) hB; omega))
set_option maxRecDepth 100000 in
set_option maxHeartbeats 4000000 in
theorem m_X12_finishes (G : GT) (P : PH) (a1 : Int) (h_a1 : 0 ≤ a1 ∧ a1 ≤ 2147483647) (hB : BdM P) (p_lx : (P 0 3 = 0 ∨ P 0 4 + 1 ≤ P 0 5) ∧ P 0 4 ≤ P 0 5) (Q : Option PV → PH → Prop) (hQ : ∀ (P1 : PH) (_ : BdM P1) (_ : FrM ([3, 4, 5, 6, 7, 8, 9, 12], []) P P1) (_ : (P1 0 3 = 0 ∨ P1 0 4 + 1 ≤ P1 0 5) ∧ P1 0 4 ≤ P1 0 5) (_ : P 0 4 ≤ P1 0 4) (_ : P 0 8 ≤ 0 ∨ 0 < P1 0 8) (_ : 0 < P1 0 8 ∨ P 0 4 + 1 ≤ P1 0 4), Q none P1) : Ct WSM G 4 iX12_finishes [vR 0, vI a1] P Q := by
  refine Ct.of (by decide) (l0 := [(0, vR 0), (1, vI a1)]) rfl (Nat.le_of_ble_eq_true rfl) ?_
  refine g_aload_n dX12_finishes_0 rfl ?_
  refine g_vV (av := []) (o := 0) (st := []) (m_X12_lex G P  hB  _ (fun Pc1 hBc1 hFc1 gc1_pe => ⟨rfl, ?_⟩)) cf_X12_lex t_1697 rfl (by decide) rfl rfl rfl (Nat.le_of_ble_eq_true rfl) (by decide) rfl dX12_finishes_1
  refine g_aload_n dX12_finishes_4 rfl ?_
  refine m_g8 (z := (Pc1 0 8)) rfl dX12_finishes_5 rfl ?_
  have f2 := b0_8 hBc1
  refine g_if_le (tgt := 12) dX12_finishes_8 (by decide) ⟨by have q0 := b0_8 hBc1; omega, by have q0 := b0_8 hBc1; omega⟩ (fun k3 => ?_) (fun k3 => ?_)
  · refine g_aload_n dX12_finishes_12 rfl ?_
    refine m_g5 (z := (P 0 5)) rfl dX12_finishes_13 ((hFc1.1 5 rfl).trans rfl) ?_
    refine g_istore_n (l1 := [(2, vI (P 0 5)), (0, vR 0), (1, vI a1)]) dX12_finishes_16 (by decide) rfl ?_
    have L17_3 : ∀ (n17_3 : Nat) (x17_2_3 : Int) (h_x17_2_3 : 0 ≤ x17_2_3 ∧ x17_2_3 ≤ 1600) (hm17_3 : ((1601 - x17_2_3) : Int).toNat < n17_3), Go WSM G 4 iX12_finishes 17 [(0, vR 0), (1, vI a1), (2, vI x17_2_3)] [] Pc1 Q := by
      intro n17_3
      induction n17_3 with
      | zero => intro x17_2_3 h_x17_2_3 hm17_3; exact absurd hm17_3 (Nat.not_lt_zero _)
      | succ n17_3 ih17_3 =>
      intro x17_2_3 h_x17_2_3 hm17_3
      refine g_iload_n dX12_finishes_17 rfl ?_
      refine g_aload_n dX12_finishes_18 rfl ?_
      refine m_g2 (z := (P 0 2)) rfl dX12_finishes_19 ((hFc1.1 2 rfl).trans rfl) ?_
      have f146 := b0_2 hB
      refine g_icmp_ge (tgt := 53) dX12_finishes_22 (by decide) ⟨by omega, by omega⟩ ⟨by have q0 := b0_2 hB; omega, by have q0 := b0_2 hB; omega⟩ (fun k147 => ?_) (fun k147 => ?_)
      · refine g_aload_n dX12_finishes_53 rfl ?_
        refine g_bipush dX12_finishes_54 (by decide) ?_
        refine g_vI (av := [vI 59]) (o := 0) (st := []) (m_X12_isSign G Pc1 59 (by decide) hBc1  _ (fun rc148 hc148 gc148_s => ⟨rc148, rfl, ?_⟩)) cf_X12_isSign t_1772 rfl (by decide) rfl rfl rfl (Nat.le_of_ble_eq_true rfl) (by decide) rfl dX12_finishes_56
        have z149 : Pc1 0 3 = (P 0 3) := ((hFc1.1 3 rfl).trans rfl)
        have z150 : Pc1 0 6 = (P 0 6) := ((hFc1.1 6 rfl).trans rfl)
        refine g_if_eq (tgt := 83) dX12_finishes_59 (by decide) ⟨by omega, by omega⟩ (fun k151 => ?_) (fun k151 => ?_)
        · refine g_aload_n dX12_finishes_83 rfl ?_
          refine g_bipush dX12_finishes_84 (by decide) ?_
          refine g_vV (av := [vI 59]) (o := 0) (st := []) (m_X12_must G Pc1 59 (by decide) hBc1 (by have q0 := (((hFc1.1 3 rfl).trans rfl) : Pc1 0 3 = (P 0 3)); have q1 := b0_3 hB; have q2 := (((hFc1.1 4 rfl).trans rfl) : Pc1 0 4 = (P 0 4)); have q3 := b0_4 hB; have q4 := (((hFc1.1 5 rfl).trans rfl) : Pc1 0 5 = (P 0 5)); have q5 := b0_5 hB; omega) _ (fun Pc152 hBc152 hFc152 gc152_lx gc152_mo gc152_pe gc152_ad => ⟨rfl, ?_⟩)) cf_X12_must t_1768 rfl (by decide) rfl rfl rfl (Nat.le_of_ble_eq_true rfl) (by decide) rfl dX12_finishes_86
          have z153 : Pc1 0 4 = (P 0 4) := ((hFc1.1 4 rfl).trans rfl)
          exact g_retV dX12_finishes_89 rfl (hQ _ hBc152 (FrM.c (FrM.c FrM.rf hFc1 rfl) hFc152 rfl) (by have q0 := b0_3 hBc152; have q1 := b0_4 hBc152; have q2 := b0_5 hBc152; omega) (by have q0 := b0_4 hBc152; omega) (by have q0 := b0_8 hBc152; omega) (by have q0 := b0_8 hBc152; have q1 := b0_4 hBc152; omega))
        · refine g_iload_n dX12_finishes_62 rfl ?_
          refine g_bipush dX12_finishes_63 (by decide) ?_
          refine g_icmp_ne (tgt := 83) dX12_finishes_65 (by decide) ⟨by omega, by omega⟩ (by decide) (fun k154 => ?_) (fun k154 => ?_)
          · refine g_aload_n dX12_finishes_83 rfl ?_
            refine g_bipush dX12_finishes_84 (by decide) ?_
            refine g_vV (av := [vI 59]) (o := 0) (st := []) (m_X12_must G Pc1 59 (by decide) hBc1 (by have q0 := (((hFc1.1 3 rfl).trans rfl) : Pc1 0 3 = (P 0 3)); have q1 := b0_3 hB; have q2 := (((hFc1.1 4 rfl).trans rfl) : Pc1 0 4 = (P 0 4)); have q3 := b0_4 hB; have q4 := (((hFc1.1 5 rfl).trans rfl) : Pc1 0 5 = (P 0 5)); have q5 := b0_5 hB; omega) _ (fun Pc155 hBc155 hFc155 gc155_lx gc155_mo gc155_pe gc155_ad => ⟨rfl, ?_⟩)) cf_X12_must t_1768 rfl (by decide) rfl rfl rfl (Nat.le_of_ble_eq_true rfl) (by decide) rfl dX12_finishes_86
            have z156 : Pc1 0 4 = (P 0 4) := ((hFc1.1 4 rfl).trans rfl)
            exact g_retV dX12_finishes_89 rfl (hQ _ hBc155 (FrM.c (FrM.c FrM.rf hFc1 rfl) hFc155 rfl) (by have q0 := b0_3 hBc155; have q1 := b0_4 hBc155; have q2 := b0_5 hBc155; omega) (by have q0 := b0_4 hBc155; omega) (by have q0 := b0_8 hBc155; omega) (by have q0 := b0_8 hBc155; have q1 := b0_4 hBc155; omega))
          · refine g_iload_n dX12_finishes_68 rfl ?_
            refine g_aload_n dX12_finishes_69 rfl ?_
            refine m_g2 (z := (P 0 2)) rfl dX12_finishes_70 ((hFc1.1 2 rfl).trans rfl) ?_
            refine g_icmp_ge (tgt := 83) dX12_finishes_73 (by decide) ⟨by omega, by omega⟩ ⟨by have q0 := b0_2 hB; omega, by have q0 := b0_2 hB; omega⟩ (fun k157 => ?_) (fun k157 => ?_)
            · refine g_aload_n dX12_finishes_83 rfl ?_
              refine g_bipush dX12_finishes_84 (by decide) ?_
              refine g_vV (av := [vI 59]) (o := 0) (st := []) (m_X12_must G Pc1 59 (by decide) hBc1 (by have q0 := (((hFc1.1 3 rfl).trans rfl) : Pc1 0 3 = (P 0 3)); have q1 := b0_3 hB; have q2 := (((hFc1.1 4 rfl).trans rfl) : Pc1 0 4 = (P 0 4)); have q3 := b0_4 hB; have q4 := (((hFc1.1 5 rfl).trans rfl) : Pc1 0 5 = (P 0 5)); have q5 := b0_5 hB; omega) _ (fun Pc158 hBc158 hFc158 gc158_lx gc158_mo gc158_pe gc158_ad => ⟨rfl, ?_⟩)) cf_X12_must t_1768 rfl (by decide) rfl rfl rfl (Nat.le_of_ble_eq_true rfl) (by decide) rfl dX12_finishes_86
              have z159 : Pc1 0 4 = (P 0 4) := ((hFc1.1 4 rfl).trans rfl)
              exact g_retV dX12_finishes_89 rfl (hQ _ hBc158 (FrM.c (FrM.c FrM.rf hFc1 rfl) hFc158 rfl) (by have q0 := b0_3 hBc158; have q1 := b0_4 hBc158; have q2 := b0_5 hBc158; omega) (by have q0 := b0_4 hBc158; omega) (by have q0 := b0_8 hBc158; omega) (by have q0 := b0_8 hBc158; have q1 := b0_4 hBc158; omega))
            · refine g_aload_n dX12_finishes_76 rfl ?_
              refine g_bipush dX12_finishes_77 (by decide) ?_
              refine g_iload_n dX12_finishes_79 rfl ?_
              refine g_vV (av := [vI 6, vI x17_2_3]) (o := 0) (st := []) (m_X12_blame G Pc1 6 x17_2_3 (by decide) ⟨by omega, by omega⟩ hBc1  _ (fun Pc160 hBc160 hFc160 gc160_f gc160_pe => ⟨rfl, ?_⟩)) cf_X12_blame t_1701 rfl (by decide) rfl rfl rfl (Nat.le_of_ble_eq_true rfl) (by decide) rfl dX12_finishes_80
              refine g_aload_n dX12_finishes_83 rfl ?_
              refine g_bipush dX12_finishes_84 (by decide) ?_
              refine g_vV (av := [vI 59]) (o := 0) (st := []) (m_X12_must G Pc160 59 (by decide) hBc160 (by have q0 := (((hFc160.1 3 rfl).trans ((hFc1.1 3 rfl).trans rfl)) : Pc160 0 3 = (P 0 3)); have q1 := b0_3 hB; have q2 := (((hFc160.1 4 rfl).trans ((hFc1.1 4 rfl).trans rfl)) : Pc160 0 4 = (P 0 4)); have q3 := b0_4 hB; have q4 := (((hFc160.1 5 rfl).trans ((hFc1.1 5 rfl).trans rfl)) : Pc160 0 5 = (P 0 5)); have q5 := b0_5 hB; omega) _ (fun Pc161 hBc161 hFc161 gc161_lx gc161_mo gc161_pe gc161_ad => ⟨rfl, ?_⟩)) cf_X12_must t_1768 rfl (by decide) rfl rfl rfl (Nat.le_of_ble_eq_true rfl) (by decide) rfl dX12_finishes_86
              have z162 : Pc160 0 4 = (P 0 4) := ((hFc160.1 4 rfl).trans ((hFc1.1 4 rfl).trans rfl))
              exact g_retV dX12_finishes_89 rfl (hQ _ hBc161 (FrM.c (FrM.c (FrM.c FrM.rf hFc1 rfl) hFc160 rfl) hFc161 rfl) (by have q0 := b0_3 hBc161; have q1 := b0_4 hBc161; have q2 := b0_5 hBc161; omega) (by have q0 := b0_4 hBc161; omega) (by have q0 := b0_8 hBc161; omega) (by have q0 := b0_8 hBc161; have q1 := b0_4 hBc161; omega))
      · refine g_aload_n dX12_finishes_25 rfl ?_
        refine m_g0 rfl dX12_finishes_26 ?_
        refine g_iload_n dX12_finishes_29 rfl ?_
        refine m_l1 (z := (P 1 x17_2_3)) dX12_finishes_30 ⟨by omega, by omega⟩ ((congrFun (hFc1.2 1 rfl rfl) _).trans rfl) ?_
        refine g_bipush dX12_finishes_31 (by decide) ?_
        have f163 := bl_1 (k := x17_2_3) hB
        refine g_icmp_eq (tgt := 47) dX12_finishes_33 (by decide) ⟨by have q0 := bl_1 (k := x17_2_3) hB; omega, by have q0 := bl_1 (k := x17_2_3) hB; omega⟩ (by decide) (fun k164 => ?_) (fun k164 => ?_)
        · refine g_iinc (l1 := [(2, vI (x17_2_3 + 1)), (0, vR 0), (1, vI a1)]) dX12_finishes_47 rfl (by decide) rfl ?_
          refine g_goto (tgt := 17) dX12_finishes_50 (by decide) ?_
          refine g_forget (l1 := [(0, vR 0), (1, vI a1), (2, vI (x17_2_3 + 1))]) (by intro q hq; simp only [List.mem_cons, List.not_mem_nil, or_false] at hq ⊢; rcases hq with rfl | rfl | rfl <;> simp) ?_
          exact ih17_3 (x17_2_3 + 1) ⟨by omega, by omega⟩ (by omega)
        · refine g_aload_n dX12_finishes_36 rfl ?_
          refine m_g0 rfl dX12_finishes_37 ?_
          refine g_iload_n dX12_finishes_40 rfl ?_
          refine m_l1 (z := (P 1 x17_2_3)) dX12_finishes_41 ⟨by omega, by omega⟩ ((congrFun (hFc1.2 1 rfl rfl) _).trans rfl) ?_
          refine g_bipush dX12_finishes_42 (by decide) ?_
          refine g_icmp_ne (tgt := 53) dX12_finishes_44 (by decide) ⟨by have q0 := bl_1 (k := x17_2_3) hB; omega, by have q0 := bl_1 (k := x17_2_3) hB; omega⟩ (by decide) (fun k165 => ?_) (fun k165 => ?_)
          · refine g_aload_n dX12_finishes_53 rfl ?_
            refine g_bipush dX12_finishes_54 (by decide) ?_
            refine g_vI (av := [vI 59]) (o := 0) (st := []) (m_X12_isSign G Pc1 59 (by decide) hBc1  _ (fun rc166 hc166 gc166_s => ⟨rc166, rfl, ?_⟩)) cf_X12_isSign t_1772 rfl (by decide) rfl rfl rfl (Nat.le_of_ble_eq_true rfl) (by decide) rfl dX12_finishes_56
            have z167 : Pc1 0 3 = (P 0 3) := ((hFc1.1 3 rfl).trans rfl)
            have z168 : Pc1 0 6 = (P 0 6) := ((hFc1.1 6 rfl).trans rfl)
            refine g_if_eq (tgt := 83) dX12_finishes_59 (by decide) ⟨by omega, by omega⟩ (fun k169 => ?_) (fun k169 => ?_)
            · refine g_aload_n dX12_finishes_83 rfl ?_
              refine g_bipush dX12_finishes_84 (by decide) ?_
              refine g_vV (av := [vI 59]) (o := 0) (st := []) (m_X12_must G Pc1 59 (by decide) hBc1 (by have q0 := (((hFc1.1 3 rfl).trans rfl) : Pc1 0 3 = (P 0 3)); have q1 := b0_3 hB; have q2 := (((hFc1.1 4 rfl).trans rfl) : Pc1 0 4 = (P 0 4)); have q3 := b0_4 hB; have q4 := (((hFc1.1 5 rfl).trans rfl) : Pc1 0 5 = (P 0 5)); have q5 := b0_5 hB; omega) _ (fun Pc170 hBc170 hFc170 gc170_lx gc170_mo gc170_pe gc170_ad => ⟨rfl, ?_⟩)) cf_X12_must t_1768 rfl (by decide) rfl rfl rfl (Nat.le_of_ble_eq_true rfl) (by decide) rfl dX12_finishes_86
              have z171 : Pc1 0 4 = (P 0 4) := ((hFc1.1 4 rfl).trans rfl)
              exact g_retV dX12_finishes_89 rfl (hQ _ hBc170 (FrM.c (FrM.c FrM.rf hFc1 rfl) hFc170 rfl) (by have q0 := b0_3 hBc170; have q1 := b0_4 hBc170; have q2 := b0_5 hBc170; omega) (by have q0 := b0_4 hBc170; omega) (by have q0 := b0_8 hBc170; omega) (by have q0 := b0_8 hBc170; have q1 := b0_4 hBc170; omega))
            · refine g_iload_n dX12_finishes_62 rfl ?_
              refine g_bipush dX12_finishes_63 (by decide) ?_
              refine g_icmp_ne (tgt := 83) dX12_finishes_65 (by decide) ⟨by omega, by omega⟩ (by decide) (fun k172 => ?_) (fun k172 => ?_)
              · refine g_aload_n dX12_finishes_83 rfl ?_
                refine g_bipush dX12_finishes_84 (by decide) ?_
                refine g_vV (av := [vI 59]) (o := 0) (st := []) (m_X12_must G Pc1 59 (by decide) hBc1 (by have q0 := (((hFc1.1 3 rfl).trans rfl) : Pc1 0 3 = (P 0 3)); have q1 := b0_3 hB; have q2 := (((hFc1.1 4 rfl).trans rfl) : Pc1 0 4 = (P 0 4)); have q3 := b0_4 hB; have q4 := (((hFc1.1 5 rfl).trans rfl) : Pc1 0 5 = (P 0 5)); have q5 := b0_5 hB; omega) _ (fun Pc173 hBc173 hFc173 gc173_lx gc173_mo gc173_pe gc173_ad => ⟨rfl, ?_⟩)) cf_X12_must t_1768 rfl (by decide) rfl rfl rfl (Nat.le_of_ble_eq_true rfl) (by decide) rfl dX12_finishes_86
                have z174 : Pc1 0 4 = (P 0 4) := ((hFc1.1 4 rfl).trans rfl)
                exact g_retV dX12_finishes_89 rfl (hQ _ hBc173 (FrM.c (FrM.c FrM.rf hFc1 rfl) hFc173 rfl) (by have q0 := b0_3 hBc173; have q1 := b0_4 hBc173; have q2 := b0_5 hBc173; omega) (by have q0 := b0_4 hBc173; omega) (by have q0 := b0_8 hBc173; omega) (by have q0 := b0_8 hBc173; have q1 := b0_4 hBc173; omega))
              · refine g_iload_n dX12_finishes_68 rfl ?_
                refine g_aload_n dX12_finishes_69 rfl ?_
                refine m_g2 (z := (P 0 2)) rfl dX12_finishes_70 ((hFc1.1 2 rfl).trans rfl) ?_
                refine g_icmp_ge (tgt := 83) dX12_finishes_73 (by decide) ⟨by omega, by omega⟩ ⟨by have q0 := b0_2 hB; omega, by have q0 := b0_2 hB; omega⟩ (fun k175 => ?_) (fun k175 => ?_)
                · refine g_aload_n dX12_finishes_83 rfl ?_
                  refine g_bipush dX12_finishes_84 (by decide) ?_
                  refine g_vV (av := [vI 59]) (o := 0) (st := []) (m_X12_must G Pc1 59 (by decide) hBc1 (by have q0 := (((hFc1.1 3 rfl).trans rfl) : Pc1 0 3 = (P 0 3)); have q1 := b0_3 hB; have q2 := (((hFc1.1 4 rfl).trans rfl) : Pc1 0 4 = (P 0 4)); have q3 := b0_4 hB; have q4 := (((hFc1.1 5 rfl).trans rfl) : Pc1 0 5 = (P 0 5)); have q5 := b0_5 hB; omega) _ (fun Pc176 hBc176 hFc176 gc176_lx gc176_mo gc176_pe gc176_ad => ⟨rfl, ?_⟩)) cf_X12_must t_1768 rfl (by decide) rfl rfl rfl (Nat.le_of_ble_eq_true rfl) (by decide) rfl dX12_finishes_86
                  have z177 : Pc1 0 4 = (P 0 4) := ((hFc1.1 4 rfl).trans rfl)
                  exact g_retV dX12_finishes_89 rfl (hQ _ hBc176 (FrM.c (FrM.c FrM.rf hFc1 rfl) hFc176 rfl) (by have q0 := b0_3 hBc176; have q1 := b0_4 hBc176; have q2 := b0_5 hBc176; omega) (by have q0 := b0_4 hBc176; omega) (by have q0 := b0_8 hBc176; omega) (by have q0 := b0_8 hBc176; have q1 := b0_4 hBc176; omega))
                · refine g_aload_n dX12_finishes_76 rfl ?_
                  refine g_bipush dX12_finishes_77 (by decide) ?_
                  refine g_iload_n dX12_finishes_79 rfl ?_
                  refine g_vV (av := [vI 6, vI x17_2_3]) (o := 0) (st := []) (m_X12_blame G Pc1 6 x17_2_3 (by decide) ⟨by omega, by omega⟩ hBc1  _ (fun Pc178 hBc178 hFc178 gc178_f gc178_pe => ⟨rfl, ?_⟩)) cf_X12_blame t_1701 rfl (by decide) rfl rfl rfl (Nat.le_of_ble_eq_true rfl) (by decide) rfl dX12_finishes_80
                  refine g_aload_n dX12_finishes_83 rfl ?_
                  refine g_bipush dX12_finishes_84 (by decide) ?_
                  refine g_vV (av := [vI 59]) (o := 0) (st := []) (m_X12_must G Pc178 59 (by decide) hBc178 (by have q0 := (((hFc178.1 3 rfl).trans ((hFc1.1 3 rfl).trans rfl)) : Pc178 0 3 = (P 0 3)); have q1 := b0_3 hB; have q2 := (((hFc178.1 4 rfl).trans ((hFc1.1 4 rfl).trans rfl)) : Pc178 0 4 = (P 0 4)); have q3 := b0_4 hB; have q4 := (((hFc178.1 5 rfl).trans ((hFc1.1 5 rfl).trans rfl)) : Pc178 0 5 = (P 0 5)); have q5 := b0_5 hB; omega) _ (fun Pc179 hBc179 hFc179 gc179_lx gc179_mo gc179_pe gc179_ad => ⟨rfl, ?_⟩)) cf_X12_must t_1768 rfl (by decide) rfl rfl rfl (Nat.le_of_ble_eq_true rfl) (by decide) rfl dX12_finishes_86
                  have z180 : Pc178 0 4 = (P 0 4) := ((hFc178.1 4 rfl).trans ((hFc1.1 4 rfl).trans rfl))
                  exact g_retV dX12_finishes_89 rfl (hQ _ hBc179 (FrM.c (FrM.c (FrM.c FrM.rf hFc1 rfl) hFc178 rfl) hFc179 rfl) (by have q0 := b0_3 hBc179; have q1 := b0_4 hBc179; have q2 := b0_5 hBc179; omega) (by have q0 := b0_4 hBc179; omega) (by have q0 := b0_8 hBc179; omega) (by have q0 := b0_8 hBc179; have q1 := b0_4 hBc179; omega))
          · refine g_iinc (l1 := [(2, vI (x17_2_3 + 1)), (0, vR 0), (1, vI a1)]) dX12_finishes_47 rfl (by decide) rfl ?_
            refine g_goto (tgt := 17) dX12_finishes_50 (by decide) ?_
            refine g_forget (l1 := [(0, vR 0), (1, vI a1), (2, vI (x17_2_3 + 1))]) (by intro q hq; simp only [List.mem_cons, List.not_mem_nil, or_false] at hq ⊢; rcases hq with rfl | rfl | rfl <;> simp) ?_
            exact ih17_3 (x17_2_3 + 1) ⟨by omega, by omega⟩ (by omega)
    refine g_forget (l1 := [(0, vR 0), (1, vI a1), (2, vI (P 0 5))]) (by intro q hq; simp only [List.mem_cons, List.not_mem_nil, or_false] at hq ⊢; rcases hq with rfl | rfl | rfl <;> simp) ?_
    exact L17_3 _ (P 0 5) ⟨by have q0 := b0_5 hB; omega, by have q0 := b0_5 hB; omega⟩ (Nat.lt_succ_self _)
  · exact g_retV dX12_finishes_11 rfl (hQ _ hBc1 (FrM.c FrM.rf hFc1 rfl) (by have q0 := (((hFc1.1 3 rfl).trans rfl) : Pc1 0 3 = (P 0 3)); have q1 := b0_3 hB; have q2 := (((hFc1.1 4 rfl).trans rfl) : Pc1 0 4 = (P 0 4)); have q3 := b0_4 hB; have q4 := (((hFc1.1 5 rfl).trans rfl) : Pc1 0 5 = (P 0 5)); have q5 := b0_5 hB; omega) (by have q0 := (((hFc1.1 4 rfl).trans rfl) : Pc1 0 4 = (P 0 4)); have q1 := b0_4 hB; omega) (by have q0 := b0_8 hBc1; omega) (by have q0 := b0_8 hBc1; have q1 := (((hFc1.1 4 rfl).trans rfl) : Pc1 0 4 = (P 0 4)); have q2 := b0_4 hB; omega))
set_option maxRecDepth 100000 in
set_option maxHeartbeats 4000000 in
theorem m_X12_kindIs (G : GT) (P : PH) (hB : BdM P) (p_lx : (P 0 3 = 0 ∨ P 0 4 + 1 ≤ P 0 5) ∧ P 0 4 ≤ P 0 5) (v_KVP : KVP P) (v_KC : KC P) (v_CF : CF P) (Q : Option PV → PH → Prop) (hQ : ∀ (P1 : PH) (_ : BdM P1) (_ : FrM ([3, 4, 5, 6, 7, 8, 9, 12], [2, 3, 4, 22]) P P1) (_ : (P1 0 3 = 0 ∨ P1 0 4 + 1 ≤ P1 0 5) ∧ P1 0 4 ≤ P1 0 5) (_ : P 0 4 ≤ P1 0 4) (_ : P 0 8 ≤ 0 ∨ 0 < P1 0 8) (_ : KVP P1) (_ : KC P1) (_ : CF P1), Q none P1) : Ct WSM G 4 iX12_kindIs [vR 0] P Q := by
  refine Ct.of (by decide) (l0 := [(0, vR 0)]) rfl (Nat.le_of_ble_eq_true rfl) ?_
  refine g_aload_n dX12_kindIs_0 rfl ?_
  refine m_g38 (z := (P 0 38)) rfl dX12_kindIs_1 rfl ?_
  have f1 := b0_38 hB
  have J16_32 : ∀ (H16_32 : PH) (hB16_32 : BdM H16_32) (hE16_32 : FrM ([8, 9], []) P H16_32) (i16_0_32 : P 0 8 ≤ 0 ∨ 0 < H16_32 0 8) (i16_1_32 : P 0 4 ≤ H16_32 0 4) (i16_2_32 : (H16_32 0 3 = 0 ∨ H16_32 0 4 + 1 ≤ H16_32 0 5) ∧ H16_32 0 4 ≤ H16_32 0 5), Go WSM G 4 iX12_kindIs 16 [(0, vR 0)] [] H16_32 Q := by
    intro H16_32 hB16_32 hE16_32 i16_0_32 i16_1_32 i16_2_32
    refine g_aload_n dX12_kindIs_16 rfl ?_
    refine g_aload_n dX12_kindIs_17 rfl ?_
    refine m_g14 rfl dX12_kindIs_18 ?_
    refine g_aload_n dX12_kindIs_21 rfl ?_
    refine m_g37 (z := (P 0 37)) rfl dX12_kindIs_22 ((hE16_32.1 37 rfl).trans rfl) ?_
    refine m_l2 (z := (P 2 (P 0 37))) dX12_kindIs_25 ⟨by have q0 := b0_37 hB; omega, by have q0 := b0_37 hB; omega⟩ ((congrFun (hE16_32.2 2 rfl rfl) _).trans rfl) ?_
    refine g_iconst dX12_kindIs_26 ?_
    have f34 := bl_2 (k := (P 0 37)) hB
    refine g_icmp_ne (tgt := 34) dX12_kindIs_27 (by decide) ⟨by have q0 := bl_2 (k := (P 0 37)) hB; omega, by have q0 := bl_2 (k := (P 0 37)) hB; omega⟩ (by decide) (fun k35 => ?_) (fun k35 => ?_)
    · refine g_iconst dX12_kindIs_34 ?_
      refine g_vI (av := [vI 0]) (o := 0) (st := []) (m_X12_isCounted G H16_32 0 (by decide) hB16_32 (by have q0 := (((hE16_32.1 3 rfl).trans rfl) : H16_32 0 3 = (P 0 3)); have q1 := b0_3 hB; have q2 := (((hE16_32.1 4 rfl).trans rfl) : H16_32 0 4 = (P 0 4)); have q3 := b0_4 hB; have q4 := (((hE16_32.1 5 rfl).trans rfl) : H16_32 0 5 = (P 0 5)); have q5 := b0_5 hB; omega) _ (fun rc36 hc36 Pc36 hBc36 hFc36 gc36_lx gc36_mo gc36_pe gc36_c gc36_ad => ⟨rc36, rfl, ?_⟩)) cf_X12_isCounted t_1714 rfl (by decide) rfl rfl rfl (Nat.le_of_ble_eq_true rfl) (by decide) rfl dX12_kindIs_35
      have z37 : H16_32 0 4 = (P 0 4) := ((hE16_32.1 4 rfl).trans rfl)
      have z38 : H16_32 0 3 = (P 0 3) := ((hE16_32.1 3 rfl).trans rfl)
      refine g_if_ne (tgt := 42) dX12_kindIs_38 (by decide) ⟨by omega, by omega⟩ (fun k39 => ?_) (fun k39 => ?_)
      · refine g_aload_n dX12_kindIs_42 rfl ?_
        refine g_vL (av := []) (o := 0) (st := []) (m_X12_fresh G Pc36  hBc36 (by have q0 := b0_3 hBc36; have q1 := b0_4 hBc36; have q2 := b0_5 hBc36; omega) _ (fun rc40 hc40 Pc40 hBc40 hFc40 gc40_lx gc40_mo gc40_pe => ⟨rc40, rfl, ?_⟩)) cf_X12_fresh t_1718 rfl (by decide) rfl rfl rfl (Nat.le_of_ble_eq_true rfl) (by decide) rfl dX12_kindIs_43
        refine g_lstore_n (l1 := [(1, vL rc40), (0, vR 0)]) dX12_kindIs_46 (by decide) rfl ?_
        refine g_aload_n dX12_kindIs_47 rfl ?_
        refine m_g8 (z := (Pc40 0 8)) rfl dX12_kindIs_48 rfl ?_
        have f41 := b0_8 hBc40
        refine g_if_le (tgt := 55) dX12_kindIs_51 (by decide) ⟨by have q0 := b0_8 hBc40; omega, by have q0 := b0_8 hBc40; omega⟩ (fun k42 => ?_) (fun k42 => ?_)
        · refine g_iconst dX12_kindIs_55 ?_
          refine g_aload_n dX12_kindIs_56 rfl ?_
          refine m_g37 (z := (P 0 37)) rfl dX12_kindIs_57 ((hFc40.1 37 rfl).trans ((hFc36.1 37 rfl).trans ((hE16_32.1 37 rfl).trans rfl))) ?_
          refine g_imul dX12_kindIs_60 ?_
          refine g_aload_n dX12_kindIs_61 rfl ?_
          refine m_g14 rfl dX12_kindIs_62 ?_
          refine g_aload_n dX12_kindIs_65 rfl ?_
          refine m_g37 (z := (P 0 37)) rfl dX12_kindIs_66 ((hFc40.1 37 rfl).trans ((hFc36.1 37 rfl).trans ((hE16_32.1 37 rfl).trans rfl))) ?_
          refine m_l2 (z := (P 2 (P 0 37))) dX12_kindIs_69 ⟨by have q0 := b0_37 hB; omega, by have q0 := b0_37 hB; omega⟩ ((congrFun (hFc40.2 2 rfl rfl) _).trans ((congrFun (hFc36.2 2 rfl rfl) _).trans ((congrFun (hE16_32.2 2 rfl rfl) _).trans rfl))) ?_
          refine g_iadd dX12_kindIs_70 ?_
          refine g_istore_n (l1 := [(3, vI ((4 * (P 0 37)) + (P 2 (P 0 37)))), (1, vL rc40), (0, vR 0)]) dX12_kindIs_71 (by decide) rfl ?_
          refine g_aload_n dX12_kindIs_72 rfl ?_
          refine m_g34 rfl dX12_kindIs_73 ?_
          refine g_iload_n dX12_kindIs_76 rfl ?_
          refine g_lload_n dX12_kindIs_77 rfl ?_
          refine m_s22 dX12_kindIs_78 ⟨by have q0 := b0_37 hB; have q1 := bl_2 (k := (P 0 37)) hB; omega, by have q0 := b0_37 hB; have q1 := bl_2 (k := (P 0 37)) hB; omega⟩ ?_
          have hB43 := ba_22 (z := rc40) (k := ((4 * (P 0 37)) + (P 2 (P 0 37)))) hBc40 ⟨by omega, by omega⟩
          refine g_aload_n dX12_kindIs_79 rfl ?_
          refine m_g15 rfl dX12_kindIs_80 ?_
          refine g_iload_n dX12_kindIs_83 rfl ?_
          refine g_iconst dX12_kindIs_84 ?_
          refine m_s3 dX12_kindIs_85 ⟨by have q0 := b0_37 hB; have q1 := bl_2 (k := (P 0 37)) hB; omega, by have q0 := b0_37 hB; have q1 := bl_2 (k := (P 0 37)) hB; omega⟩ ?_
          have hB44 := ba_3 (z := 0) (k := ((4 * (P 0 37)) + (P 2 (P 0 37)))) hB43 (by decide)
          refine g_aload_n dX12_kindIs_86 rfl ?_
          refine m_g16 rfl dX12_kindIs_87 ?_
          refine g_iload_n dX12_kindIs_90 rfl ?_
          refine g_iconst dX12_kindIs_91 ?_
          refine m_s4 dX12_kindIs_92 ⟨by have q0 := b0_37 hB; have q1 := bl_2 (k := (P 0 37)) hB; omega, by have q0 := b0_37 hB; have q1 := bl_2 (k := (P 0 37)) hB; omega⟩ ?_
          have hB45 := ba_4 (z := 0) (k := ((4 * (P 0 37)) + (P 2 (P 0 37)))) hB44 (by decide)
          refine g_aload_n dX12_kindIs_93 rfl ?_
          refine m_g14 rfl dX12_kindIs_94 ?_
          refine g_aload_n dX12_kindIs_97 rfl ?_
          refine m_g37 (z := (P 0 37)) rfl dX12_kindIs_98 ((up_o (by decide)).trans ((up_o (by decide)).trans ((up_o (by decide)).trans ((hFc40.1 37 rfl).trans ((hFc36.1 37 rfl).trans ((hE16_32.1 37 rfl).trans rfl)))))) ?_
          refine g_dup2 dX12_kindIs_101 rfl rfl ?_
          refine m_l2 (z := (P 2 (P 0 37))) dX12_kindIs_102 ⟨by have q0 := b0_37 hB; omega, by have q0 := b0_37 hB; omega⟩ ((up_o (by decide)).trans ((up_o (by decide)).trans ((up_o (by decide)).trans ((congrFun (hFc40.2 2 rfl rfl) _).trans ((congrFun (hFc36.2 2 rfl rfl) _).trans ((congrFun (hE16_32.2 2 rfl rfl) _).trans rfl)))))) ?_
          refine g_iconst dX12_kindIs_103 ?_
          refine g_iadd dX12_kindIs_104 ?_
          refine m_s2 dX12_kindIs_105 ⟨by have q0 := b0_37 hB; omega, by have q0 := b0_37 hB; omega⟩ ?_
          have hB46 := ba_2 (z := ((P 2 (P 0 37)) + 1)) (k := (P 0 37)) hB45 ⟨by have q0 := bl_2 (k := (P 0 37)) hB; omega, by have q0 := bl_2 (k := (P 0 37)) hB; omega⟩
          have iv47 : KVP (up (up (up (up Pc40 22 ((4 * (P 0 37)) + (P 2 (P 0 37))) rc40) 3 ((4 * (P 0 37)) + (P 2 (P 0 37))) 0) 4 ((4 * (P 0 37)) + (P 2 (P 0 37))) 0) 2 (P 0 37) ((P 2 (P 0 37)) + 1)) := v_KVP.step (i := ((4 * (P 0 37)) + (P 2 (P 0 37)))) (fun j hj => ((up_o (by decide)).trans ((up_o (by decide)).trans ((up_k hj).trans ((up_o (by decide)).trans ((congrFun (hFc40.2 3 rfl rfl) _).trans ((congrFun (hFc36.2 3 rfl rfl) _).trans ((congrFun (hE16_32.2 3 rfl rfl) _).trans rfl)))))))) (fun j hj => ((up_o (by decide)).trans ((up_k hj).trans ((up_o (by decide)).trans ((up_o (by decide)).trans ((congrFun (hFc40.2 4 rfl rfl) _).trans ((congrFun (hFc36.2 4 rfl rfl) _).trans ((congrFun (hE16_32.2 4 rfl rfl) _).trans rfl)))))))) (by have q3 := (((up_o (by decide)).trans ((up_o (by decide)).trans up_same)) : (up (up (up (up Pc40 22 ((4 * (P 0 37)) + (P 2 (P 0 37))) rc40) 3 ((4 * (P 0 37)) + (P 2 (P 0 37))) 0) 4 ((4 * (P 0 37)) + (P 2 (P 0 37))) 0) 2 (P 0 37) ((P 2 (P 0 37)) + 1)) 3 ((4 * (P 0 37)) + (P 2 (P 0 37))) = 0); have q4 := (((up_o (by decide)).trans up_same) : (up (up (up (up Pc40 22 ((4 * (P 0 37)) + (P 2 (P 0 37))) rc40) 3 ((4 * (P 0 37)) + (P 2 (P 0 37))) 0) 4 ((4 * (P 0 37)) + (P 2 (P 0 37))) 0) 2 (P 0 37) ((P 2 (P 0 37)) + 1)) 4 ((4 * (P 0 37)) + (P 2 (P 0 37))) = 0); omega)
          have iv48 : KC (up (up (up (up Pc40 22 ((4 * (P 0 37)) + (P 2 (P 0 37))) rc40) 3 ((4 * (P 0 37)) + (P 2 (P 0 37))) 0) 4 ((4 * (P 0 37)) + (P 2 (P 0 37))) 0) 2 (P 0 37) ((P 2 (P 0 37)) + 1)) := v_KC.kind hB ((up_o (by decide)).trans ((up_o (by decide)).trans ((up_o (by decide)).trans ((up_o (by decide)).trans ((hFc40.1 37 rfl).trans ((hFc36.1 37 rfl).trans ((hE16_32.1 37 rfl).trans rfl))))))) up_same ((up_o (by decide)).trans ((up_o (by decide)).trans ((up_o (by decide)).trans ((up_o (by decide)).trans ((congrFun (hFc40.2 5 rfl rfl) _).trans ((congrFun (hFc36.2 5 rfl rfl) _).trans ((congrFun (hE16_32.2 5 rfl rfl) _).trans rfl))))))) ((up_o (by decide)).trans up_same)
          exact g_retV dX12_kindIs_106 rfl (hQ _ hB46 (FrM.a (FrM.a (FrM.a (FrM.a (FrM.c (FrM.c (FrM.c FrM.rf hE16_32 rfl) hFc36 rfl) hFc40 rfl) rfl rfl) rfl rfl) rfl rfl) rfl rfl) (by have q0 := (((up_o (by decide)).trans ((up_o (by decide)).trans ((up_o (by decide)).trans ((up_o (by decide)).trans rfl)))) : (up (up (up (up Pc40 22 ((4 * (P 0 37)) + (P 2 (P 0 37))) rc40) 3 ((4 * (P 0 37)) + (P 2 (P 0 37))) 0) 4 ((4 * (P 0 37)) + (P 2 (P 0 37))) 0) 2 (P 0 37) ((P 2 (P 0 37)) + 1)) 0 3 = (Pc40 0 3)); have q1 := b0_3 hBc40; have q2 := (((up_o (by decide)).trans ((up_o (by decide)).trans ((up_o (by decide)).trans ((up_o (by decide)).trans rfl)))) : (up (up (up (up Pc40 22 ((4 * (P 0 37)) + (P 2 (P 0 37))) rc40) 3 ((4 * (P 0 37)) + (P 2 (P 0 37))) 0) 4 ((4 * (P 0 37)) + (P 2 (P 0 37))) 0) 2 (P 0 37) ((P 2 (P 0 37)) + 1)) 0 4 = (Pc40 0 4)); have q3 := b0_4 hBc40; have q4 := (((up_o (by decide)).trans ((up_o (by decide)).trans ((up_o (by decide)).trans ((up_o (by decide)).trans rfl)))) : (up (up (up (up Pc40 22 ((4 * (P 0 37)) + (P 2 (P 0 37))) rc40) 3 ((4 * (P 0 37)) + (P 2 (P 0 37))) 0) 4 ((4 * (P 0 37)) + (P 2 (P 0 37))) 0) 2 (P 0 37) ((P 2 (P 0 37)) + 1)) 0 5 = (Pc40 0 5)); have q5 := b0_5 hBc40; omega) (by have q0 := (((up_o (by decide)).trans ((up_o (by decide)).trans ((up_o (by decide)).trans ((up_o (by decide)).trans rfl)))) : (up (up (up (up Pc40 22 ((4 * (P 0 37)) + (P 2 (P 0 37))) rc40) 3 ((4 * (P 0 37)) + (P 2 (P 0 37))) 0) 4 ((4 * (P 0 37)) + (P 2 (P 0 37))) 0) 2 (P 0 37) ((P 2 (P 0 37)) + 1)) 0 4 = (Pc40 0 4)); have q1 := b0_4 hBc40; omega) (by have q0 := (((up_o (by decide)).trans ((up_o (by decide)).trans ((up_o (by decide)).trans ((up_o (by decide)).trans rfl)))) : (up (up (up (up Pc40 22 ((4 * (P 0 37)) + (P 2 (P 0 37))) rc40) 3 ((4 * (P 0 37)) + (P 2 (P 0 37))) 0) 4 ((4 * (P 0 37)) + (P 2 (P 0 37))) 0) 2 (P 0 37) ((P 2 (P 0 37)) + 1)) 0 8 = (Pc40 0 8)); have q1 := b0_8 hBc40; omega) iv47 iv48 (CF.fr (F := ([3, 4, 5, 6, 7, 8, 9, 12], [2, 3, 4, 22])) v_CF (FrM.a (FrM.a (FrM.a (FrM.a (FrM.c (FrM.c (FrM.c FrM.rf hE16_32 rfl) hFc36 rfl) hFc40 rfl) rfl rfl) rfl rfl) rfl rfl) rfl rfl) rfl))
        · exact g_retV dX12_kindIs_54 rfl (hQ _ hBc40 (FrM.c (FrM.c (FrM.c FrM.rf hE16_32 rfl) hFc36 rfl) hFc40 rfl) (by have q0 := b0_3 hBc40; have q1 := b0_4 hBc40; have q2 := b0_5 hBc40; omega) (by have q0 := b0_4 hBc40; omega) (by have q0 := b0_8 hBc40; omega) (KVP.fr (F := ([3, 4, 5, 6, 7, 8, 9, 12], [])) v_KVP (FrM.c (FrM.c (FrM.c FrM.rf hE16_32 rfl) hFc36 rfl) hFc40 rfl) rfl) (KC.fr (F := ([3, 4, 5, 6, 7, 8, 9, 12], [])) v_KC (FrM.c (FrM.c (FrM.c FrM.rf hE16_32 rfl) hFc36 rfl) hFc40 rfl) rfl) (CF.fr (F := ([3, 4, 5, 6, 7, 8, 9, 12], [])) v_CF (FrM.c (FrM.c (FrM.c FrM.rf hE16_32 rfl) hFc36 rfl) hFc40 rfl) rfl))
      · exact g_retV dX12_kindIs_41 rfl (hQ _ hBc36 (FrM.c (FrM.c FrM.rf hE16_32 rfl) hFc36 rfl) (by have q0 := b0_3 hBc36; have q1 := b0_4 hBc36; have q2 := b0_5 hBc36; omega) (by have q0 := b0_4 hBc36; omega) (by have q0 := b0_8 hBc36; omega) (KVP.fr (F := ([3, 4, 5, 6, 7, 8, 9, 12], [])) v_KVP (FrM.c (FrM.c FrM.rf hE16_32 rfl) hFc36 rfl) rfl) (KC.fr (F := ([3, 4, 5, 6, 7, 8, 9, 12], [])) v_KC (FrM.c (FrM.c FrM.rf hE16_32 rfl) hFc36 rfl) rfl) (CF.fr (F := ([3, 4, 5, 6, 7, 8, 9, 12], [])) v_CF (FrM.c (FrM.c FrM.rf hE16_32 rfl) hFc36 rfl) rfl))
    · refine g_iconst dX12_kindIs_30 ?_
      refine g_goto (tgt := 35) dX12_kindIs_31 (by decide) ?_
      refine g_vI (av := [vI 1]) (o := 0) (st := []) (m_X12_isCounted G H16_32 1 (by decide) hB16_32 (by have q0 := (((hE16_32.1 3 rfl).trans rfl) : H16_32 0 3 = (P 0 3)); have q1 := b0_3 hB; have q2 := (((hE16_32.1 4 rfl).trans rfl) : H16_32 0 4 = (P 0 4)); have q3 := b0_4 hB; have q4 := (((hE16_32.1 5 rfl).trans rfl) : H16_32 0 5 = (P 0 5)); have q5 := b0_5 hB; omega) _ (fun rc49 hc49 Pc49 hBc49 hFc49 gc49_lx gc49_mo gc49_pe gc49_c gc49_ad => ⟨rc49, rfl, ?_⟩)) cf_X12_isCounted t_1714 rfl (by decide) rfl rfl rfl (Nat.le_of_ble_eq_true rfl) (by decide) rfl dX12_kindIs_35
      have z50 : H16_32 0 4 = (P 0 4) := ((hE16_32.1 4 rfl).trans rfl)
      have z51 : H16_32 0 3 = (P 0 3) := ((hE16_32.1 3 rfl).trans rfl)
      refine g_if_ne (tgt := 42) dX12_kindIs_38 (by decide) ⟨by omega, by omega⟩ (fun k52 => ?_) (fun k52 => ?_)
      · refine g_aload_n dX12_kindIs_42 rfl ?_
        refine g_vL (av := []) (o := 0) (st := []) (m_X12_fresh G Pc49  hBc49 (by have q0 := b0_3 hBc49; have q1 := b0_4 hBc49; have q2 := b0_5 hBc49; omega) _ (fun rc53 hc53 Pc53 hBc53 hFc53 gc53_lx gc53_mo gc53_pe => ⟨rc53, rfl, ?_⟩)) cf_X12_fresh t_1718 rfl (by decide) rfl rfl rfl (Nat.le_of_ble_eq_true rfl) (by decide) rfl dX12_kindIs_43
        refine g_lstore_n (l1 := [(1, vL rc53), (0, vR 0)]) dX12_kindIs_46 (by decide) rfl ?_
        refine g_aload_n dX12_kindIs_47 rfl ?_
        refine m_g8 (z := (Pc53 0 8)) rfl dX12_kindIs_48 rfl ?_
        have f54 := b0_8 hBc53
        refine g_if_le (tgt := 55) dX12_kindIs_51 (by decide) ⟨by have q0 := b0_8 hBc53; omega, by have q0 := b0_8 hBc53; omega⟩ (fun k55 => ?_) (fun k55 => ?_)
        · refine g_iconst dX12_kindIs_55 ?_
          refine g_aload_n dX12_kindIs_56 rfl ?_
          refine m_g37 (z := (P 0 37)) rfl dX12_kindIs_57 ((hFc53.1 37 rfl).trans ((hFc49.1 37 rfl).trans ((hE16_32.1 37 rfl).trans rfl))) ?_
          refine g_imul dX12_kindIs_60 ?_
          refine g_aload_n dX12_kindIs_61 rfl ?_
          refine m_g14 rfl dX12_kindIs_62 ?_
          refine g_aload_n dX12_kindIs_65 rfl ?_
          refine m_g37 (z := (P 0 37)) rfl dX12_kindIs_66 ((hFc53.1 37 rfl).trans ((hFc49.1 37 rfl).trans ((hE16_32.1 37 rfl).trans rfl))) ?_
          refine m_l2 (z := (P 2 (P 0 37))) dX12_kindIs_69 ⟨by have q0 := b0_37 hB; omega, by have q0 := b0_37 hB; omega⟩ ((congrFun (hFc53.2 2 rfl rfl) _).trans ((congrFun (hFc49.2 2 rfl rfl) _).trans ((congrFun (hE16_32.2 2 rfl rfl) _).trans rfl))) ?_
          refine g_iadd dX12_kindIs_70 ?_
          refine g_istore_n (l1 := [(3, vI ((4 * (P 0 37)) + (P 2 (P 0 37)))), (1, vL rc53), (0, vR 0)]) dX12_kindIs_71 (by decide) rfl ?_
          refine g_aload_n dX12_kindIs_72 rfl ?_
          refine m_g34 rfl dX12_kindIs_73 ?_
          refine g_iload_n dX12_kindIs_76 rfl ?_
          refine g_lload_n dX12_kindIs_77 rfl ?_
          refine m_s22 dX12_kindIs_78 ⟨by have q0 := b0_37 hB; have q1 := bl_2 (k := (P 0 37)) hB; omega, by have q0 := b0_37 hB; have q1 := bl_2 (k := (P 0 37)) hB; omega⟩ ?_
          have hB56 := ba_22 (z := rc53) (k := ((4 * (P 0 37)) + (P 2 (P 0 37)))) hBc53 ⟨by omega, by omega⟩
          refine g_aload_n dX12_kindIs_79 rfl ?_
          refine m_g15 rfl dX12_kindIs_80 ?_
          refine g_iload_n dX12_kindIs_83 rfl ?_
          refine g_iconst dX12_kindIs_84 ?_
          refine m_s3 dX12_kindIs_85 ⟨by have q0 := b0_37 hB; have q1 := bl_2 (k := (P 0 37)) hB; omega, by have q0 := b0_37 hB; have q1 := bl_2 (k := (P 0 37)) hB; omega⟩ ?_
          have hB57 := ba_3 (z := 0) (k := ((4 * (P 0 37)) + (P 2 (P 0 37)))) hB56 (by decide)
          refine g_aload_n dX12_kindIs_86 rfl ?_
          refine m_g16 rfl dX12_kindIs_87 ?_
          refine g_iload_n dX12_kindIs_90 rfl ?_
          refine g_iconst dX12_kindIs_91 ?_
          refine m_s4 dX12_kindIs_92 ⟨by have q0 := b0_37 hB; have q1 := bl_2 (k := (P 0 37)) hB; omega, by have q0 := b0_37 hB; have q1 := bl_2 (k := (P 0 37)) hB; omega⟩ ?_
          have hB58 := ba_4 (z := 0) (k := ((4 * (P 0 37)) + (P 2 (P 0 37)))) hB57 (by decide)
          refine g_aload_n dX12_kindIs_93 rfl ?_
          refine m_g14 rfl dX12_kindIs_94 ?_
          refine g_aload_n dX12_kindIs_97 rfl ?_
          refine m_g37 (z := (P 0 37)) rfl dX12_kindIs_98 ((up_o (by decide)).trans ((up_o (by decide)).trans ((up_o (by decide)).trans ((hFc53.1 37 rfl).trans ((hFc49.1 37 rfl).trans ((hE16_32.1 37 rfl).trans rfl)))))) ?_
          refine g_dup2 dX12_kindIs_101 rfl rfl ?_
          refine m_l2 (z := (P 2 (P 0 37))) dX12_kindIs_102 ⟨by have q0 := b0_37 hB; omega, by have q0 := b0_37 hB; omega⟩ ((up_o (by decide)).trans ((up_o (by decide)).trans ((up_o (by decide)).trans ((congrFun (hFc53.2 2 rfl rfl) _).trans ((congrFun (hFc49.2 2 rfl rfl) _).trans ((congrFun (hE16_32.2 2 rfl rfl) _).trans rfl)))))) ?_
          refine g_iconst dX12_kindIs_103 ?_
          refine g_iadd dX12_kindIs_104 ?_
          refine m_s2 dX12_kindIs_105 ⟨by have q0 := b0_37 hB; omega, by have q0 := b0_37 hB; omega⟩ ?_
          have hB59 := ba_2 (z := ((P 2 (P 0 37)) + 1)) (k := (P 0 37)) hB58 ⟨by have q0 := bl_2 (k := (P 0 37)) hB; omega, by have q0 := bl_2 (k := (P 0 37)) hB; omega⟩
          have iv60 : KVP (up (up (up (up Pc53 22 ((4 * (P 0 37)) + (P 2 (P 0 37))) rc53) 3 ((4 * (P 0 37)) + (P 2 (P 0 37))) 0) 4 ((4 * (P 0 37)) + (P 2 (P 0 37))) 0) 2 (P 0 37) ((P 2 (P 0 37)) + 1)) := v_KVP.step (i := ((4 * (P 0 37)) + (P 2 (P 0 37)))) (fun j hj => ((up_o (by decide)).trans ((up_o (by decide)).trans ((up_k hj).trans ((up_o (by decide)).trans ((congrFun (hFc53.2 3 rfl rfl) _).trans ((congrFun (hFc49.2 3 rfl rfl) _).trans ((congrFun (hE16_32.2 3 rfl rfl) _).trans rfl)))))))) (fun j hj => ((up_o (by decide)).trans ((up_k hj).trans ((up_o (by decide)).trans ((up_o (by decide)).trans ((congrFun (hFc53.2 4 rfl rfl) _).trans ((congrFun (hFc49.2 4 rfl rfl) _).trans ((congrFun (hE16_32.2 4 rfl rfl) _).trans rfl)))))))) (by have q3 := (((up_o (by decide)).trans ((up_o (by decide)).trans up_same)) : (up (up (up (up Pc53 22 ((4 * (P 0 37)) + (P 2 (P 0 37))) rc53) 3 ((4 * (P 0 37)) + (P 2 (P 0 37))) 0) 4 ((4 * (P 0 37)) + (P 2 (P 0 37))) 0) 2 (P 0 37) ((P 2 (P 0 37)) + 1)) 3 ((4 * (P 0 37)) + (P 2 (P 0 37))) = 0); have q4 := (((up_o (by decide)).trans up_same) : (up (up (up (up Pc53 22 ((4 * (P 0 37)) + (P 2 (P 0 37))) rc53) 3 ((4 * (P 0 37)) + (P 2 (P 0 37))) 0) 4 ((4 * (P 0 37)) + (P 2 (P 0 37))) 0) 2 (P 0 37) ((P 2 (P 0 37)) + 1)) 4 ((4 * (P 0 37)) + (P 2 (P 0 37))) = 0); omega)
          have iv61 : KC (up (up (up (up Pc53 22 ((4 * (P 0 37)) + (P 2 (P 0 37))) rc53) 3 ((4 * (P 0 37)) + (P 2 (P 0 37))) 0) 4 ((4 * (P 0 37)) + (P 2 (P 0 37))) 0) 2 (P 0 37) ((P 2 (P 0 37)) + 1)) := v_KC.kind hB ((up_o (by decide)).trans ((up_o (by decide)).trans ((up_o (by decide)).trans ((up_o (by decide)).trans ((hFc53.1 37 rfl).trans ((hFc49.1 37 rfl).trans ((hE16_32.1 37 rfl).trans rfl))))))) up_same ((up_o (by decide)).trans ((up_o (by decide)).trans ((up_o (by decide)).trans ((up_o (by decide)).trans ((congrFun (hFc53.2 5 rfl rfl) _).trans ((congrFun (hFc49.2 5 rfl rfl) _).trans ((congrFun (hE16_32.2 5 rfl rfl) _).trans rfl))))))) ((up_o (by decide)).trans up_same)
          exact g_retV dX12_kindIs_106 rfl (hQ _ hB59 (FrM.a (FrM.a (FrM.a (FrM.a (FrM.c (FrM.c (FrM.c FrM.rf hE16_32 rfl) hFc49 rfl) hFc53 rfl) rfl rfl) rfl rfl) rfl rfl) rfl rfl) (by have q0 := (((up_o (by decide)).trans ((up_o (by decide)).trans ((up_o (by decide)).trans ((up_o (by decide)).trans rfl)))) : (up (up (up (up Pc53 22 ((4 * (P 0 37)) + (P 2 (P 0 37))) rc53) 3 ((4 * (P 0 37)) + (P 2 (P 0 37))) 0) 4 ((4 * (P 0 37)) + (P 2 (P 0 37))) 0) 2 (P 0 37) ((P 2 (P 0 37)) + 1)) 0 3 = (Pc53 0 3)); have q1 := b0_3 hBc53; have q2 := (((up_o (by decide)).trans ((up_o (by decide)).trans ((up_o (by decide)).trans ((up_o (by decide)).trans rfl)))) : (up (up (up (up Pc53 22 ((4 * (P 0 37)) + (P 2 (P 0 37))) rc53) 3 ((4 * (P 0 37)) + (P 2 (P 0 37))) 0) 4 ((4 * (P 0 37)) + (P 2 (P 0 37))) 0) 2 (P 0 37) ((P 2 (P 0 37)) + 1)) 0 4 = (Pc53 0 4)); have q3 := b0_4 hBc53; have q4 := (((up_o (by decide)).trans ((up_o (by decide)).trans ((up_o (by decide)).trans ((up_o (by decide)).trans rfl)))) : (up (up (up (up Pc53 22 ((4 * (P 0 37)) + (P 2 (P 0 37))) rc53) 3 ((4 * (P 0 37)) + (P 2 (P 0 37))) 0) 4 ((4 * (P 0 37)) + (P 2 (P 0 37))) 0) 2 (P 0 37) ((P 2 (P 0 37)) + 1)) 0 5 = (Pc53 0 5)); have q5 := b0_5 hBc53; omega) (by have q0 := (((up_o (by decide)).trans ((up_o (by decide)).trans ((up_o (by decide)).trans ((up_o (by decide)).trans rfl)))) : (up (up (up (up Pc53 22 ((4 * (P 0 37)) + (P 2 (P 0 37))) rc53) 3 ((4 * (P 0 37)) + (P 2 (P 0 37))) 0) 4 ((4 * (P 0 37)) + (P 2 (P 0 37))) 0) 2 (P 0 37) ((P 2 (P 0 37)) + 1)) 0 4 = (Pc53 0 4)); have q1 := b0_4 hBc53; omega) (by have q0 := (((up_o (by decide)).trans ((up_o (by decide)).trans ((up_o (by decide)).trans ((up_o (by decide)).trans rfl)))) : (up (up (up (up Pc53 22 ((4 * (P 0 37)) + (P 2 (P 0 37))) rc53) 3 ((4 * (P 0 37)) + (P 2 (P 0 37))) 0) 4 ((4 * (P 0 37)) + (P 2 (P 0 37))) 0) 2 (P 0 37) ((P 2 (P 0 37)) + 1)) 0 8 = (Pc53 0 8)); have q1 := b0_8 hBc53; omega) iv60 iv61 (CF.fr (F := ([3, 4, 5, 6, 7, 8, 9, 12], [2, 3, 4, 22])) v_CF (FrM.a (FrM.a (FrM.a (FrM.a (FrM.c (FrM.c (FrM.c FrM.rf hE16_32 rfl) hFc49 rfl) hFc53 rfl) rfl rfl) rfl rfl) rfl rfl) rfl rfl) rfl))
        · exact g_retV dX12_kindIs_54 rfl (hQ _ hBc53 (FrM.c (FrM.c (FrM.c FrM.rf hE16_32 rfl) hFc49 rfl) hFc53 rfl) (by have q0 := b0_3 hBc53; have q1 := b0_4 hBc53; have q2 := b0_5 hBc53; omega) (by have q0 := b0_4 hBc53; omega) (by have q0 := b0_8 hBc53; omega) (KVP.fr (F := ([3, 4, 5, 6, 7, 8, 9, 12], [])) v_KVP (FrM.c (FrM.c (FrM.c FrM.rf hE16_32 rfl) hFc49 rfl) hFc53 rfl) rfl) (KC.fr (F := ([3, 4, 5, 6, 7, 8, 9, 12], [])) v_KC (FrM.c (FrM.c (FrM.c FrM.rf hE16_32 rfl) hFc49 rfl) hFc53 rfl) rfl) (CF.fr (F := ([3, 4, 5, 6, 7, 8, 9, 12], [])) v_CF (FrM.c (FrM.c (FrM.c FrM.rf hE16_32 rfl) hFc49 rfl) hFc53 rfl) rfl))
      · exact g_retV dX12_kindIs_41 rfl (hQ _ hBc49 (FrM.c (FrM.c FrM.rf hE16_32 rfl) hFc49 rfl) (by have q0 := b0_3 hBc49; have q1 := b0_4 hBc49; have q2 := b0_5 hBc49; omega) (by have q0 := b0_4 hBc49; omega) (by have q0 := b0_8 hBc49; omega) (KVP.fr (F := ([3, 4, 5, 6, 7, 8, 9, 12], [])) v_KVP (FrM.c (FrM.c FrM.rf hE16_32 rfl) hFc49 rfl) rfl) (KC.fr (F := ([3, 4, 5, 6, 7, 8, 9, 12], [])) v_KC (FrM.c (FrM.c FrM.rf hE16_32 rfl) hFc49 rfl) rfl) (CF.fr (F := ([3, 4, 5, 6, 7, 8, 9, 12], [])) v_CF (FrM.c (FrM.c FrM.rf hE16_32 rfl) hFc49 rfl) rfl))
  refine g_if_eq (tgt := 16) dX12_kindIs_4 (by decide) ⟨by have q0 := b0_38 hB; omega, by have q0 := b0_38 hB; omega⟩ (fun k62 => ?_) (fun k62 => ?_)
  · refine g_forget (l1 := [(0, vR 0)]) (by intro q hq; simp only [List.mem_cons, List.not_mem_nil, or_false] at hq ⊢; rcases hq with rfl <;> simp) ?_
    exact J16_32 _ hB FrM.rf (by have q0 := b0_8 hB; omega) (by have q0 := b0_4 hB; omega) (by have q0 := b0_3 hB; have q1 := b0_4 hB; have q2 := b0_5 hB; omega)
  · refine g_aload_n dX12_kindIs_7 rfl ?_
    refine g_iconst dX12_kindIs_8 ?_
    refine g_aload_n dX12_kindIs_9 rfl ?_
    refine m_g4 (z := (P 0 4)) rfl dX12_kindIs_10 rfl ?_
    have f63 := b0_4 hB
    refine g_vV (av := [vI 1, vI (P 0 4)]) (o := 0) (st := []) (m_X12_blame G P 1 (P 0 4) (by decide) ⟨by have q0 := b0_4 hB; omega, by have q0 := b0_4 hB; omega⟩ hB  _ (fun Pc64 hBc64 hFc64 gc64_f gc64_pe => ⟨rfl, ?_⟩)) cf_X12_blame t_1701 rfl (by decide) rfl rfl rfl (Nat.le_of_ble_eq_true rfl) (by decide) rfl dX12_kindIs_13
    refine g_forget (l1 := [(0, vR 0)]) (by intro q hq; simp only [List.mem_cons, List.not_mem_nil, or_false] at hq ⊢; rcases hq with rfl <;> simp) ?_
    exact J16_32 _ hBc64 (FrM.c FrM.rf hFc64 rfl) (by have q0 := b0_8 hBc64; omega) (by have q0 := (((hFc64.1 4 rfl).trans rfl) : Pc64 0 4 = (P 0 4)); have q1 := b0_4 hB; omega) (by have q0 := (((hFc64.1 3 rfl).trans rfl) : Pc64 0 3 = (P 0 3)); have q1 := b0_3 hB; have q2 := (((hFc64.1 4 rfl).trans rfl) : Pc64 0 4 = (P 0 4)); have q3 := b0_4 hB; have q4 := (((hFc64.1 5 rfl).trans rfl) : Pc64 0 5 = (P 0 5)); have q5 := b0_5 hB; omega)
set_option maxRecDepth 100000 in
set_option maxHeartbeats 4000000 in
theorem m_X12_conIs (G : GT) (P : PH) (hB : BdM P) (p_lx : (P 0 3 = 0 ∨ P 0 4 + 1 ≤ P 0 5) ∧ P 0 4 ≤ P 0 5) (v_KVP : KVP P) (v_KC : KC P) (v_CF : CF P) (Q : Option PV → PH → Prop) (hQ : ∀ (P1 : PH) (_ : BdM P1) (_ : FrM ([3, 4, 5, 6, 7, 8, 9, 12], [3, 4, 5, 6, 7, 8, 9, 10, 23]) P P1) (_ : (P1 0 3 = 0 ∨ P1 0 4 + 1 ≤ P1 0 5) ∧ P1 0 4 ≤ P1 0 5) (_ : P 0 4 ≤ P1 0 4) (_ : P 0 8 ≤ 0 ∨ 0 < P1 0 8) (_ : KVP P1) (_ : KC P1) (_ : CF P1), Q none P1) : Ct WSM G 4 iX12_conIs [vR 0] P Q := by
  refine Ct.of (by decide) (l0 := [(0, vR 0)]) rfl (Nat.le_of_ble_eq_true rfl) ?_
  refine g_aload_n dX12_conIs_0 rfl ?_
  refine m_g14 rfl dX12_conIs_1 ?_
  refine g_aload_n dX12_conIs_4 rfl ?_
  refine m_g37 (z := (P 0 37)) rfl dX12_conIs_5 rfl ?_
  refine m_l2 (z := (P 2 (P 0 37))) dX12_conIs_8 ⟨by have q0 := b0_37 hB; omega, by have q0 := b0_37 hB; omega⟩ rfl ?_
  refine g_iconst dX12_conIs_9 ?_
  refine g_isub dX12_conIs_10 ?_
  refine g_istore_n (l1 := [(1, vI ((P 2 (P 0 37)) - 1)), (0, vR 0)]) dX12_conIs_11 (by decide) rfl ?_
  refine g_aload_n dX12_conIs_12 rfl ?_
  refine m_g38 (z := (P 0 38)) rfl dX12_conIs_13 rfl ?_
  have f1 := b0_38 hB
  have J32_2615 : ∀ (H32_2615 : PH) (hB32_2615 : BdM H32_2615) (hE32_2615 : FrM ([8, 9], []) P H32_2615) (i32_0_2615 : 0 < H32_2615 0 8 ∨ 0 ≤ ((P 2 (P 0 37)) - 1)) (i32_1_2615 : P 0 8 ≤ 0 ∨ 0 < H32_2615 0 8) (i32_2_2615 : P 0 4 ≤ H32_2615 0 4) (i32_3_2615 : (H32_2615 0 3 = 0 ∨ H32_2615 0 4 + 1 ≤ H32_2615 0 5) ∧ H32_2615 0 4 ≤ H32_2615 0 5), Go WSM G 4 iX12_conIs 32 [(0, vR 0), (1, vI ((P 2 (P 0 37)) - 1))] [] H32_2615 Q := by
    intro H32_2615 hB32_2615 hE32_2615 i32_0_2615 i32_1_2615 i32_2_2615 i32_3_2615
    refine g_aload_n dX12_conIs_32 rfl ?_
    refine g_iload_n dX12_conIs_33 rfl ?_
    have f2617 := bl_2 (k := (P 0 37)) hB
    refine g_if_lt (tgt := 59) dX12_conIs_34 (by decide) ⟨by have q0 := bl_2 (k := (P 0 37)) hB; omega, by have q0 := bl_2 (k := (P 0 37)) hB; omega⟩ (fun k2618 => ?_) (fun k2618 => ?_)
    · refine g_iconst dX12_conIs_59 ?_
      refine g_vI (av := [vI 0]) (o := 0) (st := []) (m_X12_isCounted G H32_2615 0 (by decide) hB32_2615 (by have q0 := (((hE32_2615.1 3 rfl).trans rfl) : H32_2615 0 3 = (P 0 3)); have q1 := b0_3 hB; have q2 := (((hE32_2615.1 4 rfl).trans rfl) : H32_2615 0 4 = (P 0 4)); have q3 := b0_4 hB; have q4 := (((hE32_2615.1 5 rfl).trans rfl) : H32_2615 0 5 = (P 0 5)); have q5 := b0_5 hB; omega) _ (fun rc2619 hc2619 Pc2619 hBc2619 hFc2619 gc2619_lx gc2619_mo gc2619_pe gc2619_c gc2619_ad => ⟨rc2619, rfl, ?_⟩)) cf_X12_isCounted t_1714 rfl (by decide) rfl rfl rfl (Nat.le_of_ble_eq_true rfl) (by decide) rfl dX12_conIs_60
      have z2620 : H32_2615 0 4 = (P 0 4) := ((hE32_2615.1 4 rfl).trans rfl)
      have z2621 : H32_2615 0 3 = (P 0 3) := ((hE32_2615.1 3 rfl).trans rfl)
      refine g_if_ne (tgt := 67) dX12_conIs_63 (by decide) ⟨by omega, by omega⟩ (fun k2622 => ?_) (fun k2622 => ?_)
      · refine g_aload_n dX12_conIs_67 rfl ?_
        refine g_vL (av := []) (o := 0) (st := []) (m_X12_fresh G Pc2619  hBc2619 (by have q0 := b0_3 hBc2619; have q1 := b0_4 hBc2619; have q2 := b0_5 hBc2619; omega) _ (fun rc2623 hc2623 Pc2623 hBc2623 hFc2623 gc2623_lx gc2623_mo gc2623_pe => ⟨rc2623, rfl, ?_⟩)) cf_X12_fresh t_1718 rfl (by decide) rfl rfl rfl (Nat.le_of_ble_eq_true rfl) (by decide) rfl dX12_conIs_68
        refine g_lstore_n (l1 := [(2, vL rc2623), (0, vR 0), (1, vI ((P 2 (P 0 37)) - 1))]) dX12_conIs_71 (by decide) rfl ?_
        refine g_aload_n dX12_conIs_72 rfl ?_
        refine m_g8 (z := (Pc2623 0 8)) rfl dX12_conIs_73 rfl ?_
        have f2624 := b0_8 hBc2623
        refine g_if_le (tgt := 80) dX12_conIs_76 (by decide) ⟨by have q0 := b0_8 hBc2623; omega, by have q0 := b0_8 hBc2623; omega⟩ (fun k2625 => ?_) (fun k2625 => ?_)
        · have hkc := v_KC
          unfold KC at hkc
          refine g_bipush dX12_conIs_80 (by decide) ?_
          refine g_aload_n dX12_conIs_82 rfl ?_
          refine m_g37 (z := (P 0 37)) rfl dX12_conIs_83 ((hFc2623.1 37 rfl).trans ((hFc2619.1 37 rfl).trans ((hE32_2615.1 37 rfl).trans rfl))) ?_
          refine g_imul dX12_conIs_86 ?_
          refine g_aload_n dX12_conIs_87 rfl ?_
          refine m_g17 rfl dX12_conIs_88 ?_
          refine g_aload_n dX12_conIs_91 rfl ?_
          refine m_g37 (z := (P 0 37)) rfl dX12_conIs_92 ((hFc2623.1 37 rfl).trans ((hFc2619.1 37 rfl).trans ((hE32_2615.1 37 rfl).trans rfl))) ?_
          refine m_l5 (z := (P 5 (P 0 37))) dX12_conIs_95 ⟨by have q0 := b0_37 hB; omega, by have q0 := b0_37 hB; omega⟩ ((congrFun (hFc2623.2 5 rfl rfl) _).trans ((congrFun (hFc2619.2 5 rfl rfl) _).trans ((congrFun (hE32_2615.2 5 rfl rfl) _).trans rfl))) ?_
          refine g_iadd dX12_conIs_96 ?_
          refine g_istore (l1 := [(4, vI ((24 * (P 0 37)) + (P 5 (P 0 37)))), (2, vL rc2623), (0, vR 0), (1, vI ((P 2 (P 0 37)) - 1))]) dX12_conIs_97 (by decide) rfl ?_
          refine g_aload_n dX12_conIs_99 rfl ?_
          refine m_g15 rfl dX12_conIs_100 ?_
          refine g_iconst dX12_conIs_103 ?_
          refine g_aload_n dX12_conIs_104 rfl ?_
          refine m_g37 (z := (P 0 37)) rfl dX12_conIs_105 ((hFc2623.1 37 rfl).trans ((hFc2619.1 37 rfl).trans ((hE32_2615.1 37 rfl).trans rfl))) ?_
          refine g_imul dX12_conIs_108 ?_
          refine g_iload_n dX12_conIs_109 rfl ?_
          refine g_iadd dX12_conIs_110 ?_
          refine m_l3 (z := (P 3 ((4 * (P 0 37)) + ((P 2 (P 0 37)) - 1)))) dX12_conIs_111 ⟨by have q0 := b0_37 hB; have q1 := bl_2 (k := (P 0 37)) hB; omega, by have q0 := b0_37 hB; have q1 := bl_2 (k := (P 0 37)) hB; omega⟩ ((congrFun (hFc2623.2 3 rfl rfl) _).trans ((congrFun (hFc2619.2 3 rfl rfl) _).trans ((congrFun (hE32_2615.2 3 rfl rfl) _).trans rfl))) ?_
          refine g_istore (l1 := [(5, vI (P 3 ((4 * (P 0 37)) + ((P 2 (P 0 37)) - 1)))), (4, vI ((24 * (P 0 37)) + (P 5 (P 0 37)))), (2, vL rc2623), (0, vR 0), (1, vI ((P 2 (P 0 37)) - 1))]) dX12_conIs_112 (by decide) rfl ?_
          refine g_aload_n dX12_conIs_114 rfl ?_
          refine m_g35 rfl dX12_conIs_115 ?_
          refine g_iload dX12_conIs_118 rfl ?_
          refine g_lload_n dX12_conIs_120 rfl ?_
          have hcf := (CF.fr (F := ([3, 4, 5, 6, 7, 8, 9, 12], [])) v_CF (FrM.c (FrM.c (FrM.c FrM.rf hE32_2615 rfl) hFc2619 rfl) hFc2623 rfl) rfl)
          refine m_s23 dX12_conIs_121 ⟨by have q0 := b0_37 hB; have q1 := bl_5 (k := (P 0 37)) hB; omega, by have q0 := b0_37 hB; have q1 := bl_5 (k := (P 0 37)) hB; omega⟩ ?_
          have hB2626 := ba_23 (z := rc2623) (k := ((24 * (P 0 37)) + (P 5 (P 0 37)))) hBc2623 ⟨by omega, by omega⟩
          refine g_aload_n dX12_conIs_122 rfl ?_
          refine m_g18 rfl dX12_conIs_123 ?_
          refine g_iload dX12_conIs_126 rfl ?_
          refine g_iload_n dX12_conIs_128 rfl ?_
          refine m_s6 dX12_conIs_129 ⟨by have q0 := b0_37 hB; have q1 := bl_5 (k := (P 0 37)) hB; omega, by have q0 := b0_37 hB; have q1 := bl_5 (k := (P 0 37)) hB; omega⟩ ?_
          have hB2627 := ba_6 (z := ((P 2 (P 0 37)) - 1)) (k := ((24 * (P 0 37)) + (P 5 (P 0 37)))) hB2626 ⟨by have q0 := bl_2 (k := (P 0 37)) hB; omega, by have q0 := bl_2 (k := (P 0 37)) hB; omega⟩
          refine g_aload_n dX12_conIs_130 rfl ?_
          refine m_g19 rfl dX12_conIs_131 ?_
          refine g_iload dX12_conIs_134 rfl ?_
          refine g_iconst dX12_conIs_136 ?_
          refine m_s7 dX12_conIs_137 ⟨by have q0 := b0_37 hB; have q1 := bl_5 (k := (P 0 37)) hB; omega, by have q0 := b0_37 hB; have q1 := bl_5 (k := (P 0 37)) hB; omega⟩ ?_
          have hB2628 := ba_7 (z := 0) (k := ((24 * (P 0 37)) + (P 5 (P 0 37)))) hB2627 (by decide)
          have iv2629 : CF (up (up (up Pc2623 23 ((24 * (P 0 37)) + (P 5 (P 0 37))) rc2623) 6 ((24 * (P 0 37)) + (P 5 (P 0 37))) ((P 2 (P 0 37)) - 1)) 7 ((24 * (P 0 37)) + (P 5 (P 0 37))) 0) := hcf.new (c := ((24 * (P 0 37)) + (P 5 (P 0 37)))) (fun j hj => ((up_o (by decide)).trans ((up_k hj).trans ((up_o (by decide)).trans rfl)))) (fun j hj => ((up_k hj).trans ((up_o (by decide)).trans ((up_o (by decide)).trans rfl)))) (fun j => ((up_o (by decide)).trans ((up_o (by decide)).trans ((up_o (by decide)).trans rfl)))) up_same
          refine g_aload_n dX12_conIs_138 rfl ?_
          refine m_g21 rfl dX12_conIs_139 ?_
          refine g_iload dX12_conIs_142 rfl ?_
          refine g_iload dX12_conIs_144 rfl ?_
          refine m_s9 dX12_conIs_146 ⟨by have q0 := b0_37 hB; have q1 := bl_5 (k := (P 0 37)) hB; omega, by have q0 := b0_37 hB; have q1 := bl_5 (k := (P 0 37)) hB; omega⟩ ?_
          have hB2630 := ba_9 (z := (P 3 ((4 * (P 0 37)) + ((P 2 (P 0 37)) - 1)))) (k := ((24 * (P 0 37)) + (P 5 (P 0 37)))) hB2628 ⟨by have q0 := bl_3 (k := ((4 * (P 0 37)) + ((P 2 (P 0 37)) - 1))) hB; omega, by have q0 := bl_3 (k := ((4 * (P 0 37)) + ((P 2 (P 0 37)) - 1))) hB; omega⟩
          refine g_aload_n dX12_conIs_147 rfl ?_
          refine m_g22 rfl dX12_conIs_148 ?_
          refine g_iload dX12_conIs_151 rfl ?_
          refine g_iconst dX12_conIs_153 ?_
          refine m_s10 dX12_conIs_154 ⟨by have q0 := b0_37 hB; have q1 := bl_5 (k := (P 0 37)) hB; omega, by have q0 := b0_37 hB; have q1 := bl_5 (k := (P 0 37)) hB; omega⟩ ?_
          have hB2631 := ba_10 (z := 1) (k := ((24 * (P 0 37)) + (P 5 (P 0 37)))) hB2630 (by decide)
          refine g_aload_n dX12_conIs_155 rfl ?_
          refine g_vV (av := []) (o := 0) (st := []) (m_X12_lex G (up (up (up (up (up Pc2623 23 ((24 * (P 0 37)) + (P 5 (P 0 37))) rc2623) 6 ((24 * (P 0 37)) + (P 5 (P 0 37))) ((P 2 (P 0 37)) - 1)) 7 ((24 * (P 0 37)) + (P 5 (P 0 37))) 0) 9 ((24 * (P 0 37)) + (P 5 (P 0 37))) (P 3 ((4 * (P 0 37)) + ((P 2 (P 0 37)) - 1)))) 10 ((24 * (P 0 37)) + (P 5 (P 0 37))) 1)  hB2631  _ (fun Pc2632 hBc2632 hFc2632 gc2632_pe => ⟨rfl, ?_⟩)) cf_X12_lex t_1697 rfl (by decide) rfl rfl rfl (Nat.le_of_ble_eq_true rfl) (by decide) rfl dX12_conIs_156
          have z2633 : (up (up (up (up (up Pc2623 23 ((24 * (P 0 37)) + (P 5 (P 0 37))) rc2623) 6 ((24 * (P 0 37)) + (P 5 (P 0 37))) ((P 2 (P 0 37)) - 1)) 7 ((24 * (P 0 37)) + (P 5 (P 0 37))) 0) 9 ((24 * (P 0 37)) + (P 5 (P 0 37))) (P 3 ((4 * (P 0 37)) + ((P 2 (P 0 37)) - 1)))) 10 ((24 * (P 0 37)) + (P 5 (P 0 37))) 1) 0 8 = (Pc2623 0 8) := ((up_o (by decide)).trans ((up_o (by decide)).trans ((up_o (by decide)).trans ((up_o (by decide)).trans ((up_o (by decide)).trans rfl)))))
          have L159_2633 : ∀ (n159_2633 : Nat) (H159_2633 : PH) (hB159_2633 : BdM H159_2633) (hE159_2633 : FrM ([3, 4, 5, 6, 7, 8, 9, 12], [7, 8, 10]) Pc2632 H159_2633) (i159_0_2633 : (H159_2633 10 ((24 * (P 0 37)) + (P 5 (P 0 37))) = 1 ∧ H159_2633 7 ((24 * (P 0 37)) + (P 5 (P 0 37))) = 0) ∨ (P 3 ((4 * (P 0 37)) + ((P 2 (P 0 37)) - 1))) + H159_2633 10 ((24 * (P 0 37)) + (P 5 (P 0 37))) ≤ 2000) (i159_1_2633 : 1 ≤ H159_2633 10 ((24 * (P 0 37)) + (P 5 (P 0 37)))) (i159_2_2633 : P 0 8 ≤ 0 ∨ 0 < H159_2633 0 8) (i159_3_2633 : P 0 4 ≤ H159_2633 0 4) (i159_4_2633 : (H159_2633 0 3 = 0 ∨ H159_2633 0 4 + 1 ≤ H159_2633 0 5) ∧ H159_2633 0 4 ≤ H159_2633 0 5) (w159_CF_2633 : CF H159_2633) (hm159_2633 : (1601 - H159_2633 0 4 : Int).toNat < n159_2633), Go WSM G 4 iX12_conIs 159 [(0, vR 0), (1, vI ((P 2 (P 0 37)) - 1)), (4, vI ((24 * (P 0 37)) + (P 5 (P 0 37)))), (5, vI (P 3 ((4 * (P 0 37)) + ((P 2 (P 0 37)) - 1))))] [] H159_2633 Q := by
            intro n159_2633
            induction n159_2633 with
            | zero => intro H159_2633 hB159_2633 hE159_2633 i159_0_2633 i159_1_2633 i159_2_2633 i159_3_2633 i159_4_2633 w159_CF_2633 hm159_2633; exact absurd hm159_2633 (Nat.not_lt_zero _)
            | succ n159_2633 ih159_2633 =>
            intro H159_2633 hB159_2633 hE159_2633 i159_0_2633 i159_1_2633 i159_2_2633 i159_3_2633 i159_4_2633 w159_CF_2633 hm159_2633
            refine g_aload_n dX12_conIs_159 rfl ?_
            refine m_g8 (z := (H159_2633 0 8)) rfl dX12_conIs_160 rfl ?_
            have f3315 := b0_8 hB159_2633
            have J303_3400 : ∀ (_ : True), Go WSM G 4 iX12_conIs 303 [(0, vR 0), (1, vI ((P 2 (P 0 37)) - 1)), (4, vI ((24 * (P 0 37)) + (P 5 (P 0 37))))] [] H159_2633 Q := by
              intro _
              refine g_aload_n dX12_conIs_303 rfl ?_
              refine m_g8 (z := (H159_2633 0 8)) rfl dX12_conIs_304 rfl ?_
              refine g_if_le (tgt := 311) dX12_conIs_307 (by decide) ⟨by have q0 := b0_8 hB159_2633; omega, by have q0 := b0_8 hB159_2633; omega⟩ (fun k3402 => ?_) (fun k3402 => ?_)
              · have hkv9 := v_KVP ((4 * (P 0 37)) + ((P 2 (P 0 37)) - 1))
                refine g_aload_n dX12_conIs_311 rfl ?_
                refine m_g15 rfl dX12_conIs_312 ?_
                refine g_iconst dX12_conIs_315 ?_
                refine g_aload_n dX12_conIs_316 rfl ?_
                refine m_g37 (z := (P 0 37)) rfl dX12_conIs_317 ((hE159_2633.1 37 rfl).trans ((hFc2632.1 37 rfl).trans ((up_o (by decide)).trans ((up_o (by decide)).trans ((up_o (by decide)).trans ((up_o (by decide)).trans ((up_o (by decide)).trans ((hFc2623.1 37 rfl).trans ((hFc2619.1 37 rfl).trans ((hE32_2615.1 37 rfl).trans rfl)))))))))) ?_
                refine g_imul dX12_conIs_320 ?_
                refine g_iload_n dX12_conIs_321 rfl ?_
                refine g_iadd dX12_conIs_322 ?_
                refine g_dup2 dX12_conIs_323 rfl rfl ?_
                refine m_l3 (z := (P 3 ((4 * (P 0 37)) + ((P 2 (P 0 37)) - 1)))) dX12_conIs_324 ⟨by have q0 := b0_37 hB; have q1 := bl_2 (k := (P 0 37)) hB; omega, by have q0 := b0_37 hB; have q1 := bl_2 (k := (P 0 37)) hB; omega⟩ ((congrFun (hE159_2633.2 3 rfl rfl) _).trans ((congrFun (hFc2632.2 3 rfl rfl) _).trans ((up_o (by decide)).trans ((up_o (by decide)).trans ((up_o (by decide)).trans ((up_o (by decide)).trans ((up_o (by decide)).trans ((congrFun (hFc2623.2 3 rfl rfl) _).trans ((congrFun (hFc2619.2 3 rfl rfl) _).trans ((congrFun (hE32_2615.2 3 rfl rfl) _).trans rfl)))))))))) ?_
                refine g_aload_n dX12_conIs_325 rfl ?_
                refine m_g22 rfl dX12_conIs_326 ?_
                refine g_iload dX12_conIs_329 rfl ?_
                refine m_l10 (z := (H159_2633 10 ((24 * (P 0 37)) + (P 5 (P 0 37))))) dX12_conIs_331 ⟨by have q0 := b0_37 hB; have q1 := bl_5 (k := (P 0 37)) hB; omega, by have q0 := b0_37 hB; have q1 := bl_5 (k := (P 0 37)) hB; omega⟩ rfl ?_
                refine g_iadd dX12_conIs_332 ?_
                refine m_s3 dX12_conIs_333 ⟨by have q0 := b0_37 hB; have q1 := bl_2 (k := (P 0 37)) hB; omega, by have q0 := b0_37 hB; have q1 := bl_2 (k := (P 0 37)) hB; omega⟩ ?_
                have hB3403 := ba_3 (z := ((P 3 ((4 * (P 0 37)) + ((P 2 (P 0 37)) - 1))) + (H159_2633 10 ((24 * (P 0 37)) + (P 5 (P 0 37)))))) (k := ((4 * (P 0 37)) + ((P 2 (P 0 37)) - 1))) hB159_2633 ⟨by have q0 := bl_3 (k := ((4 * (P 0 37)) + ((P 2 (P 0 37)) - 1))) hB; have q1 := bl_10 (k := ((24 * (P 0 37)) + (P 5 (P 0 37)))) hB159_2633; omega, by have q0 := bl_3 (k := ((4 * (P 0 37)) + ((P 2 (P 0 37)) - 1))) hB; have q1 := bl_10 (k := ((24 * (P 0 37)) + (P 5 (P 0 37)))) hB159_2633; omega⟩
                refine g_aload_n dX12_conIs_334 rfl ?_
                refine m_g16 rfl dX12_conIs_335 ?_
                refine g_iconst dX12_conIs_338 ?_
                refine g_aload_n dX12_conIs_339 rfl ?_
                refine m_g37 (z := (P 0 37)) rfl dX12_conIs_340 ((up_o (by decide)).trans ((hE159_2633.1 37 rfl).trans ((hFc2632.1 37 rfl).trans ((up_o (by decide)).trans ((up_o (by decide)).trans ((up_o (by decide)).trans ((up_o (by decide)).trans ((up_o (by decide)).trans ((hFc2623.1 37 rfl).trans ((hFc2619.1 37 rfl).trans ((hE32_2615.1 37 rfl).trans rfl))))))))))) ?_
                refine g_imul dX12_conIs_343 ?_
                refine g_iload_n dX12_conIs_344 rfl ?_
                refine g_iadd dX12_conIs_345 ?_
                refine g_dup2 dX12_conIs_346 rfl rfl ?_
                refine m_l4 (z := (P 4 ((4 * (P 0 37)) + ((P 2 (P 0 37)) - 1)))) dX12_conIs_347 ⟨by have q0 := b0_37 hB; have q1 := bl_2 (k := (P 0 37)) hB; omega, by have q0 := b0_37 hB; have q1 := bl_2 (k := (P 0 37)) hB; omega⟩ ((up_o (by decide)).trans ((congrFun (hE159_2633.2 4 rfl rfl) _).trans ((congrFun (hFc2632.2 4 rfl rfl) _).trans ((up_o (by decide)).trans ((up_o (by decide)).trans ((up_o (by decide)).trans ((up_o (by decide)).trans ((up_o (by decide)).trans ((congrFun (hFc2623.2 4 rfl rfl) _).trans ((congrFun (hFc2619.2 4 rfl rfl) _).trans ((congrFun (hE32_2615.2 4 rfl rfl) _).trans rfl))))))))))) ?_
                refine g_iconst dX12_conIs_348 ?_
                refine g_iadd dX12_conIs_349 ?_
                refine m_s4 dX12_conIs_350 ⟨by have q0 := b0_37 hB; have q1 := bl_2 (k := (P 0 37)) hB; omega, by have q0 := b0_37 hB; have q1 := bl_2 (k := (P 0 37)) hB; omega⟩ ?_
                have hB3404 := ba_4 (z := ((P 4 ((4 * (P 0 37)) + ((P 2 (P 0 37)) - 1))) + 1)) (k := ((4 * (P 0 37)) + ((P 2 (P 0 37)) - 1))) hB3403 ⟨by have q0 := bl_4 (k := ((4 * (P 0 37)) + ((P 2 (P 0 37)) - 1))) hB; omega, by have q0 := bl_4 (k := ((4 * (P 0 37)) + ((P 2 (P 0 37)) - 1))) hB; omega⟩
                refine g_aload_n dX12_conIs_351 rfl ?_
                refine m_g17 rfl dX12_conIs_352 ?_
                refine g_aload_n dX12_conIs_355 rfl ?_
                refine m_g37 (z := (P 0 37)) rfl dX12_conIs_356 ((up_o (by decide)).trans ((up_o (by decide)).trans ((hE159_2633.1 37 rfl).trans ((hFc2632.1 37 rfl).trans ((up_o (by decide)).trans ((up_o (by decide)).trans ((up_o (by decide)).trans ((up_o (by decide)).trans ((up_o (by decide)).trans ((hFc2623.1 37 rfl).trans ((hFc2619.1 37 rfl).trans ((hE32_2615.1 37 rfl).trans rfl)))))))))))) ?_
                refine g_dup2 dX12_conIs_359 rfl rfl ?_
                refine m_l5 (z := (P 5 (P 0 37))) dX12_conIs_360 ⟨by have q0 := b0_37 hB; omega, by have q0 := b0_37 hB; omega⟩ ((up_o (by decide)).trans ((up_o (by decide)).trans ((congrFun (hE159_2633.2 5 rfl rfl) _).trans ((congrFun (hFc2632.2 5 rfl rfl) _).trans ((up_o (by decide)).trans ((up_o (by decide)).trans ((up_o (by decide)).trans ((up_o (by decide)).trans ((up_o (by decide)).trans ((congrFun (hFc2623.2 5 rfl rfl) _).trans ((congrFun (hFc2619.2 5 rfl rfl) _).trans ((congrFun (hE32_2615.2 5 rfl rfl) _).trans rfl)))))))))))) ?_
                refine g_iconst dX12_conIs_361 ?_
                refine g_iadd dX12_conIs_362 ?_
                refine m_s5 dX12_conIs_363 ⟨by have q0 := b0_37 hB; omega, by have q0 := b0_37 hB; omega⟩ ?_
                have hB3405 := ba_5 (z := ((P 5 (P 0 37)) + 1)) (k := (P 0 37)) hB3404 ⟨by have q0 := bl_5 (k := (P 0 37)) hB; omega, by have q0 := bl_5 (k := (P 0 37)) hB; omega⟩
                have iv3406 : KVP (up (up (up H159_2633 3 ((4 * (P 0 37)) + ((P 2 (P 0 37)) - 1)) ((P 3 ((4 * (P 0 37)) + ((P 2 (P 0 37)) - 1))) + (H159_2633 10 ((24 * (P 0 37)) + (P 5 (P 0 37)))))) 4 ((4 * (P 0 37)) + ((P 2 (P 0 37)) - 1)) ((P 4 ((4 * (P 0 37)) + ((P 2 (P 0 37)) - 1))) + 1)) 5 (P 0 37) ((P 5 (P 0 37)) + 1)) := v_KVP.step (i := ((4 * (P 0 37)) + ((P 2 (P 0 37)) - 1))) (fun j hj => ((up_o (by decide)).trans ((up_o (by decide)).trans ((up_k hj).trans ((congrFun (hE159_2633.2 3 rfl rfl) _).trans ((congrFun (hFc2632.2 3 rfl rfl) _).trans ((up_o (by decide)).trans ((up_o (by decide)).trans ((up_o (by decide)).trans ((up_o (by decide)).trans ((up_o (by decide)).trans ((congrFun (hFc2623.2 3 rfl rfl) _).trans ((congrFun (hFc2619.2 3 rfl rfl) _).trans ((congrFun (hE32_2615.2 3 rfl rfl) _).trans rfl)))))))))))))) (fun j hj => ((up_o (by decide)).trans ((up_k hj).trans ((up_o (by decide)).trans ((congrFun (hE159_2633.2 4 rfl rfl) _).trans ((congrFun (hFc2632.2 4 rfl rfl) _).trans ((up_o (by decide)).trans ((up_o (by decide)).trans ((up_o (by decide)).trans ((up_o (by decide)).trans ((up_o (by decide)).trans ((congrFun (hFc2623.2 4 rfl rfl) _).trans ((congrFun (hFc2619.2 4 rfl rfl) _).trans ((congrFun (hE32_2615.2 4 rfl rfl) _).trans rfl)))))))))))))) (by have q3 := (((up_o (by decide)).trans ((up_o (by decide)).trans up_same)) : (up (up (up H159_2633 3 ((4 * (P 0 37)) + ((P 2 (P 0 37)) - 1)) ((P 3 ((4 * (P 0 37)) + ((P 2 (P 0 37)) - 1))) + (H159_2633 10 ((24 * (P 0 37)) + (P 5 (P 0 37)))))) 4 ((4 * (P 0 37)) + ((P 2 (P 0 37)) - 1)) ((P 4 ((4 * (P 0 37)) + ((P 2 (P 0 37)) - 1))) + 1)) 5 (P 0 37) ((P 5 (P 0 37)) + 1)) 3 ((4 * (P 0 37)) + ((P 2 (P 0 37)) - 1)) = ((P 3 ((4 * (P 0 37)) + ((P 2 (P 0 37)) - 1))) + (H159_2633 10 ((24 * (P 0 37)) + (P 5 (P 0 37)))))); have q4 := (((up_o (by decide)).trans up_same) : (up (up (up H159_2633 3 ((4 * (P 0 37)) + ((P 2 (P 0 37)) - 1)) ((P 3 ((4 * (P 0 37)) + ((P 2 (P 0 37)) - 1))) + (H159_2633 10 ((24 * (P 0 37)) + (P 5 (P 0 37)))))) 4 ((4 * (P 0 37)) + ((P 2 (P 0 37)) - 1)) ((P 4 ((4 * (P 0 37)) + ((P 2 (P 0 37)) - 1))) + 1)) 5 (P 0 37) ((P 5 (P 0 37)) + 1)) 4 ((4 * (P 0 37)) + ((P 2 (P 0 37)) - 1)) = ((P 4 ((4 * (P 0 37)) + ((P 2 (P 0 37)) - 1))) + 1)); have q5 := bl_4 (k := ((4 * (P 0 37)) + ((P 2 (P 0 37)) - 1))) hB; omega)
                have iv3407 : KC (up (up (up H159_2633 3 ((4 * (P 0 37)) + ((P 2 (P 0 37)) - 1)) ((P 3 ((4 * (P 0 37)) + ((P 2 (P 0 37)) - 1))) + (H159_2633 10 ((24 * (P 0 37)) + (P 5 (P 0 37)))))) 4 ((4 * (P 0 37)) + ((P 2 (P 0 37)) - 1)) ((P 4 ((4 * (P 0 37)) + ((P 2 (P 0 37)) - 1))) + 1)) 5 (P 0 37) ((P 5 (P 0 37)) + 1)) := v_KC.con (by omega) ((up_o (by decide)).trans ((up_o (by decide)).trans ((up_o (by decide)).trans ((hE159_2633.1 37 rfl).trans ((hFc2632.1 37 rfl).trans ((up_o (by decide)).trans ((up_o (by decide)).trans ((up_o (by decide)).trans ((up_o (by decide)).trans ((up_o (by decide)).trans ((hFc2623.1 37 rfl).trans ((hFc2619.1 37 rfl).trans ((hE32_2615.1 37 rfl).trans rfl))))))))))))) ((up_o (by decide)).trans ((up_o (by decide)).trans ((up_o (by decide)).trans ((congrFun (hE159_2633.2 2 rfl rfl) _).trans ((congrFun (hFc2632.2 2 rfl rfl) _).trans ((up_o (by decide)).trans ((up_o (by decide)).trans ((up_o (by decide)).trans ((up_o (by decide)).trans ((up_o (by decide)).trans ((congrFun (hFc2623.2 2 rfl rfl) _).trans ((congrFun (hFc2619.2 2 rfl rfl) _).trans ((congrFun (hE32_2615.2 2 rfl rfl) _).trans rfl))))))))))))) up_same ((up_o (by decide)).trans up_same)
                exact g_retV dX12_conIs_364 rfl (hQ _ hB3405 (FrM.a (FrM.a (FrM.a (FrM.c (FrM.c (FrM.a (FrM.a (FrM.a (FrM.a (FrM.a (FrM.c (FrM.c (FrM.c FrM.rf hE32_2615 rfl) hFc2619 rfl) hFc2623 rfl) rfl rfl) rfl rfl) rfl rfl) rfl rfl) rfl rfl) hFc2632 rfl) hE159_2633 rfl) rfl rfl) rfl rfl) rfl rfl) (by have q0 := (((up_o (by decide)).trans ((up_o (by decide)).trans ((up_o (by decide)).trans rfl))) : (up (up (up H159_2633 3 ((4 * (P 0 37)) + ((P 2 (P 0 37)) - 1)) ((P 3 ((4 * (P 0 37)) + ((P 2 (P 0 37)) - 1))) + (H159_2633 10 ((24 * (P 0 37)) + (P 5 (P 0 37)))))) 4 ((4 * (P 0 37)) + ((P 2 (P 0 37)) - 1)) ((P 4 ((4 * (P 0 37)) + ((P 2 (P 0 37)) - 1))) + 1)) 5 (P 0 37) ((P 5 (P 0 37)) + 1)) 0 3 = (H159_2633 0 3)); have q1 := b0_3 hB159_2633; have q2 := (((up_o (by decide)).trans ((up_o (by decide)).trans ((up_o (by decide)).trans rfl))) : (up (up (up H159_2633 3 ((4 * (P 0 37)) + ((P 2 (P 0 37)) - 1)) ((P 3 ((4 * (P 0 37)) + ((P 2 (P 0 37)) - 1))) + (H159_2633 10 ((24 * (P 0 37)) + (P 5 (P 0 37)))))) 4 ((4 * (P 0 37)) + ((P 2 (P 0 37)) - 1)) ((P 4 ((4 * (P 0 37)) + ((P 2 (P 0 37)) - 1))) + 1)) 5 (P 0 37) ((P 5 (P 0 37)) + 1)) 0 4 = (H159_2633 0 4)); have q3 := b0_4 hB159_2633; have q4 := (((up_o (by decide)).trans ((up_o (by decide)).trans ((up_o (by decide)).trans rfl))) : (up (up (up H159_2633 3 ((4 * (P 0 37)) + ((P 2 (P 0 37)) - 1)) ((P 3 ((4 * (P 0 37)) + ((P 2 (P 0 37)) - 1))) + (H159_2633 10 ((24 * (P 0 37)) + (P 5 (P 0 37)))))) 4 ((4 * (P 0 37)) + ((P 2 (P 0 37)) - 1)) ((P 4 ((4 * (P 0 37)) + ((P 2 (P 0 37)) - 1))) + 1)) 5 (P 0 37) ((P 5 (P 0 37)) + 1)) 0 5 = (H159_2633 0 5)); have q5 := b0_5 hB159_2633; omega) (by have q0 := (((up_o (by decide)).trans ((up_o (by decide)).trans ((up_o (by decide)).trans rfl))) : (up (up (up H159_2633 3 ((4 * (P 0 37)) + ((P 2 (P 0 37)) - 1)) ((P 3 ((4 * (P 0 37)) + ((P 2 (P 0 37)) - 1))) + (H159_2633 10 ((24 * (P 0 37)) + (P 5 (P 0 37)))))) 4 ((4 * (P 0 37)) + ((P 2 (P 0 37)) - 1)) ((P 4 ((4 * (P 0 37)) + ((P 2 (P 0 37)) - 1))) + 1)) 5 (P 0 37) ((P 5 (P 0 37)) + 1)) 0 4 = (H159_2633 0 4)); have q1 := b0_4 hB159_2633; omega) (by have q0 := (((up_o (by decide)).trans ((up_o (by decide)).trans ((up_o (by decide)).trans rfl))) : (up (up (up H159_2633 3 ((4 * (P 0 37)) + ((P 2 (P 0 37)) - 1)) ((P 3 ((4 * (P 0 37)) + ((P 2 (P 0 37)) - 1))) + (H159_2633 10 ((24 * (P 0 37)) + (P 5 (P 0 37)))))) 4 ((4 * (P 0 37)) + ((P 2 (P 0 37)) - 1)) ((P 4 ((4 * (P 0 37)) + ((P 2 (P 0 37)) - 1))) + 1)) 5 (P 0 37) ((P 5 (P 0 37)) + 1)) 0 8 = (H159_2633 0 8)); have q1 := b0_8 hB159_2633; omega) iv3406 iv3407 (CF.fr (F := ([], [3, 4, 5])) w159_CF_2633 (FrM.a (FrM.a (FrM.a FrM.rf rfl rfl) rfl rfl) rfl rfl) rfl))
              · exact g_retV dX12_conIs_310 rfl (hQ _ hB159_2633 (FrM.c (FrM.c (FrM.a (FrM.a (FrM.a (FrM.a (FrM.a (FrM.c (FrM.c (FrM.c FrM.rf hE32_2615 rfl) hFc2619 rfl) hFc2623 rfl) rfl rfl) rfl rfl) rfl rfl) rfl rfl) rfl rfl) hFc2632 rfl) hE159_2633 rfl) (by have q0 := b0_3 hB159_2633; have q1 := b0_4 hB159_2633; have q2 := b0_5 hB159_2633; omega) (by have q0 := b0_4 hB159_2633; omega) (by have q0 := b0_8 hB159_2633; omega) (KVP.fr (F := ([3, 4, 5, 6, 7, 8, 9, 12], [6, 7, 8, 9, 10, 23])) v_KVP (FrM.c (FrM.c (FrM.a (FrM.a (FrM.a (FrM.a (FrM.a (FrM.c (FrM.c (FrM.c FrM.rf hE32_2615 rfl) hFc2619 rfl) hFc2623 rfl) rfl rfl) rfl rfl) rfl rfl) rfl rfl) rfl rfl) hFc2632 rfl) hE159_2633 rfl) rfl) (KC.fr (F := ([3, 4, 5, 6, 7, 8, 9, 12], [6, 7, 8, 9, 10, 23])) v_KC (FrM.c (FrM.c (FrM.a (FrM.a (FrM.a (FrM.a (FrM.a (FrM.c (FrM.c (FrM.c FrM.rf hE32_2615 rfl) hFc2619 rfl) hFc2623 rfl) rfl rfl) rfl rfl) rfl rfl) rfl rfl) rfl rfl) hFc2632 rfl) hE159_2633 rfl) rfl) w159_CF_2633)
            refine g_if_ne (tgt := 303) dX12_conIs_163 (by decide) ⟨by have q0 := b0_8 hB159_2633; omega, by have q0 := b0_8 hB159_2633; omega⟩ (fun k3408 => ?_) (fun k3408 => ?_)
            · refine g_forget (l1 := [(0, vR 0), (1, vI ((P 2 (P 0 37)) - 1)), (4, vI ((24 * (P 0 37)) + (P 5 (P 0 37))))]) (by intro q hq; simp only [List.mem_cons, List.not_mem_nil, or_false] at hq ⊢; rcases hq with rfl | rfl | rfl <;> simp) ?_
              exact J303_3400 trivial
            · refine g_aload_n dX12_conIs_166 rfl ?_
              refine g_vI (av := []) (o := 0) (st := []) (m_X12_isKindHere G H159_2633  hB159_2633  _ (fun rc3409 hc3409 gc3409_w => ⟨rc3409, rfl, ?_⟩)) cf_X12_isKindHere t_1748 rfl (by decide) rfl rfl rfl (Nat.le_of_ble_eq_true rfl) (by decide) rfl dX12_conIs_167
              refine g_if_eq (tgt := 303) dX12_conIs_170 (by decide) ⟨by omega, by omega⟩ (fun k3410 => ?_) (fun k3410 => ?_)
              · refine g_forget (l1 := [(0, vR 0), (1, vI ((P 2 (P 0 37)) - 1)), (4, vI ((24 * (P 0 37)) + (P 5 (P 0 37))))]) (by intro q hq; simp only [List.mem_cons, List.not_mem_nil, or_false] at hq ⊢; rcases hq with rfl | rfl | rfl <;> simp) ?_
                exact J303_3400 trivial
              · refine g_aload_n dX12_conIs_173 rfl ?_
                refine m_g19 rfl dX12_conIs_174 ?_
                refine g_iload dX12_conIs_177 rfl ?_
                refine m_l7 (z := (H159_2633 7 ((24 * (P 0 37)) + (P 5 (P 0 37))))) dX12_conIs_179 ⟨by have q0 := b0_37 hB; have q1 := bl_5 (k := (P 0 37)) hB; omega, by have q0 := b0_37 hB; have q1 := bl_5 (k := (P 0 37)) hB; omega⟩ rfl ?_
                refine g_iconst dX12_conIs_180 ?_
                have f3411 := bl_7 (k := ((24 * (P 0 37)) + (P 5 (P 0 37)))) hB159_2633
                have J194_3448 : ∀ (H194_3448 : PH) (hB194_3448 : BdM H194_3448) (hE194_3448 : FrM ([8, 9], []) H159_2633 H194_3448) (i194_0_3448 : 0 < H194_3448 0 8 ∨ H194_3448 7 ((24 * (P 0 37)) + (P 5 (P 0 37))) ≤ 1) (i194_1_3448 : P 0 8 ≤ 0 ∨ 0 < H194_3448 0 8) (i194_2_3448 : P 0 4 ≤ H194_3448 0 4) (i194_3_3448 : (H194_3448 0 3 = 0 ∨ H194_3448 0 4 + 1 ≤ H194_3448 0 5) ∧ H194_3448 0 4 ≤ H194_3448 0 5), Go WSM G 4 iX12_conIs 194 [(0, vR 0), (1, vI ((P 2 (P 0 37)) - 1)), (4, vI ((24 * (P 0 37)) + (P 5 (P 0 37)))), (5, vI (P 3 ((4 * (P 0 37)) + ((P 2 (P 0 37)) - 1))))] [] H194_3448 Q := by
                  intro H194_3448 hB194_3448 hE194_3448 i194_0_3448 i194_1_3448 i194_2_3448 i194_3_3448
                  refine g_aload_n dX12_conIs_194 rfl ?_
                  refine g_iload_n dX12_conIs_195 rfl ?_
                  refine g_vI (av := [vI ((P 2 (P 0 37)) - 1)]) (o := 0) (st := []) (m_X12_known G H194_3448 ((P 2 (P 0 37)) - 1) ⟨by have q0 := bl_2 (k := (P 0 37)) hB; omega, by have q0 := bl_2 (k := (P 0 37)) hB; omega⟩ hB194_3448 (by have q0 := bl_2 (k := (P 0 37)) hB; have q1 := (((hE194_3448.1 3 rfl).trans rfl) : H194_3448 0 3 = (H159_2633 0 3)); have q2 := b0_3 hB159_2633; have q3 := (((hE194_3448.1 4 rfl).trans rfl) : H194_3448 0 4 = (H159_2633 0 4)); have q4 := b0_4 hB159_2633; have q5 := (((hE194_3448.1 5 rfl).trans rfl) : H194_3448 0 5 = (H159_2633 0 5)); have q6 := b0_5 hB159_2633; omega) _ (fun rc3450 hc3450 Pc3450 hBc3450 hFc3450 gc3450_lx gc3450_mo gc3450_pe gc3450_k => ⟨rc3450, rfl, ?_⟩)) cf_X12_known t_1752 rfl (by decide) rfl rfl rfl (Nat.le_of_ble_eq_true rfl) (by decide) rfl dX12_conIs_196
                  have z3451 : H194_3448 0 4 = (H159_2633 0 4) := ((hE194_3448.1 4 rfl).trans rfl)
                  have z3452 : H194_3448 0 37 = (P 0 37) := ((hE194_3448.1 37 rfl).trans ((hE159_2633.1 37 rfl).trans ((hFc2632.1 37 rfl).trans ((up_o (by decide)).trans ((up_o (by decide)).trans ((up_o (by decide)).trans ((up_o (by decide)).trans ((up_o (by decide)).trans ((hFc2623.1 37 rfl).trans ((hFc2619.1 37 rfl).trans ((hE32_2615.1 37 rfl).trans rfl)))))))))))
                  have e37 := (((hE194_3448.1 37 rfl).trans ((hE159_2633.1 37 rfl).trans ((hFc2632.1 37 rfl).trans ((up_o (by decide)).trans ((up_o (by decide)).trans ((up_o (by decide)).trans ((up_o (by decide)).trans ((up_o (by decide)).trans ((hFc2623.1 37 rfl).trans ((hFc2619.1 37 rfl).trans ((hE32_2615.1 37 rfl).trans rfl))))))))))) : H194_3448 0 37 = (P 0 37))
                  rw [e37] at gc3450_k
                  have e3 := (((congrFun (hFc3450.2 3 rfl rfl) _).trans ((congrFun (hE194_3448.2 3 rfl rfl) _).trans ((congrFun (hE159_2633.2 3 rfl rfl) _).trans ((congrFun (hFc2632.2 3 rfl rfl) _).trans ((up_o (by decide)).trans ((up_o (by decide)).trans ((up_o (by decide)).trans ((up_o (by decide)).trans ((up_o (by decide)).trans ((congrFun (hFc2623.2 3 rfl rfl) _).trans ((congrFun (hFc2619.2 3 rfl rfl) _).trans ((congrFun (hE32_2615.2 3 rfl rfl) _).trans rfl)))))))))))) : Pc3450 3 ((4 * (P 0 37)) + rc3450) = (P 3 ((4 * (P 0 37)) + rc3450)))
                  rw [e3] at gc3450_k
                  refine g_istore (l1 := [(6, vI rc3450), (0, vR 0), (1, vI ((P 2 (P 0 37)) - 1)), (4, vI ((24 * (P 0 37)) + (P 5 (P 0 37)))), (5, vI (P 3 ((4 * (P 0 37)) + ((P 2 (P 0 37)) - 1))))]) dX12_conIs_199 (by decide) rfl ?_
                  refine g_aload_n dX12_conIs_201 rfl ?_
                  refine m_g8 (z := (Pc3450 0 8)) rfl dX12_conIs_202 rfl ?_
                  have f3453 := b0_8 hBc3450
                  refine g_if_le (tgt := 209) dX12_conIs_205 (by decide) ⟨by have q0 := b0_8 hBc3450; omega, by have q0 := b0_8 hBc3450; omega⟩ (fun k3454 => ?_) (fun k3454 => ?_)
                  · refine g_aload_n dX12_conIs_209 rfl ?_
                    refine m_g20 rfl dX12_conIs_210 ?_
                    refine g_iconst dX12_conIs_213 ?_
                    refine g_iload dX12_conIs_214 rfl ?_
                    refine g_imul dX12_conIs_216 ?_
                    refine g_aload_n dX12_conIs_217 rfl ?_
                    refine m_g19 rfl dX12_conIs_218 ?_
                    refine g_iload dX12_conIs_221 rfl ?_
                    refine m_l7 (z := (H159_2633 7 ((24 * (P 0 37)) + (P 5 (P 0 37))))) dX12_conIs_223 ⟨by have q0 := b0_37 hB; have q1 := bl_5 (k := (P 0 37)) hB; omega, by have q0 := b0_37 hB; have q1 := bl_5 (k := (P 0 37)) hB; omega⟩ ((congrFun (hFc3450.2 7 rfl rfl) _).trans ((congrFun (hE194_3448.2 7 rfl rfl) _).trans rfl)) ?_
                    refine g_iadd dX12_conIs_224 ?_
                    refine g_iload dX12_conIs_225 rfl ?_
                    have hcf := (CF.fr (F := ([8, 9], [])) w159_CF_2633 (FrM.c (FrM.c FrM.rf hE194_3448 rfl) hFc3450 rfl) rfl)
                    have hbb := hBc3450
                    have h71 := (((congrFun (hFc3450.2 7 rfl rfl) _).trans ((congrFun (hE194_3448.2 7 rfl rfl) _).trans rfl)) : Pc3450 7 ((24 * (P 0 37)) + (P 5 (P 0 37))) = (H159_2633 7 ((24 * (P 0 37)) + (P 5 (P 0 37)))))
                    have h61 := (((congrFun (hFc3450.2 6 rfl rfl) _).trans ((congrFun (hE194_3448.2 6 rfl rfl) _).trans ((congrFun (hE159_2633.2 6 rfl rfl) _).trans ((congrFun (hFc2632.2 6 rfl rfl) _).trans ((up_o (by decide)).trans ((up_o (by decide)).trans ((up_o (by decide)).trans up_same))))))) : Pc3450 6 ((24 * (P 0 37)) + (P 5 (P 0 37))) = ((P 2 (P 0 37)) - 1))
                    have hix : 2 * ((24 * (P 0 37)) + (P 5 (P 0 37))) + Pc3450 7 ((24 * (P 0 37)) + (P 5 (P 0 37))) = ((2 * ((24 * (P 0 37)) + (P 5 (P 0 37)))) + (H159_2633 7 ((24 * (P 0 37)) + (P 5 (P 0 37))))) := by rw [h71]
                    refine m_s8 dX12_conIs_227 ⟨by have q0 := b0_37 hB; have q1 := bl_5 (k := (P 0 37)) hB; have q2 := bl_7 (k := ((24 * (P 0 37)) + (P 5 (P 0 37)))) hB159_2633; omega, by have q0 := b0_37 hB; have q1 := bl_5 (k := (P 0 37)) hB; have q2 := bl_7 (k := ((24 * (P 0 37)) + (P 5 (P 0 37)))) hB159_2633; omega⟩ ?_
                    have hB3455 := ba_8 (z := rc3450) (k := ((2 * ((24 * (P 0 37)) + (P 5 (P 0 37)))) + (H159_2633 7 ((24 * (P 0 37)) + (P 5 (P 0 37)))))) hBc3450 ⟨by omega, by omega⟩
                    refine g_aload_n dX12_conIs_228 rfl ?_
                    refine m_g19 rfl dX12_conIs_229 ?_
                    refine g_iload dX12_conIs_232 rfl ?_
                    refine g_dup2 dX12_conIs_234 rfl rfl ?_
                    refine m_l7 (z := (H159_2633 7 ((24 * (P 0 37)) + (P 5 (P 0 37))))) dX12_conIs_235 ⟨by have q0 := b0_37 hB; have q1 := bl_5 (k := (P 0 37)) hB; omega, by have q0 := b0_37 hB; have q1 := bl_5 (k := (P 0 37)) hB; omega⟩ ((up_o (by decide)).trans ((congrFun (hFc3450.2 7 rfl rfl) _).trans ((congrFun (hE194_3448.2 7 rfl rfl) _).trans rfl))) ?_
                    refine g_iconst dX12_conIs_236 ?_
                    refine g_iadd dX12_conIs_237 ?_
                    refine m_s7 dX12_conIs_238 ⟨by have q0 := b0_37 hB; have q1 := bl_5 (k := (P 0 37)) hB; omega, by have q0 := b0_37 hB; have q1 := bl_5 (k := (P 0 37)) hB; omega⟩ ?_
                    have hB3456 := ba_7 (z := ((H159_2633 7 ((24 * (P 0 37)) + (P 5 (P 0 37)))) + 1)) (k := ((24 * (P 0 37)) + (P 5 (P 0 37)))) hB3455 ⟨by have q0 := bl_7 (k := ((24 * (P 0 37)) + (P 5 (P 0 37)))) hB159_2633; omega, by have q0 := bl_7 (k := ((24 * (P 0 37)) + (P 5 (P 0 37)))) hB159_2633; omega⟩
                    have iv3457 : CF (up (up Pc3450 8 ((2 * ((24 * (P 0 37)) + (P 5 (P 0 37)))) + (H159_2633 7 ((24 * (P 0 37)) + (P 5 (P 0 37))))) rc3450) 7 ((24 * (P 0 37)) + (P 5 (P 0 37))) ((H159_2633 7 ((24 * (P 0 37)) + (P 5 (P 0 37)))) + 1)) := hcf.field (c := ((24 * (P 0 37)) + (P 5 (P 0 37)))) (z := rc3450) hbb (by omega) (fun j => ((up_o (by decide)).trans ((up_o (by decide)).trans rfl))) (fun j hj => ((up_k hj).trans ((up_o (by decide)).trans rfl))) up_same (fun j hj => by rw [hix] at hj; exact ((up_o (by decide)).trans ((up_k hj).trans rfl))) (by rw [hix]; exact ((up_o (by decide)).trans up_same)) (by omega)
                    refine g_aload_n dX12_conIs_239 rfl ?_
                    refine m_g22 rfl dX12_conIs_240 ?_
                    refine g_iload dX12_conIs_243 rfl ?_
                    refine g_dup2 dX12_conIs_245 rfl rfl ?_
                    refine m_l10 (z := (H159_2633 10 ((24 * (P 0 37)) + (P 5 (P 0 37))))) dX12_conIs_246 ⟨by have q0 := b0_37 hB; have q1 := bl_5 (k := (P 0 37)) hB; omega, by have q0 := b0_37 hB; have q1 := bl_5 (k := (P 0 37)) hB; omega⟩ ((up_o (by decide)).trans ((up_o (by decide)).trans ((congrFun (hFc3450.2 10 rfl rfl) _).trans ((congrFun (hE194_3448.2 10 rfl rfl) _).trans rfl)))) ?_
                    refine g_aload_n dX12_conIs_247 rfl ?_
                    refine g_aload_n dX12_conIs_248 rfl ?_
                    refine m_g37 (z := (P 0 37)) rfl dX12_conIs_249 ((up_o (by decide)).trans ((up_o (by decide)).trans ((hFc3450.1 37 rfl).trans ((hE194_3448.1 37 rfl).trans ((hE159_2633.1 37 rfl).trans ((hFc2632.1 37 rfl).trans ((up_o (by decide)).trans ((up_o (by decide)).trans ((up_o (by decide)).trans ((up_o (by decide)).trans ((up_o (by decide)).trans ((hFc2623.1 37 rfl).trans ((hFc2619.1 37 rfl).trans ((hE32_2615.1 37 rfl).trans rfl)))))))))))))) ?_
                    refine g_iload dX12_conIs_252 rfl ?_
                    have f3458 := b0_37 hB
                    refine g_vI (av := [vI (P 0 37), vI rc3450]) (o := 0) (st := [vI (H159_2633 10 ((24 * (P 0 37)) + (P 5 (P 0 37)))), vI ((24 * (P 0 37)) + (P 5 (P 0 37))), vR 10]) (m_X12_valuesOf G (up (up Pc3450 8 ((2 * ((24 * (P 0 37)) + (P 5 (P 0 37)))) + (H159_2633 7 ((24 * (P 0 37)) + (P 5 (P 0 37))))) rc3450) 7 ((24 * (P 0 37)) + (P 5 (P 0 37))) ((H159_2633 7 ((24 * (P 0 37)) + (P 5 (P 0 37)))) + 1)) (P 0 37) rc3450 ⟨by have q0 := b0_37 hB; omega, by have q0 := b0_37 hB; omega⟩ ⟨by omega, by omega⟩ hB3456  _ (fun rc3459 hc3459 gc3459_v => ⟨rc3459, rfl, ?_⟩)) cf_X12_valuesOf t_1756 rfl (by decide) rfl rfl rfl (Nat.le_of_ble_eq_true rfl) (by decide) rfl dX12_conIs_254
                    have e3v := (((up_o (by decide)).trans ((up_o (by decide)).trans ((congrFun (hFc3450.2 3 rfl rfl) _).trans ((congrFun (hE194_3448.2 3 rfl rfl) _).trans ((congrFun (hE159_2633.2 3 rfl rfl) _).trans ((congrFun (hFc2632.2 3 rfl rfl) _).trans ((up_o (by decide)).trans ((up_o (by decide)).trans ((up_o (by decide)).trans ((up_o (by decide)).trans ((up_o (by decide)).trans ((congrFun (hFc2623.2 3 rfl rfl) _).trans ((congrFun (hFc2619.2 3 rfl rfl) _).trans ((congrFun (hE32_2615.2 3 rfl rfl) _).trans rfl)))))))))))))) : (up (up Pc3450 8 ((2 * ((24 * (P 0 37)) + (P 5 (P 0 37)))) + (H159_2633 7 ((24 * (P 0 37)) + (P 5 (P 0 37))))) rc3450) 7 ((24 * (P 0 37)) + (P 5 (P 0 37))) ((H159_2633 7 ((24 * (P 0 37)) + (P 5 (P 0 37)))) + 1)) 3 ((4 * (P 0 37)) + rc3450) = (P 3 ((4 * (P 0 37)) + rc3450)))
                    refine g_imul dX12_conIs_257 ?_
                    refine g_nm (fun w3460 e_w3460 => ?_)
                    have h_w3460 : 1 ≤ w3460 ∧ w3460 ≤ 4012000 := by rw [e_w3460]; exact mul_b (A := 2000) (B := 2006) ⟨by omega, by omega⟩ ⟨by omega, by omega⟩
                    refine m_s10 dX12_conIs_258 ⟨by have q0 := b0_37 hB; have q1 := bl_5 (k := (P 0 37)) hB; omega, by have q0 := b0_37 hB; have q1 := bl_5 (k := (P 0 37)) hB; omega⟩ ?_
                    have hB3461 := ba_10 (z := w3460) (k := ((24 * (P 0 37)) + (P 5 (P 0 37)))) hB3456 ⟨by omega, by omega⟩
                    refine g_iload dX12_conIs_259 rfl ?_
                    refine g_aload_n dX12_conIs_261 rfl ?_
                    refine m_g22 rfl dX12_conIs_262 ?_
                    refine g_iload dX12_conIs_265 rfl ?_
                    refine m_l10 (z := w3460) dX12_conIs_267 ⟨by have q0 := b0_37 hB; have q1 := bl_5 (k := (P 0 37)) hB; omega, by have q0 := b0_37 hB; have q1 := bl_5 (k := (P 0 37)) hB; omega⟩ up_same ?_
                    refine g_iadd dX12_conIs_268 ?_
                    refine g_sipush dX12_conIs_269 (by decide) ?_
                    have f3462 := bl_3 (k := ((4 * (P 0 37)) + ((P 2 (P 0 37)) - 1))) hB
                    have J284_3472 : ∀ (H284_3472 : PH) (hB284_3472 : BdM H284_3472) (hE284_3472 : FrM ([8, 9], []) (up (up (up Pc3450 8 ((2 * ((24 * (P 0 37)) + (P 5 (P 0 37)))) + (H159_2633 7 ((24 * (P 0 37)) + (P 5 (P 0 37))))) rc3450) 7 ((24 * (P 0 37)) + (P 5 (P 0 37))) ((H159_2633 7 ((24 * (P 0 37)) + (P 5 (P 0 37)))) + 1)) 10 ((24 * (P 0 37)) + (P 5 (P 0 37))) w3460) H284_3472) (i284_0_3472 : P 0 8 ≤ 0 ∨ 0 < H284_3472 0 8) (i284_1_3472 : P 0 4 ≤ H284_3472 0 4) (i284_2_3472 : (H284_3472 0 3 = 0 ∨ H284_3472 0 4 + 1 ≤ H284_3472 0 5) ∧ H284_3472 0 4 ≤ H284_3472 0 5), Go WSM G 4 iX12_conIs 284 [(0, vR 0), (1, vI ((P 2 (P 0 37)) - 1)), (4, vI ((24 * (P 0 37)) + (P 5 (P 0 37)))), (5, vI (P 3 ((4 * (P 0 37)) + ((P 2 (P 0 37)) - 1))))] [] H284_3472 Q := by
                      intro H284_3472 hB284_3472 hE284_3472 i284_0_3472 i284_1_3472 i284_2_3472
                      refine g_aload_n dX12_conIs_284 rfl ?_
                      refine m_g8 (z := (H284_3472 0 8)) rfl dX12_conIs_285 rfl ?_
                      have f3474 := b0_8 hB284_3472
                      refine g_if_le (tgt := 292) dX12_conIs_288 (by decide) ⟨by have q0 := b0_8 hB284_3472; omega, by have q0 := b0_8 hB284_3472; omega⟩ (fun k3475 => ?_) (fun k3475 => ?_)
                      · refine g_aload_n dX12_conIs_292 rfl ?_
                        refine g_vV (av := []) (o := 0) (st := []) (m_X12_ahead G H284_3472  hB284_3472  _ (fun Pc3476 hBc3476 hFc3476 gc3476_lx gc3476_nx => ⟨rfl, ?_⟩)) cf_X12_ahead t_1683 rfl (by decide) rfl rfl rfl (Nat.le_of_ble_eq_true rfl) (by decide) rfl dX12_conIs_293
                        have z3477 : H284_3472 0 5 = (H159_2633 0 5) := ((hE284_3472.1 5 rfl).trans ((up_o (by decide)).trans ((up_o (by decide)).trans ((up_o (by decide)).trans ((hFc3450.1 5 rfl).trans ((hE194_3448.1 5 rfl).trans rfl))))))
                        refine g_aload_n dX12_conIs_296 rfl ?_
                        refine g_vV (av := []) (o := 0) (st := []) (m_X12_lex G Pc3476  hBc3476  _ (fun Pc3478 hBc3478 hFc3478 gc3478_pe => ⟨rfl, ?_⟩)) cf_X12_lex t_1697 rfl (by decide) rfl rfl rfl (Nat.le_of_ble_eq_true rfl) (by decide) rfl dX12_conIs_297
                        have z3479 : Pc3476 0 8 = (H284_3472 0 8) := ((hFc3476.1 8 rfl).trans rfl)
                        refine g_goto (tgt := 159) dX12_conIs_300 (by decide) ?_
                        refine g_forget (l1 := [(0, vR 0), (1, vI ((P 2 (P 0 37)) - 1)), (4, vI ((24 * (P 0 37)) + (P 5 (P 0 37)))), (5, vI (P 3 ((4 * (P 0 37)) + ((P 2 (P 0 37)) - 1))))]) (by intro q hq; simp only [List.mem_cons, List.not_mem_nil, or_false] at hq ⊢; rcases hq with rfl | rfl | rfl | rfl <;> simp) ?_
                        exact ih159_2633 _ hBc3478 (FrM.c (FrM.c (FrM.c (FrM.a (FrM.a (FrM.a (FrM.c (FrM.c (FrM.c FrM.rf hE159_2633 rfl) hE194_3448 rfl) hFc3450 rfl) rfl rfl) rfl rfl) rfl rfl) hE284_3472 rfl) hFc3476 rfl) hFc3478 rfl) (by have q0 := (((congrFun (hFc3478.2 10 rfl rfl) _).trans ((congrFun (hFc3476.2 10 rfl rfl) _).trans ((congrFun (hE284_3472.2 10 rfl rfl) _).trans up_same))) : Pc3478 10 ((24 * (P 0 37)) + (P 5 (P 0 37))) = w3460); have q1 := (((congrFun (hFc3478.2 7 rfl rfl) _).trans ((congrFun (hFc3476.2 7 rfl rfl) _).trans ((congrFun (hE284_3472.2 7 rfl rfl) _).trans ((up_o (by decide)).trans up_same)))) : Pc3478 7 ((24 * (P 0 37)) + (P 5 (P 0 37))) = ((H159_2633 7 ((24 * (P 0 37)) + (P 5 (P 0 37)))) + 1)); have q2 := bl_7 (k := ((24 * (P 0 37)) + (P 5 (P 0 37)))) hB159_2633; omega) (by have q0 := (((congrFun (hFc3478.2 10 rfl rfl) _).trans ((congrFun (hFc3476.2 10 rfl rfl) _).trans ((congrFun (hE284_3472.2 10 rfl rfl) _).trans up_same))) : Pc3478 10 ((24 * (P 0 37)) + (P 5 (P 0 37))) = w3460); omega) (by have q0 := b0_8 hBc3478; omega) (by have q0 := (((hFc3478.1 4 rfl).trans rfl) : Pc3478 0 4 = (Pc3476 0 4)); have q1 := b0_4 hBc3476; omega) (by have q0 := (((hFc3478.1 3 rfl).trans rfl) : Pc3478 0 3 = (Pc3476 0 3)); have q1 := b0_3 hBc3476; have q2 := (((hFc3478.1 4 rfl).trans rfl) : Pc3478 0 4 = (Pc3476 0 4)); have q3 := b0_4 hBc3476; have q4 := (((hFc3478.1 5 rfl).trans rfl) : Pc3478 0 5 = (Pc3476 0 5)); have q5 := b0_5 hBc3476; omega) (CF.fr (F := ([3, 4, 5, 6, 7, 8, 9, 12], [10])) iv3457 (FrM.c (FrM.c (FrM.c (FrM.a FrM.rf rfl rfl) hE284_3472 rfl) hFc3476 rfl) hFc3478 rfl) rfl) (by have q0 := (((hFc3478.1 4 rfl).trans rfl) : Pc3478 0 4 = (Pc3476 0 4)); have q1 := b0_4 hBc3476; omega)
                      · exact g_retV dX12_conIs_291 rfl (hQ _ hB284_3472 (FrM.c (FrM.a (FrM.a (FrM.a (FrM.c (FrM.c (FrM.c (FrM.c (FrM.a (FrM.a (FrM.a (FrM.a (FrM.a (FrM.c (FrM.c (FrM.c FrM.rf hE32_2615 rfl) hFc2619 rfl) hFc2623 rfl) rfl rfl) rfl rfl) rfl rfl) rfl rfl) rfl rfl) hFc2632 rfl) hE159_2633 rfl) hE194_3448 rfl) hFc3450 rfl) rfl rfl) rfl rfl) rfl rfl) hE284_3472 rfl) (by have q0 := (((hE284_3472.1 3 rfl).trans ((up_o (by decide)).trans ((up_o (by decide)).trans ((up_o (by decide)).trans ((hFc3450.1 3 rfl).trans ((hE194_3448.1 3 rfl).trans rfl)))))) : H284_3472 0 3 = (H159_2633 0 3)); have q1 := b0_3 hB159_2633; have q2 := (((hE284_3472.1 4 rfl).trans ((up_o (by decide)).trans ((up_o (by decide)).trans ((up_o (by decide)).trans ((hFc3450.1 4 rfl).trans ((hE194_3448.1 4 rfl).trans rfl)))))) : H284_3472 0 4 = (H159_2633 0 4)); have q3 := b0_4 hB159_2633; have q4 := (((hE284_3472.1 5 rfl).trans ((up_o (by decide)).trans ((up_o (by decide)).trans ((up_o (by decide)).trans ((hFc3450.1 5 rfl).trans ((hE194_3448.1 5 rfl).trans rfl)))))) : H284_3472 0 5 = (H159_2633 0 5)); have q5 := b0_5 hB159_2633; omega) (by have q0 := (((hE284_3472.1 4 rfl).trans ((up_o (by decide)).trans ((up_o (by decide)).trans ((up_o (by decide)).trans ((hFc3450.1 4 rfl).trans ((hE194_3448.1 4 rfl).trans rfl)))))) : H284_3472 0 4 = (H159_2633 0 4)); have q1 := b0_4 hB159_2633; omega) (by have q0 := b0_8 hB284_3472; omega) (KVP.fr (F := ([3, 4, 5, 6, 7, 8, 9, 12], [6, 7, 8, 9, 10, 23])) v_KVP (FrM.c (FrM.a (FrM.a (FrM.a (FrM.c (FrM.c (FrM.c (FrM.c (FrM.a (FrM.a (FrM.a (FrM.a (FrM.a (FrM.c (FrM.c (FrM.c FrM.rf hE32_2615 rfl) hFc2619 rfl) hFc2623 rfl) rfl rfl) rfl rfl) rfl rfl) rfl rfl) rfl rfl) hFc2632 rfl) hE159_2633 rfl) hE194_3448 rfl) hFc3450 rfl) rfl rfl) rfl rfl) rfl rfl) hE284_3472 rfl) rfl) (KC.fr (F := ([3, 4, 5, 6, 7, 8, 9, 12], [6, 7, 8, 9, 10, 23])) v_KC (FrM.c (FrM.a (FrM.a (FrM.a (FrM.c (FrM.c (FrM.c (FrM.c (FrM.a (FrM.a (FrM.a (FrM.a (FrM.a (FrM.c (FrM.c (FrM.c FrM.rf hE32_2615 rfl) hFc2619 rfl) hFc2623 rfl) rfl rfl) rfl rfl) rfl rfl) rfl rfl) rfl rfl) hFc2632 rfl) hE159_2633 rfl) hE194_3448 rfl) hFc3450 rfl) rfl rfl) rfl rfl) rfl rfl) hE284_3472 rfl) rfl) (CF.fr (F := ([8, 9], [10])) iv3457 (FrM.c (FrM.a FrM.rf rfl rfl) hE284_3472 rfl) rfl))
                    refine g_icmp_le (tgt := 284) dX12_conIs_272 (by decide) ⟨by have q0 := bl_3 (k := ((4 * (P 0 37)) + ((P 2 (P 0 37)) - 1))) hB; omega, by have q0 := bl_3 (k := ((4 * (P 0 37)) + ((P 2 (P 0 37)) - 1))) hB; omega⟩ (by decide) (fun k3480 => ?_) (fun k3480 => ?_)
                    · refine g_forget (l1 := [(0, vR 0), (1, vI ((P 2 (P 0 37)) - 1)), (4, vI ((24 * (P 0 37)) + (P 5 (P 0 37)))), (5, vI (P 3 ((4 * (P 0 37)) + ((P 2 (P 0 37)) - 1))))]) (by intro q hq; simp only [List.mem_cons, List.not_mem_nil, or_false] at hq ⊢; rcases hq with rfl | rfl | rfl | rfl <;> simp) ?_
                      exact J284_3472 _ hB3461 FrM.rf (by have q0 := (((up_o (by decide)).trans ((up_o (by decide)).trans ((up_o (by decide)).trans rfl))) : (up (up (up Pc3450 8 ((2 * ((24 * (P 0 37)) + (P 5 (P 0 37)))) + (H159_2633 7 ((24 * (P 0 37)) + (P 5 (P 0 37))))) rc3450) 7 ((24 * (P 0 37)) + (P 5 (P 0 37))) ((H159_2633 7 ((24 * (P 0 37)) + (P 5 (P 0 37)))) + 1)) 10 ((24 * (P 0 37)) + (P 5 (P 0 37))) w3460) 0 8 = (Pc3450 0 8)); have q1 := b0_8 hBc3450; omega) (by have q0 := (((up_o (by decide)).trans ((up_o (by decide)).trans ((up_o (by decide)).trans ((hFc3450.1 4 rfl).trans ((hE194_3448.1 4 rfl).trans rfl))))) : (up (up (up Pc3450 8 ((2 * ((24 * (P 0 37)) + (P 5 (P 0 37)))) + (H159_2633 7 ((24 * (P 0 37)) + (P 5 (P 0 37))))) rc3450) 7 ((24 * (P 0 37)) + (P 5 (P 0 37))) ((H159_2633 7 ((24 * (P 0 37)) + (P 5 (P 0 37)))) + 1)) 10 ((24 * (P 0 37)) + (P 5 (P 0 37))) w3460) 0 4 = (H159_2633 0 4)); have q1 := b0_4 hB159_2633; omega) (by have q0 := (((up_o (by decide)).trans ((up_o (by decide)).trans ((up_o (by decide)).trans ((hFc3450.1 3 rfl).trans ((hE194_3448.1 3 rfl).trans rfl))))) : (up (up (up Pc3450 8 ((2 * ((24 * (P 0 37)) + (P 5 (P 0 37)))) + (H159_2633 7 ((24 * (P 0 37)) + (P 5 (P 0 37))))) rc3450) 7 ((24 * (P 0 37)) + (P 5 (P 0 37))) ((H159_2633 7 ((24 * (P 0 37)) + (P 5 (P 0 37)))) + 1)) 10 ((24 * (P 0 37)) + (P 5 (P 0 37))) w3460) 0 3 = (H159_2633 0 3)); have q1 := b0_3 hB159_2633; have q2 := (((up_o (by decide)).trans ((up_o (by decide)).trans ((up_o (by decide)).trans ((hFc3450.1 4 rfl).trans ((hE194_3448.1 4 rfl).trans rfl))))) : (up (up (up Pc3450 8 ((2 * ((24 * (P 0 37)) + (P 5 (P 0 37)))) + (H159_2633 7 ((24 * (P 0 37)) + (P 5 (P 0 37))))) rc3450) 7 ((24 * (P 0 37)) + (P 5 (P 0 37))) ((H159_2633 7 ((24 * (P 0 37)) + (P 5 (P 0 37)))) + 1)) 10 ((24 * (P 0 37)) + (P 5 (P 0 37))) w3460) 0 4 = (H159_2633 0 4)); have q3 := b0_4 hB159_2633; have q4 := (((up_o (by decide)).trans ((up_o (by decide)).trans ((up_o (by decide)).trans ((hFc3450.1 5 rfl).trans ((hE194_3448.1 5 rfl).trans rfl))))) : (up (up (up Pc3450 8 ((2 * ((24 * (P 0 37)) + (P 5 (P 0 37)))) + (H159_2633 7 ((24 * (P 0 37)) + (P 5 (P 0 37))))) rc3450) 7 ((24 * (P 0 37)) + (P 5 (P 0 37))) ((H159_2633 7 ((24 * (P 0 37)) + (P 5 (P 0 37)))) + 1)) 10 ((24 * (P 0 37)) + (P 5 (P 0 37))) w3460) 0 5 = (H159_2633 0 5)); have q5 := b0_5 hB159_2633; omega)
                    · refine g_aload_n dX12_conIs_275 rfl ?_
                      refine g_iconst dX12_conIs_276 ?_
                      refine g_aload_n dX12_conIs_277 rfl ?_
                      refine m_g4 (z := (H159_2633 0 4)) rfl dX12_conIs_278 ((up_o (by decide)).trans ((up_o (by decide)).trans ((up_o (by decide)).trans ((hFc3450.1 4 rfl).trans ((hE194_3448.1 4 rfl).trans rfl))))) ?_
                      have f3481 := b0_4 hB159_2633
                      refine g_vV (av := [vI 4, vI (H159_2633 0 4)]) (o := 0) (st := []) (m_X12_blame G (up (up (up Pc3450 8 ((2 * ((24 * (P 0 37)) + (P 5 (P 0 37)))) + (H159_2633 7 ((24 * (P 0 37)) + (P 5 (P 0 37))))) rc3450) 7 ((24 * (P 0 37)) + (P 5 (P 0 37))) ((H159_2633 7 ((24 * (P 0 37)) + (P 5 (P 0 37)))) + 1)) 10 ((24 * (P 0 37)) + (P 5 (P 0 37))) w3460) 4 (H159_2633 0 4) (by decide) ⟨by have q0 := b0_4 hB159_2633; omega, by have q0 := b0_4 hB159_2633; omega⟩ hB3461  _ (fun Pc3482 hBc3482 hFc3482 gc3482_f gc3482_pe => ⟨rfl, ?_⟩)) cf_X12_blame t_1701 rfl (by decide) rfl rfl rfl (Nat.le_of_ble_eq_true rfl) (by decide) rfl dX12_conIs_281
                      have z3483 : (up (up (up Pc3450 8 ((2 * ((24 * (P 0 37)) + (P 5 (P 0 37)))) + (H159_2633 7 ((24 * (P 0 37)) + (P 5 (P 0 37))))) rc3450) 7 ((24 * (P 0 37)) + (P 5 (P 0 37))) ((H159_2633 7 ((24 * (P 0 37)) + (P 5 (P 0 37)))) + 1)) 10 ((24 * (P 0 37)) + (P 5 (P 0 37))) w3460) 0 8 = (Pc3450 0 8) := ((up_o (by decide)).trans ((up_o (by decide)).trans ((up_o (by decide)).trans rfl)))
                      refine g_forget (l1 := [(0, vR 0), (1, vI ((P 2 (P 0 37)) - 1)), (4, vI ((24 * (P 0 37)) + (P 5 (P 0 37)))), (5, vI (P 3 ((4 * (P 0 37)) + ((P 2 (P 0 37)) - 1))))]) (by intro q hq; simp only [List.mem_cons, List.not_mem_nil, or_false] at hq ⊢; rcases hq with rfl | rfl | rfl | rfl <;> simp) ?_
                      exact J284_3472 _ hBc3482 (FrM.c FrM.rf hFc3482 rfl) (by have q0 := b0_8 hBc3482; omega) (by have q0 := (((hFc3482.1 4 rfl).trans ((up_o (by decide)).trans ((up_o (by decide)).trans ((up_o (by decide)).trans ((hFc3450.1 4 rfl).trans ((hE194_3448.1 4 rfl).trans rfl)))))) : Pc3482 0 4 = (H159_2633 0 4)); have q1 := b0_4 hB159_2633; omega) (by have q0 := (((hFc3482.1 3 rfl).trans ((up_o (by decide)).trans ((up_o (by decide)).trans ((up_o (by decide)).trans ((hFc3450.1 3 rfl).trans ((hE194_3448.1 3 rfl).trans rfl)))))) : Pc3482 0 3 = (H159_2633 0 3)); have q1 := b0_3 hB159_2633; have q2 := (((hFc3482.1 4 rfl).trans ((up_o (by decide)).trans ((up_o (by decide)).trans ((up_o (by decide)).trans ((hFc3450.1 4 rfl).trans ((hE194_3448.1 4 rfl).trans rfl)))))) : Pc3482 0 4 = (H159_2633 0 4)); have q3 := b0_4 hB159_2633; have q4 := (((hFc3482.1 5 rfl).trans ((up_o (by decide)).trans ((up_o (by decide)).trans ((up_o (by decide)).trans ((hFc3450.1 5 rfl).trans ((hE194_3448.1 5 rfl).trans rfl)))))) : Pc3482 0 5 = (H159_2633 0 5)); have q5 := b0_5 hB159_2633; omega)
                  · exact g_retV dX12_conIs_208 rfl (hQ _ hBc3450 (FrM.c (FrM.c (FrM.c (FrM.c (FrM.a (FrM.a (FrM.a (FrM.a (FrM.a (FrM.c (FrM.c (FrM.c FrM.rf hE32_2615 rfl) hFc2619 rfl) hFc2623 rfl) rfl rfl) rfl rfl) rfl rfl) rfl rfl) rfl rfl) hFc2632 rfl) hE159_2633 rfl) hE194_3448 rfl) hFc3450 rfl) (by have q0 := (((hFc3450.1 3 rfl).trans ((hE194_3448.1 3 rfl).trans rfl)) : Pc3450 0 3 = (H159_2633 0 3)); have q1 := b0_3 hB159_2633; have q2 := (((hFc3450.1 4 rfl).trans ((hE194_3448.1 4 rfl).trans rfl)) : Pc3450 0 4 = (H159_2633 0 4)); have q3 := b0_4 hB159_2633; have q4 := (((hFc3450.1 5 rfl).trans ((hE194_3448.1 5 rfl).trans rfl)) : Pc3450 0 5 = (H159_2633 0 5)); have q5 := b0_5 hB159_2633; omega) (by have q0 := (((hFc3450.1 4 rfl).trans ((hE194_3448.1 4 rfl).trans rfl)) : Pc3450 0 4 = (H159_2633 0 4)); have q1 := b0_4 hB159_2633; omega) (by have q0 := b0_8 hBc3450; omega) (KVP.fr (F := ([3, 4, 5, 6, 7, 8, 9, 12], [6, 7, 8, 9, 10, 23])) v_KVP (FrM.c (FrM.c (FrM.c (FrM.c (FrM.a (FrM.a (FrM.a (FrM.a (FrM.a (FrM.c (FrM.c (FrM.c FrM.rf hE32_2615 rfl) hFc2619 rfl) hFc2623 rfl) rfl rfl) rfl rfl) rfl rfl) rfl rfl) rfl rfl) hFc2632 rfl) hE159_2633 rfl) hE194_3448 rfl) hFc3450 rfl) rfl) (KC.fr (F := ([3, 4, 5, 6, 7, 8, 9, 12], [6, 7, 8, 9, 10, 23])) v_KC (FrM.c (FrM.c (FrM.c (FrM.c (FrM.a (FrM.a (FrM.a (FrM.a (FrM.a (FrM.c (FrM.c (FrM.c FrM.rf hE32_2615 rfl) hFc2619 rfl) hFc2623 rfl) rfl rfl) rfl rfl) rfl rfl) rfl rfl) rfl rfl) hFc2632 rfl) hE159_2633 rfl) hE194_3448 rfl) hFc3450 rfl) rfl) (CF.fr (F := ([8, 9], [])) w159_CF_2633 (FrM.c (FrM.c FrM.rf hE194_3448 rfl) hFc3450 rfl) rfl))
                refine g_icmp_ne (tgt := 194) dX12_conIs_181 (by decide) ⟨by have q0 := bl_7 (k := ((24 * (P 0 37)) + (P 5 (P 0 37)))) hB159_2633; omega, by have q0 := bl_7 (k := ((24 * (P 0 37)) + (P 5 (P 0 37)))) hB159_2633; omega⟩ (by decide) (fun k3484 => ?_) (fun k3484 => ?_)
                · refine g_forget (l1 := [(0, vR 0), (1, vI ((P 2 (P 0 37)) - 1)), (4, vI ((24 * (P 0 37)) + (P 5 (P 0 37)))), (5, vI (P 3 ((4 * (P 0 37)) + ((P 2 (P 0 37)) - 1))))]) (by intro q hq; simp only [List.mem_cons, List.not_mem_nil, or_false] at hq ⊢; rcases hq with rfl | rfl | rfl | rfl <;> simp) ?_
                  exact J194_3448 _ hB159_2633 FrM.rf (by have q0 := b0_8 hB159_2633; have q1 := bl_7 (k := ((24 * (P 0 37)) + (P 5 (P 0 37)))) hB159_2633; omega) (by have q0 := b0_8 hB159_2633; omega) (by have q0 := b0_4 hB159_2633; omega) (by have q0 := b0_3 hB159_2633; have q1 := b0_4 hB159_2633; have q2 := b0_5 hB159_2633; omega)
                · refine g_aload_n dX12_conIs_184 rfl ?_
                  refine g_bipush dX12_conIs_185 (by decide) ?_
                  refine g_aload_n dX12_conIs_187 rfl ?_
                  refine m_g4 (z := (H159_2633 0 4)) rfl dX12_conIs_188 rfl ?_
                  have f3485 := b0_4 hB159_2633
                  refine g_vV (av := [vI 6, vI (H159_2633 0 4)]) (o := 0) (st := []) (m_X12_blame G H159_2633 6 (H159_2633 0 4) (by decide) ⟨by have q0 := b0_4 hB159_2633; omega, by have q0 := b0_4 hB159_2633; omega⟩ hB159_2633  _ (fun Pc3486 hBc3486 hFc3486 gc3486_f gc3486_pe => ⟨rfl, ?_⟩)) cf_X12_blame t_1701 rfl (by decide) rfl rfl rfl (Nat.le_of_ble_eq_true rfl) (by decide) rfl dX12_conIs_191
                  refine g_forget (l1 := [(0, vR 0), (1, vI ((P 2 (P 0 37)) - 1)), (4, vI ((24 * (P 0 37)) + (P 5 (P 0 37)))), (5, vI (P 3 ((4 * (P 0 37)) + ((P 2 (P 0 37)) - 1))))]) (by intro q hq; simp only [List.mem_cons, List.not_mem_nil, or_false] at hq ⊢; rcases hq with rfl | rfl | rfl | rfl <;> simp) ?_
                  exact J194_3448 _ hBc3486 (FrM.c FrM.rf hFc3486 rfl) (by have q0 := b0_8 hBc3486; have q1 := (((congrFun (hFc3486.2 7 rfl rfl) _).trans rfl) : Pc3486 7 ((24 * (P 0 37)) + (P 5 (P 0 37))) = (H159_2633 7 ((24 * (P 0 37)) + (P 5 (P 0 37))))); have q2 := bl_7 (k := ((24 * (P 0 37)) + (P 5 (P 0 37)))) hB159_2633; omega) (by have q0 := b0_8 hBc3486; omega) (by have q0 := (((hFc3486.1 4 rfl).trans rfl) : Pc3486 0 4 = (H159_2633 0 4)); have q1 := b0_4 hB159_2633; omega) (by have q0 := (((hFc3486.1 3 rfl).trans rfl) : Pc3486 0 3 = (H159_2633 0 3)); have q1 := b0_3 hB159_2633; have q2 := (((hFc3486.1 4 rfl).trans rfl) : Pc3486 0 4 = (H159_2633 0 4)); have q3 := b0_4 hB159_2633; have q4 := (((hFc3486.1 5 rfl).trans rfl) : Pc3486 0 5 = (H159_2633 0 5)); have q5 := b0_5 hB159_2633; omega)
          refine g_forget (l1 := [(0, vR 0), (1, vI ((P 2 (P 0 37)) - 1)), (4, vI ((24 * (P 0 37)) + (P 5 (P 0 37)))), (5, vI (P 3 ((4 * (P 0 37)) + ((P 2 (P 0 37)) - 1))))]) (by intro q hq; simp only [List.mem_cons, List.not_mem_nil, or_false] at hq ⊢; rcases hq with rfl | rfl | rfl | rfl <;> simp) ?_
          exact L159_2633 _ _ hBc2632 FrM.rf (by have q0 := (((congrFun (hFc2632.2 10 rfl rfl) _).trans up_same) : Pc2632 10 ((24 * (P 0 37)) + (P 5 (P 0 37))) = 1); have q1 := (((congrFun (hFc2632.2 7 rfl rfl) _).trans ((up_o (by decide)).trans ((up_o (by decide)).trans up_same))) : Pc2632 7 ((24 * (P 0 37)) + (P 5 (P 0 37))) = 0); omega) (by have q0 := (((congrFun (hFc2632.2 10 rfl rfl) _).trans up_same) : Pc2632 10 ((24 * (P 0 37)) + (P 5 (P 0 37))) = 1); omega) (by have q0 := b0_8 hBc2632; omega) (by have q0 := (((hFc2632.1 4 rfl).trans ((up_o (by decide)).trans ((up_o (by decide)).trans ((up_o (by decide)).trans ((up_o (by decide)).trans ((up_o (by decide)).trans rfl)))))) : Pc2632 0 4 = (Pc2623 0 4)); have q1 := b0_4 hBc2623; omega) (by have q0 := (((hFc2632.1 3 rfl).trans ((up_o (by decide)).trans ((up_o (by decide)).trans ((up_o (by decide)).trans ((up_o (by decide)).trans ((up_o (by decide)).trans rfl)))))) : Pc2632 0 3 = (Pc2623 0 3)); have q1 := b0_3 hBc2623; have q2 := (((hFc2632.1 4 rfl).trans ((up_o (by decide)).trans ((up_o (by decide)).trans ((up_o (by decide)).trans ((up_o (by decide)).trans ((up_o (by decide)).trans rfl)))))) : Pc2632 0 4 = (Pc2623 0 4)); have q3 := b0_4 hBc2623; have q4 := (((hFc2632.1 5 rfl).trans ((up_o (by decide)).trans ((up_o (by decide)).trans ((up_o (by decide)).trans ((up_o (by decide)).trans ((up_o (by decide)).trans rfl)))))) : Pc2632 0 5 = (Pc2623 0 5)); have q5 := b0_5 hBc2623; omega) (CF.fr (F := ([8, 9], [9, 10])) iv2629 (FrM.c (FrM.a (FrM.a FrM.rf rfl rfl) rfl rfl) hFc2632 rfl) rfl) (Nat.lt_succ_self _)
        · exact g_retV dX12_conIs_79 rfl (hQ _ hBc2623 (FrM.c (FrM.c (FrM.c FrM.rf hE32_2615 rfl) hFc2619 rfl) hFc2623 rfl) (by have q0 := b0_3 hBc2623; have q1 := b0_4 hBc2623; have q2 := b0_5 hBc2623; omega) (by have q0 := b0_4 hBc2623; omega) (by have q0 := b0_8 hBc2623; omega) (KVP.fr (F := ([3, 4, 5, 6, 7, 8, 9, 12], [])) v_KVP (FrM.c (FrM.c (FrM.c FrM.rf hE32_2615 rfl) hFc2619 rfl) hFc2623 rfl) rfl) (KC.fr (F := ([3, 4, 5, 6, 7, 8, 9, 12], [])) v_KC (FrM.c (FrM.c (FrM.c FrM.rf hE32_2615 rfl) hFc2619 rfl) hFc2623 rfl) rfl) (CF.fr (F := ([3, 4, 5, 6, 7, 8, 9, 12], [])) v_CF (FrM.c (FrM.c (FrM.c FrM.rf hE32_2615 rfl) hFc2619 rfl) hFc2623 rfl) rfl))
      · exact g_retV dX12_conIs_66 rfl (hQ _ hBc2619 (FrM.c (FrM.c FrM.rf hE32_2615 rfl) hFc2619 rfl) (by have q0 := b0_3 hBc2619; have q1 := b0_4 hBc2619; have q2 := b0_5 hBc2619; omega) (by have q0 := b0_4 hBc2619; omega) (by have q0 := b0_8 hBc2619; omega) (KVP.fr (F := ([3, 4, 5, 6, 7, 8, 9, 12], [])) v_KVP (FrM.c (FrM.c FrM.rf hE32_2615 rfl) hFc2619 rfl) rfl) (KC.fr (F := ([3, 4, 5, 6, 7, 8, 9, 12], [])) v_KC (FrM.c (FrM.c FrM.rf hE32_2615 rfl) hFc2619 rfl) rfl) (CF.fr (F := ([3, 4, 5, 6, 7, 8, 9, 12], [])) v_CF (FrM.c (FrM.c FrM.rf hE32_2615 rfl) hFc2619 rfl) rfl))
    · refine g_aload_n dX12_conIs_37 rfl ?_
      refine m_g16 rfl dX12_conIs_38 ?_
      refine g_iconst dX12_conIs_41 ?_
      refine g_aload_n dX12_conIs_42 rfl ?_
      refine m_g37 (z := (P 0 37)) rfl dX12_conIs_43 ((hE32_2615.1 37 rfl).trans rfl) ?_
      refine g_imul dX12_conIs_46 ?_
      refine g_iload_n dX12_conIs_47 rfl ?_
      refine g_iadd dX12_conIs_48 ?_
      refine m_l4 (z := (P 4 ((4 * (P 0 37)) + ((P 2 (P 0 37)) - 1)))) dX12_conIs_49 ⟨by have q0 := b0_37 hB; have q1 := bl_2 (k := (P 0 37)) hB; omega, by have q0 := b0_37 hB; have q1 := bl_2 (k := (P 0 37)) hB; omega⟩ ((congrFun (hE32_2615.2 4 rfl rfl) _).trans rfl) ?_
      refine g_bipush dX12_conIs_50 (by decide) ?_
      have f3487 := bl_4 (k := ((4 * (P 0 37)) + ((P 2 (P 0 37)) - 1))) hB
      refine g_icmp_ne (tgt := 59) dX12_conIs_52 (by decide) ⟨by have q0 := bl_4 (k := ((4 * (P 0 37)) + ((P 2 (P 0 37)) - 1))) hB; omega, by have q0 := bl_4 (k := ((4 * (P 0 37)) + ((P 2 (P 0 37)) - 1))) hB; omega⟩ (by decide) (fun k3488 => ?_) (fun k3488 => ?_)
      · refine g_iconst dX12_conIs_59 ?_
        refine g_vI (av := [vI 0]) (o := 0) (st := []) (m_X12_isCounted G H32_2615 0 (by decide) hB32_2615 (by have q0 := (((hE32_2615.1 3 rfl).trans rfl) : H32_2615 0 3 = (P 0 3)); have q1 := b0_3 hB; have q2 := (((hE32_2615.1 4 rfl).trans rfl) : H32_2615 0 4 = (P 0 4)); have q3 := b0_4 hB; have q4 := (((hE32_2615.1 5 rfl).trans rfl) : H32_2615 0 5 = (P 0 5)); have q5 := b0_5 hB; omega) _ (fun rc3489 hc3489 Pc3489 hBc3489 hFc3489 gc3489_lx gc3489_mo gc3489_pe gc3489_c gc3489_ad => ⟨rc3489, rfl, ?_⟩)) cf_X12_isCounted t_1714 rfl (by decide) rfl rfl rfl (Nat.le_of_ble_eq_true rfl) (by decide) rfl dX12_conIs_60
        have z3490 : H32_2615 0 4 = (P 0 4) := ((hE32_2615.1 4 rfl).trans rfl)
        have z3491 : H32_2615 0 3 = (P 0 3) := ((hE32_2615.1 3 rfl).trans rfl)
        refine g_if_ne (tgt := 67) dX12_conIs_63 (by decide) ⟨by omega, by omega⟩ (fun k3492 => ?_) (fun k3492 => ?_)
        · refine g_aload_n dX12_conIs_67 rfl ?_
          refine g_vL (av := []) (o := 0) (st := []) (m_X12_fresh G Pc3489  hBc3489 (by have q0 := b0_3 hBc3489; have q1 := b0_4 hBc3489; have q2 := b0_5 hBc3489; omega) _ (fun rc3493 hc3493 Pc3493 hBc3493 hFc3493 gc3493_lx gc3493_mo gc3493_pe => ⟨rc3493, rfl, ?_⟩)) cf_X12_fresh t_1718 rfl (by decide) rfl rfl rfl (Nat.le_of_ble_eq_true rfl) (by decide) rfl dX12_conIs_68
          refine g_lstore_n (l1 := [(2, vL rc3493), (0, vR 0), (1, vI ((P 2 (P 0 37)) - 1))]) dX12_conIs_71 (by decide) rfl ?_
          refine g_aload_n dX12_conIs_72 rfl ?_
          refine m_g8 (z := (Pc3493 0 8)) rfl dX12_conIs_73 rfl ?_
          have f3494 := b0_8 hBc3493
          refine g_if_le (tgt := 80) dX12_conIs_76 (by decide) ⟨by have q0 := b0_8 hBc3493; omega, by have q0 := b0_8 hBc3493; omega⟩ (fun k3495 => ?_) (fun k3495 => ?_)
          · have hkc := v_KC
            unfold KC at hkc
            refine g_bipush dX12_conIs_80 (by decide) ?_
            refine g_aload_n dX12_conIs_82 rfl ?_
            refine m_g37 (z := (P 0 37)) rfl dX12_conIs_83 ((hFc3493.1 37 rfl).trans ((hFc3489.1 37 rfl).trans ((hE32_2615.1 37 rfl).trans rfl))) ?_
            refine g_imul dX12_conIs_86 ?_
            refine g_aload_n dX12_conIs_87 rfl ?_
            refine m_g17 rfl dX12_conIs_88 ?_
            refine g_aload_n dX12_conIs_91 rfl ?_
            refine m_g37 (z := (P 0 37)) rfl dX12_conIs_92 ((hFc3493.1 37 rfl).trans ((hFc3489.1 37 rfl).trans ((hE32_2615.1 37 rfl).trans rfl))) ?_
            refine m_l5 (z := (P 5 (P 0 37))) dX12_conIs_95 ⟨by have q0 := b0_37 hB; omega, by have q0 := b0_37 hB; omega⟩ ((congrFun (hFc3493.2 5 rfl rfl) _).trans ((congrFun (hFc3489.2 5 rfl rfl) _).trans ((congrFun (hE32_2615.2 5 rfl rfl) _).trans rfl))) ?_
            refine g_iadd dX12_conIs_96 ?_
            refine g_istore (l1 := [(4, vI ((24 * (P 0 37)) + (P 5 (P 0 37)))), (2, vL rc3493), (0, vR 0), (1, vI ((P 2 (P 0 37)) - 1))]) dX12_conIs_97 (by decide) rfl ?_
            refine g_aload_n dX12_conIs_99 rfl ?_
            refine m_g15 rfl dX12_conIs_100 ?_
            refine g_iconst dX12_conIs_103 ?_
            refine g_aload_n dX12_conIs_104 rfl ?_
            refine m_g37 (z := (P 0 37)) rfl dX12_conIs_105 ((hFc3493.1 37 rfl).trans ((hFc3489.1 37 rfl).trans ((hE32_2615.1 37 rfl).trans rfl))) ?_
            refine g_imul dX12_conIs_108 ?_
            refine g_iload_n dX12_conIs_109 rfl ?_
            refine g_iadd dX12_conIs_110 ?_
            refine m_l3 (z := (P 3 ((4 * (P 0 37)) + ((P 2 (P 0 37)) - 1)))) dX12_conIs_111 ⟨by have q0 := b0_37 hB; have q1 := bl_2 (k := (P 0 37)) hB; omega, by have q0 := b0_37 hB; have q1 := bl_2 (k := (P 0 37)) hB; omega⟩ ((congrFun (hFc3493.2 3 rfl rfl) _).trans ((congrFun (hFc3489.2 3 rfl rfl) _).trans ((congrFun (hE32_2615.2 3 rfl rfl) _).trans rfl))) ?_
            refine g_istore (l1 := [(5, vI (P 3 ((4 * (P 0 37)) + ((P 2 (P 0 37)) - 1)))), (4, vI ((24 * (P 0 37)) + (P 5 (P 0 37)))), (2, vL rc3493), (0, vR 0), (1, vI ((P 2 (P 0 37)) - 1))]) dX12_conIs_112 (by decide) rfl ?_
            refine g_aload_n dX12_conIs_114 rfl ?_
            refine m_g35 rfl dX12_conIs_115 ?_
            refine g_iload dX12_conIs_118 rfl ?_
            refine g_lload_n dX12_conIs_120 rfl ?_
            have hcf := (CF.fr (F := ([3, 4, 5, 6, 7, 8, 9, 12], [])) v_CF (FrM.c (FrM.c (FrM.c FrM.rf hE32_2615 rfl) hFc3489 rfl) hFc3493 rfl) rfl)
            refine m_s23 dX12_conIs_121 ⟨by have q0 := b0_37 hB; have q1 := bl_5 (k := (P 0 37)) hB; omega, by have q0 := b0_37 hB; have q1 := bl_5 (k := (P 0 37)) hB; omega⟩ ?_
            have hB3496 := ba_23 (z := rc3493) (k := ((24 * (P 0 37)) + (P 5 (P 0 37)))) hBc3493 ⟨by omega, by omega⟩
            refine g_aload_n dX12_conIs_122 rfl ?_
            refine m_g18 rfl dX12_conIs_123 ?_
            refine g_iload dX12_conIs_126 rfl ?_
            refine g_iload_n dX12_conIs_128 rfl ?_
            refine m_s6 dX12_conIs_129 ⟨by have q0 := b0_37 hB; have q1 := bl_5 (k := (P 0 37)) hB; omega, by have q0 := b0_37 hB; have q1 := bl_5 (k := (P 0 37)) hB; omega⟩ ?_
            have hB3497 := ba_6 (z := ((P 2 (P 0 37)) - 1)) (k := ((24 * (P 0 37)) + (P 5 (P 0 37)))) hB3496 ⟨by have q0 := bl_2 (k := (P 0 37)) hB; omega, by have q0 := bl_2 (k := (P 0 37)) hB; omega⟩
            refine g_aload_n dX12_conIs_130 rfl ?_
            refine m_g19 rfl dX12_conIs_131 ?_
            refine g_iload dX12_conIs_134 rfl ?_
            refine g_iconst dX12_conIs_136 ?_
            refine m_s7 dX12_conIs_137 ⟨by have q0 := b0_37 hB; have q1 := bl_5 (k := (P 0 37)) hB; omega, by have q0 := b0_37 hB; have q1 := bl_5 (k := (P 0 37)) hB; omega⟩ ?_
            have hB3498 := ba_7 (z := 0) (k := ((24 * (P 0 37)) + (P 5 (P 0 37)))) hB3497 (by decide)
            have iv3499 : CF (up (up (up Pc3493 23 ((24 * (P 0 37)) + (P 5 (P 0 37))) rc3493) 6 ((24 * (P 0 37)) + (P 5 (P 0 37))) ((P 2 (P 0 37)) - 1)) 7 ((24 * (P 0 37)) + (P 5 (P 0 37))) 0) := hcf.new (c := ((24 * (P 0 37)) + (P 5 (P 0 37)))) (fun j hj => ((up_o (by decide)).trans ((up_k hj).trans ((up_o (by decide)).trans rfl)))) (fun j hj => ((up_k hj).trans ((up_o (by decide)).trans ((up_o (by decide)).trans rfl)))) (fun j => ((up_o (by decide)).trans ((up_o (by decide)).trans ((up_o (by decide)).trans rfl)))) up_same
            refine g_aload_n dX12_conIs_138 rfl ?_
            refine m_g21 rfl dX12_conIs_139 ?_
            refine g_iload dX12_conIs_142 rfl ?_
            refine g_iload dX12_conIs_144 rfl ?_
            refine m_s9 dX12_conIs_146 ⟨by have q0 := b0_37 hB; have q1 := bl_5 (k := (P 0 37)) hB; omega, by have q0 := b0_37 hB; have q1 := bl_5 (k := (P 0 37)) hB; omega⟩ ?_
            have hB3500 := ba_9 (z := (P 3 ((4 * (P 0 37)) + ((P 2 (P 0 37)) - 1)))) (k := ((24 * (P 0 37)) + (P 5 (P 0 37)))) hB3498 ⟨by have q0 := bl_3 (k := ((4 * (P 0 37)) + ((P 2 (P 0 37)) - 1))) hB; omega, by have q0 := bl_3 (k := ((4 * (P 0 37)) + ((P 2 (P 0 37)) - 1))) hB; omega⟩
            refine g_aload_n dX12_conIs_147 rfl ?_
            refine m_g22 rfl dX12_conIs_148 ?_
            refine g_iload dX12_conIs_151 rfl ?_
            refine g_iconst dX12_conIs_153 ?_
            refine m_s10 dX12_conIs_154 ⟨by have q0 := b0_37 hB; have q1 := bl_5 (k := (P 0 37)) hB; omega, by have q0 := b0_37 hB; have q1 := bl_5 (k := (P 0 37)) hB; omega⟩ ?_
            have hB3501 := ba_10 (z := 1) (k := ((24 * (P 0 37)) + (P 5 (P 0 37)))) hB3500 (by decide)
            refine g_aload_n dX12_conIs_155 rfl ?_
            refine g_vV (av := []) (o := 0) (st := []) (m_X12_lex G (up (up (up (up (up Pc3493 23 ((24 * (P 0 37)) + (P 5 (P 0 37))) rc3493) 6 ((24 * (P 0 37)) + (P 5 (P 0 37))) ((P 2 (P 0 37)) - 1)) 7 ((24 * (P 0 37)) + (P 5 (P 0 37))) 0) 9 ((24 * (P 0 37)) + (P 5 (P 0 37))) (P 3 ((4 * (P 0 37)) + ((P 2 (P 0 37)) - 1)))) 10 ((24 * (P 0 37)) + (P 5 (P 0 37))) 1)  hB3501  _ (fun Pc3502 hBc3502 hFc3502 gc3502_pe => ⟨rfl, ?_⟩)) cf_X12_lex t_1697 rfl (by decide) rfl rfl rfl (Nat.le_of_ble_eq_true rfl) (by decide) rfl dX12_conIs_156
            have z3503 : (up (up (up (up (up Pc3493 23 ((24 * (P 0 37)) + (P 5 (P 0 37))) rc3493) 6 ((24 * (P 0 37)) + (P 5 (P 0 37))) ((P 2 (P 0 37)) - 1)) 7 ((24 * (P 0 37)) + (P 5 (P 0 37))) 0) 9 ((24 * (P 0 37)) + (P 5 (P 0 37))) (P 3 ((4 * (P 0 37)) + ((P 2 (P 0 37)) - 1)))) 10 ((24 * (P 0 37)) + (P 5 (P 0 37))) 1) 0 8 = (Pc3493 0 8) := ((up_o (by decide)).trans ((up_o (by decide)).trans ((up_o (by decide)).trans ((up_o (by decide)).trans ((up_o (by decide)).trans rfl)))))
            have L159_3503 : ∀ (n159_3503 : Nat) (H159_3503 : PH) (hB159_3503 : BdM H159_3503) (hE159_3503 : FrM ([3, 4, 5, 6, 7, 8, 9, 12], [7, 8, 10]) Pc3502 H159_3503) (i159_0_3503 : (H159_3503 10 ((24 * (P 0 37)) + (P 5 (P 0 37))) = 1 ∧ H159_3503 7 ((24 * (P 0 37)) + (P 5 (P 0 37))) = 0) ∨ (P 3 ((4 * (P 0 37)) + ((P 2 (P 0 37)) - 1))) + H159_3503 10 ((24 * (P 0 37)) + (P 5 (P 0 37))) ≤ 2000) (i159_1_3503 : 1 ≤ H159_3503 10 ((24 * (P 0 37)) + (P 5 (P 0 37)))) (i159_2_3503 : P 0 8 ≤ 0 ∨ 0 < H159_3503 0 8) (i159_3_3503 : P 0 4 ≤ H159_3503 0 4) (i159_4_3503 : (H159_3503 0 3 = 0 ∨ H159_3503 0 4 + 1 ≤ H159_3503 0 5) ∧ H159_3503 0 4 ≤ H159_3503 0 5) (w159_CF_3503 : CF H159_3503) (hm159_3503 : (1601 - H159_3503 0 4 : Int).toNat < n159_3503), Go WSM G 4 iX12_conIs 159 [(0, vR 0), (1, vI ((P 2 (P 0 37)) - 1)), (4, vI ((24 * (P 0 37)) + (P 5 (P 0 37)))), (5, vI (P 3 ((4 * (P 0 37)) + ((P 2 (P 0 37)) - 1))))] [] H159_3503 Q := by
              intro n159_3503
              induction n159_3503 with
              | zero => intro H159_3503 hB159_3503 hE159_3503 i159_0_3503 i159_1_3503 i159_2_3503 i159_3_3503 i159_4_3503 w159_CF_3503 hm159_3503; exact absurd hm159_3503 (Nat.not_lt_zero _)
              | succ n159_3503 ih159_3503 =>
              intro H159_3503 hB159_3503 hE159_3503 i159_0_3503 i159_1_3503 i159_2_3503 i159_3_3503 i159_4_3503 w159_CF_3503 hm159_3503
              refine g_aload_n dX12_conIs_159 rfl ?_
              refine m_g8 (z := (H159_3503 0 8)) rfl dX12_conIs_160 rfl ?_
              have f4185 := b0_8 hB159_3503
              have J303_4270 : ∀ (_ : True), Go WSM G 4 iX12_conIs 303 [(0, vR 0), (1, vI ((P 2 (P 0 37)) - 1)), (4, vI ((24 * (P 0 37)) + (P 5 (P 0 37))))] [] H159_3503 Q := by
                intro _
                refine g_aload_n dX12_conIs_303 rfl ?_
                refine m_g8 (z := (H159_3503 0 8)) rfl dX12_conIs_304 rfl ?_
                refine g_if_le (tgt := 311) dX12_conIs_307 (by decide) ⟨by have q0 := b0_8 hB159_3503; omega, by have q0 := b0_8 hB159_3503; omega⟩ (fun k4272 => ?_) (fun k4272 => ?_)
                · have hkv9 := v_KVP ((4 * (P 0 37)) + ((P 2 (P 0 37)) - 1))
                  refine g_aload_n dX12_conIs_311 rfl ?_
                  refine m_g15 rfl dX12_conIs_312 ?_
                  refine g_iconst dX12_conIs_315 ?_
                  refine g_aload_n dX12_conIs_316 rfl ?_
                  refine m_g37 (z := (P 0 37)) rfl dX12_conIs_317 ((hE159_3503.1 37 rfl).trans ((hFc3502.1 37 rfl).trans ((up_o (by decide)).trans ((up_o (by decide)).trans ((up_o (by decide)).trans ((up_o (by decide)).trans ((up_o (by decide)).trans ((hFc3493.1 37 rfl).trans ((hFc3489.1 37 rfl).trans ((hE32_2615.1 37 rfl).trans rfl)))))))))) ?_
                  refine g_imul dX12_conIs_320 ?_
                  refine g_iload_n dX12_conIs_321 rfl ?_
                  refine g_iadd dX12_conIs_322 ?_
                  refine g_dup2 dX12_conIs_323 rfl rfl ?_
                  refine m_l3 (z := (P 3 ((4 * (P 0 37)) + ((P 2 (P 0 37)) - 1)))) dX12_conIs_324 ⟨by have q0 := b0_37 hB; have q1 := bl_2 (k := (P 0 37)) hB; omega, by have q0 := b0_37 hB; have q1 := bl_2 (k := (P 0 37)) hB; omega⟩ ((congrFun (hE159_3503.2 3 rfl rfl) _).trans ((congrFun (hFc3502.2 3 rfl rfl) _).trans ((up_o (by decide)).trans ((up_o (by decide)).trans ((up_o (by decide)).trans ((up_o (by decide)).trans ((up_o (by decide)).trans ((congrFun (hFc3493.2 3 rfl rfl) _).trans ((congrFun (hFc3489.2 3 rfl rfl) _).trans ((congrFun (hE32_2615.2 3 rfl rfl) _).trans rfl)))))))))) ?_
                  refine g_aload_n dX12_conIs_325 rfl ?_
                  refine m_g22 rfl dX12_conIs_326 ?_
                  refine g_iload dX12_conIs_329 rfl ?_
                  refine m_l10 (z := (H159_3503 10 ((24 * (P 0 37)) + (P 5 (P 0 37))))) dX12_conIs_331 ⟨by have q0 := b0_37 hB; have q1 := bl_5 (k := (P 0 37)) hB; omega, by have q0 := b0_37 hB; have q1 := bl_5 (k := (P 0 37)) hB; omega⟩ rfl ?_
                  refine g_iadd dX12_conIs_332 ?_
                  refine m_s3 dX12_conIs_333 ⟨by have q0 := b0_37 hB; have q1 := bl_2 (k := (P 0 37)) hB; omega, by have q0 := b0_37 hB; have q1 := bl_2 (k := (P 0 37)) hB; omega⟩ ?_
                  have hB4273 := ba_3 (z := ((P 3 ((4 * (P 0 37)) + ((P 2 (P 0 37)) - 1))) + (H159_3503 10 ((24 * (P 0 37)) + (P 5 (P 0 37)))))) (k := ((4 * (P 0 37)) + ((P 2 (P 0 37)) - 1))) hB159_3503 ⟨by have q0 := bl_3 (k := ((4 * (P 0 37)) + ((P 2 (P 0 37)) - 1))) hB; have q1 := bl_10 (k := ((24 * (P 0 37)) + (P 5 (P 0 37)))) hB159_3503; omega, by have q0 := bl_3 (k := ((4 * (P 0 37)) + ((P 2 (P 0 37)) - 1))) hB; have q1 := bl_10 (k := ((24 * (P 0 37)) + (P 5 (P 0 37)))) hB159_3503; omega⟩
                  refine g_aload_n dX12_conIs_334 rfl ?_
                  refine m_g16 rfl dX12_conIs_335 ?_
                  refine g_iconst dX12_conIs_338 ?_
                  refine g_aload_n dX12_conIs_339 rfl ?_
                  refine m_g37 (z := (P 0 37)) rfl dX12_conIs_340 ((up_o (by decide)).trans ((hE159_3503.1 37 rfl).trans ((hFc3502.1 37 rfl).trans ((up_o (by decide)).trans ((up_o (by decide)).trans ((up_o (by decide)).trans ((up_o (by decide)).trans ((up_o (by decide)).trans ((hFc3493.1 37 rfl).trans ((hFc3489.1 37 rfl).trans ((hE32_2615.1 37 rfl).trans rfl))))))))))) ?_
                  refine g_imul dX12_conIs_343 ?_
                  refine g_iload_n dX12_conIs_344 rfl ?_
                  refine g_iadd dX12_conIs_345 ?_
                  refine g_dup2 dX12_conIs_346 rfl rfl ?_
                  refine m_l4 (z := (P 4 ((4 * (P 0 37)) + ((P 2 (P 0 37)) - 1)))) dX12_conIs_347 ⟨by have q0 := b0_37 hB; have q1 := bl_2 (k := (P 0 37)) hB; omega, by have q0 := b0_37 hB; have q1 := bl_2 (k := (P 0 37)) hB; omega⟩ ((up_o (by decide)).trans ((congrFun (hE159_3503.2 4 rfl rfl) _).trans ((congrFun (hFc3502.2 4 rfl rfl) _).trans ((up_o (by decide)).trans ((up_o (by decide)).trans ((up_o (by decide)).trans ((up_o (by decide)).trans ((up_o (by decide)).trans ((congrFun (hFc3493.2 4 rfl rfl) _).trans ((congrFun (hFc3489.2 4 rfl rfl) _).trans ((congrFun (hE32_2615.2 4 rfl rfl) _).trans rfl))))))))))) ?_
                  refine g_iconst dX12_conIs_348 ?_
                  refine g_iadd dX12_conIs_349 ?_
                  refine m_s4 dX12_conIs_350 ⟨by have q0 := b0_37 hB; have q1 := bl_2 (k := (P 0 37)) hB; omega, by have q0 := b0_37 hB; have q1 := bl_2 (k := (P 0 37)) hB; omega⟩ ?_
                  have hB4274 := ba_4 (z := ((P 4 ((4 * (P 0 37)) + ((P 2 (P 0 37)) - 1))) + 1)) (k := ((4 * (P 0 37)) + ((P 2 (P 0 37)) - 1))) hB4273 ⟨by have q0 := bl_4 (k := ((4 * (P 0 37)) + ((P 2 (P 0 37)) - 1))) hB; omega, by have q0 := bl_4 (k := ((4 * (P 0 37)) + ((P 2 (P 0 37)) - 1))) hB; omega⟩
                  refine g_aload_n dX12_conIs_351 rfl ?_
                  refine m_g17 rfl dX12_conIs_352 ?_
                  refine g_aload_n dX12_conIs_355 rfl ?_
                  refine m_g37 (z := (P 0 37)) rfl dX12_conIs_356 ((up_o (by decide)).trans ((up_o (by decide)).trans ((hE159_3503.1 37 rfl).trans ((hFc3502.1 37 rfl).trans ((up_o (by decide)).trans ((up_o (by decide)).trans ((up_o (by decide)).trans ((up_o (by decide)).trans ((up_o (by decide)).trans ((hFc3493.1 37 rfl).trans ((hFc3489.1 37 rfl).trans ((hE32_2615.1 37 rfl).trans rfl)))))))))))) ?_
                  refine g_dup2 dX12_conIs_359 rfl rfl ?_
                  refine m_l5 (z := (P 5 (P 0 37))) dX12_conIs_360 ⟨by have q0 := b0_37 hB; omega, by have q0 := b0_37 hB; omega⟩ ((up_o (by decide)).trans ((up_o (by decide)).trans ((congrFun (hE159_3503.2 5 rfl rfl) _).trans ((congrFun (hFc3502.2 5 rfl rfl) _).trans ((up_o (by decide)).trans ((up_o (by decide)).trans ((up_o (by decide)).trans ((up_o (by decide)).trans ((up_o (by decide)).trans ((congrFun (hFc3493.2 5 rfl rfl) _).trans ((congrFun (hFc3489.2 5 rfl rfl) _).trans ((congrFun (hE32_2615.2 5 rfl rfl) _).trans rfl)))))))))))) ?_
                  refine g_iconst dX12_conIs_361 ?_
                  refine g_iadd dX12_conIs_362 ?_
                  refine m_s5 dX12_conIs_363 ⟨by have q0 := b0_37 hB; omega, by have q0 := b0_37 hB; omega⟩ ?_
                  have hB4275 := ba_5 (z := ((P 5 (P 0 37)) + 1)) (k := (P 0 37)) hB4274 ⟨by have q0 := bl_5 (k := (P 0 37)) hB; omega, by have q0 := bl_5 (k := (P 0 37)) hB; omega⟩
                  have iv4276 : KVP (up (up (up H159_3503 3 ((4 * (P 0 37)) + ((P 2 (P 0 37)) - 1)) ((P 3 ((4 * (P 0 37)) + ((P 2 (P 0 37)) - 1))) + (H159_3503 10 ((24 * (P 0 37)) + (P 5 (P 0 37)))))) 4 ((4 * (P 0 37)) + ((P 2 (P 0 37)) - 1)) ((P 4 ((4 * (P 0 37)) + ((P 2 (P 0 37)) - 1))) + 1)) 5 (P 0 37) ((P 5 (P 0 37)) + 1)) := v_KVP.step (i := ((4 * (P 0 37)) + ((P 2 (P 0 37)) - 1))) (fun j hj => ((up_o (by decide)).trans ((up_o (by decide)).trans ((up_k hj).trans ((congrFun (hE159_3503.2 3 rfl rfl) _).trans ((congrFun (hFc3502.2 3 rfl rfl) _).trans ((up_o (by decide)).trans ((up_o (by decide)).trans ((up_o (by decide)).trans ((up_o (by decide)).trans ((up_o (by decide)).trans ((congrFun (hFc3493.2 3 rfl rfl) _).trans ((congrFun (hFc3489.2 3 rfl rfl) _).trans ((congrFun (hE32_2615.2 3 rfl rfl) _).trans rfl)))))))))))))) (fun j hj => ((up_o (by decide)).trans ((up_k hj).trans ((up_o (by decide)).trans ((congrFun (hE159_3503.2 4 rfl rfl) _).trans ((congrFun (hFc3502.2 4 rfl rfl) _).trans ((up_o (by decide)).trans ((up_o (by decide)).trans ((up_o (by decide)).trans ((up_o (by decide)).trans ((up_o (by decide)).trans ((congrFun (hFc3493.2 4 rfl rfl) _).trans ((congrFun (hFc3489.2 4 rfl rfl) _).trans ((congrFun (hE32_2615.2 4 rfl rfl) _).trans rfl)))))))))))))) (by have q3 := (((up_o (by decide)).trans ((up_o (by decide)).trans up_same)) : (up (up (up H159_3503 3 ((4 * (P 0 37)) + ((P 2 (P 0 37)) - 1)) ((P 3 ((4 * (P 0 37)) + ((P 2 (P 0 37)) - 1))) + (H159_3503 10 ((24 * (P 0 37)) + (P 5 (P 0 37)))))) 4 ((4 * (P 0 37)) + ((P 2 (P 0 37)) - 1)) ((P 4 ((4 * (P 0 37)) + ((P 2 (P 0 37)) - 1))) + 1)) 5 (P 0 37) ((P 5 (P 0 37)) + 1)) 3 ((4 * (P 0 37)) + ((P 2 (P 0 37)) - 1)) = ((P 3 ((4 * (P 0 37)) + ((P 2 (P 0 37)) - 1))) + (H159_3503 10 ((24 * (P 0 37)) + (P 5 (P 0 37)))))); have q4 := (((up_o (by decide)).trans up_same) : (up (up (up H159_3503 3 ((4 * (P 0 37)) + ((P 2 (P 0 37)) - 1)) ((P 3 ((4 * (P 0 37)) + ((P 2 (P 0 37)) - 1))) + (H159_3503 10 ((24 * (P 0 37)) + (P 5 (P 0 37)))))) 4 ((4 * (P 0 37)) + ((P 2 (P 0 37)) - 1)) ((P 4 ((4 * (P 0 37)) + ((P 2 (P 0 37)) - 1))) + 1)) 5 (P 0 37) ((P 5 (P 0 37)) + 1)) 4 ((4 * (P 0 37)) + ((P 2 (P 0 37)) - 1)) = ((P 4 ((4 * (P 0 37)) + ((P 2 (P 0 37)) - 1))) + 1)); have q5 := bl_4 (k := ((4 * (P 0 37)) + ((P 2 (P 0 37)) - 1))) hB; omega)
                  have iv4277 : KC (up (up (up H159_3503 3 ((4 * (P 0 37)) + ((P 2 (P 0 37)) - 1)) ((P 3 ((4 * (P 0 37)) + ((P 2 (P 0 37)) - 1))) + (H159_3503 10 ((24 * (P 0 37)) + (P 5 (P 0 37)))))) 4 ((4 * (P 0 37)) + ((P 2 (P 0 37)) - 1)) ((P 4 ((4 * (P 0 37)) + ((P 2 (P 0 37)) - 1))) + 1)) 5 (P 0 37) ((P 5 (P 0 37)) + 1)) := v_KC.con (by omega) ((up_o (by decide)).trans ((up_o (by decide)).trans ((up_o (by decide)).trans ((hE159_3503.1 37 rfl).trans ((hFc3502.1 37 rfl).trans ((up_o (by decide)).trans ((up_o (by decide)).trans ((up_o (by decide)).trans ((up_o (by decide)).trans ((up_o (by decide)).trans ((hFc3493.1 37 rfl).trans ((hFc3489.1 37 rfl).trans ((hE32_2615.1 37 rfl).trans rfl))))))))))))) ((up_o (by decide)).trans ((up_o (by decide)).trans ((up_o (by decide)).trans ((congrFun (hE159_3503.2 2 rfl rfl) _).trans ((congrFun (hFc3502.2 2 rfl rfl) _).trans ((up_o (by decide)).trans ((up_o (by decide)).trans ((up_o (by decide)).trans ((up_o (by decide)).trans ((up_o (by decide)).trans ((congrFun (hFc3493.2 2 rfl rfl) _).trans ((congrFun (hFc3489.2 2 rfl rfl) _).trans ((congrFun (hE32_2615.2 2 rfl rfl) _).trans rfl))))))))))))) up_same ((up_o (by decide)).trans up_same)
                  exact g_retV dX12_conIs_364 rfl (hQ _ hB4275 (FrM.a (FrM.a (FrM.a (FrM.c (FrM.c (FrM.a (FrM.a (FrM.a (FrM.a (FrM.a (FrM.c (FrM.c (FrM.c FrM.rf hE32_2615 rfl) hFc3489 rfl) hFc3493 rfl) rfl rfl) rfl rfl) rfl rfl) rfl rfl) rfl rfl) hFc3502 rfl) hE159_3503 rfl) rfl rfl) rfl rfl) rfl rfl) (by have q0 := (((up_o (by decide)).trans ((up_o (by decide)).trans ((up_o (by decide)).trans rfl))) : (up (up (up H159_3503 3 ((4 * (P 0 37)) + ((P 2 (P 0 37)) - 1)) ((P 3 ((4 * (P 0 37)) + ((P 2 (P 0 37)) - 1))) + (H159_3503 10 ((24 * (P 0 37)) + (P 5 (P 0 37)))))) 4 ((4 * (P 0 37)) + ((P 2 (P 0 37)) - 1)) ((P 4 ((4 * (P 0 37)) + ((P 2 (P 0 37)) - 1))) + 1)) 5 (P 0 37) ((P 5 (P 0 37)) + 1)) 0 3 = (H159_3503 0 3)); have q1 := b0_3 hB159_3503; have q2 := (((up_o (by decide)).trans ((up_o (by decide)).trans ((up_o (by decide)).trans rfl))) : (up (up (up H159_3503 3 ((4 * (P 0 37)) + ((P 2 (P 0 37)) - 1)) ((P 3 ((4 * (P 0 37)) + ((P 2 (P 0 37)) - 1))) + (H159_3503 10 ((24 * (P 0 37)) + (P 5 (P 0 37)))))) 4 ((4 * (P 0 37)) + ((P 2 (P 0 37)) - 1)) ((P 4 ((4 * (P 0 37)) + ((P 2 (P 0 37)) - 1))) + 1)) 5 (P 0 37) ((P 5 (P 0 37)) + 1)) 0 4 = (H159_3503 0 4)); have q3 := b0_4 hB159_3503; have q4 := (((up_o (by decide)).trans ((up_o (by decide)).trans ((up_o (by decide)).trans rfl))) : (up (up (up H159_3503 3 ((4 * (P 0 37)) + ((P 2 (P 0 37)) - 1)) ((P 3 ((4 * (P 0 37)) + ((P 2 (P 0 37)) - 1))) + (H159_3503 10 ((24 * (P 0 37)) + (P 5 (P 0 37)))))) 4 ((4 * (P 0 37)) + ((P 2 (P 0 37)) - 1)) ((P 4 ((4 * (P 0 37)) + ((P 2 (P 0 37)) - 1))) + 1)) 5 (P 0 37) ((P 5 (P 0 37)) + 1)) 0 5 = (H159_3503 0 5)); have q5 := b0_5 hB159_3503; omega) (by have q0 := (((up_o (by decide)).trans ((up_o (by decide)).trans ((up_o (by decide)).trans rfl))) : (up (up (up H159_3503 3 ((4 * (P 0 37)) + ((P 2 (P 0 37)) - 1)) ((P 3 ((4 * (P 0 37)) + ((P 2 (P 0 37)) - 1))) + (H159_3503 10 ((24 * (P 0 37)) + (P 5 (P 0 37)))))) 4 ((4 * (P 0 37)) + ((P 2 (P 0 37)) - 1)) ((P 4 ((4 * (P 0 37)) + ((P 2 (P 0 37)) - 1))) + 1)) 5 (P 0 37) ((P 5 (P 0 37)) + 1)) 0 4 = (H159_3503 0 4)); have q1 := b0_4 hB159_3503; omega) (by have q0 := (((up_o (by decide)).trans ((up_o (by decide)).trans ((up_o (by decide)).trans rfl))) : (up (up (up H159_3503 3 ((4 * (P 0 37)) + ((P 2 (P 0 37)) - 1)) ((P 3 ((4 * (P 0 37)) + ((P 2 (P 0 37)) - 1))) + (H159_3503 10 ((24 * (P 0 37)) + (P 5 (P 0 37)))))) 4 ((4 * (P 0 37)) + ((P 2 (P 0 37)) - 1)) ((P 4 ((4 * (P 0 37)) + ((P 2 (P 0 37)) - 1))) + 1)) 5 (P 0 37) ((P 5 (P 0 37)) + 1)) 0 8 = (H159_3503 0 8)); have q1 := b0_8 hB159_3503; omega) iv4276 iv4277 (CF.fr (F := ([], [3, 4, 5])) w159_CF_3503 (FrM.a (FrM.a (FrM.a FrM.rf rfl rfl) rfl rfl) rfl rfl) rfl))
                · exact g_retV dX12_conIs_310 rfl (hQ _ hB159_3503 (FrM.c (FrM.c (FrM.a (FrM.a (FrM.a (FrM.a (FrM.a (FrM.c (FrM.c (FrM.c FrM.rf hE32_2615 rfl) hFc3489 rfl) hFc3493 rfl) rfl rfl) rfl rfl) rfl rfl) rfl rfl) rfl rfl) hFc3502 rfl) hE159_3503 rfl) (by have q0 := b0_3 hB159_3503; have q1 := b0_4 hB159_3503; have q2 := b0_5 hB159_3503; omega) (by have q0 := b0_4 hB159_3503; omega) (by have q0 := b0_8 hB159_3503; omega) (KVP.fr (F := ([3, 4, 5, 6, 7, 8, 9, 12], [6, 7, 8, 9, 10, 23])) v_KVP (FrM.c (FrM.c (FrM.a (FrM.a (FrM.a (FrM.a (FrM.a (FrM.c (FrM.c (FrM.c FrM.rf hE32_2615 rfl) hFc3489 rfl) hFc3493 rfl) rfl rfl) rfl rfl) rfl rfl) rfl rfl) rfl rfl) hFc3502 rfl) hE159_3503 rfl) rfl) (KC.fr (F := ([3, 4, 5, 6, 7, 8, 9, 12], [6, 7, 8, 9, 10, 23])) v_KC (FrM.c (FrM.c (FrM.a (FrM.a (FrM.a (FrM.a (FrM.a (FrM.c (FrM.c (FrM.c FrM.rf hE32_2615 rfl) hFc3489 rfl) hFc3493 rfl) rfl rfl) rfl rfl) rfl rfl) rfl rfl) rfl rfl) hFc3502 rfl) hE159_3503 rfl) rfl) w159_CF_3503)
              refine g_if_ne (tgt := 303) dX12_conIs_163 (by decide) ⟨by have q0 := b0_8 hB159_3503; omega, by have q0 := b0_8 hB159_3503; omega⟩ (fun k4278 => ?_) (fun k4278 => ?_)
              · refine g_forget (l1 := [(0, vR 0), (1, vI ((P 2 (P 0 37)) - 1)), (4, vI ((24 * (P 0 37)) + (P 5 (P 0 37))))]) (by intro q hq; simp only [List.mem_cons, List.not_mem_nil, or_false] at hq ⊢; rcases hq with rfl | rfl | rfl <;> simp) ?_
                exact J303_4270 trivial
              · refine g_aload_n dX12_conIs_166 rfl ?_
                refine g_vI (av := []) (o := 0) (st := []) (m_X12_isKindHere G H159_3503  hB159_3503  _ (fun rc4279 hc4279 gc4279_w => ⟨rc4279, rfl, ?_⟩)) cf_X12_isKindHere t_1748 rfl (by decide) rfl rfl rfl (Nat.le_of_ble_eq_true rfl) (by decide) rfl dX12_conIs_167
                refine g_if_eq (tgt := 303) dX12_conIs_170 (by decide) ⟨by omega, by omega⟩ (fun k4280 => ?_) (fun k4280 => ?_)
                · refine g_forget (l1 := [(0, vR 0), (1, vI ((P 2 (P 0 37)) - 1)), (4, vI ((24 * (P 0 37)) + (P 5 (P 0 37))))]) (by intro q hq; simp only [List.mem_cons, List.not_mem_nil, or_false] at hq ⊢; rcases hq with rfl | rfl | rfl <;> simp) ?_
                  exact J303_4270 trivial
                · refine g_aload_n dX12_conIs_173 rfl ?_
                  refine m_g19 rfl dX12_conIs_174 ?_
                  refine g_iload dX12_conIs_177 rfl ?_
                  refine m_l7 (z := (H159_3503 7 ((24 * (P 0 37)) + (P 5 (P 0 37))))) dX12_conIs_179 ⟨by have q0 := b0_37 hB; have q1 := bl_5 (k := (P 0 37)) hB; omega, by have q0 := b0_37 hB; have q1 := bl_5 (k := (P 0 37)) hB; omega⟩ rfl ?_
                  refine g_iconst dX12_conIs_180 ?_
                  have f4281 := bl_7 (k := ((24 * (P 0 37)) + (P 5 (P 0 37)))) hB159_3503
                  have J194_4318 : ∀ (H194_4318 : PH) (hB194_4318 : BdM H194_4318) (hE194_4318 : FrM ([8, 9], []) H159_3503 H194_4318) (i194_0_4318 : 0 < H194_4318 0 8 ∨ H194_4318 7 ((24 * (P 0 37)) + (P 5 (P 0 37))) ≤ 1) (i194_1_4318 : P 0 8 ≤ 0 ∨ 0 < H194_4318 0 8) (i194_2_4318 : P 0 4 ≤ H194_4318 0 4) (i194_3_4318 : (H194_4318 0 3 = 0 ∨ H194_4318 0 4 + 1 ≤ H194_4318 0 5) ∧ H194_4318 0 4 ≤ H194_4318 0 5), Go WSM G 4 iX12_conIs 194 [(0, vR 0), (1, vI ((P 2 (P 0 37)) - 1)), (4, vI ((24 * (P 0 37)) + (P 5 (P 0 37)))), (5, vI (P 3 ((4 * (P 0 37)) + ((P 2 (P 0 37)) - 1))))] [] H194_4318 Q := by
                    intro H194_4318 hB194_4318 hE194_4318 i194_0_4318 i194_1_4318 i194_2_4318 i194_3_4318
                    refine g_aload_n dX12_conIs_194 rfl ?_
                    refine g_iload_n dX12_conIs_195 rfl ?_
                    refine g_vI (av := [vI ((P 2 (P 0 37)) - 1)]) (o := 0) (st := []) (m_X12_known G H194_4318 ((P 2 (P 0 37)) - 1) ⟨by have q0 := bl_2 (k := (P 0 37)) hB; omega, by have q0 := bl_2 (k := (P 0 37)) hB; omega⟩ hB194_4318 (by have q0 := bl_2 (k := (P 0 37)) hB; have q1 := (((hE194_4318.1 3 rfl).trans rfl) : H194_4318 0 3 = (H159_3503 0 3)); have q2 := b0_3 hB159_3503; have q3 := (((hE194_4318.1 4 rfl).trans rfl) : H194_4318 0 4 = (H159_3503 0 4)); have q4 := b0_4 hB159_3503; have q5 := (((hE194_4318.1 5 rfl).trans rfl) : H194_4318 0 5 = (H159_3503 0 5)); have q6 := b0_5 hB159_3503; omega) _ (fun rc4320 hc4320 Pc4320 hBc4320 hFc4320 gc4320_lx gc4320_mo gc4320_pe gc4320_k => ⟨rc4320, rfl, ?_⟩)) cf_X12_known t_1752 rfl (by decide) rfl rfl rfl (Nat.le_of_ble_eq_true rfl) (by decide) rfl dX12_conIs_196
                    have z4321 : H194_4318 0 4 = (H159_3503 0 4) := ((hE194_4318.1 4 rfl).trans rfl)
                    have z4322 : H194_4318 0 37 = (P 0 37) := ((hE194_4318.1 37 rfl).trans ((hE159_3503.1 37 rfl).trans ((hFc3502.1 37 rfl).trans ((up_o (by decide)).trans ((up_o (by decide)).trans ((up_o (by decide)).trans ((up_o (by decide)).trans ((up_o (by decide)).trans ((hFc3493.1 37 rfl).trans ((hFc3489.1 37 rfl).trans ((hE32_2615.1 37 rfl).trans rfl)))))))))))
                    have e37 := (((hE194_4318.1 37 rfl).trans ((hE159_3503.1 37 rfl).trans ((hFc3502.1 37 rfl).trans ((up_o (by decide)).trans ((up_o (by decide)).trans ((up_o (by decide)).trans ((up_o (by decide)).trans ((up_o (by decide)).trans ((hFc3493.1 37 rfl).trans ((hFc3489.1 37 rfl).trans ((hE32_2615.1 37 rfl).trans rfl))))))))))) : H194_4318 0 37 = (P 0 37))
                    rw [e37] at gc4320_k
                    have e3 := (((congrFun (hFc4320.2 3 rfl rfl) _).trans ((congrFun (hE194_4318.2 3 rfl rfl) _).trans ((congrFun (hE159_3503.2 3 rfl rfl) _).trans ((congrFun (hFc3502.2 3 rfl rfl) _).trans ((up_o (by decide)).trans ((up_o (by decide)).trans ((up_o (by decide)).trans ((up_o (by decide)).trans ((up_o (by decide)).trans ((congrFun (hFc3493.2 3 rfl rfl) _).trans ((congrFun (hFc3489.2 3 rfl rfl) _).trans ((congrFun (hE32_2615.2 3 rfl rfl) _).trans rfl)))))))))))) : Pc4320 3 ((4 * (P 0 37)) + rc4320) = (P 3 ((4 * (P 0 37)) + rc4320)))
                    rw [e3] at gc4320_k
                    refine g_istore (l1 := [(6, vI rc4320), (0, vR 0), (1, vI ((P 2 (P 0 37)) - 1)), (4, vI ((24 * (P 0 37)) + (P 5 (P 0 37)))), (5, vI (P 3 ((4 * (P 0 37)) + ((P 2 (P 0 37)) - 1))))]) dX12_conIs_199 (by decide) rfl ?_
                    refine g_aload_n dX12_conIs_201 rfl ?_
                    refine m_g8 (z := (Pc4320 0 8)) rfl dX12_conIs_202 rfl ?_
                    have f4323 := b0_8 hBc4320
                    refine g_if_le (tgt := 209) dX12_conIs_205 (by decide) ⟨by have q0 := b0_8 hBc4320; omega, by have q0 := b0_8 hBc4320; omega⟩ (fun k4324 => ?_) (fun k4324 => ?_)
                    · refine g_aload_n dX12_conIs_209 rfl ?_
                      refine m_g20 rfl dX12_conIs_210 ?_
                      refine g_iconst dX12_conIs_213 ?_
                      refine g_iload dX12_conIs_214 rfl ?_
                      refine g_imul dX12_conIs_216 ?_
                      refine g_aload_n dX12_conIs_217 rfl ?_
                      refine m_g19 rfl dX12_conIs_218 ?_
                      refine g_iload dX12_conIs_221 rfl ?_
                      refine m_l7 (z := (H159_3503 7 ((24 * (P 0 37)) + (P 5 (P 0 37))))) dX12_conIs_223 ⟨by have q0 := b0_37 hB; have q1 := bl_5 (k := (P 0 37)) hB; omega, by have q0 := b0_37 hB; have q1 := bl_5 (k := (P 0 37)) hB; omega⟩ ((congrFun (hFc4320.2 7 rfl rfl) _).trans ((congrFun (hE194_4318.2 7 rfl rfl) _).trans rfl)) ?_
                      refine g_iadd dX12_conIs_224 ?_
                      refine g_iload dX12_conIs_225 rfl ?_
                      have hcf := (CF.fr (F := ([8, 9], [])) w159_CF_3503 (FrM.c (FrM.c FrM.rf hE194_4318 rfl) hFc4320 rfl) rfl)
                      have hbb := hBc4320
                      have h71 := (((congrFun (hFc4320.2 7 rfl rfl) _).trans ((congrFun (hE194_4318.2 7 rfl rfl) _).trans rfl)) : Pc4320 7 ((24 * (P 0 37)) + (P 5 (P 0 37))) = (H159_3503 7 ((24 * (P 0 37)) + (P 5 (P 0 37)))))
                      have h61 := (((congrFun (hFc4320.2 6 rfl rfl) _).trans ((congrFun (hE194_4318.2 6 rfl rfl) _).trans ((congrFun (hE159_3503.2 6 rfl rfl) _).trans ((congrFun (hFc3502.2 6 rfl rfl) _).trans ((up_o (by decide)).trans ((up_o (by decide)).trans ((up_o (by decide)).trans up_same))))))) : Pc4320 6 ((24 * (P 0 37)) + (P 5 (P 0 37))) = ((P 2 (P 0 37)) - 1))
                      have hix : 2 * ((24 * (P 0 37)) + (P 5 (P 0 37))) + Pc4320 7 ((24 * (P 0 37)) + (P 5 (P 0 37))) = ((2 * ((24 * (P 0 37)) + (P 5 (P 0 37)))) + (H159_3503 7 ((24 * (P 0 37)) + (P 5 (P 0 37))))) := by rw [h71]
                      refine m_s8 dX12_conIs_227 ⟨by have q0 := b0_37 hB; have q1 := bl_5 (k := (P 0 37)) hB; have q2 := bl_7 (k := ((24 * (P 0 37)) + (P 5 (P 0 37)))) hB159_3503; omega, by have q0 := b0_37 hB; have q1 := bl_5 (k := (P 0 37)) hB; have q2 := bl_7 (k := ((24 * (P 0 37)) + (P 5 (P 0 37)))) hB159_3503; omega⟩ ?_
                      have hB4325 := ba_8 (z := rc4320) (k := ((2 * ((24 * (P 0 37)) + (P 5 (P 0 37)))) + (H159_3503 7 ((24 * (P 0 37)) + (P 5 (P 0 37)))))) hBc4320 ⟨by omega, by omega⟩
                      refine g_aload_n dX12_conIs_228 rfl ?_
                      refine m_g19 rfl dX12_conIs_229 ?_
                      refine g_iload dX12_conIs_232 rfl ?_
                      refine g_dup2 dX12_conIs_234 rfl rfl ?_
                      refine m_l7 (z := (H159_3503 7 ((24 * (P 0 37)) + (P 5 (P 0 37))))) dX12_conIs_235 ⟨by have q0 := b0_37 hB; have q1 := bl_5 (k := (P 0 37)) hB; omega, by have q0 := b0_37 hB; have q1 := bl_5 (k := (P 0 37)) hB; omega⟩ ((up_o (by decide)).trans ((congrFun (hFc4320.2 7 rfl rfl) _).trans ((congrFun (hE194_4318.2 7 rfl rfl) _).trans rfl))) ?_
                      refine g_iconst dX12_conIs_236 ?_
                      refine g_iadd dX12_conIs_237 ?_
                      refine m_s7 dX12_conIs_238 ⟨by have q0 := b0_37 hB; have q1 := bl_5 (k := (P 0 37)) hB; omega, by have q0 := b0_37 hB; have q1 := bl_5 (k := (P 0 37)) hB; omega⟩ ?_
                      have hB4326 := ba_7 (z := ((H159_3503 7 ((24 * (P 0 37)) + (P 5 (P 0 37)))) + 1)) (k := ((24 * (P 0 37)) + (P 5 (P 0 37)))) hB4325 ⟨by have q0 := bl_7 (k := ((24 * (P 0 37)) + (P 5 (P 0 37)))) hB159_3503; omega, by have q0 := bl_7 (k := ((24 * (P 0 37)) + (P 5 (P 0 37)))) hB159_3503; omega⟩
                      have iv4327 : CF (up (up Pc4320 8 ((2 * ((24 * (P 0 37)) + (P 5 (P 0 37)))) + (H159_3503 7 ((24 * (P 0 37)) + (P 5 (P 0 37))))) rc4320) 7 ((24 * (P 0 37)) + (P 5 (P 0 37))) ((H159_3503 7 ((24 * (P 0 37)) + (P 5 (P 0 37)))) + 1)) := hcf.field (c := ((24 * (P 0 37)) + (P 5 (P 0 37)))) (z := rc4320) hbb (by omega) (fun j => ((up_o (by decide)).trans ((up_o (by decide)).trans rfl))) (fun j hj => ((up_k hj).trans ((up_o (by decide)).trans rfl))) up_same (fun j hj => by rw [hix] at hj; exact ((up_o (by decide)).trans ((up_k hj).trans rfl))) (by rw [hix]; exact ((up_o (by decide)).trans up_same)) (by omega)
                      refine g_aload_n dX12_conIs_239 rfl ?_
                      refine m_g22 rfl dX12_conIs_240 ?_
                      refine g_iload dX12_conIs_243 rfl ?_
                      refine g_dup2 dX12_conIs_245 rfl rfl ?_
                      refine m_l10 (z := (H159_3503 10 ((24 * (P 0 37)) + (P 5 (P 0 37))))) dX12_conIs_246 ⟨by have q0 := b0_37 hB; have q1 := bl_5 (k := (P 0 37)) hB; omega, by have q0 := b0_37 hB; have q1 := bl_5 (k := (P 0 37)) hB; omega⟩ ((up_o (by decide)).trans ((up_o (by decide)).trans ((congrFun (hFc4320.2 10 rfl rfl) _).trans ((congrFun (hE194_4318.2 10 rfl rfl) _).trans rfl)))) ?_
                      refine g_aload_n dX12_conIs_247 rfl ?_
                      refine g_aload_n dX12_conIs_248 rfl ?_
                      refine m_g37 (z := (P 0 37)) rfl dX12_conIs_249 ((up_o (by decide)).trans ((up_o (by decide)).trans ((hFc4320.1 37 rfl).trans ((hE194_4318.1 37 rfl).trans ((hE159_3503.1 37 rfl).trans ((hFc3502.1 37 rfl).trans ((up_o (by decide)).trans ((up_o (by decide)).trans ((up_o (by decide)).trans ((up_o (by decide)).trans ((up_o (by decide)).trans ((hFc3493.1 37 rfl).trans ((hFc3489.1 37 rfl).trans ((hE32_2615.1 37 rfl).trans rfl)))))))))))))) ?_
                      refine g_iload dX12_conIs_252 rfl ?_
                      have f4328 := b0_37 hB
                      refine g_vI (av := [vI (P 0 37), vI rc4320]) (o := 0) (st := [vI (H159_3503 10 ((24 * (P 0 37)) + (P 5 (P 0 37)))), vI ((24 * (P 0 37)) + (P 5 (P 0 37))), vR 10]) (m_X12_valuesOf G (up (up Pc4320 8 ((2 * ((24 * (P 0 37)) + (P 5 (P 0 37)))) + (H159_3503 7 ((24 * (P 0 37)) + (P 5 (P 0 37))))) rc4320) 7 ((24 * (P 0 37)) + (P 5 (P 0 37))) ((H159_3503 7 ((24 * (P 0 37)) + (P 5 (P 0 37)))) + 1)) (P 0 37) rc4320 ⟨by have q0 := b0_37 hB; omega, by have q0 := b0_37 hB; omega⟩ ⟨by omega, by omega⟩ hB4326  _ (fun rc4329 hc4329 gc4329_v => ⟨rc4329, rfl, ?_⟩)) cf_X12_valuesOf t_1756 rfl (by decide) rfl rfl rfl (Nat.le_of_ble_eq_true rfl) (by decide) rfl dX12_conIs_254
                      have e3v := (((up_o (by decide)).trans ((up_o (by decide)).trans ((congrFun (hFc4320.2 3 rfl rfl) _).trans ((congrFun (hE194_4318.2 3 rfl rfl) _).trans ((congrFun (hE159_3503.2 3 rfl rfl) _).trans ((congrFun (hFc3502.2 3 rfl rfl) _).trans ((up_o (by decide)).trans ((up_o (by decide)).trans ((up_o (by decide)).trans ((up_o (by decide)).trans ((up_o (by decide)).trans ((congrFun (hFc3493.2 3 rfl rfl) _).trans ((congrFun (hFc3489.2 3 rfl rfl) _).trans ((congrFun (hE32_2615.2 3 rfl rfl) _).trans rfl)))))))))))))) : (up (up Pc4320 8 ((2 * ((24 * (P 0 37)) + (P 5 (P 0 37)))) + (H159_3503 7 ((24 * (P 0 37)) + (P 5 (P 0 37))))) rc4320) 7 ((24 * (P 0 37)) + (P 5 (P 0 37))) ((H159_3503 7 ((24 * (P 0 37)) + (P 5 (P 0 37)))) + 1)) 3 ((4 * (P 0 37)) + rc4320) = (P 3 ((4 * (P 0 37)) + rc4320)))
                      refine g_imul dX12_conIs_257 ?_
                      refine g_nm (fun w4330 e_w4330 => ?_)
                      have h_w4330 : 1 ≤ w4330 ∧ w4330 ≤ 4012000 := by rw [e_w4330]; exact mul_b (A := 2000) (B := 2006) ⟨by omega, by omega⟩ ⟨by omega, by omega⟩
                      refine m_s10 dX12_conIs_258 ⟨by have q0 := b0_37 hB; have q1 := bl_5 (k := (P 0 37)) hB; omega, by have q0 := b0_37 hB; have q1 := bl_5 (k := (P 0 37)) hB; omega⟩ ?_
                      have hB4331 := ba_10 (z := w4330) (k := ((24 * (P 0 37)) + (P 5 (P 0 37)))) hB4326 ⟨by omega, by omega⟩
                      refine g_iload dX12_conIs_259 rfl ?_
                      refine g_aload_n dX12_conIs_261 rfl ?_
                      refine m_g22 rfl dX12_conIs_262 ?_
                      refine g_iload dX12_conIs_265 rfl ?_
                      refine m_l10 (z := w4330) dX12_conIs_267 ⟨by have q0 := b0_37 hB; have q1 := bl_5 (k := (P 0 37)) hB; omega, by have q0 := b0_37 hB; have q1 := bl_5 (k := (P 0 37)) hB; omega⟩ up_same ?_
                      refine g_iadd dX12_conIs_268 ?_
                      refine g_sipush dX12_conIs_269 (by decide) ?_
                      have f4332 := bl_3 (k := ((4 * (P 0 37)) + ((P 2 (P 0 37)) - 1))) hB
                      have J284_4342 : ∀ (H284_4342 : PH) (hB284_4342 : BdM H284_4342) (hE284_4342 : FrM ([8, 9], []) (up (up (up Pc4320 8 ((2 * ((24 * (P 0 37)) + (P 5 (P 0 37)))) + (H159_3503 7 ((24 * (P 0 37)) + (P 5 (P 0 37))))) rc4320) 7 ((24 * (P 0 37)) + (P 5 (P 0 37))) ((H159_3503 7 ((24 * (P 0 37)) + (P 5 (P 0 37)))) + 1)) 10 ((24 * (P 0 37)) + (P 5 (P 0 37))) w4330) H284_4342) (i284_0_4342 : P 0 8 ≤ 0 ∨ 0 < H284_4342 0 8) (i284_1_4342 : P 0 4 ≤ H284_4342 0 4) (i284_2_4342 : (H284_4342 0 3 = 0 ∨ H284_4342 0 4 + 1 ≤ H284_4342 0 5) ∧ H284_4342 0 4 ≤ H284_4342 0 5), Go WSM G 4 iX12_conIs 284 [(0, vR 0), (1, vI ((P 2 (P 0 37)) - 1)), (4, vI ((24 * (P 0 37)) + (P 5 (P 0 37)))), (5, vI (P 3 ((4 * (P 0 37)) + ((P 2 (P 0 37)) - 1))))] [] H284_4342 Q := by
                        intro H284_4342 hB284_4342 hE284_4342 i284_0_4342 i284_1_4342 i284_2_4342
                        refine g_aload_n dX12_conIs_284 rfl ?_
                        refine m_g8 (z := (H284_4342 0 8)) rfl dX12_conIs_285 rfl ?_
                        have f4344 := b0_8 hB284_4342
                        refine g_if_le (tgt := 292) dX12_conIs_288 (by decide) ⟨by have q0 := b0_8 hB284_4342; omega, by have q0 := b0_8 hB284_4342; omega⟩ (fun k4345 => ?_) (fun k4345 => ?_)
                        · refine g_aload_n dX12_conIs_292 rfl ?_
                          refine g_vV (av := []) (o := 0) (st := []) (m_X12_ahead G H284_4342  hB284_4342  _ (fun Pc4346 hBc4346 hFc4346 gc4346_lx gc4346_nx => ⟨rfl, ?_⟩)) cf_X12_ahead t_1683 rfl (by decide) rfl rfl rfl (Nat.le_of_ble_eq_true rfl) (by decide) rfl dX12_conIs_293
                          have z4347 : H284_4342 0 5 = (H159_3503 0 5) := ((hE284_4342.1 5 rfl).trans ((up_o (by decide)).trans ((up_o (by decide)).trans ((up_o (by decide)).trans ((hFc4320.1 5 rfl).trans ((hE194_4318.1 5 rfl).trans rfl))))))
                          refine g_aload_n dX12_conIs_296 rfl ?_
                          refine g_vV (av := []) (o := 0) (st := []) (m_X12_lex G Pc4346  hBc4346  _ (fun Pc4348 hBc4348 hFc4348 gc4348_pe => ⟨rfl, ?_⟩)) cf_X12_lex t_1697 rfl (by decide) rfl rfl rfl (Nat.le_of_ble_eq_true rfl) (by decide) rfl dX12_conIs_297
                          have z4349 : Pc4346 0 8 = (H284_4342 0 8) := ((hFc4346.1 8 rfl).trans rfl)
                          refine g_goto (tgt := 159) dX12_conIs_300 (by decide) ?_
                          refine g_forget (l1 := [(0, vR 0), (1, vI ((P 2 (P 0 37)) - 1)), (4, vI ((24 * (P 0 37)) + (P 5 (P 0 37)))), (5, vI (P 3 ((4 * (P 0 37)) + ((P 2 (P 0 37)) - 1))))]) (by intro q hq; simp only [List.mem_cons, List.not_mem_nil, or_false] at hq ⊢; rcases hq with rfl | rfl | rfl | rfl <;> simp) ?_
                          exact ih159_3503 _ hBc4348 (FrM.c (FrM.c (FrM.c (FrM.a (FrM.a (FrM.a (FrM.c (FrM.c (FrM.c FrM.rf hE159_3503 rfl) hE194_4318 rfl) hFc4320 rfl) rfl rfl) rfl rfl) rfl rfl) hE284_4342 rfl) hFc4346 rfl) hFc4348 rfl) (by have q0 := (((congrFun (hFc4348.2 10 rfl rfl) _).trans ((congrFun (hFc4346.2 10 rfl rfl) _).trans ((congrFun (hE284_4342.2 10 rfl rfl) _).trans up_same))) : Pc4348 10 ((24 * (P 0 37)) + (P 5 (P 0 37))) = w4330); have q1 := (((congrFun (hFc4348.2 7 rfl rfl) _).trans ((congrFun (hFc4346.2 7 rfl rfl) _).trans ((congrFun (hE284_4342.2 7 rfl rfl) _).trans ((up_o (by decide)).trans up_same)))) : Pc4348 7 ((24 * (P 0 37)) + (P 5 (P 0 37))) = ((H159_3503 7 ((24 * (P 0 37)) + (P 5 (P 0 37)))) + 1)); have q2 := bl_7 (k := ((24 * (P 0 37)) + (P 5 (P 0 37)))) hB159_3503; omega) (by have q0 := (((congrFun (hFc4348.2 10 rfl rfl) _).trans ((congrFun (hFc4346.2 10 rfl rfl) _).trans ((congrFun (hE284_4342.2 10 rfl rfl) _).trans up_same))) : Pc4348 10 ((24 * (P 0 37)) + (P 5 (P 0 37))) = w4330); omega) (by have q0 := b0_8 hBc4348; omega) (by have q0 := (((hFc4348.1 4 rfl).trans rfl) : Pc4348 0 4 = (Pc4346 0 4)); have q1 := b0_4 hBc4346; omega) (by have q0 := (((hFc4348.1 3 rfl).trans rfl) : Pc4348 0 3 = (Pc4346 0 3)); have q1 := b0_3 hBc4346; have q2 := (((hFc4348.1 4 rfl).trans rfl) : Pc4348 0 4 = (Pc4346 0 4)); have q3 := b0_4 hBc4346; have q4 := (((hFc4348.1 5 rfl).trans rfl) : Pc4348 0 5 = (Pc4346 0 5)); have q5 := b0_5 hBc4346; omega) (CF.fr (F := ([3, 4, 5, 6, 7, 8, 9, 12], [10])) iv4327 (FrM.c (FrM.c (FrM.c (FrM.a FrM.rf rfl rfl) hE284_4342 rfl) hFc4346 rfl) hFc4348 rfl) rfl) (by have q0 := (((hFc4348.1 4 rfl).trans rfl) : Pc4348 0 4 = (Pc4346 0 4)); have q1 := b0_4 hBc4346; omega)
                        · exact g_retV dX12_conIs_291 rfl (hQ _ hB284_4342 (FrM.c (FrM.a (FrM.a (FrM.a (FrM.c (FrM.c (FrM.c (FrM.c (FrM.a (FrM.a (FrM.a (FrM.a (FrM.a (FrM.c (FrM.c (FrM.c FrM.rf hE32_2615 rfl) hFc3489 rfl) hFc3493 rfl) rfl rfl) rfl rfl) rfl rfl) rfl rfl) rfl rfl) hFc3502 rfl) hE159_3503 rfl) hE194_4318 rfl) hFc4320 rfl) rfl rfl) rfl rfl) rfl rfl) hE284_4342 rfl) (by have q0 := (((hE284_4342.1 3 rfl).trans ((up_o (by decide)).trans ((up_o (by decide)).trans ((up_o (by decide)).trans ((hFc4320.1 3 rfl).trans ((hE194_4318.1 3 rfl).trans rfl)))))) : H284_4342 0 3 = (H159_3503 0 3)); have q1 := b0_3 hB159_3503; have q2 := (((hE284_4342.1 4 rfl).trans ((up_o (by decide)).trans ((up_o (by decide)).trans ((up_o (by decide)).trans ((hFc4320.1 4 rfl).trans ((hE194_4318.1 4 rfl).trans rfl)))))) : H284_4342 0 4 = (H159_3503 0 4)); have q3 := b0_4 hB159_3503; have q4 := (((hE284_4342.1 5 rfl).trans ((up_o (by decide)).trans ((up_o (by decide)).trans ((up_o (by decide)).trans ((hFc4320.1 5 rfl).trans ((hE194_4318.1 5 rfl).trans rfl)))))) : H284_4342 0 5 = (H159_3503 0 5)); have q5 := b0_5 hB159_3503; omega) (by have q0 := (((hE284_4342.1 4 rfl).trans ((up_o (by decide)).trans ((up_o (by decide)).trans ((up_o (by decide)).trans ((hFc4320.1 4 rfl).trans ((hE194_4318.1 4 rfl).trans rfl)))))) : H284_4342 0 4 = (H159_3503 0 4)); have q1 := b0_4 hB159_3503; omega) (by have q0 := b0_8 hB284_4342; omega) (KVP.fr (F := ([3, 4, 5, 6, 7, 8, 9, 12], [6, 7, 8, 9, 10, 23])) v_KVP (FrM.c (FrM.a (FrM.a (FrM.a (FrM.c (FrM.c (FrM.c (FrM.c (FrM.a (FrM.a (FrM.a (FrM.a (FrM.a (FrM.c (FrM.c (FrM.c FrM.rf hE32_2615 rfl) hFc3489 rfl) hFc3493 rfl) rfl rfl) rfl rfl) rfl rfl) rfl rfl) rfl rfl) hFc3502 rfl) hE159_3503 rfl) hE194_4318 rfl) hFc4320 rfl) rfl rfl) rfl rfl) rfl rfl) hE284_4342 rfl) rfl) (KC.fr (F := ([3, 4, 5, 6, 7, 8, 9, 12], [6, 7, 8, 9, 10, 23])) v_KC (FrM.c (FrM.a (FrM.a (FrM.a (FrM.c (FrM.c (FrM.c (FrM.c (FrM.a (FrM.a (FrM.a (FrM.a (FrM.a (FrM.c (FrM.c (FrM.c FrM.rf hE32_2615 rfl) hFc3489 rfl) hFc3493 rfl) rfl rfl) rfl rfl) rfl rfl) rfl rfl) rfl rfl) hFc3502 rfl) hE159_3503 rfl) hE194_4318 rfl) hFc4320 rfl) rfl rfl) rfl rfl) rfl rfl) hE284_4342 rfl) rfl) (CF.fr (F := ([8, 9], [10])) iv4327 (FrM.c (FrM.a FrM.rf rfl rfl) hE284_4342 rfl) rfl))
                      refine g_icmp_le (tgt := 284) dX12_conIs_272 (by decide) ⟨by have q0 := bl_3 (k := ((4 * (P 0 37)) + ((P 2 (P 0 37)) - 1))) hB; omega, by have q0 := bl_3 (k := ((4 * (P 0 37)) + ((P 2 (P 0 37)) - 1))) hB; omega⟩ (by decide) (fun k4350 => ?_) (fun k4350 => ?_)
                      · refine g_forget (l1 := [(0, vR 0), (1, vI ((P 2 (P 0 37)) - 1)), (4, vI ((24 * (P 0 37)) + (P 5 (P 0 37)))), (5, vI (P 3 ((4 * (P 0 37)) + ((P 2 (P 0 37)) - 1))))]) (by intro q hq; simp only [List.mem_cons, List.not_mem_nil, or_false] at hq ⊢; rcases hq with rfl | rfl | rfl | rfl <;> simp) ?_
                        exact J284_4342 _ hB4331 FrM.rf (by have q0 := (((up_o (by decide)).trans ((up_o (by decide)).trans ((up_o (by decide)).trans rfl))) : (up (up (up Pc4320 8 ((2 * ((24 * (P 0 37)) + (P 5 (P 0 37)))) + (H159_3503 7 ((24 * (P 0 37)) + (P 5 (P 0 37))))) rc4320) 7 ((24 * (P 0 37)) + (P 5 (P 0 37))) ((H159_3503 7 ((24 * (P 0 37)) + (P 5 (P 0 37)))) + 1)) 10 ((24 * (P 0 37)) + (P 5 (P 0 37))) w4330) 0 8 = (Pc4320 0 8)); have q1 := b0_8 hBc4320; omega) (by have q0 := (((up_o (by decide)).trans ((up_o (by decide)).trans ((up_o (by decide)).trans ((hFc4320.1 4 rfl).trans ((hE194_4318.1 4 rfl).trans rfl))))) : (up (up (up Pc4320 8 ((2 * ((24 * (P 0 37)) + (P 5 (P 0 37)))) + (H159_3503 7 ((24 * (P 0 37)) + (P 5 (P 0 37))))) rc4320) 7 ((24 * (P 0 37)) + (P 5 (P 0 37))) ((H159_3503 7 ((24 * (P 0 37)) + (P 5 (P 0 37)))) + 1)) 10 ((24 * (P 0 37)) + (P 5 (P 0 37))) w4330) 0 4 = (H159_3503 0 4)); have q1 := b0_4 hB159_3503; omega) (by have q0 := (((up_o (by decide)).trans ((up_o (by decide)).trans ((up_o (by decide)).trans ((hFc4320.1 3 rfl).trans ((hE194_4318.1 3 rfl).trans rfl))))) : (up (up (up Pc4320 8 ((2 * ((24 * (P 0 37)) + (P 5 (P 0 37)))) + (H159_3503 7 ((24 * (P 0 37)) + (P 5 (P 0 37))))) rc4320) 7 ((24 * (P 0 37)) + (P 5 (P 0 37))) ((H159_3503 7 ((24 * (P 0 37)) + (P 5 (P 0 37)))) + 1)) 10 ((24 * (P 0 37)) + (P 5 (P 0 37))) w4330) 0 3 = (H159_3503 0 3)); have q1 := b0_3 hB159_3503; have q2 := (((up_o (by decide)).trans ((up_o (by decide)).trans ((up_o (by decide)).trans ((hFc4320.1 4 rfl).trans ((hE194_4318.1 4 rfl).trans rfl))))) : (up (up (up Pc4320 8 ((2 * ((24 * (P 0 37)) + (P 5 (P 0 37)))) + (H159_3503 7 ((24 * (P 0 37)) + (P 5 (P 0 37))))) rc4320) 7 ((24 * (P 0 37)) + (P 5 (P 0 37))) ((H159_3503 7 ((24 * (P 0 37)) + (P 5 (P 0 37)))) + 1)) 10 ((24 * (P 0 37)) + (P 5 (P 0 37))) w4330) 0 4 = (H159_3503 0 4)); have q3 := b0_4 hB159_3503; have q4 := (((up_o (by decide)).trans ((up_o (by decide)).trans ((up_o (by decide)).trans ((hFc4320.1 5 rfl).trans ((hE194_4318.1 5 rfl).trans rfl))))) : (up (up (up Pc4320 8 ((2 * ((24 * (P 0 37)) + (P 5 (P 0 37)))) + (H159_3503 7 ((24 * (P 0 37)) + (P 5 (P 0 37))))) rc4320) 7 ((24 * (P 0 37)) + (P 5 (P 0 37))) ((H159_3503 7 ((24 * (P 0 37)) + (P 5 (P 0 37)))) + 1)) 10 ((24 * (P 0 37)) + (P 5 (P 0 37))) w4330) 0 5 = (H159_3503 0 5)); have q5 := b0_5 hB159_3503; omega)
                      · refine g_aload_n dX12_conIs_275 rfl ?_
                        refine g_iconst dX12_conIs_276 ?_
                        refine g_aload_n dX12_conIs_277 rfl ?_
                        refine m_g4 (z := (H159_3503 0 4)) rfl dX12_conIs_278 ((up_o (by decide)).trans ((up_o (by decide)).trans ((up_o (by decide)).trans ((hFc4320.1 4 rfl).trans ((hE194_4318.1 4 rfl).trans rfl))))) ?_
                        have f4351 := b0_4 hB159_3503
                        refine g_vV (av := [vI 4, vI (H159_3503 0 4)]) (o := 0) (st := []) (m_X12_blame G (up (up (up Pc4320 8 ((2 * ((24 * (P 0 37)) + (P 5 (P 0 37)))) + (H159_3503 7 ((24 * (P 0 37)) + (P 5 (P 0 37))))) rc4320) 7 ((24 * (P 0 37)) + (P 5 (P 0 37))) ((H159_3503 7 ((24 * (P 0 37)) + (P 5 (P 0 37)))) + 1)) 10 ((24 * (P 0 37)) + (P 5 (P 0 37))) w4330) 4 (H159_3503 0 4) (by decide) ⟨by have q0 := b0_4 hB159_3503; omega, by have q0 := b0_4 hB159_3503; omega⟩ hB4331  _ (fun Pc4352 hBc4352 hFc4352 gc4352_f gc4352_pe => ⟨rfl, ?_⟩)) cf_X12_blame t_1701 rfl (by decide) rfl rfl rfl (Nat.le_of_ble_eq_true rfl) (by decide) rfl dX12_conIs_281
                        have z4353 : (up (up (up Pc4320 8 ((2 * ((24 * (P 0 37)) + (P 5 (P 0 37)))) + (H159_3503 7 ((24 * (P 0 37)) + (P 5 (P 0 37))))) rc4320) 7 ((24 * (P 0 37)) + (P 5 (P 0 37))) ((H159_3503 7 ((24 * (P 0 37)) + (P 5 (P 0 37)))) + 1)) 10 ((24 * (P 0 37)) + (P 5 (P 0 37))) w4330) 0 8 = (Pc4320 0 8) := ((up_o (by decide)).trans ((up_o (by decide)).trans ((up_o (by decide)).trans rfl)))
                        refine g_forget (l1 := [(0, vR 0), (1, vI ((P 2 (P 0 37)) - 1)), (4, vI ((24 * (P 0 37)) + (P 5 (P 0 37)))), (5, vI (P 3 ((4 * (P 0 37)) + ((P 2 (P 0 37)) - 1))))]) (by intro q hq; simp only [List.mem_cons, List.not_mem_nil, or_false] at hq ⊢; rcases hq with rfl | rfl | rfl | rfl <;> simp) ?_
                        exact J284_4342 _ hBc4352 (FrM.c FrM.rf hFc4352 rfl) (by have q0 := b0_8 hBc4352; omega) (by have q0 := (((hFc4352.1 4 rfl).trans ((up_o (by decide)).trans ((up_o (by decide)).trans ((up_o (by decide)).trans ((hFc4320.1 4 rfl).trans ((hE194_4318.1 4 rfl).trans rfl)))))) : Pc4352 0 4 = (H159_3503 0 4)); have q1 := b0_4 hB159_3503; omega) (by have q0 := (((hFc4352.1 3 rfl).trans ((up_o (by decide)).trans ((up_o (by decide)).trans ((up_o (by decide)).trans ((hFc4320.1 3 rfl).trans ((hE194_4318.1 3 rfl).trans rfl)))))) : Pc4352 0 3 = (H159_3503 0 3)); have q1 := b0_3 hB159_3503; have q2 := (((hFc4352.1 4 rfl).trans ((up_o (by decide)).trans ((up_o (by decide)).trans ((up_o (by decide)).trans ((hFc4320.1 4 rfl).trans ((hE194_4318.1 4 rfl).trans rfl)))))) : Pc4352 0 4 = (H159_3503 0 4)); have q3 := b0_4 hB159_3503; have q4 := (((hFc4352.1 5 rfl).trans ((up_o (by decide)).trans ((up_o (by decide)).trans ((up_o (by decide)).trans ((hFc4320.1 5 rfl).trans ((hE194_4318.1 5 rfl).trans rfl)))))) : Pc4352 0 5 = (H159_3503 0 5)); have q5 := b0_5 hB159_3503; omega)
                    · exact g_retV dX12_conIs_208 rfl (hQ _ hBc4320 (FrM.c (FrM.c (FrM.c (FrM.c (FrM.a (FrM.a (FrM.a (FrM.a (FrM.a (FrM.c (FrM.c (FrM.c FrM.rf hE32_2615 rfl) hFc3489 rfl) hFc3493 rfl) rfl rfl) rfl rfl) rfl rfl) rfl rfl) rfl rfl) hFc3502 rfl) hE159_3503 rfl) hE194_4318 rfl) hFc4320 rfl) (by have q0 := (((hFc4320.1 3 rfl).trans ((hE194_4318.1 3 rfl).trans rfl)) : Pc4320 0 3 = (H159_3503 0 3)); have q1 := b0_3 hB159_3503; have q2 := (((hFc4320.1 4 rfl).trans ((hE194_4318.1 4 rfl).trans rfl)) : Pc4320 0 4 = (H159_3503 0 4)); have q3 := b0_4 hB159_3503; have q4 := (((hFc4320.1 5 rfl).trans ((hE194_4318.1 5 rfl).trans rfl)) : Pc4320 0 5 = (H159_3503 0 5)); have q5 := b0_5 hB159_3503; omega) (by have q0 := (((hFc4320.1 4 rfl).trans ((hE194_4318.1 4 rfl).trans rfl)) : Pc4320 0 4 = (H159_3503 0 4)); have q1 := b0_4 hB159_3503; omega) (by have q0 := b0_8 hBc4320; omega) (KVP.fr (F := ([3, 4, 5, 6, 7, 8, 9, 12], [6, 7, 8, 9, 10, 23])) v_KVP (FrM.c (FrM.c (FrM.c (FrM.c (FrM.a (FrM.a (FrM.a (FrM.a (FrM.a (FrM.c (FrM.c (FrM.c FrM.rf hE32_2615 rfl) hFc3489 rfl) hFc3493 rfl) rfl rfl) rfl rfl) rfl rfl) rfl rfl) rfl rfl) hFc3502 rfl) hE159_3503 rfl) hE194_4318 rfl) hFc4320 rfl) rfl) (KC.fr (F := ([3, 4, 5, 6, 7, 8, 9, 12], [6, 7, 8, 9, 10, 23])) v_KC (FrM.c (FrM.c (FrM.c (FrM.c (FrM.a (FrM.a (FrM.a (FrM.a (FrM.a (FrM.c (FrM.c (FrM.c FrM.rf hE32_2615 rfl) hFc3489 rfl) hFc3493 rfl) rfl rfl) rfl rfl) rfl rfl) rfl rfl) rfl rfl) hFc3502 rfl) hE159_3503 rfl) hE194_4318 rfl) hFc4320 rfl) rfl) (CF.fr (F := ([8, 9], [])) w159_CF_3503 (FrM.c (FrM.c FrM.rf hE194_4318 rfl) hFc4320 rfl) rfl))
                  refine g_icmp_ne (tgt := 194) dX12_conIs_181 (by decide) ⟨by have q0 := bl_7 (k := ((24 * (P 0 37)) + (P 5 (P 0 37)))) hB159_3503; omega, by have q0 := bl_7 (k := ((24 * (P 0 37)) + (P 5 (P 0 37)))) hB159_3503; omega⟩ (by decide) (fun k4354 => ?_) (fun k4354 => ?_)
                  · refine g_forget (l1 := [(0, vR 0), (1, vI ((P 2 (P 0 37)) - 1)), (4, vI ((24 * (P 0 37)) + (P 5 (P 0 37)))), (5, vI (P 3 ((4 * (P 0 37)) + ((P 2 (P 0 37)) - 1))))]) (by intro q hq; simp only [List.mem_cons, List.not_mem_nil, or_false] at hq ⊢; rcases hq with rfl | rfl | rfl | rfl <;> simp) ?_
                    exact J194_4318 _ hB159_3503 FrM.rf (by have q0 := b0_8 hB159_3503; have q1 := bl_7 (k := ((24 * (P 0 37)) + (P 5 (P 0 37)))) hB159_3503; omega) (by have q0 := b0_8 hB159_3503; omega) (by have q0 := b0_4 hB159_3503; omega) (by have q0 := b0_3 hB159_3503; have q1 := b0_4 hB159_3503; have q2 := b0_5 hB159_3503; omega)
                  · refine g_aload_n dX12_conIs_184 rfl ?_
                    refine g_bipush dX12_conIs_185 (by decide) ?_
                    refine g_aload_n dX12_conIs_187 rfl ?_
                    refine m_g4 (z := (H159_3503 0 4)) rfl dX12_conIs_188 rfl ?_
                    have f4355 := b0_4 hB159_3503
                    refine g_vV (av := [vI 6, vI (H159_3503 0 4)]) (o := 0) (st := []) (m_X12_blame G H159_3503 6 (H159_3503 0 4) (by decide) ⟨by have q0 := b0_4 hB159_3503; omega, by have q0 := b0_4 hB159_3503; omega⟩ hB159_3503  _ (fun Pc4356 hBc4356 hFc4356 gc4356_f gc4356_pe => ⟨rfl, ?_⟩)) cf_X12_blame t_1701 rfl (by decide) rfl rfl rfl (Nat.le_of_ble_eq_true rfl) (by decide) rfl dX12_conIs_191
                    refine g_forget (l1 := [(0, vR 0), (1, vI ((P 2 (P 0 37)) - 1)), (4, vI ((24 * (P 0 37)) + (P 5 (P 0 37)))), (5, vI (P 3 ((4 * (P 0 37)) + ((P 2 (P 0 37)) - 1))))]) (by intro q hq; simp only [List.mem_cons, List.not_mem_nil, or_false] at hq ⊢; rcases hq with rfl | rfl | rfl | rfl <;> simp) ?_
                    exact J194_4318 _ hBc4356 (FrM.c FrM.rf hFc4356 rfl) (by have q0 := b0_8 hBc4356; have q1 := (((congrFun (hFc4356.2 7 rfl rfl) _).trans rfl) : Pc4356 7 ((24 * (P 0 37)) + (P 5 (P 0 37))) = (H159_3503 7 ((24 * (P 0 37)) + (P 5 (P 0 37))))); have q2 := bl_7 (k := ((24 * (P 0 37)) + (P 5 (P 0 37)))) hB159_3503; omega) (by have q0 := b0_8 hBc4356; omega) (by have q0 := (((hFc4356.1 4 rfl).trans rfl) : Pc4356 0 4 = (H159_3503 0 4)); have q1 := b0_4 hB159_3503; omega) (by have q0 := (((hFc4356.1 3 rfl).trans rfl) : Pc4356 0 3 = (H159_3503 0 3)); have q1 := b0_3 hB159_3503; have q2 := (((hFc4356.1 4 rfl).trans rfl) : Pc4356 0 4 = (H159_3503 0 4)); have q3 := b0_4 hB159_3503; have q4 := (((hFc4356.1 5 rfl).trans rfl) : Pc4356 0 5 = (H159_3503 0 5)); have q5 := b0_5 hB159_3503; omega)
            refine g_forget (l1 := [(0, vR 0), (1, vI ((P 2 (P 0 37)) - 1)), (4, vI ((24 * (P 0 37)) + (P 5 (P 0 37)))), (5, vI (P 3 ((4 * (P 0 37)) + ((P 2 (P 0 37)) - 1))))]) (by intro q hq; simp only [List.mem_cons, List.not_mem_nil, or_false] at hq ⊢; rcases hq with rfl | rfl | rfl | rfl <;> simp) ?_
            exact L159_3503 _ _ hBc3502 FrM.rf (by have q0 := (((congrFun (hFc3502.2 10 rfl rfl) _).trans up_same) : Pc3502 10 ((24 * (P 0 37)) + (P 5 (P 0 37))) = 1); have q1 := (((congrFun (hFc3502.2 7 rfl rfl) _).trans ((up_o (by decide)).trans ((up_o (by decide)).trans up_same))) : Pc3502 7 ((24 * (P 0 37)) + (P 5 (P 0 37))) = 0); omega) (by have q0 := (((congrFun (hFc3502.2 10 rfl rfl) _).trans up_same) : Pc3502 10 ((24 * (P 0 37)) + (P 5 (P 0 37))) = 1); omega) (by have q0 := b0_8 hBc3502; omega) (by have q0 := (((hFc3502.1 4 rfl).trans ((up_o (by decide)).trans ((up_o (by decide)).trans ((up_o (by decide)).trans ((up_o (by decide)).trans ((up_o (by decide)).trans rfl)))))) : Pc3502 0 4 = (Pc3493 0 4)); have q1 := b0_4 hBc3493; omega) (by have q0 := (((hFc3502.1 3 rfl).trans ((up_o (by decide)).trans ((up_o (by decide)).trans ((up_o (by decide)).trans ((up_o (by decide)).trans ((up_o (by decide)).trans rfl)))))) : Pc3502 0 3 = (Pc3493 0 3)); have q1 := b0_3 hBc3493; have q2 := (((hFc3502.1 4 rfl).trans ((up_o (by decide)).trans ((up_o (by decide)).trans ((up_o (by decide)).trans ((up_o (by decide)).trans ((up_o (by decide)).trans rfl)))))) : Pc3502 0 4 = (Pc3493 0 4)); have q3 := b0_4 hBc3493; have q4 := (((hFc3502.1 5 rfl).trans ((up_o (by decide)).trans ((up_o (by decide)).trans ((up_o (by decide)).trans ((up_o (by decide)).trans ((up_o (by decide)).trans rfl)))))) : Pc3502 0 5 = (Pc3493 0 5)); have q5 := b0_5 hBc3493; omega) (CF.fr (F := ([8, 9], [9, 10])) iv3499 (FrM.c (FrM.a (FrM.a FrM.rf rfl rfl) rfl rfl) hFc3502 rfl) rfl) (Nat.lt_succ_self _)
          · exact g_retV dX12_conIs_79 rfl (hQ _ hBc3493 (FrM.c (FrM.c (FrM.c FrM.rf hE32_2615 rfl) hFc3489 rfl) hFc3493 rfl) (by have q0 := b0_3 hBc3493; have q1 := b0_4 hBc3493; have q2 := b0_5 hBc3493; omega) (by have q0 := b0_4 hBc3493; omega) (by have q0 := b0_8 hBc3493; omega) (KVP.fr (F := ([3, 4, 5, 6, 7, 8, 9, 12], [])) v_KVP (FrM.c (FrM.c (FrM.c FrM.rf hE32_2615 rfl) hFc3489 rfl) hFc3493 rfl) rfl) (KC.fr (F := ([3, 4, 5, 6, 7, 8, 9, 12], [])) v_KC (FrM.c (FrM.c (FrM.c FrM.rf hE32_2615 rfl) hFc3489 rfl) hFc3493 rfl) rfl) (CF.fr (F := ([3, 4, 5, 6, 7, 8, 9, 12], [])) v_CF (FrM.c (FrM.c (FrM.c FrM.rf hE32_2615 rfl) hFc3489 rfl) hFc3493 rfl) rfl))
        · exact g_retV dX12_conIs_66 rfl (hQ _ hBc3489 (FrM.c (FrM.c FrM.rf hE32_2615 rfl) hFc3489 rfl) (by have q0 := b0_3 hBc3489; have q1 := b0_4 hBc3489; have q2 := b0_5 hBc3489; omega) (by have q0 := b0_4 hBc3489; omega) (by have q0 := b0_8 hBc3489; omega) (KVP.fr (F := ([3, 4, 5, 6, 7, 8, 9, 12], [])) v_KVP (FrM.c (FrM.c FrM.rf hE32_2615 rfl) hFc3489 rfl) rfl) (KC.fr (F := ([3, 4, 5, 6, 7, 8, 9, 12], [])) v_KC (FrM.c (FrM.c FrM.rf hE32_2615 rfl) hFc3489 rfl) rfl) (CF.fr (F := ([3, 4, 5, 6, 7, 8, 9, 12], [])) v_CF (FrM.c (FrM.c FrM.rf hE32_2615 rfl) hFc3489 rfl) rfl))
      · refine g_iconst dX12_conIs_55 ?_
        refine g_goto (tgt := 60) dX12_conIs_56 (by decide) ?_
        refine g_vI (av := [vI 1]) (o := 0) (st := []) (m_X12_isCounted G H32_2615 1 (by decide) hB32_2615 (by have q0 := (((hE32_2615.1 3 rfl).trans rfl) : H32_2615 0 3 = (P 0 3)); have q1 := b0_3 hB; have q2 := (((hE32_2615.1 4 rfl).trans rfl) : H32_2615 0 4 = (P 0 4)); have q3 := b0_4 hB; have q4 := (((hE32_2615.1 5 rfl).trans rfl) : H32_2615 0 5 = (P 0 5)); have q5 := b0_5 hB; omega) _ (fun rc4357 hc4357 Pc4357 hBc4357 hFc4357 gc4357_lx gc4357_mo gc4357_pe gc4357_c gc4357_ad => ⟨rc4357, rfl, ?_⟩)) cf_X12_isCounted t_1714 rfl (by decide) rfl rfl rfl (Nat.le_of_ble_eq_true rfl) (by decide) rfl dX12_conIs_60
        have z4358 : H32_2615 0 4 = (P 0 4) := ((hE32_2615.1 4 rfl).trans rfl)
        have z4359 : H32_2615 0 3 = (P 0 3) := ((hE32_2615.1 3 rfl).trans rfl)
        refine g_if_ne (tgt := 67) dX12_conIs_63 (by decide) ⟨by omega, by omega⟩ (fun k4360 => ?_) (fun k4360 => ?_)
        · refine g_aload_n dX12_conIs_67 rfl ?_
          refine g_vL (av := []) (o := 0) (st := []) (m_X12_fresh G Pc4357  hBc4357 (by have q0 := b0_3 hBc4357; have q1 := b0_4 hBc4357; have q2 := b0_5 hBc4357; omega) _ (fun rc4361 hc4361 Pc4361 hBc4361 hFc4361 gc4361_lx gc4361_mo gc4361_pe => ⟨rc4361, rfl, ?_⟩)) cf_X12_fresh t_1718 rfl (by decide) rfl rfl rfl (Nat.le_of_ble_eq_true rfl) (by decide) rfl dX12_conIs_68
          refine g_lstore_n (l1 := [(2, vL rc4361), (0, vR 0), (1, vI ((P 2 (P 0 37)) - 1))]) dX12_conIs_71 (by decide) rfl ?_
          refine g_aload_n dX12_conIs_72 rfl ?_
          refine m_g8 (z := (Pc4361 0 8)) rfl dX12_conIs_73 rfl ?_
          have f4362 := b0_8 hBc4361
          refine g_if_le (tgt := 80) dX12_conIs_76 (by decide) ⟨by have q0 := b0_8 hBc4361; omega, by have q0 := b0_8 hBc4361; omega⟩ (fun k4363 => ?_) (fun k4363 => ?_)
          · have hkc := v_KC
            unfold KC at hkc
            refine g_bipush dX12_conIs_80 (by decide) ?_
            refine g_aload_n dX12_conIs_82 rfl ?_
            refine m_g37 (z := (P 0 37)) rfl dX12_conIs_83 ((hFc4361.1 37 rfl).trans ((hFc4357.1 37 rfl).trans ((hE32_2615.1 37 rfl).trans rfl))) ?_
            refine g_imul dX12_conIs_86 ?_
            refine g_aload_n dX12_conIs_87 rfl ?_
            refine m_g17 rfl dX12_conIs_88 ?_
            refine g_aload_n dX12_conIs_91 rfl ?_
            refine m_g37 (z := (P 0 37)) rfl dX12_conIs_92 ((hFc4361.1 37 rfl).trans ((hFc4357.1 37 rfl).trans ((hE32_2615.1 37 rfl).trans rfl))) ?_
            refine m_l5 (z := (P 5 (P 0 37))) dX12_conIs_95 ⟨by have q0 := b0_37 hB; omega, by have q0 := b0_37 hB; omega⟩ ((congrFun (hFc4361.2 5 rfl rfl) _).trans ((congrFun (hFc4357.2 5 rfl rfl) _).trans ((congrFun (hE32_2615.2 5 rfl rfl) _).trans rfl))) ?_
            refine g_iadd dX12_conIs_96 ?_
            refine g_istore (l1 := [(4, vI ((24 * (P 0 37)) + (P 5 (P 0 37)))), (2, vL rc4361), (0, vR 0), (1, vI ((P 2 (P 0 37)) - 1))]) dX12_conIs_97 (by decide) rfl ?_
            refine g_aload_n dX12_conIs_99 rfl ?_
            refine m_g15 rfl dX12_conIs_100 ?_
            refine g_iconst dX12_conIs_103 ?_
            refine g_aload_n dX12_conIs_104 rfl ?_
            refine m_g37 (z := (P 0 37)) rfl dX12_conIs_105 ((hFc4361.1 37 rfl).trans ((hFc4357.1 37 rfl).trans ((hE32_2615.1 37 rfl).trans rfl))) ?_
            refine g_imul dX12_conIs_108 ?_
            refine g_iload_n dX12_conIs_109 rfl ?_
            refine g_iadd dX12_conIs_110 ?_
            refine m_l3 (z := (P 3 ((4 * (P 0 37)) + ((P 2 (P 0 37)) - 1)))) dX12_conIs_111 ⟨by have q0 := b0_37 hB; have q1 := bl_2 (k := (P 0 37)) hB; omega, by have q0 := b0_37 hB; have q1 := bl_2 (k := (P 0 37)) hB; omega⟩ ((congrFun (hFc4361.2 3 rfl rfl) _).trans ((congrFun (hFc4357.2 3 rfl rfl) _).trans ((congrFun (hE32_2615.2 3 rfl rfl) _).trans rfl))) ?_
            refine g_istore (l1 := [(5, vI (P 3 ((4 * (P 0 37)) + ((P 2 (P 0 37)) - 1)))), (4, vI ((24 * (P 0 37)) + (P 5 (P 0 37)))), (2, vL rc4361), (0, vR 0), (1, vI ((P 2 (P 0 37)) - 1))]) dX12_conIs_112 (by decide) rfl ?_
            refine g_aload_n dX12_conIs_114 rfl ?_
            refine m_g35 rfl dX12_conIs_115 ?_
            refine g_iload dX12_conIs_118 rfl ?_
            refine g_lload_n dX12_conIs_120 rfl ?_
            have hcf := (CF.fr (F := ([3, 4, 5, 6, 7, 8, 9, 12], [])) v_CF (FrM.c (FrM.c (FrM.c FrM.rf hE32_2615 rfl) hFc4357 rfl) hFc4361 rfl) rfl)
            refine m_s23 dX12_conIs_121 ⟨by have q0 := b0_37 hB; have q1 := bl_5 (k := (P 0 37)) hB; omega, by have q0 := b0_37 hB; have q1 := bl_5 (k := (P 0 37)) hB; omega⟩ ?_
            have hB4364 := ba_23 (z := rc4361) (k := ((24 * (P 0 37)) + (P 5 (P 0 37)))) hBc4361 ⟨by omega, by omega⟩
            refine g_aload_n dX12_conIs_122 rfl ?_
            refine m_g18 rfl dX12_conIs_123 ?_
            refine g_iload dX12_conIs_126 rfl ?_
            refine g_iload_n dX12_conIs_128 rfl ?_
            refine m_s6 dX12_conIs_129 ⟨by have q0 := b0_37 hB; have q1 := bl_5 (k := (P 0 37)) hB; omega, by have q0 := b0_37 hB; have q1 := bl_5 (k := (P 0 37)) hB; omega⟩ ?_
            have hB4365 := ba_6 (z := ((P 2 (P 0 37)) - 1)) (k := ((24 * (P 0 37)) + (P 5 (P 0 37)))) hB4364 ⟨by have q0 := bl_2 (k := (P 0 37)) hB; omega, by have q0 := bl_2 (k := (P 0 37)) hB; omega⟩
            refine g_aload_n dX12_conIs_130 rfl ?_
            refine m_g19 rfl dX12_conIs_131 ?_
            refine g_iload dX12_conIs_134 rfl ?_
            refine g_iconst dX12_conIs_136 ?_
            refine m_s7 dX12_conIs_137 ⟨by have q0 := b0_37 hB; have q1 := bl_5 (k := (P 0 37)) hB; omega, by have q0 := b0_37 hB; have q1 := bl_5 (k := (P 0 37)) hB; omega⟩ ?_
            have hB4366 := ba_7 (z := 0) (k := ((24 * (P 0 37)) + (P 5 (P 0 37)))) hB4365 (by decide)
            have iv4367 : CF (up (up (up Pc4361 23 ((24 * (P 0 37)) + (P 5 (P 0 37))) rc4361) 6 ((24 * (P 0 37)) + (P 5 (P 0 37))) ((P 2 (P 0 37)) - 1)) 7 ((24 * (P 0 37)) + (P 5 (P 0 37))) 0) := hcf.new (c := ((24 * (P 0 37)) + (P 5 (P 0 37)))) (fun j hj => ((up_o (by decide)).trans ((up_k hj).trans ((up_o (by decide)).trans rfl)))) (fun j hj => ((up_k hj).trans ((up_o (by decide)).trans ((up_o (by decide)).trans rfl)))) (fun j => ((up_o (by decide)).trans ((up_o (by decide)).trans ((up_o (by decide)).trans rfl)))) up_same
            refine g_aload_n dX12_conIs_138 rfl ?_
            refine m_g21 rfl dX12_conIs_139 ?_
            refine g_iload dX12_conIs_142 rfl ?_
            refine g_iload dX12_conIs_144 rfl ?_
            refine m_s9 dX12_conIs_146 ⟨by have q0 := b0_37 hB; have q1 := bl_5 (k := (P 0 37)) hB; omega, by have q0 := b0_37 hB; have q1 := bl_5 (k := (P 0 37)) hB; omega⟩ ?_
            have hB4368 := ba_9 (z := (P 3 ((4 * (P 0 37)) + ((P 2 (P 0 37)) - 1)))) (k := ((24 * (P 0 37)) + (P 5 (P 0 37)))) hB4366 ⟨by have q0 := bl_3 (k := ((4 * (P 0 37)) + ((P 2 (P 0 37)) - 1))) hB; omega, by have q0 := bl_3 (k := ((4 * (P 0 37)) + ((P 2 (P 0 37)) - 1))) hB; omega⟩
            refine g_aload_n dX12_conIs_147 rfl ?_
            refine m_g22 rfl dX12_conIs_148 ?_
            refine g_iload dX12_conIs_151 rfl ?_
            refine g_iconst dX12_conIs_153 ?_
            refine m_s10 dX12_conIs_154 ⟨by have q0 := b0_37 hB; have q1 := bl_5 (k := (P 0 37)) hB; omega, by have q0 := b0_37 hB; have q1 := bl_5 (k := (P 0 37)) hB; omega⟩ ?_
            have hB4369 := ba_10 (z := 1) (k := ((24 * (P 0 37)) + (P 5 (P 0 37)))) hB4368 (by decide)
            refine g_aload_n dX12_conIs_155 rfl ?_
            refine g_vV (av := []) (o := 0) (st := []) (m_X12_lex G (up (up (up (up (up Pc4361 23 ((24 * (P 0 37)) + (P 5 (P 0 37))) rc4361) 6 ((24 * (P 0 37)) + (P 5 (P 0 37))) ((P 2 (P 0 37)) - 1)) 7 ((24 * (P 0 37)) + (P 5 (P 0 37))) 0) 9 ((24 * (P 0 37)) + (P 5 (P 0 37))) (P 3 ((4 * (P 0 37)) + ((P 2 (P 0 37)) - 1)))) 10 ((24 * (P 0 37)) + (P 5 (P 0 37))) 1)  hB4369  _ (fun Pc4370 hBc4370 hFc4370 gc4370_pe => ⟨rfl, ?_⟩)) cf_X12_lex t_1697 rfl (by decide) rfl rfl rfl (Nat.le_of_ble_eq_true rfl) (by decide) rfl dX12_conIs_156
            have z4371 : (up (up (up (up (up Pc4361 23 ((24 * (P 0 37)) + (P 5 (P 0 37))) rc4361) 6 ((24 * (P 0 37)) + (P 5 (P 0 37))) ((P 2 (P 0 37)) - 1)) 7 ((24 * (P 0 37)) + (P 5 (P 0 37))) 0) 9 ((24 * (P 0 37)) + (P 5 (P 0 37))) (P 3 ((4 * (P 0 37)) + ((P 2 (P 0 37)) - 1)))) 10 ((24 * (P 0 37)) + (P 5 (P 0 37))) 1) 0 8 = (Pc4361 0 8) := ((up_o (by decide)).trans ((up_o (by decide)).trans ((up_o (by decide)).trans ((up_o (by decide)).trans ((up_o (by decide)).trans rfl)))))
            have L159_4371 : ∀ (n159_4371 : Nat) (H159_4371 : PH) (hB159_4371 : BdM H159_4371) (hE159_4371 : FrM ([3, 4, 5, 6, 7, 8, 9, 12], [7, 8, 10]) Pc4370 H159_4371) (i159_0_4371 : (H159_4371 10 ((24 * (P 0 37)) + (P 5 (P 0 37))) = 1 ∧ H159_4371 7 ((24 * (P 0 37)) + (P 5 (P 0 37))) = 0) ∨ (P 3 ((4 * (P 0 37)) + ((P 2 (P 0 37)) - 1))) + H159_4371 10 ((24 * (P 0 37)) + (P 5 (P 0 37))) ≤ 2000) (i159_1_4371 : 1 ≤ H159_4371 10 ((24 * (P 0 37)) + (P 5 (P 0 37)))) (i159_2_4371 : P 0 8 ≤ 0 ∨ 0 < H159_4371 0 8) (i159_3_4371 : P 0 4 ≤ H159_4371 0 4) (i159_4_4371 : (H159_4371 0 3 = 0 ∨ H159_4371 0 4 + 1 ≤ H159_4371 0 5) ∧ H159_4371 0 4 ≤ H159_4371 0 5) (w159_CF_4371 : CF H159_4371) (hm159_4371 : (1601 - H159_4371 0 4 : Int).toNat < n159_4371), Go WSM G 4 iX12_conIs 159 [(0, vR 0), (1, vI ((P 2 (P 0 37)) - 1)), (4, vI ((24 * (P 0 37)) + (P 5 (P 0 37)))), (5, vI (P 3 ((4 * (P 0 37)) + ((P 2 (P 0 37)) - 1))))] [] H159_4371 Q := by
              intro n159_4371
              induction n159_4371 with
              | zero => intro H159_4371 hB159_4371 hE159_4371 i159_0_4371 i159_1_4371 i159_2_4371 i159_3_4371 i159_4_4371 w159_CF_4371 hm159_4371; exact absurd hm159_4371 (Nat.not_lt_zero _)
              | succ n159_4371 ih159_4371 =>
              intro H159_4371 hB159_4371 hE159_4371 i159_0_4371 i159_1_4371 i159_2_4371 i159_3_4371 i159_4_4371 w159_CF_4371 hm159_4371
              refine g_aload_n dX12_conIs_159 rfl ?_
              refine m_g8 (z := (H159_4371 0 8)) rfl dX12_conIs_160 rfl ?_
              have f5053 := b0_8 hB159_4371
              have J303_5138 : ∀ (_ : True), Go WSM G 4 iX12_conIs 303 [(0, vR 0), (1, vI ((P 2 (P 0 37)) - 1)), (4, vI ((24 * (P 0 37)) + (P 5 (P 0 37))))] [] H159_4371 Q := by
                intro _
                refine g_aload_n dX12_conIs_303 rfl ?_
                refine m_g8 (z := (H159_4371 0 8)) rfl dX12_conIs_304 rfl ?_
                refine g_if_le (tgt := 311) dX12_conIs_307 (by decide) ⟨by have q0 := b0_8 hB159_4371; omega, by have q0 := b0_8 hB159_4371; omega⟩ (fun k5140 => ?_) (fun k5140 => ?_)
                · have hkv9 := v_KVP ((4 * (P 0 37)) + ((P 2 (P 0 37)) - 1))
                  refine g_aload_n dX12_conIs_311 rfl ?_
                  refine m_g15 rfl dX12_conIs_312 ?_
                  refine g_iconst dX12_conIs_315 ?_
                  refine g_aload_n dX12_conIs_316 rfl ?_
                  refine m_g37 (z := (P 0 37)) rfl dX12_conIs_317 ((hE159_4371.1 37 rfl).trans ((hFc4370.1 37 rfl).trans ((up_o (by decide)).trans ((up_o (by decide)).trans ((up_o (by decide)).trans ((up_o (by decide)).trans ((up_o (by decide)).trans ((hFc4361.1 37 rfl).trans ((hFc4357.1 37 rfl).trans ((hE32_2615.1 37 rfl).trans rfl)))))))))) ?_
                  refine g_imul dX12_conIs_320 ?_
                  refine g_iload_n dX12_conIs_321 rfl ?_
                  refine g_iadd dX12_conIs_322 ?_
                  refine g_dup2 dX12_conIs_323 rfl rfl ?_
                  refine m_l3 (z := (P 3 ((4 * (P 0 37)) + ((P 2 (P 0 37)) - 1)))) dX12_conIs_324 ⟨by have q0 := b0_37 hB; have q1 := bl_2 (k := (P 0 37)) hB; omega, by have q0 := b0_37 hB; have q1 := bl_2 (k := (P 0 37)) hB; omega⟩ ((congrFun (hE159_4371.2 3 rfl rfl) _).trans ((congrFun (hFc4370.2 3 rfl rfl) _).trans ((up_o (by decide)).trans ((up_o (by decide)).trans ((up_o (by decide)).trans ((up_o (by decide)).trans ((up_o (by decide)).trans ((congrFun (hFc4361.2 3 rfl rfl) _).trans ((congrFun (hFc4357.2 3 rfl rfl) _).trans ((congrFun (hE32_2615.2 3 rfl rfl) _).trans rfl)))))))))) ?_
                  refine g_aload_n dX12_conIs_325 rfl ?_
                  refine m_g22 rfl dX12_conIs_326 ?_
                  refine g_iload dX12_conIs_329 rfl ?_
                  refine m_l10 (z := (H159_4371 10 ((24 * (P 0 37)) + (P 5 (P 0 37))))) dX12_conIs_331 ⟨by have q0 := b0_37 hB; have q1 := bl_5 (k := (P 0 37)) hB; omega, by have q0 := b0_37 hB; have q1 := bl_5 (k := (P 0 37)) hB; omega⟩ rfl ?_
                  refine g_iadd dX12_conIs_332 ?_
                  refine m_s3 dX12_conIs_333 ⟨by have q0 := b0_37 hB; have q1 := bl_2 (k := (P 0 37)) hB; omega, by have q0 := b0_37 hB; have q1 := bl_2 (k := (P 0 37)) hB; omega⟩ ?_
                  have hB5141 := ba_3 (z := ((P 3 ((4 * (P 0 37)) + ((P 2 (P 0 37)) - 1))) + (H159_4371 10 ((24 * (P 0 37)) + (P 5 (P 0 37)))))) (k := ((4 * (P 0 37)) + ((P 2 (P 0 37)) - 1))) hB159_4371 ⟨by have q0 := bl_3 (k := ((4 * (P 0 37)) + ((P 2 (P 0 37)) - 1))) hB; have q1 := bl_10 (k := ((24 * (P 0 37)) + (P 5 (P 0 37)))) hB159_4371; omega, by have q0 := bl_3 (k := ((4 * (P 0 37)) + ((P 2 (P 0 37)) - 1))) hB; have q1 := bl_10 (k := ((24 * (P 0 37)) + (P 5 (P 0 37)))) hB159_4371; omega⟩
                  refine g_aload_n dX12_conIs_334 rfl ?_
                  refine m_g16 rfl dX12_conIs_335 ?_
                  refine g_iconst dX12_conIs_338 ?_
                  refine g_aload_n dX12_conIs_339 rfl ?_
                  refine m_g37 (z := (P 0 37)) rfl dX12_conIs_340 ((up_o (by decide)).trans ((hE159_4371.1 37 rfl).trans ((hFc4370.1 37 rfl).trans ((up_o (by decide)).trans ((up_o (by decide)).trans ((up_o (by decide)).trans ((up_o (by decide)).trans ((up_o (by decide)).trans ((hFc4361.1 37 rfl).trans ((hFc4357.1 37 rfl).trans ((hE32_2615.1 37 rfl).trans rfl))))))))))) ?_
                  refine g_imul dX12_conIs_343 ?_
                  refine g_iload_n dX12_conIs_344 rfl ?_
                  refine g_iadd dX12_conIs_345 ?_
                  refine g_dup2 dX12_conIs_346 rfl rfl ?_
                  refine m_l4 (z := (P 4 ((4 * (P 0 37)) + ((P 2 (P 0 37)) - 1)))) dX12_conIs_347 ⟨by have q0 := b0_37 hB; have q1 := bl_2 (k := (P 0 37)) hB; omega, by have q0 := b0_37 hB; have q1 := bl_2 (k := (P 0 37)) hB; omega⟩ ((up_o (by decide)).trans ((congrFun (hE159_4371.2 4 rfl rfl) _).trans ((congrFun (hFc4370.2 4 rfl rfl) _).trans ((up_o (by decide)).trans ((up_o (by decide)).trans ((up_o (by decide)).trans ((up_o (by decide)).trans ((up_o (by decide)).trans ((congrFun (hFc4361.2 4 rfl rfl) _).trans ((congrFun (hFc4357.2 4 rfl rfl) _).trans ((congrFun (hE32_2615.2 4 rfl rfl) _).trans rfl))))))))))) ?_
                  refine g_iconst dX12_conIs_348 ?_
                  refine g_iadd dX12_conIs_349 ?_
                  refine m_s4 dX12_conIs_350 ⟨by have q0 := b0_37 hB; have q1 := bl_2 (k := (P 0 37)) hB; omega, by have q0 := b0_37 hB; have q1 := bl_2 (k := (P 0 37)) hB; omega⟩ ?_
                  have hB5142 := ba_4 (z := ((P 4 ((4 * (P 0 37)) + ((P 2 (P 0 37)) - 1))) + 1)) (k := ((4 * (P 0 37)) + ((P 2 (P 0 37)) - 1))) hB5141 ⟨by have q0 := bl_4 (k := ((4 * (P 0 37)) + ((P 2 (P 0 37)) - 1))) hB; omega, by have q0 := bl_4 (k := ((4 * (P 0 37)) + ((P 2 (P 0 37)) - 1))) hB; omega⟩
                  refine g_aload_n dX12_conIs_351 rfl ?_
                  refine m_g17 rfl dX12_conIs_352 ?_
                  refine g_aload_n dX12_conIs_355 rfl ?_
                  refine m_g37 (z := (P 0 37)) rfl dX12_conIs_356 ((up_o (by decide)).trans ((up_o (by decide)).trans ((hE159_4371.1 37 rfl).trans ((hFc4370.1 37 rfl).trans ((up_o (by decide)).trans ((up_o (by decide)).trans ((up_o (by decide)).trans ((up_o (by decide)).trans ((up_o (by decide)).trans ((hFc4361.1 37 rfl).trans ((hFc4357.1 37 rfl).trans ((hE32_2615.1 37 rfl).trans rfl)))))))))))) ?_
                  refine g_dup2 dX12_conIs_359 rfl rfl ?_
                  refine m_l5 (z := (P 5 (P 0 37))) dX12_conIs_360 ⟨by have q0 := b0_37 hB; omega, by have q0 := b0_37 hB; omega⟩ ((up_o (by decide)).trans ((up_o (by decide)).trans ((congrFun (hE159_4371.2 5 rfl rfl) _).trans ((congrFun (hFc4370.2 5 rfl rfl) _).trans ((up_o (by decide)).trans ((up_o (by decide)).trans ((up_o (by decide)).trans ((up_o (by decide)).trans ((up_o (by decide)).trans ((congrFun (hFc4361.2 5 rfl rfl) _).trans ((congrFun (hFc4357.2 5 rfl rfl) _).trans ((congrFun (hE32_2615.2 5 rfl rfl) _).trans rfl)))))))))))) ?_
                  refine g_iconst dX12_conIs_361 ?_
                  refine g_iadd dX12_conIs_362 ?_
                  refine m_s5 dX12_conIs_363 ⟨by have q0 := b0_37 hB; omega, by have q0 := b0_37 hB; omega⟩ ?_
                  have hB5143 := ba_5 (z := ((P 5 (P 0 37)) + 1)) (k := (P 0 37)) hB5142 ⟨by have q0 := bl_5 (k := (P 0 37)) hB; omega, by have q0 := bl_5 (k := (P 0 37)) hB; omega⟩
                  have iv5144 : KVP (up (up (up H159_4371 3 ((4 * (P 0 37)) + ((P 2 (P 0 37)) - 1)) ((P 3 ((4 * (P 0 37)) + ((P 2 (P 0 37)) - 1))) + (H159_4371 10 ((24 * (P 0 37)) + (P 5 (P 0 37)))))) 4 ((4 * (P 0 37)) + ((P 2 (P 0 37)) - 1)) ((P 4 ((4 * (P 0 37)) + ((P 2 (P 0 37)) - 1))) + 1)) 5 (P 0 37) ((P 5 (P 0 37)) + 1)) := v_KVP.step (i := ((4 * (P 0 37)) + ((P 2 (P 0 37)) - 1))) (fun j hj => ((up_o (by decide)).trans ((up_o (by decide)).trans ((up_k hj).trans ((congrFun (hE159_4371.2 3 rfl rfl) _).trans ((congrFun (hFc4370.2 3 rfl rfl) _).trans ((up_o (by decide)).trans ((up_o (by decide)).trans ((up_o (by decide)).trans ((up_o (by decide)).trans ((up_o (by decide)).trans ((congrFun (hFc4361.2 3 rfl rfl) _).trans ((congrFun (hFc4357.2 3 rfl rfl) _).trans ((congrFun (hE32_2615.2 3 rfl rfl) _).trans rfl)))))))))))))) (fun j hj => ((up_o (by decide)).trans ((up_k hj).trans ((up_o (by decide)).trans ((congrFun (hE159_4371.2 4 rfl rfl) _).trans ((congrFun (hFc4370.2 4 rfl rfl) _).trans ((up_o (by decide)).trans ((up_o (by decide)).trans ((up_o (by decide)).trans ((up_o (by decide)).trans ((up_o (by decide)).trans ((congrFun (hFc4361.2 4 rfl rfl) _).trans ((congrFun (hFc4357.2 4 rfl rfl) _).trans ((congrFun (hE32_2615.2 4 rfl rfl) _).trans rfl)))))))))))))) (by have q3 := (((up_o (by decide)).trans ((up_o (by decide)).trans up_same)) : (up (up (up H159_4371 3 ((4 * (P 0 37)) + ((P 2 (P 0 37)) - 1)) ((P 3 ((4 * (P 0 37)) + ((P 2 (P 0 37)) - 1))) + (H159_4371 10 ((24 * (P 0 37)) + (P 5 (P 0 37)))))) 4 ((4 * (P 0 37)) + ((P 2 (P 0 37)) - 1)) ((P 4 ((4 * (P 0 37)) + ((P 2 (P 0 37)) - 1))) + 1)) 5 (P 0 37) ((P 5 (P 0 37)) + 1)) 3 ((4 * (P 0 37)) + ((P 2 (P 0 37)) - 1)) = ((P 3 ((4 * (P 0 37)) + ((P 2 (P 0 37)) - 1))) + (H159_4371 10 ((24 * (P 0 37)) + (P 5 (P 0 37)))))); have q4 := (((up_o (by decide)).trans up_same) : (up (up (up H159_4371 3 ((4 * (P 0 37)) + ((P 2 (P 0 37)) - 1)) ((P 3 ((4 * (P 0 37)) + ((P 2 (P 0 37)) - 1))) + (H159_4371 10 ((24 * (P 0 37)) + (P 5 (P 0 37)))))) 4 ((4 * (P 0 37)) + ((P 2 (P 0 37)) - 1)) ((P 4 ((4 * (P 0 37)) + ((P 2 (P 0 37)) - 1))) + 1)) 5 (P 0 37) ((P 5 (P 0 37)) + 1)) 4 ((4 * (P 0 37)) + ((P 2 (P 0 37)) - 1)) = ((P 4 ((4 * (P 0 37)) + ((P 2 (P 0 37)) - 1))) + 1)); have q5 := bl_4 (k := ((4 * (P 0 37)) + ((P 2 (P 0 37)) - 1))) hB; omega)
                  have iv5145 : KC (up (up (up H159_4371 3 ((4 * (P 0 37)) + ((P 2 (P 0 37)) - 1)) ((P 3 ((4 * (P 0 37)) + ((P 2 (P 0 37)) - 1))) + (H159_4371 10 ((24 * (P 0 37)) + (P 5 (P 0 37)))))) 4 ((4 * (P 0 37)) + ((P 2 (P 0 37)) - 1)) ((P 4 ((4 * (P 0 37)) + ((P 2 (P 0 37)) - 1))) + 1)) 5 (P 0 37) ((P 5 (P 0 37)) + 1)) := v_KC.con (by omega) ((up_o (by decide)).trans ((up_o (by decide)).trans ((up_o (by decide)).trans ((hE159_4371.1 37 rfl).trans ((hFc4370.1 37 rfl).trans ((up_o (by decide)).trans ((up_o (by decide)).trans ((up_o (by decide)).trans ((up_o (by decide)).trans ((up_o (by decide)).trans ((hFc4361.1 37 rfl).trans ((hFc4357.1 37 rfl).trans ((hE32_2615.1 37 rfl).trans rfl))))))))))))) ((up_o (by decide)).trans ((up_o (by decide)).trans ((up_o (by decide)).trans ((congrFun (hE159_4371.2 2 rfl rfl) _).trans ((congrFun (hFc4370.2 2 rfl rfl) _).trans ((up_o (by decide)).trans ((up_o (by decide)).trans ((up_o (by decide)).trans ((up_o (by decide)).trans ((up_o (by decide)).trans ((congrFun (hFc4361.2 2 rfl rfl) _).trans ((congrFun (hFc4357.2 2 rfl rfl) _).trans ((congrFun (hE32_2615.2 2 rfl rfl) _).trans rfl))))))))))))) up_same ((up_o (by decide)).trans up_same)
                  exact g_retV dX12_conIs_364 rfl (hQ _ hB5143 (FrM.a (FrM.a (FrM.a (FrM.c (FrM.c (FrM.a (FrM.a (FrM.a (FrM.a (FrM.a (FrM.c (FrM.c (FrM.c FrM.rf hE32_2615 rfl) hFc4357 rfl) hFc4361 rfl) rfl rfl) rfl rfl) rfl rfl) rfl rfl) rfl rfl) hFc4370 rfl) hE159_4371 rfl) rfl rfl) rfl rfl) rfl rfl) (by have q0 := (((up_o (by decide)).trans ((up_o (by decide)).trans ((up_o (by decide)).trans rfl))) : (up (up (up H159_4371 3 ((4 * (P 0 37)) + ((P 2 (P 0 37)) - 1)) ((P 3 ((4 * (P 0 37)) + ((P 2 (P 0 37)) - 1))) + (H159_4371 10 ((24 * (P 0 37)) + (P 5 (P 0 37)))))) 4 ((4 * (P 0 37)) + ((P 2 (P 0 37)) - 1)) ((P 4 ((4 * (P 0 37)) + ((P 2 (P 0 37)) - 1))) + 1)) 5 (P 0 37) ((P 5 (P 0 37)) + 1)) 0 3 = (H159_4371 0 3)); have q1 := b0_3 hB159_4371; have q2 := (((up_o (by decide)).trans ((up_o (by decide)).trans ((up_o (by decide)).trans rfl))) : (up (up (up H159_4371 3 ((4 * (P 0 37)) + ((P 2 (P 0 37)) - 1)) ((P 3 ((4 * (P 0 37)) + ((P 2 (P 0 37)) - 1))) + (H159_4371 10 ((24 * (P 0 37)) + (P 5 (P 0 37)))))) 4 ((4 * (P 0 37)) + ((P 2 (P 0 37)) - 1)) ((P 4 ((4 * (P 0 37)) + ((P 2 (P 0 37)) - 1))) + 1)) 5 (P 0 37) ((P 5 (P 0 37)) + 1)) 0 4 = (H159_4371 0 4)); have q3 := b0_4 hB159_4371; have q4 := (((up_o (by decide)).trans ((up_o (by decide)).trans ((up_o (by decide)).trans rfl))) : (up (up (up H159_4371 3 ((4 * (P 0 37)) + ((P 2 (P 0 37)) - 1)) ((P 3 ((4 * (P 0 37)) + ((P 2 (P 0 37)) - 1))) + (H159_4371 10 ((24 * (P 0 37)) + (P 5 (P 0 37)))))) 4 ((4 * (P 0 37)) + ((P 2 (P 0 37)) - 1)) ((P 4 ((4 * (P 0 37)) + ((P 2 (P 0 37)) - 1))) + 1)) 5 (P 0 37) ((P 5 (P 0 37)) + 1)) 0 5 = (H159_4371 0 5)); have q5 := b0_5 hB159_4371; omega) (by have q0 := (((up_o (by decide)).trans ((up_o (by decide)).trans ((up_o (by decide)).trans rfl))) : (up (up (up H159_4371 3 ((4 * (P 0 37)) + ((P 2 (P 0 37)) - 1)) ((P 3 ((4 * (P 0 37)) + ((P 2 (P 0 37)) - 1))) + (H159_4371 10 ((24 * (P 0 37)) + (P 5 (P 0 37)))))) 4 ((4 * (P 0 37)) + ((P 2 (P 0 37)) - 1)) ((P 4 ((4 * (P 0 37)) + ((P 2 (P 0 37)) - 1))) + 1)) 5 (P 0 37) ((P 5 (P 0 37)) + 1)) 0 4 = (H159_4371 0 4)); have q1 := b0_4 hB159_4371; omega) (by have q0 := (((up_o (by decide)).trans ((up_o (by decide)).trans ((up_o (by decide)).trans rfl))) : (up (up (up H159_4371 3 ((4 * (P 0 37)) + ((P 2 (P 0 37)) - 1)) ((P 3 ((4 * (P 0 37)) + ((P 2 (P 0 37)) - 1))) + (H159_4371 10 ((24 * (P 0 37)) + (P 5 (P 0 37)))))) 4 ((4 * (P 0 37)) + ((P 2 (P 0 37)) - 1)) ((P 4 ((4 * (P 0 37)) + ((P 2 (P 0 37)) - 1))) + 1)) 5 (P 0 37) ((P 5 (P 0 37)) + 1)) 0 8 = (H159_4371 0 8)); have q1 := b0_8 hB159_4371; omega) iv5144 iv5145 (CF.fr (F := ([], [3, 4, 5])) w159_CF_4371 (FrM.a (FrM.a (FrM.a FrM.rf rfl rfl) rfl rfl) rfl rfl) rfl))
                · exact g_retV dX12_conIs_310 rfl (hQ _ hB159_4371 (FrM.c (FrM.c (FrM.a (FrM.a (FrM.a (FrM.a (FrM.a (FrM.c (FrM.c (FrM.c FrM.rf hE32_2615 rfl) hFc4357 rfl) hFc4361 rfl) rfl rfl) rfl rfl) rfl rfl) rfl rfl) rfl rfl) hFc4370 rfl) hE159_4371 rfl) (by have q0 := b0_3 hB159_4371; have q1 := b0_4 hB159_4371; have q2 := b0_5 hB159_4371; omega) (by have q0 := b0_4 hB159_4371; omega) (by have q0 := b0_8 hB159_4371; omega) (KVP.fr (F := ([3, 4, 5, 6, 7, 8, 9, 12], [6, 7, 8, 9, 10, 23])) v_KVP (FrM.c (FrM.c (FrM.a (FrM.a (FrM.a (FrM.a (FrM.a (FrM.c (FrM.c (FrM.c FrM.rf hE32_2615 rfl) hFc4357 rfl) hFc4361 rfl) rfl rfl) rfl rfl) rfl rfl) rfl rfl) rfl rfl) hFc4370 rfl) hE159_4371 rfl) rfl) (KC.fr (F := ([3, 4, 5, 6, 7, 8, 9, 12], [6, 7, 8, 9, 10, 23])) v_KC (FrM.c (FrM.c (FrM.a (FrM.a (FrM.a (FrM.a (FrM.a (FrM.c (FrM.c (FrM.c FrM.rf hE32_2615 rfl) hFc4357 rfl) hFc4361 rfl) rfl rfl) rfl rfl) rfl rfl) rfl rfl) rfl rfl) hFc4370 rfl) hE159_4371 rfl) rfl) w159_CF_4371)
              refine g_if_ne (tgt := 303) dX12_conIs_163 (by decide) ⟨by have q0 := b0_8 hB159_4371; omega, by have q0 := b0_8 hB159_4371; omega⟩ (fun k5146 => ?_) (fun k5146 => ?_)
              · refine g_forget (l1 := [(0, vR 0), (1, vI ((P 2 (P 0 37)) - 1)), (4, vI ((24 * (P 0 37)) + (P 5 (P 0 37))))]) (by intro q hq; simp only [List.mem_cons, List.not_mem_nil, or_false] at hq ⊢; rcases hq with rfl | rfl | rfl <;> simp) ?_
                exact J303_5138 trivial
              · refine g_aload_n dX12_conIs_166 rfl ?_
                refine g_vI (av := []) (o := 0) (st := []) (m_X12_isKindHere G H159_4371  hB159_4371  _ (fun rc5147 hc5147 gc5147_w => ⟨rc5147, rfl, ?_⟩)) cf_X12_isKindHere t_1748 rfl (by decide) rfl rfl rfl (Nat.le_of_ble_eq_true rfl) (by decide) rfl dX12_conIs_167
                refine g_if_eq (tgt := 303) dX12_conIs_170 (by decide) ⟨by omega, by omega⟩ (fun k5148 => ?_) (fun k5148 => ?_)
                · refine g_forget (l1 := [(0, vR 0), (1, vI ((P 2 (P 0 37)) - 1)), (4, vI ((24 * (P 0 37)) + (P 5 (P 0 37))))]) (by intro q hq; simp only [List.mem_cons, List.not_mem_nil, or_false] at hq ⊢; rcases hq with rfl | rfl | rfl <;> simp) ?_
                  exact J303_5138 trivial
                · refine g_aload_n dX12_conIs_173 rfl ?_
                  refine m_g19 rfl dX12_conIs_174 ?_
                  refine g_iload dX12_conIs_177 rfl ?_
                  refine m_l7 (z := (H159_4371 7 ((24 * (P 0 37)) + (P 5 (P 0 37))))) dX12_conIs_179 ⟨by have q0 := b0_37 hB; have q1 := bl_5 (k := (P 0 37)) hB; omega, by have q0 := b0_37 hB; have q1 := bl_5 (k := (P 0 37)) hB; omega⟩ rfl ?_
                  refine g_iconst dX12_conIs_180 ?_
                  have f5149 := bl_7 (k := ((24 * (P 0 37)) + (P 5 (P 0 37)))) hB159_4371
                  have J194_5186 : ∀ (H194_5186 : PH) (hB194_5186 : BdM H194_5186) (hE194_5186 : FrM ([8, 9], []) H159_4371 H194_5186) (i194_0_5186 : 0 < H194_5186 0 8 ∨ H194_5186 7 ((24 * (P 0 37)) + (P 5 (P 0 37))) ≤ 1) (i194_1_5186 : P 0 8 ≤ 0 ∨ 0 < H194_5186 0 8) (i194_2_5186 : P 0 4 ≤ H194_5186 0 4) (i194_3_5186 : (H194_5186 0 3 = 0 ∨ H194_5186 0 4 + 1 ≤ H194_5186 0 5) ∧ H194_5186 0 4 ≤ H194_5186 0 5), Go WSM G 4 iX12_conIs 194 [(0, vR 0), (1, vI ((P 2 (P 0 37)) - 1)), (4, vI ((24 * (P 0 37)) + (P 5 (P 0 37)))), (5, vI (P 3 ((4 * (P 0 37)) + ((P 2 (P 0 37)) - 1))))] [] H194_5186 Q := by
                    intro H194_5186 hB194_5186 hE194_5186 i194_0_5186 i194_1_5186 i194_2_5186 i194_3_5186
                    refine g_aload_n dX12_conIs_194 rfl ?_
                    refine g_iload_n dX12_conIs_195 rfl ?_
                    refine g_vI (av := [vI ((P 2 (P 0 37)) - 1)]) (o := 0) (st := []) (m_X12_known G H194_5186 ((P 2 (P 0 37)) - 1) ⟨by have q0 := bl_2 (k := (P 0 37)) hB; omega, by have q0 := bl_2 (k := (P 0 37)) hB; omega⟩ hB194_5186 (by have q0 := bl_2 (k := (P 0 37)) hB; have q1 := (((hE194_5186.1 3 rfl).trans rfl) : H194_5186 0 3 = (H159_4371 0 3)); have q2 := b0_3 hB159_4371; have q3 := (((hE194_5186.1 4 rfl).trans rfl) : H194_5186 0 4 = (H159_4371 0 4)); have q4 := b0_4 hB159_4371; have q5 := (((hE194_5186.1 5 rfl).trans rfl) : H194_5186 0 5 = (H159_4371 0 5)); have q6 := b0_5 hB159_4371; omega) _ (fun rc5188 hc5188 Pc5188 hBc5188 hFc5188 gc5188_lx gc5188_mo gc5188_pe gc5188_k => ⟨rc5188, rfl, ?_⟩)) cf_X12_known t_1752 rfl (by decide) rfl rfl rfl (Nat.le_of_ble_eq_true rfl) (by decide) rfl dX12_conIs_196
                    have z5189 : H194_5186 0 4 = (H159_4371 0 4) := ((hE194_5186.1 4 rfl).trans rfl)
                    have z5190 : H194_5186 0 37 = (P 0 37) := ((hE194_5186.1 37 rfl).trans ((hE159_4371.1 37 rfl).trans ((hFc4370.1 37 rfl).trans ((up_o (by decide)).trans ((up_o (by decide)).trans ((up_o (by decide)).trans ((up_o (by decide)).trans ((up_o (by decide)).trans ((hFc4361.1 37 rfl).trans ((hFc4357.1 37 rfl).trans ((hE32_2615.1 37 rfl).trans rfl)))))))))))
                    have e37 := (((hE194_5186.1 37 rfl).trans ((hE159_4371.1 37 rfl).trans ((hFc4370.1 37 rfl).trans ((up_o (by decide)).trans ((up_o (by decide)).trans ((up_o (by decide)).trans ((up_o (by decide)).trans ((up_o (by decide)).trans ((hFc4361.1 37 rfl).trans ((hFc4357.1 37 rfl).trans ((hE32_2615.1 37 rfl).trans rfl))))))))))) : H194_5186 0 37 = (P 0 37))
                    rw [e37] at gc5188_k
                    have e3 := (((congrFun (hFc5188.2 3 rfl rfl) _).trans ((congrFun (hE194_5186.2 3 rfl rfl) _).trans ((congrFun (hE159_4371.2 3 rfl rfl) _).trans ((congrFun (hFc4370.2 3 rfl rfl) _).trans ((up_o (by decide)).trans ((up_o (by decide)).trans ((up_o (by decide)).trans ((up_o (by decide)).trans ((up_o (by decide)).trans ((congrFun (hFc4361.2 3 rfl rfl) _).trans ((congrFun (hFc4357.2 3 rfl rfl) _).trans ((congrFun (hE32_2615.2 3 rfl rfl) _).trans rfl)))))))))))) : Pc5188 3 ((4 * (P 0 37)) + rc5188) = (P 3 ((4 * (P 0 37)) + rc5188)))
                    rw [e3] at gc5188_k
                    refine g_istore (l1 := [(6, vI rc5188), (0, vR 0), (1, vI ((P 2 (P 0 37)) - 1)), (4, vI ((24 * (P 0 37)) + (P 5 (P 0 37)))), (5, vI (P 3 ((4 * (P 0 37)) + ((P 2 (P 0 37)) - 1))))]) dX12_conIs_199 (by decide) rfl ?_
                    refine g_aload_n dX12_conIs_201 rfl ?_
                    refine m_g8 (z := (Pc5188 0 8)) rfl dX12_conIs_202 rfl ?_
                    have f5191 := b0_8 hBc5188
                    refine g_if_le (tgt := 209) dX12_conIs_205 (by decide) ⟨by have q0 := b0_8 hBc5188; omega, by have q0 := b0_8 hBc5188; omega⟩ (fun k5192 => ?_) (fun k5192 => ?_)
                    · refine g_aload_n dX12_conIs_209 rfl ?_
                      refine m_g20 rfl dX12_conIs_210 ?_
                      refine g_iconst dX12_conIs_213 ?_
                      refine g_iload dX12_conIs_214 rfl ?_
                      refine g_imul dX12_conIs_216 ?_
                      refine g_aload_n dX12_conIs_217 rfl ?_
                      refine m_g19 rfl dX12_conIs_218 ?_
                      refine g_iload dX12_conIs_221 rfl ?_
                      refine m_l7 (z := (H159_4371 7 ((24 * (P 0 37)) + (P 5 (P 0 37))))) dX12_conIs_223 ⟨by have q0 := b0_37 hB; have q1 := bl_5 (k := (P 0 37)) hB; omega, by have q0 := b0_37 hB; have q1 := bl_5 (k := (P 0 37)) hB; omega⟩ ((congrFun (hFc5188.2 7 rfl rfl) _).trans ((congrFun (hE194_5186.2 7 rfl rfl) _).trans rfl)) ?_
                      refine g_iadd dX12_conIs_224 ?_
                      refine g_iload dX12_conIs_225 rfl ?_
                      have hcf := (CF.fr (F := ([8, 9], [])) w159_CF_4371 (FrM.c (FrM.c FrM.rf hE194_5186 rfl) hFc5188 rfl) rfl)
                      have hbb := hBc5188
                      have h71 := (((congrFun (hFc5188.2 7 rfl rfl) _).trans ((congrFun (hE194_5186.2 7 rfl rfl) _).trans rfl)) : Pc5188 7 ((24 * (P 0 37)) + (P 5 (P 0 37))) = (H159_4371 7 ((24 * (P 0 37)) + (P 5 (P 0 37)))))
                      have h61 := (((congrFun (hFc5188.2 6 rfl rfl) _).trans ((congrFun (hE194_5186.2 6 rfl rfl) _).trans ((congrFun (hE159_4371.2 6 rfl rfl) _).trans ((congrFun (hFc4370.2 6 rfl rfl) _).trans ((up_o (by decide)).trans ((up_o (by decide)).trans ((up_o (by decide)).trans up_same))))))) : Pc5188 6 ((24 * (P 0 37)) + (P 5 (P 0 37))) = ((P 2 (P 0 37)) - 1))
                      have hix : 2 * ((24 * (P 0 37)) + (P 5 (P 0 37))) + Pc5188 7 ((24 * (P 0 37)) + (P 5 (P 0 37))) = ((2 * ((24 * (P 0 37)) + (P 5 (P 0 37)))) + (H159_4371 7 ((24 * (P 0 37)) + (P 5 (P 0 37))))) := by rw [h71]
                      refine m_s8 dX12_conIs_227 ⟨by have q0 := b0_37 hB; have q1 := bl_5 (k := (P 0 37)) hB; have q2 := bl_7 (k := ((24 * (P 0 37)) + (P 5 (P 0 37)))) hB159_4371; omega, by have q0 := b0_37 hB; have q1 := bl_5 (k := (P 0 37)) hB; have q2 := bl_7 (k := ((24 * (P 0 37)) + (P 5 (P 0 37)))) hB159_4371; omega⟩ ?_
                      have hB5193 := ba_8 (z := rc5188) (k := ((2 * ((24 * (P 0 37)) + (P 5 (P 0 37)))) + (H159_4371 7 ((24 * (P 0 37)) + (P 5 (P 0 37)))))) hBc5188 ⟨by omega, by omega⟩
                      refine g_aload_n dX12_conIs_228 rfl ?_
                      refine m_g19 rfl dX12_conIs_229 ?_
                      refine g_iload dX12_conIs_232 rfl ?_
                      refine g_dup2 dX12_conIs_234 rfl rfl ?_
                      refine m_l7 (z := (H159_4371 7 ((24 * (P 0 37)) + (P 5 (P 0 37))))) dX12_conIs_235 ⟨by have q0 := b0_37 hB; have q1 := bl_5 (k := (P 0 37)) hB; omega, by have q0 := b0_37 hB; have q1 := bl_5 (k := (P 0 37)) hB; omega⟩ ((up_o (by decide)).trans ((congrFun (hFc5188.2 7 rfl rfl) _).trans ((congrFun (hE194_5186.2 7 rfl rfl) _).trans rfl))) ?_
                      refine g_iconst dX12_conIs_236 ?_
                      refine g_iadd dX12_conIs_237 ?_
                      refine m_s7 dX12_conIs_238 ⟨by have q0 := b0_37 hB; have q1 := bl_5 (k := (P 0 37)) hB; omega, by have q0 := b0_37 hB; have q1 := bl_5 (k := (P 0 37)) hB; omega⟩ ?_
                      have hB5194 := ba_7 (z := ((H159_4371 7 ((24 * (P 0 37)) + (P 5 (P 0 37)))) + 1)) (k := ((24 * (P 0 37)) + (P 5 (P 0 37)))) hB5193 ⟨by have q0 := bl_7 (k := ((24 * (P 0 37)) + (P 5 (P 0 37)))) hB159_4371; omega, by have q0 := bl_7 (k := ((24 * (P 0 37)) + (P 5 (P 0 37)))) hB159_4371; omega⟩
                      have iv5195 : CF (up (up Pc5188 8 ((2 * ((24 * (P 0 37)) + (P 5 (P 0 37)))) + (H159_4371 7 ((24 * (P 0 37)) + (P 5 (P 0 37))))) rc5188) 7 ((24 * (P 0 37)) + (P 5 (P 0 37))) ((H159_4371 7 ((24 * (P 0 37)) + (P 5 (P 0 37)))) + 1)) := hcf.field (c := ((24 * (P 0 37)) + (P 5 (P 0 37)))) (z := rc5188) hbb (by omega) (fun j => ((up_o (by decide)).trans ((up_o (by decide)).trans rfl))) (fun j hj => ((up_k hj).trans ((up_o (by decide)).trans rfl))) up_same (fun j hj => by rw [hix] at hj; exact ((up_o (by decide)).trans ((up_k hj).trans rfl))) (by rw [hix]; exact ((up_o (by decide)).trans up_same)) (by omega)
                      refine g_aload_n dX12_conIs_239 rfl ?_
                      refine m_g22 rfl dX12_conIs_240 ?_
                      refine g_iload dX12_conIs_243 rfl ?_
                      refine g_dup2 dX12_conIs_245 rfl rfl ?_
                      refine m_l10 (z := (H159_4371 10 ((24 * (P 0 37)) + (P 5 (P 0 37))))) dX12_conIs_246 ⟨by have q0 := b0_37 hB; have q1 := bl_5 (k := (P 0 37)) hB; omega, by have q0 := b0_37 hB; have q1 := bl_5 (k := (P 0 37)) hB; omega⟩ ((up_o (by decide)).trans ((up_o (by decide)).trans ((congrFun (hFc5188.2 10 rfl rfl) _).trans ((congrFun (hE194_5186.2 10 rfl rfl) _).trans rfl)))) ?_
                      refine g_aload_n dX12_conIs_247 rfl ?_
                      refine g_aload_n dX12_conIs_248 rfl ?_
                      refine m_g37 (z := (P 0 37)) rfl dX12_conIs_249 ((up_o (by decide)).trans ((up_o (by decide)).trans ((hFc5188.1 37 rfl).trans ((hE194_5186.1 37 rfl).trans ((hE159_4371.1 37 rfl).trans ((hFc4370.1 37 rfl).trans ((up_o (by decide)).trans ((up_o (by decide)).trans ((up_o (by decide)).trans ((up_o (by decide)).trans ((up_o (by decide)).trans ((hFc4361.1 37 rfl).trans ((hFc4357.1 37 rfl).trans ((hE32_2615.1 37 rfl).trans rfl)))))))))))))) ?_
                      refine g_iload dX12_conIs_252 rfl ?_
                      have f5196 := b0_37 hB
                      refine g_vI (av := [vI (P 0 37), vI rc5188]) (o := 0) (st := [vI (H159_4371 10 ((24 * (P 0 37)) + (P 5 (P 0 37)))), vI ((24 * (P 0 37)) + (P 5 (P 0 37))), vR 10]) (m_X12_valuesOf G (up (up Pc5188 8 ((2 * ((24 * (P 0 37)) + (P 5 (P 0 37)))) + (H159_4371 7 ((24 * (P 0 37)) + (P 5 (P 0 37))))) rc5188) 7 ((24 * (P 0 37)) + (P 5 (P 0 37))) ((H159_4371 7 ((24 * (P 0 37)) + (P 5 (P 0 37)))) + 1)) (P 0 37) rc5188 ⟨by have q0 := b0_37 hB; omega, by have q0 := b0_37 hB; omega⟩ ⟨by omega, by omega⟩ hB5194  _ (fun rc5197 hc5197 gc5197_v => ⟨rc5197, rfl, ?_⟩)) cf_X12_valuesOf t_1756 rfl (by decide) rfl rfl rfl (Nat.le_of_ble_eq_true rfl) (by decide) rfl dX12_conIs_254
                      have e3v := (((up_o (by decide)).trans ((up_o (by decide)).trans ((congrFun (hFc5188.2 3 rfl rfl) _).trans ((congrFun (hE194_5186.2 3 rfl rfl) _).trans ((congrFun (hE159_4371.2 3 rfl rfl) _).trans ((congrFun (hFc4370.2 3 rfl rfl) _).trans ((up_o (by decide)).trans ((up_o (by decide)).trans ((up_o (by decide)).trans ((up_o (by decide)).trans ((up_o (by decide)).trans ((congrFun (hFc4361.2 3 rfl rfl) _).trans ((congrFun (hFc4357.2 3 rfl rfl) _).trans ((congrFun (hE32_2615.2 3 rfl rfl) _).trans rfl)))))))))))))) : (up (up Pc5188 8 ((2 * ((24 * (P 0 37)) + (P 5 (P 0 37)))) + (H159_4371 7 ((24 * (P 0 37)) + (P 5 (P 0 37))))) rc5188) 7 ((24 * (P 0 37)) + (P 5 (P 0 37))) ((H159_4371 7 ((24 * (P 0 37)) + (P 5 (P 0 37)))) + 1)) 3 ((4 * (P 0 37)) + rc5188) = (P 3 ((4 * (P 0 37)) + rc5188)))
                      refine g_imul dX12_conIs_257 ?_
                      refine g_nm (fun w5198 e_w5198 => ?_)
                      have h_w5198 : 1 ≤ w5198 ∧ w5198 ≤ 4012000 := by rw [e_w5198]; exact mul_b (A := 2000) (B := 2006) ⟨by omega, by omega⟩ ⟨by omega, by omega⟩
                      refine m_s10 dX12_conIs_258 ⟨by have q0 := b0_37 hB; have q1 := bl_5 (k := (P 0 37)) hB; omega, by have q0 := b0_37 hB; have q1 := bl_5 (k := (P 0 37)) hB; omega⟩ ?_
                      have hB5199 := ba_10 (z := w5198) (k := ((24 * (P 0 37)) + (P 5 (P 0 37)))) hB5194 ⟨by omega, by omega⟩
                      refine g_iload dX12_conIs_259 rfl ?_
                      refine g_aload_n dX12_conIs_261 rfl ?_
                      refine m_g22 rfl dX12_conIs_262 ?_
                      refine g_iload dX12_conIs_265 rfl ?_
                      refine m_l10 (z := w5198) dX12_conIs_267 ⟨by have q0 := b0_37 hB; have q1 := bl_5 (k := (P 0 37)) hB; omega, by have q0 := b0_37 hB; have q1 := bl_5 (k := (P 0 37)) hB; omega⟩ up_same ?_
                      refine g_iadd dX12_conIs_268 ?_
                      refine g_sipush dX12_conIs_269 (by decide) ?_
                      have f5200 := bl_3 (k := ((4 * (P 0 37)) + ((P 2 (P 0 37)) - 1))) hB
                      have J284_5210 : ∀ (H284_5210 : PH) (hB284_5210 : BdM H284_5210) (hE284_5210 : FrM ([8, 9], []) (up (up (up Pc5188 8 ((2 * ((24 * (P 0 37)) + (P 5 (P 0 37)))) + (H159_4371 7 ((24 * (P 0 37)) + (P 5 (P 0 37))))) rc5188) 7 ((24 * (P 0 37)) + (P 5 (P 0 37))) ((H159_4371 7 ((24 * (P 0 37)) + (P 5 (P 0 37)))) + 1)) 10 ((24 * (P 0 37)) + (P 5 (P 0 37))) w5198) H284_5210) (i284_0_5210 : P 0 8 ≤ 0 ∨ 0 < H284_5210 0 8) (i284_1_5210 : P 0 4 ≤ H284_5210 0 4) (i284_2_5210 : (H284_5210 0 3 = 0 ∨ H284_5210 0 4 + 1 ≤ H284_5210 0 5) ∧ H284_5210 0 4 ≤ H284_5210 0 5), Go WSM G 4 iX12_conIs 284 [(0, vR 0), (1, vI ((P 2 (P 0 37)) - 1)), (4, vI ((24 * (P 0 37)) + (P 5 (P 0 37)))), (5, vI (P 3 ((4 * (P 0 37)) + ((P 2 (P 0 37)) - 1))))] [] H284_5210 Q := by
                        intro H284_5210 hB284_5210 hE284_5210 i284_0_5210 i284_1_5210 i284_2_5210
                        refine g_aload_n dX12_conIs_284 rfl ?_
                        refine m_g8 (z := (H284_5210 0 8)) rfl dX12_conIs_285 rfl ?_
                        have f5212 := b0_8 hB284_5210
                        refine g_if_le (tgt := 292) dX12_conIs_288 (by decide) ⟨by have q0 := b0_8 hB284_5210; omega, by have q0 := b0_8 hB284_5210; omega⟩ (fun k5213 => ?_) (fun k5213 => ?_)
                        · refine g_aload_n dX12_conIs_292 rfl ?_
                          refine g_vV (av := []) (o := 0) (st := []) (m_X12_ahead G H284_5210  hB284_5210  _ (fun Pc5214 hBc5214 hFc5214 gc5214_lx gc5214_nx => ⟨rfl, ?_⟩)) cf_X12_ahead t_1683 rfl (by decide) rfl rfl rfl (Nat.le_of_ble_eq_true rfl) (by decide) rfl dX12_conIs_293
                          have z5215 : H284_5210 0 5 = (H159_4371 0 5) := ((hE284_5210.1 5 rfl).trans ((up_o (by decide)).trans ((up_o (by decide)).trans ((up_o (by decide)).trans ((hFc5188.1 5 rfl).trans ((hE194_5186.1 5 rfl).trans rfl))))))
                          refine g_aload_n dX12_conIs_296 rfl ?_
                          refine g_vV (av := []) (o := 0) (st := []) (m_X12_lex G Pc5214  hBc5214  _ (fun Pc5216 hBc5216 hFc5216 gc5216_pe => ⟨rfl, ?_⟩)) cf_X12_lex t_1697 rfl (by decide) rfl rfl rfl (Nat.le_of_ble_eq_true rfl) (by decide) rfl dX12_conIs_297
                          have z5217 : Pc5214 0 8 = (H284_5210 0 8) := ((hFc5214.1 8 rfl).trans rfl)
                          refine g_goto (tgt := 159) dX12_conIs_300 (by decide) ?_
                          refine g_forget (l1 := [(0, vR 0), (1, vI ((P 2 (P 0 37)) - 1)), (4, vI ((24 * (P 0 37)) + (P 5 (P 0 37)))), (5, vI (P 3 ((4 * (P 0 37)) + ((P 2 (P 0 37)) - 1))))]) (by intro q hq; simp only [List.mem_cons, List.not_mem_nil, or_false] at hq ⊢; rcases hq with rfl | rfl | rfl | rfl <;> simp) ?_
                          exact ih159_4371 _ hBc5216 (FrM.c (FrM.c (FrM.c (FrM.a (FrM.a (FrM.a (FrM.c (FrM.c (FrM.c FrM.rf hE159_4371 rfl) hE194_5186 rfl) hFc5188 rfl) rfl rfl) rfl rfl) rfl rfl) hE284_5210 rfl) hFc5214 rfl) hFc5216 rfl) (by have q0 := (((congrFun (hFc5216.2 10 rfl rfl) _).trans ((congrFun (hFc5214.2 10 rfl rfl) _).trans ((congrFun (hE284_5210.2 10 rfl rfl) _).trans up_same))) : Pc5216 10 ((24 * (P 0 37)) + (P 5 (P 0 37))) = w5198); have q1 := (((congrFun (hFc5216.2 7 rfl rfl) _).trans ((congrFun (hFc5214.2 7 rfl rfl) _).trans ((congrFun (hE284_5210.2 7 rfl rfl) _).trans ((up_o (by decide)).trans up_same)))) : Pc5216 7 ((24 * (P 0 37)) + (P 5 (P 0 37))) = ((H159_4371 7 ((24 * (P 0 37)) + (P 5 (P 0 37)))) + 1)); have q2 := bl_7 (k := ((24 * (P 0 37)) + (P 5 (P 0 37)))) hB159_4371; omega) (by have q0 := (((congrFun (hFc5216.2 10 rfl rfl) _).trans ((congrFun (hFc5214.2 10 rfl rfl) _).trans ((congrFun (hE284_5210.2 10 rfl rfl) _).trans up_same))) : Pc5216 10 ((24 * (P 0 37)) + (P 5 (P 0 37))) = w5198); omega) (by have q0 := b0_8 hBc5216; omega) (by have q0 := (((hFc5216.1 4 rfl).trans rfl) : Pc5216 0 4 = (Pc5214 0 4)); have q1 := b0_4 hBc5214; omega) (by have q0 := (((hFc5216.1 3 rfl).trans rfl) : Pc5216 0 3 = (Pc5214 0 3)); have q1 := b0_3 hBc5214; have q2 := (((hFc5216.1 4 rfl).trans rfl) : Pc5216 0 4 = (Pc5214 0 4)); have q3 := b0_4 hBc5214; have q4 := (((hFc5216.1 5 rfl).trans rfl) : Pc5216 0 5 = (Pc5214 0 5)); have q5 := b0_5 hBc5214; omega) (CF.fr (F := ([3, 4, 5, 6, 7, 8, 9, 12], [10])) iv5195 (FrM.c (FrM.c (FrM.c (FrM.a FrM.rf rfl rfl) hE284_5210 rfl) hFc5214 rfl) hFc5216 rfl) rfl) (by have q0 := (((hFc5216.1 4 rfl).trans rfl) : Pc5216 0 4 = (Pc5214 0 4)); have q1 := b0_4 hBc5214; omega)
                        · exact g_retV dX12_conIs_291 rfl (hQ _ hB284_5210 (FrM.c (FrM.a (FrM.a (FrM.a (FrM.c (FrM.c (FrM.c (FrM.c (FrM.a (FrM.a (FrM.a (FrM.a (FrM.a (FrM.c (FrM.c (FrM.c FrM.rf hE32_2615 rfl) hFc4357 rfl) hFc4361 rfl) rfl rfl) rfl rfl) rfl rfl) rfl rfl) rfl rfl) hFc4370 rfl) hE159_4371 rfl) hE194_5186 rfl) hFc5188 rfl) rfl rfl) rfl rfl) rfl rfl) hE284_5210 rfl) (by have q0 := (((hE284_5210.1 3 rfl).trans ((up_o (by decide)).trans ((up_o (by decide)).trans ((up_o (by decide)).trans ((hFc5188.1 3 rfl).trans ((hE194_5186.1 3 rfl).trans rfl)))))) : H284_5210 0 3 = (H159_4371 0 3)); have q1 := b0_3 hB159_4371; have q2 := (((hE284_5210.1 4 rfl).trans ((up_o (by decide)).trans ((up_o (by decide)).trans ((up_o (by decide)).trans ((hFc5188.1 4 rfl).trans ((hE194_5186.1 4 rfl).trans rfl)))))) : H284_5210 0 4 = (H159_4371 0 4)); have q3 := b0_4 hB159_4371; have q4 := (((hE284_5210.1 5 rfl).trans ((up_o (by decide)).trans ((up_o (by decide)).trans ((up_o (by decide)).trans ((hFc5188.1 5 rfl).trans ((hE194_5186.1 5 rfl).trans rfl)))))) : H284_5210 0 5 = (H159_4371 0 5)); have q5 := b0_5 hB159_4371; omega) (by have q0 := (((hE284_5210.1 4 rfl).trans ((up_o (by decide)).trans ((up_o (by decide)).trans ((up_o (by decide)).trans ((hFc5188.1 4 rfl).trans ((hE194_5186.1 4 rfl).trans rfl)))))) : H284_5210 0 4 = (H159_4371 0 4)); have q1 := b0_4 hB159_4371; omega) (by have q0 := b0_8 hB284_5210; omega) (KVP.fr (F := ([3, 4, 5, 6, 7, 8, 9, 12], [6, 7, 8, 9, 10, 23])) v_KVP (FrM.c (FrM.a (FrM.a (FrM.a (FrM.c (FrM.c (FrM.c (FrM.c (FrM.a (FrM.a (FrM.a (FrM.a (FrM.a (FrM.c (FrM.c (FrM.c FrM.rf hE32_2615 rfl) hFc4357 rfl) hFc4361 rfl) rfl rfl) rfl rfl) rfl rfl) rfl rfl) rfl rfl) hFc4370 rfl) hE159_4371 rfl) hE194_5186 rfl) hFc5188 rfl) rfl rfl) rfl rfl) rfl rfl) hE284_5210 rfl) rfl) (KC.fr (F := ([3, 4, 5, 6, 7, 8, 9, 12], [6, 7, 8, 9, 10, 23])) v_KC (FrM.c (FrM.a (FrM.a (FrM.a (FrM.c (FrM.c (FrM.c (FrM.c (FrM.a (FrM.a (FrM.a (FrM.a (FrM.a (FrM.c (FrM.c (FrM.c FrM.rf hE32_2615 rfl) hFc4357 rfl) hFc4361 rfl) rfl rfl) rfl rfl) rfl rfl) rfl rfl) rfl rfl) hFc4370 rfl) hE159_4371 rfl) hE194_5186 rfl) hFc5188 rfl) rfl rfl) rfl rfl) rfl rfl) hE284_5210 rfl) rfl) (CF.fr (F := ([8, 9], [10])) iv5195 (FrM.c (FrM.a FrM.rf rfl rfl) hE284_5210 rfl) rfl))
                      refine g_icmp_le (tgt := 284) dX12_conIs_272 (by decide) ⟨by have q0 := bl_3 (k := ((4 * (P 0 37)) + ((P 2 (P 0 37)) - 1))) hB; omega, by have q0 := bl_3 (k := ((4 * (P 0 37)) + ((P 2 (P 0 37)) - 1))) hB; omega⟩ (by decide) (fun k5218 => ?_) (fun k5218 => ?_)
                      · refine g_forget (l1 := [(0, vR 0), (1, vI ((P 2 (P 0 37)) - 1)), (4, vI ((24 * (P 0 37)) + (P 5 (P 0 37)))), (5, vI (P 3 ((4 * (P 0 37)) + ((P 2 (P 0 37)) - 1))))]) (by intro q hq; simp only [List.mem_cons, List.not_mem_nil, or_false] at hq ⊢; rcases hq with rfl | rfl | rfl | rfl <;> simp) ?_
                        exact J284_5210 _ hB5199 FrM.rf (by have q0 := (((up_o (by decide)).trans ((up_o (by decide)).trans ((up_o (by decide)).trans rfl))) : (up (up (up Pc5188 8 ((2 * ((24 * (P 0 37)) + (P 5 (P 0 37)))) + (H159_4371 7 ((24 * (P 0 37)) + (P 5 (P 0 37))))) rc5188) 7 ((24 * (P 0 37)) + (P 5 (P 0 37))) ((H159_4371 7 ((24 * (P 0 37)) + (P 5 (P 0 37)))) + 1)) 10 ((24 * (P 0 37)) + (P 5 (P 0 37))) w5198) 0 8 = (Pc5188 0 8)); have q1 := b0_8 hBc5188; omega) (by have q0 := (((up_o (by decide)).trans ((up_o (by decide)).trans ((up_o (by decide)).trans ((hFc5188.1 4 rfl).trans ((hE194_5186.1 4 rfl).trans rfl))))) : (up (up (up Pc5188 8 ((2 * ((24 * (P 0 37)) + (P 5 (P 0 37)))) + (H159_4371 7 ((24 * (P 0 37)) + (P 5 (P 0 37))))) rc5188) 7 ((24 * (P 0 37)) + (P 5 (P 0 37))) ((H159_4371 7 ((24 * (P 0 37)) + (P 5 (P 0 37)))) + 1)) 10 ((24 * (P 0 37)) + (P 5 (P 0 37))) w5198) 0 4 = (H159_4371 0 4)); have q1 := b0_4 hB159_4371; omega) (by have q0 := (((up_o (by decide)).trans ((up_o (by decide)).trans ((up_o (by decide)).trans ((hFc5188.1 3 rfl).trans ((hE194_5186.1 3 rfl).trans rfl))))) : (up (up (up Pc5188 8 ((2 * ((24 * (P 0 37)) + (P 5 (P 0 37)))) + (H159_4371 7 ((24 * (P 0 37)) + (P 5 (P 0 37))))) rc5188) 7 ((24 * (P 0 37)) + (P 5 (P 0 37))) ((H159_4371 7 ((24 * (P 0 37)) + (P 5 (P 0 37)))) + 1)) 10 ((24 * (P 0 37)) + (P 5 (P 0 37))) w5198) 0 3 = (H159_4371 0 3)); have q1 := b0_3 hB159_4371; have q2 := (((up_o (by decide)).trans ((up_o (by decide)).trans ((up_o (by decide)).trans ((hFc5188.1 4 rfl).trans ((hE194_5186.1 4 rfl).trans rfl))))) : (up (up (up Pc5188 8 ((2 * ((24 * (P 0 37)) + (P 5 (P 0 37)))) + (H159_4371 7 ((24 * (P 0 37)) + (P 5 (P 0 37))))) rc5188) 7 ((24 * (P 0 37)) + (P 5 (P 0 37))) ((H159_4371 7 ((24 * (P 0 37)) + (P 5 (P 0 37)))) + 1)) 10 ((24 * (P 0 37)) + (P 5 (P 0 37))) w5198) 0 4 = (H159_4371 0 4)); have q3 := b0_4 hB159_4371; have q4 := (((up_o (by decide)).trans ((up_o (by decide)).trans ((up_o (by decide)).trans ((hFc5188.1 5 rfl).trans ((hE194_5186.1 5 rfl).trans rfl))))) : (up (up (up Pc5188 8 ((2 * ((24 * (P 0 37)) + (P 5 (P 0 37)))) + (H159_4371 7 ((24 * (P 0 37)) + (P 5 (P 0 37))))) rc5188) 7 ((24 * (P 0 37)) + (P 5 (P 0 37))) ((H159_4371 7 ((24 * (P 0 37)) + (P 5 (P 0 37)))) + 1)) 10 ((24 * (P 0 37)) + (P 5 (P 0 37))) w5198) 0 5 = (H159_4371 0 5)); have q5 := b0_5 hB159_4371; omega)
                      · refine g_aload_n dX12_conIs_275 rfl ?_
                        refine g_iconst dX12_conIs_276 ?_
                        refine g_aload_n dX12_conIs_277 rfl ?_
                        refine m_g4 (z := (H159_4371 0 4)) rfl dX12_conIs_278 ((up_o (by decide)).trans ((up_o (by decide)).trans ((up_o (by decide)).trans ((hFc5188.1 4 rfl).trans ((hE194_5186.1 4 rfl).trans rfl))))) ?_
                        have f5219 := b0_4 hB159_4371
                        refine g_vV (av := [vI 4, vI (H159_4371 0 4)]) (o := 0) (st := []) (m_X12_blame G (up (up (up Pc5188 8 ((2 * ((24 * (P 0 37)) + (P 5 (P 0 37)))) + (H159_4371 7 ((24 * (P 0 37)) + (P 5 (P 0 37))))) rc5188) 7 ((24 * (P 0 37)) + (P 5 (P 0 37))) ((H159_4371 7 ((24 * (P 0 37)) + (P 5 (P 0 37)))) + 1)) 10 ((24 * (P 0 37)) + (P 5 (P 0 37))) w5198) 4 (H159_4371 0 4) (by decide) ⟨by have q0 := b0_4 hB159_4371; omega, by have q0 := b0_4 hB159_4371; omega⟩ hB5199  _ (fun Pc5220 hBc5220 hFc5220 gc5220_f gc5220_pe => ⟨rfl, ?_⟩)) cf_X12_blame t_1701 rfl (by decide) rfl rfl rfl (Nat.le_of_ble_eq_true rfl) (by decide) rfl dX12_conIs_281
                        have z5221 : (up (up (up Pc5188 8 ((2 * ((24 * (P 0 37)) + (P 5 (P 0 37)))) + (H159_4371 7 ((24 * (P 0 37)) + (P 5 (P 0 37))))) rc5188) 7 ((24 * (P 0 37)) + (P 5 (P 0 37))) ((H159_4371 7 ((24 * (P 0 37)) + (P 5 (P 0 37)))) + 1)) 10 ((24 * (P 0 37)) + (P 5 (P 0 37))) w5198) 0 8 = (Pc5188 0 8) := ((up_o (by decide)).trans ((up_o (by decide)).trans ((up_o (by decide)).trans rfl)))
                        refine g_forget (l1 := [(0, vR 0), (1, vI ((P 2 (P 0 37)) - 1)), (4, vI ((24 * (P 0 37)) + (P 5 (P 0 37)))), (5, vI (P 3 ((4 * (P 0 37)) + ((P 2 (P 0 37)) - 1))))]) (by intro q hq; simp only [List.mem_cons, List.not_mem_nil, or_false] at hq ⊢; rcases hq with rfl | rfl | rfl | rfl <;> simp) ?_
                        exact J284_5210 _ hBc5220 (FrM.c FrM.rf hFc5220 rfl) (by have q0 := b0_8 hBc5220; omega) (by have q0 := (((hFc5220.1 4 rfl).trans ((up_o (by decide)).trans ((up_o (by decide)).trans ((up_o (by decide)).trans ((hFc5188.1 4 rfl).trans ((hE194_5186.1 4 rfl).trans rfl)))))) : Pc5220 0 4 = (H159_4371 0 4)); have q1 := b0_4 hB159_4371; omega) (by have q0 := (((hFc5220.1 3 rfl).trans ((up_o (by decide)).trans ((up_o (by decide)).trans ((up_o (by decide)).trans ((hFc5188.1 3 rfl).trans ((hE194_5186.1 3 rfl).trans rfl)))))) : Pc5220 0 3 = (H159_4371 0 3)); have q1 := b0_3 hB159_4371; have q2 := (((hFc5220.1 4 rfl).trans ((up_o (by decide)).trans ((up_o (by decide)).trans ((up_o (by decide)).trans ((hFc5188.1 4 rfl).trans ((hE194_5186.1 4 rfl).trans rfl)))))) : Pc5220 0 4 = (H159_4371 0 4)); have q3 := b0_4 hB159_4371; have q4 := (((hFc5220.1 5 rfl).trans ((up_o (by decide)).trans ((up_o (by decide)).trans ((up_o (by decide)).trans ((hFc5188.1 5 rfl).trans ((hE194_5186.1 5 rfl).trans rfl)))))) : Pc5220 0 5 = (H159_4371 0 5)); have q5 := b0_5 hB159_4371; omega)
                    · exact g_retV dX12_conIs_208 rfl (hQ _ hBc5188 (FrM.c (FrM.c (FrM.c (FrM.c (FrM.a (FrM.a (FrM.a (FrM.a (FrM.a (FrM.c (FrM.c (FrM.c FrM.rf hE32_2615 rfl) hFc4357 rfl) hFc4361 rfl) rfl rfl) rfl rfl) rfl rfl) rfl rfl) rfl rfl) hFc4370 rfl) hE159_4371 rfl) hE194_5186 rfl) hFc5188 rfl) (by have q0 := (((hFc5188.1 3 rfl).trans ((hE194_5186.1 3 rfl).trans rfl)) : Pc5188 0 3 = (H159_4371 0 3)); have q1 := b0_3 hB159_4371; have q2 := (((hFc5188.1 4 rfl).trans ((hE194_5186.1 4 rfl).trans rfl)) : Pc5188 0 4 = (H159_4371 0 4)); have q3 := b0_4 hB159_4371; have q4 := (((hFc5188.1 5 rfl).trans ((hE194_5186.1 5 rfl).trans rfl)) : Pc5188 0 5 = (H159_4371 0 5)); have q5 := b0_5 hB159_4371; omega) (by have q0 := (((hFc5188.1 4 rfl).trans ((hE194_5186.1 4 rfl).trans rfl)) : Pc5188 0 4 = (H159_4371 0 4)); have q1 := b0_4 hB159_4371; omega) (by have q0 := b0_8 hBc5188; omega) (KVP.fr (F := ([3, 4, 5, 6, 7, 8, 9, 12], [6, 7, 8, 9, 10, 23])) v_KVP (FrM.c (FrM.c (FrM.c (FrM.c (FrM.a (FrM.a (FrM.a (FrM.a (FrM.a (FrM.c (FrM.c (FrM.c FrM.rf hE32_2615 rfl) hFc4357 rfl) hFc4361 rfl) rfl rfl) rfl rfl) rfl rfl) rfl rfl) rfl rfl) hFc4370 rfl) hE159_4371 rfl) hE194_5186 rfl) hFc5188 rfl) rfl) (KC.fr (F := ([3, 4, 5, 6, 7, 8, 9, 12], [6, 7, 8, 9, 10, 23])) v_KC (FrM.c (FrM.c (FrM.c (FrM.c (FrM.a (FrM.a (FrM.a (FrM.a (FrM.a (FrM.c (FrM.c (FrM.c FrM.rf hE32_2615 rfl) hFc4357 rfl) hFc4361 rfl) rfl rfl) rfl rfl) rfl rfl) rfl rfl) rfl rfl) hFc4370 rfl) hE159_4371 rfl) hE194_5186 rfl) hFc5188 rfl) rfl) (CF.fr (F := ([8, 9], [])) w159_CF_4371 (FrM.c (FrM.c FrM.rf hE194_5186 rfl) hFc5188 rfl) rfl))
                  refine g_icmp_ne (tgt := 194) dX12_conIs_181 (by decide) ⟨by have q0 := bl_7 (k := ((24 * (P 0 37)) + (P 5 (P 0 37)))) hB159_4371; omega, by have q0 := bl_7 (k := ((24 * (P 0 37)) + (P 5 (P 0 37)))) hB159_4371; omega⟩ (by decide) (fun k5222 => ?_) (fun k5222 => ?_)
                  · refine g_forget (l1 := [(0, vR 0), (1, vI ((P 2 (P 0 37)) - 1)), (4, vI ((24 * (P 0 37)) + (P 5 (P 0 37)))), (5, vI (P 3 ((4 * (P 0 37)) + ((P 2 (P 0 37)) - 1))))]) (by intro q hq; simp only [List.mem_cons, List.not_mem_nil, or_false] at hq ⊢; rcases hq with rfl | rfl | rfl | rfl <;> simp) ?_
                    exact J194_5186 _ hB159_4371 FrM.rf (by have q0 := b0_8 hB159_4371; have q1 := bl_7 (k := ((24 * (P 0 37)) + (P 5 (P 0 37)))) hB159_4371; omega) (by have q0 := b0_8 hB159_4371; omega) (by have q0 := b0_4 hB159_4371; omega) (by have q0 := b0_3 hB159_4371; have q1 := b0_4 hB159_4371; have q2 := b0_5 hB159_4371; omega)
                  · refine g_aload_n dX12_conIs_184 rfl ?_
                    refine g_bipush dX12_conIs_185 (by decide) ?_
                    refine g_aload_n dX12_conIs_187 rfl ?_
                    refine m_g4 (z := (H159_4371 0 4)) rfl dX12_conIs_188 rfl ?_
                    have f5223 := b0_4 hB159_4371
                    refine g_vV (av := [vI 6, vI (H159_4371 0 4)]) (o := 0) (st := []) (m_X12_blame G H159_4371 6 (H159_4371 0 4) (by decide) ⟨by have q0 := b0_4 hB159_4371; omega, by have q0 := b0_4 hB159_4371; omega⟩ hB159_4371  _ (fun Pc5224 hBc5224 hFc5224 gc5224_f gc5224_pe => ⟨rfl, ?_⟩)) cf_X12_blame t_1701 rfl (by decide) rfl rfl rfl (Nat.le_of_ble_eq_true rfl) (by decide) rfl dX12_conIs_191
                    refine g_forget (l1 := [(0, vR 0), (1, vI ((P 2 (P 0 37)) - 1)), (4, vI ((24 * (P 0 37)) + (P 5 (P 0 37)))), (5, vI (P 3 ((4 * (P 0 37)) + ((P 2 (P 0 37)) - 1))))]) (by intro q hq; simp only [List.mem_cons, List.not_mem_nil, or_false] at hq ⊢; rcases hq with rfl | rfl | rfl | rfl <;> simp) ?_
                    exact J194_5186 _ hBc5224 (FrM.c FrM.rf hFc5224 rfl) (by have q0 := b0_8 hBc5224; have q1 := (((congrFun (hFc5224.2 7 rfl rfl) _).trans rfl) : Pc5224 7 ((24 * (P 0 37)) + (P 5 (P 0 37))) = (H159_4371 7 ((24 * (P 0 37)) + (P 5 (P 0 37))))); have q2 := bl_7 (k := ((24 * (P 0 37)) + (P 5 (P 0 37)))) hB159_4371; omega) (by have q0 := b0_8 hBc5224; omega) (by have q0 := (((hFc5224.1 4 rfl).trans rfl) : Pc5224 0 4 = (H159_4371 0 4)); have q1 := b0_4 hB159_4371; omega) (by have q0 := (((hFc5224.1 3 rfl).trans rfl) : Pc5224 0 3 = (H159_4371 0 3)); have q1 := b0_3 hB159_4371; have q2 := (((hFc5224.1 4 rfl).trans rfl) : Pc5224 0 4 = (H159_4371 0 4)); have q3 := b0_4 hB159_4371; have q4 := (((hFc5224.1 5 rfl).trans rfl) : Pc5224 0 5 = (H159_4371 0 5)); have q5 := b0_5 hB159_4371; omega)
            refine g_forget (l1 := [(0, vR 0), (1, vI ((P 2 (P 0 37)) - 1)), (4, vI ((24 * (P 0 37)) + (P 5 (P 0 37)))), (5, vI (P 3 ((4 * (P 0 37)) + ((P 2 (P 0 37)) - 1))))]) (by intro q hq; simp only [List.mem_cons, List.not_mem_nil, or_false] at hq ⊢; rcases hq with rfl | rfl | rfl | rfl <;> simp) ?_
            exact L159_4371 _ _ hBc4370 FrM.rf (by have q0 := (((congrFun (hFc4370.2 10 rfl rfl) _).trans up_same) : Pc4370 10 ((24 * (P 0 37)) + (P 5 (P 0 37))) = 1); have q1 := (((congrFun (hFc4370.2 7 rfl rfl) _).trans ((up_o (by decide)).trans ((up_o (by decide)).trans up_same))) : Pc4370 7 ((24 * (P 0 37)) + (P 5 (P 0 37))) = 0); omega) (by have q0 := (((congrFun (hFc4370.2 10 rfl rfl) _).trans up_same) : Pc4370 10 ((24 * (P 0 37)) + (P 5 (P 0 37))) = 1); omega) (by have q0 := b0_8 hBc4370; omega) (by have q0 := (((hFc4370.1 4 rfl).trans ((up_o (by decide)).trans ((up_o (by decide)).trans ((up_o (by decide)).trans ((up_o (by decide)).trans ((up_o (by decide)).trans rfl)))))) : Pc4370 0 4 = (Pc4361 0 4)); have q1 := b0_4 hBc4361; omega) (by have q0 := (((hFc4370.1 3 rfl).trans ((up_o (by decide)).trans ((up_o (by decide)).trans ((up_o (by decide)).trans ((up_o (by decide)).trans ((up_o (by decide)).trans rfl)))))) : Pc4370 0 3 = (Pc4361 0 3)); have q1 := b0_3 hBc4361; have q2 := (((hFc4370.1 4 rfl).trans ((up_o (by decide)).trans ((up_o (by decide)).trans ((up_o (by decide)).trans ((up_o (by decide)).trans ((up_o (by decide)).trans rfl)))))) : Pc4370 0 4 = (Pc4361 0 4)); have q3 := b0_4 hBc4361; have q4 := (((hFc4370.1 5 rfl).trans ((up_o (by decide)).trans ((up_o (by decide)).trans ((up_o (by decide)).trans ((up_o (by decide)).trans ((up_o (by decide)).trans rfl)))))) : Pc4370 0 5 = (Pc4361 0 5)); have q5 := b0_5 hBc4361; omega) (CF.fr (F := ([8, 9], [9, 10])) iv4367 (FrM.c (FrM.a (FrM.a FrM.rf rfl rfl) rfl rfl) hFc4370 rfl) rfl) (Nat.lt_succ_self _)
          · exact g_retV dX12_conIs_79 rfl (hQ _ hBc4361 (FrM.c (FrM.c (FrM.c FrM.rf hE32_2615 rfl) hFc4357 rfl) hFc4361 rfl) (by have q0 := b0_3 hBc4361; have q1 := b0_4 hBc4361; have q2 := b0_5 hBc4361; omega) (by have q0 := b0_4 hBc4361; omega) (by have q0 := b0_8 hBc4361; omega) (KVP.fr (F := ([3, 4, 5, 6, 7, 8, 9, 12], [])) v_KVP (FrM.c (FrM.c (FrM.c FrM.rf hE32_2615 rfl) hFc4357 rfl) hFc4361 rfl) rfl) (KC.fr (F := ([3, 4, 5, 6, 7, 8, 9, 12], [])) v_KC (FrM.c (FrM.c (FrM.c FrM.rf hE32_2615 rfl) hFc4357 rfl) hFc4361 rfl) rfl) (CF.fr (F := ([3, 4, 5, 6, 7, 8, 9, 12], [])) v_CF (FrM.c (FrM.c (FrM.c FrM.rf hE32_2615 rfl) hFc4357 rfl) hFc4361 rfl) rfl))
        · exact g_retV dX12_conIs_66 rfl (hQ _ hBc4357 (FrM.c (FrM.c FrM.rf hE32_2615 rfl) hFc4357 rfl) (by have q0 := b0_3 hBc4357; have q1 := b0_4 hBc4357; have q2 := b0_5 hBc4357; omega) (by have q0 := b0_4 hBc4357; omega) (by have q0 := b0_8 hBc4357; omega) (KVP.fr (F := ([3, 4, 5, 6, 7, 8, 9, 12], [])) v_KVP (FrM.c (FrM.c FrM.rf hE32_2615 rfl) hFc4357 rfl) rfl) (KC.fr (F := ([3, 4, 5, 6, 7, 8, 9, 12], [])) v_KC (FrM.c (FrM.c FrM.rf hE32_2615 rfl) hFc4357 rfl) rfl) (CF.fr (F := ([3, 4, 5, 6, 7, 8, 9, 12], [])) v_CF (FrM.c (FrM.c FrM.rf hE32_2615 rfl) hFc4357 rfl) rfl))
  have J23_5224 : ∀ (_ : True), Go WSM G 4 iX12_conIs 23 [(0, vR 0), (1, vI ((P 2 (P 0 37)) - 1))] [] P Q := by
    intro _
    refine g_aload_n dX12_conIs_23 rfl ?_
    refine g_iconst dX12_conIs_24 ?_
    refine g_aload_n dX12_conIs_25 rfl ?_
    refine m_g4 (z := (P 0 4)) rfl dX12_conIs_26 rfl ?_
    have f5226 := b0_4 hB
    refine g_vV (av := [vI 1, vI (P 0 4)]) (o := 0) (st := []) (m_X12_blame G P 1 (P 0 4) (by decide) ⟨by have q0 := b0_4 hB; omega, by have q0 := b0_4 hB; omega⟩ hB  _ (fun Pc5227 hBc5227 hFc5227 gc5227_f gc5227_pe => ⟨rfl, ?_⟩)) cf_X12_blame t_1701 rfl (by decide) rfl rfl rfl (Nat.le_of_ble_eq_true rfl) (by decide) rfl dX12_conIs_29
    refine g_forget (l1 := [(0, vR 0), (1, vI ((P 2 (P 0 37)) - 1))]) (by intro q hq; simp only [List.mem_cons, List.not_mem_nil, or_false] at hq ⊢; rcases hq with rfl | rfl <;> simp) ?_
    exact J32_2615 _ hBc5227 (FrM.c FrM.rf hFc5227 rfl) (by have q0 := b0_8 hBc5227; omega) (by have q0 := b0_8 hBc5227; omega) (by have q0 := (((hFc5227.1 4 rfl).trans rfl) : Pc5227 0 4 = (P 0 4)); have q1 := b0_4 hB; omega) (by have q0 := (((hFc5227.1 3 rfl).trans rfl) : Pc5227 0 3 = (P 0 3)); have q1 := b0_3 hB; have q2 := (((hFc5227.1 4 rfl).trans rfl) : Pc5227 0 4 = (P 0 4)); have q3 := b0_4 hB; have q4 := (((hFc5227.1 5 rfl).trans rfl) : Pc5227 0 5 = (P 0 5)); have q5 := b0_5 hB; omega)
  refine g_if_ne (tgt := 23) dX12_conIs_16 (by decide) ⟨by have q0 := b0_38 hB; omega, by have q0 := b0_38 hB; omega⟩ (fun k5228 => ?_) (fun k5228 => ?_)
  · refine g_forget (l1 := [(0, vR 0), (1, vI ((P 2 (P 0 37)) - 1))]) (by intro q hq; simp only [List.mem_cons, List.not_mem_nil, or_false] at hq ⊢; rcases hq with rfl | rfl <;> simp) ?_
    exact J23_5224 trivial
  · refine g_iload_n dX12_conIs_19 rfl ?_
    have f5229 := bl_2 (k := (P 0 37)) hB
    refine g_if_ge (tgt := 32) dX12_conIs_20 (by decide) ⟨by have q0 := bl_2 (k := (P 0 37)) hB; omega, by have q0 := bl_2 (k := (P 0 37)) hB; omega⟩ (fun k5230 => ?_) (fun k5230 => ?_)
    · refine g_forget (l1 := [(0, vR 0), (1, vI ((P 2 (P 0 37)) - 1))]) (by intro q hq; simp only [List.mem_cons, List.not_mem_nil, or_false] at hq ⊢; rcases hq with rfl | rfl <;> simp) ?_
      exact J32_2615 _ hB FrM.rf (by have q0 := b0_8 hB; omega) (by have q0 := b0_8 hB; omega) (by have q0 := b0_4 hB; omega) (by have q0 := b0_3 hB; have q1 := b0_4 hB; have q2 := b0_5 hB; omega)
    · refine g_forget (l1 := [(0, vR 0), (1, vI ((P 2 (P 0 37)) - 1))]) (by intro q hq; simp only [List.mem_cons, List.not_mem_nil, or_false] at hq ⊢; rcases hq with rfl | rfl <;> simp) ?_
      exact J23_5224 trivial
