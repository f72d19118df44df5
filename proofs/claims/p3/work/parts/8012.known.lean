/-! What the reference answers: X12_known. -/
set_option maxRecDepth 100000 in
set_option maxHeartbeats 4000000 in
theorem f_X12_known (G : GT) (P : PH) (T : TT) (K : PH) (p : Int) (a1 : Int) (h_a1 : (-1) ≤ a1 ∧ a1 ≤ 4) (hB : BdM P) (p_lx : (P 0 3 = 0 ∨ P 0 4 + 1 ≤ P 0 5) ∧ P 0 4 ≤ P 0 5) (p_aw : AW K) (p_kw : tK T p = 1 ∧ (tO T p = -1 ∨ tO T p = 7)) (z0 : MS T p P) (z1 : MK K P) (Q : Option PV → PH → Prop) (hQ : ∀ (r : Int) (_ : 0 ≤ r ∧ r ≤ 4) (P1 : PH) (_ : BdM P1) (_ : FrM ([8, 9], []) P P1) (_ : (P1 0 3 = 0 ∨ P1 0 4 + 1 ≤ P1 0 5) ∧ P1 0 4 ≤ P1 0 5) (_ : P 0 4 ≤ P1 0 4) (_ : P 0 8 ≤ 0 ∨ 0 < P1 0 8) (_ : 0 < P1 0 8 ∨ r = 4 ∨ (r < a1 ∧ 1 ≤ P1 3 (4 * P 0 37 + r) ∧ r < P1 2 (P 0 37))) (_ : (0 < P 0 8 ∧ P1 0 8 = P 0 8 ∧ P1 0 9 = P 0 9) ∨ (P 0 8 ≤ 0 ∧ tO T p = -1 ∧ (kHe T K p = -1 ∨ a1 ≤ kHe T K p ∨ K 2 (kHe T K p) = 0) ∧ P1 0 8 = 3 ∧ P1 0 9 = tA T p) ∨ (P 0 8 ≤ 0 ∧ P1 0 8 = 0 ∧ ((tO T p = 7 ∧ r = 4 ∧ kHe T K p = -1) ∨ (tO T p = -1 ∧ r = kHe T K p ∧ 0 ≤ r ∧ r ≤ 3 ∧ r < a1 ∧ 1 ≤ K 2 (kHe T K p))))), Q (some (vI r)) P1) : Ct WSM G 3 iX12_known [vR 0, vI a1] P Q := by
  refine Ct.of (by decide) (l0 := [(0, vR 0), (1, vI a1)]) rfl (Nat.le_of_ble_eq_true rfl) ?_
  have hat := z0.at.1
  have hs3 := (z0.tok (by omega)).1
  have hwd := z0.word (by omega)
  have ho7 : tW T p = 7239021 ↔ tO T p = 7 := ⟨fun h => (own_is 7 (by decide) 7239021 (by decide +kernel)).mp ⟨p_kw.1, h⟩, fun h => ((own_is 7 (by decide) 7239021 (by decide +kernel)).mpr h).2⟩
  have hmb := z1.b.1
  have hkb := (kHe_b (T := T) p_aw p).1
  refine g_aload_n dX12_known_0 rfl ?_
  refine g_vV (av := []) (o := 0) (st := []) (f_X12_lex G P (T) (p)  hB ((fun h0 => by first | exact z0 | (exfalso; omega))) _ (fun Pc1 hBc1 hFc1 gc1_pe gc1_l => ⟨rfl, ?_⟩)) cf_X12_lex t_1697 rfl (by decide) rfl rfl rfl (Nat.le_of_ble_eq_true rfl) (by decide) rfl dX12_known_1
  have hl8 : Pc1 0 8 = P 0 8 ∧ Pc1 0 9 = P 0 9 := by omega
  clear gc1_l
  refine g_aload_n dX12_known_4 rfl ?_
  refine m_g8 (z := (Pc1 0 8)) rfl dX12_known_5 rfl ?_
  have f2 := b0_8 hBc1
  refine g_if_le (tgt := 13) dX12_known_8 (by decide) ⟨by have q0 := b0_8 hBc1; omega, by have q0 := b0_8 hBc1; omega⟩ (fun k3 => ?_) (fun k3 => ?_)
  · refine g_aload_n dX12_known_13 rfl ?_
    refine g_ldc2 (z := 7239021) dX12_known_14 t_1732 (by decide) ?_
    refine g_vI (av := [vL 7239021]) (o := 0) (st := []) (f_X12_isWord G Pc1 (T) (p) 7239021 (by decide) hBc1 ((MS.fr (F := ([8, 9], [])) z0 (FrM.c FrM.rf hFc1 rfl) rfl)) _ (fun rc4 hc4 gc4_w gc4_f => ⟨rc4, rfl, ?_⟩)) cf_X12_isWord t_1706 rfl (by decide) rfl rfl rfl (Nat.le_of_ble_eq_true rfl) (by decide) rfl dX12_known_17
    have z5 : Pc1 0 3 = (P 0 3) := ((hFc1.1 3 rfl).trans rfl)
    have z6 : Pc1 0 7 = (P 0 7) := ((hFc1.1 7 rfl).trans rfl)
    have hw7 : (rc4 = 1 ∧ tO T p = 7 ∧ kHe T K p = -1) ∨ (rc4 = 0 ∧ tO T p = -1) := by have q := kHe_s T K p; omega
    clear gc4_f ho7
    refine g_istore_n (l1 := [(2, vI rc4), (0, vR 0), (1, vI a1)]) dX12_known_20 (by decide) rfl ?_
    refine g_aload_n dX12_known_21 rfl ?_
    refine m_g3 (z := (P 0 3)) rfl dX12_known_22 ((hFc1.1 3 rfl).trans rfl) ?_
    refine g_iconst dX12_known_25 ?_
    have f7 := b0_3 hB
    refine g_icmp_ne (tgt := 44) dX12_known_26 (by decide) ⟨by have q0 := b0_3 hB; omega, by have q0 := b0_3 hB; omega⟩ (by decide) (fun k8 => ?_) (fun k8 => ?_)
    · exfalso; omega
    · refine g_aload_n dX12_known_29 rfl ?_
      refine g_aload_n dX12_known_30 rfl ?_
      refine m_g7 (z := (P 0 7)) rfl dX12_known_31 ((hFc1.1 7 rfl).trans rfl) ?_
      have f9 := b0_7 hB
      refine g_vI (av := [vL (P 0 7)]) (o := 0) (st := []) (f_X12_isOwn G Pc1 (P 0 7) ⟨by have q0 := b0_7 hB; omega, by have q0 := b0_7 hB; omega⟩ hBc1  _ (fun rc10 hc10 gc10_o => ⟨rc10, rfl, ?_⟩)) cf_X12_isOwn t_1722 rfl (by decide) rfl rfl rfl (Nat.le_of_ble_eq_true rfl) (by decide) rfl dX12_known_34
      have hown := own_r (T := T) (p := p) gc10_o (fun h1 => by have q := (((hFc1.1 7 rfl).trans rfl) : Pc1 0 7 = (P 0 7)); omega) (by omega)
      clear gc10_o
      refine g_if_eq (tgt := 53) dX12_known_37 (by decide) ⟨by omega, by omega⟩ (fun k11 => ?_) (fun k11 => ?_)
      · refine g_aload_n dX12_known_53 rfl ?_
        refine m_g8 (z := (Pc1 0 8)) rfl dX12_known_54 rfl ?_
        refine g_if_gt (tgt := 64) dX12_known_57 (by decide) ⟨by have q0 := b0_8 hBc1; omega, by have q0 := b0_8 hBc1; omega⟩ (fun k12 => by exfalso; have q0 := b0_8 hBc1; omega) (fun k12 => ?_)
        refine g_iload_n dX12_known_60 rfl ?_
        refine g_if_eq (tgt := 68) dX12_known_61 (by decide) ⟨by omega, by omega⟩ (fun k13 => ?_) (fun k13 => ?_)
        · refine g_aload_n dX12_known_68 rfl ?_
          refine g_aload_n dX12_known_69 rfl ?_
          refine m_g7 (z := (P 0 7)) rfl dX12_known_70 ((hFc1.1 7 rfl).trans rfl) ?_
          refine g_vI (av := [vL (P 0 7)]) (o := 0) (st := []) (f_X12_kindNamed G Pc1 (P 0 7) ⟨by have q0 := b0_7 hB; omega, by have q0 := b0_7 hB; omega⟩ hBc1  _ (fun rc14 hc14 gc14_k gc14_fx => ⟨rc14, rfl, ?_⟩)) cf_X12_kindNamed t_1736 rfl (by decide) rfl rfl rfl (Nat.le_of_ble_eq_true rfl) (by decide) rfl dX12_known_73
          have z15 : Pc1 0 37 = (P 0 37) := ((hFc1.1 37 rfl).trans rfl)
          have ek37 := (((hFc1.1 37 rfl).trans rfl) : Pc1 0 37 = (P 0 37))
          try rw [ek37] at gc14_k
          have ek2 := (((congrFun (hFc1.2 2 rfl rfl) _).trans rfl) : Pc1 2 (P 0 37) = (P 2 (P 0 37)))
          try rw [ek2] at gc14_k
          have hkn : rc14 = kNm K (tV T p) := by
            have q := gc14_fx
            rw [hwd, ((MK.fr (F := ([8, 9], [])) z1 (FrM.c FrM.rf hFc1 rfl) rfl)).kn p_aw (NW.tok (T := T) (p := p) (by omega))] at q
            exact q
          have hkk : kHe T K p = rc14 := by have q := kHe_s T K p; omega
          have hk0 := p_aw.1
          have hv3 : rc14 ≠ -1 → P 3 (4 * P 0 37 + rc14) = K 2 (kHe T K p) := fun h => by rw [hkk]; exact (z1.k (by omega) (by have q := kNm_b p_aw (tV T p); omega)).2.1
          refine g_istore_n (l1 := [(3, vI rc14), (2, vI rc4), (0, vR 0), (1, vI a1)]) dX12_known_76 (by decide) rfl ?_
          refine g_aload_n dX12_known_77 rfl ?_
          refine m_g8 (z := (Pc1 0 8)) rfl dX12_known_78 rfl ?_
          refine g_if_ne (tgt := 123) dX12_known_81 (by decide) ⟨by have q0 := b0_8 hBc1; omega, by have q0 := b0_8 hBc1; omega⟩ (fun k16 => by exfalso; have q0 := b0_8 hBc1; omega) (fun k16 => ?_)
          refine g_iload_n dX12_known_84 rfl ?_
          refine g_if_ne (tgt := 123) dX12_known_85 (by decide) ⟨by omega, by omega⟩ (fun k17 => by exfalso; omega) (fun k17 => ?_)
          refine g_iload_n dX12_known_88 rfl ?_
          refine g_iconst dX12_known_89 ?_
          refine g_icmp_eq (tgt := 114) dX12_known_90 (by decide) ⟨by omega, by omega⟩ (by decide) (fun k18 => ?_) (fun k18 => ?_)
          · refine g_aload_n dX12_known_114 rfl ?_
            refine g_iconst dX12_known_115 ?_
            refine g_aload_n dX12_known_116 rfl ?_
            refine m_g4 (z := (P 0 4)) rfl dX12_known_117 ((hFc1.1 4 rfl).trans rfl) ?_
            have f19 := b0_4 hB
            refine g_vV (av := [vI 3, vI (P 0 4)]) (o := 0) (st := []) (f_X12_blame G Pc1 3 (P 0 4) (by decide) ⟨by have q0 := b0_4 hB; omega, by have q0 := b0_4 hB; omega⟩ hBc1  _ (fun Pc20 hBc20 hFc20 gc20_f gc20_pe gc20_b => ⟨rfl, ?_⟩)) cf_X12_blame t_1701 rfl (by decide) rfl rfl rfl (Nat.le_of_ble_eq_true rfl) (by decide) rfl dX12_known_120
            refine g_aload_n dX12_known_123 rfl ?_
            refine m_g8 (z := (Pc20 0 8)) rfl dX12_known_124 rfl ?_
            have f21 := b0_8 hBc20
            refine g_if_le (tgt := 134) dX12_known_127 (by decide) ⟨by have q0 := b0_8 hBc20; omega, by have q0 := b0_8 hBc20; omega⟩ (fun k22 => by exfalso; have q0 := b0_8 hBc20; omega) (fun k22 => ?_)
            refine g_iconst dX12_known_130 ?_
            refine g_goto (tgt := 135) dX12_known_131 (by decide) ?_
            exact g_retI dX12_known_135 rfl (hQ 4 (by decide) _ hBc20 (FrM.c (FrM.c FrM.rf hFc1 rfl) hFc20 rfl) (by have q0 := (((hFc20.1 3 rfl).trans ((hFc1.1 3 rfl).trans rfl)) : Pc20 0 3 = (P 0 3)); have q1 := b0_3 hB; have q2 := (((hFc20.1 4 rfl).trans ((hFc1.1 4 rfl).trans rfl)) : Pc20 0 4 = (P 0 4)); have q3 := b0_4 hB; have q4 := (((hFc20.1 5 rfl).trans ((hFc1.1 5 rfl).trans rfl)) : Pc20 0 5 = (P 0 5)); have q5 := b0_5 hB; omega) (by have q0 := (((hFc20.1 4 rfl).trans ((hFc1.1 4 rfl).trans rfl)) : Pc20 0 4 = (P 0 4)); have q1 := b0_4 hB; omega) (by have q0 := b0_8 hBc20; omega) (by first | (left; have q8 := (rfl : Pc20 0 8 = (Pc20 0 8)); omega) | (have q2 := (((congrFun (hFc20.2 2 rfl rfl) _).trans ((congrFun (hFc1.2 2 rfl rfl) _).trans rfl)) : Pc20 2 (P 0 37) = (P 2 (P 0 37))); have q3 := (((congrFun (hFc20.2 3 rfl rfl) _).trans ((congrFun (hFc1.2 3 rfl rfl) _).trans rfl)) : Pc20 3 (4 * P 0 37 + 4) = (P 3 (4 * P 0 37 + 4))); omega)) (by have q0 := b0_8 hBc20; have q1 := b0_9 hBc20; omega))
          · refine g_iload_n dX12_known_93 rfl ?_
            refine g_iload_n dX12_known_94 rfl ?_
            refine g_icmp_ge (tgt := 114) dX12_known_95 (by decide) ⟨by omega, by omega⟩ ⟨by omega, by omega⟩ (fun k23 => ?_) (fun k23 => ?_)
            · refine g_aload_n dX12_known_114 rfl ?_
              refine g_iconst dX12_known_115 ?_
              refine g_aload_n dX12_known_116 rfl ?_
              refine m_g4 (z := (P 0 4)) rfl dX12_known_117 ((hFc1.1 4 rfl).trans rfl) ?_
              have f24 := b0_4 hB
              refine g_vV (av := [vI 3, vI (P 0 4)]) (o := 0) (st := []) (f_X12_blame G Pc1 3 (P 0 4) (by decide) ⟨by have q0 := b0_4 hB; omega, by have q0 := b0_4 hB; omega⟩ hBc1  _ (fun Pc25 hBc25 hFc25 gc25_f gc25_pe gc25_b => ⟨rfl, ?_⟩)) cf_X12_blame t_1701 rfl (by decide) rfl rfl rfl (Nat.le_of_ble_eq_true rfl) (by decide) rfl dX12_known_120
              refine g_aload_n dX12_known_123 rfl ?_
              refine m_g8 (z := (Pc25 0 8)) rfl dX12_known_124 rfl ?_
              have f26 := b0_8 hBc25
              refine g_if_le (tgt := 134) dX12_known_127 (by decide) ⟨by have q0 := b0_8 hBc25; omega, by have q0 := b0_8 hBc25; omega⟩ (fun k27 => by exfalso; have q0 := b0_8 hBc25; omega) (fun k27 => ?_)
              refine g_iconst dX12_known_130 ?_
              refine g_goto (tgt := 135) dX12_known_131 (by decide) ?_
              exact g_retI dX12_known_135 rfl (hQ 4 (by decide) _ hBc25 (FrM.c (FrM.c FrM.rf hFc1 rfl) hFc25 rfl) (by have q0 := (((hFc25.1 3 rfl).trans ((hFc1.1 3 rfl).trans rfl)) : Pc25 0 3 = (P 0 3)); have q1 := b0_3 hB; have q2 := (((hFc25.1 4 rfl).trans ((hFc1.1 4 rfl).trans rfl)) : Pc25 0 4 = (P 0 4)); have q3 := b0_4 hB; have q4 := (((hFc25.1 5 rfl).trans ((hFc1.1 5 rfl).trans rfl)) : Pc25 0 5 = (P 0 5)); have q5 := b0_5 hB; omega) (by have q0 := (((hFc25.1 4 rfl).trans ((hFc1.1 4 rfl).trans rfl)) : Pc25 0 4 = (P 0 4)); have q1 := b0_4 hB; omega) (by have q0 := b0_8 hBc25; omega) (by first | (left; have q8 := (rfl : Pc25 0 8 = (Pc25 0 8)); omega) | (have q2 := (((congrFun (hFc25.2 2 rfl rfl) _).trans ((congrFun (hFc1.2 2 rfl rfl) _).trans rfl)) : Pc25 2 (P 0 37) = (P 2 (P 0 37))); have q3 := (((congrFun (hFc25.2 3 rfl rfl) _).trans ((congrFun (hFc1.2 3 rfl rfl) _).trans rfl)) : Pc25 3 (4 * P 0 37 + 4) = (P 3 (4 * P 0 37 + 4))); omega)) (by have q0 := b0_8 hBc25; have q1 := b0_9 hBc25; omega))
            · refine g_aload_n dX12_known_98 rfl ?_
              refine m_g15 rfl dX12_known_99 ?_
              refine g_iconst dX12_known_102 ?_
              refine g_aload_n dX12_known_103 rfl ?_
              refine m_g37 (z := (P 0 37)) rfl dX12_known_104 ((hFc1.1 37 rfl).trans rfl) ?_
              refine g_imul dX12_known_107 ?_
              refine g_iload_n dX12_known_108 rfl ?_
              refine g_iadd dX12_known_109 ?_
              refine m_l3 (z := (P 3 ((4 * (P 0 37)) + rc14))) dX12_known_110 ⟨by have q0 := b0_37 hB; omega, by have q0 := b0_37 hB; omega⟩ ((congrFun (hFc1.2 3 rfl rfl) _).trans rfl) ?_
              have f28 := bl_3 (k := ((4 * (P 0 37)) + rc14)) hB
              refine g_if_ne (tgt := 123) dX12_known_111 (by decide) ⟨by have q0 := bl_3 (k := ((4 * (P 0 37)) + rc14)) hB; omega, by have q0 := bl_3 (k := ((4 * (P 0 37)) + rc14)) hB; omega⟩ (fun k29 => ?_) (fun k29 => ?_)
              · refine g_aload_n dX12_known_123 rfl ?_
                refine m_g8 (z := (Pc1 0 8)) rfl dX12_known_124 rfl ?_
                refine g_if_le (tgt := 134) dX12_known_127 (by decide) ⟨by have q0 := b0_8 hBc1; omega, by have q0 := b0_8 hBc1; omega⟩ (fun k30 => ?_) (fun k30 => by exfalso; have q0 := b0_8 hBc1; omega)
                refine g_iload_n dX12_known_134 rfl ?_
                exact g_retI dX12_known_135 rfl (hQ rc14 ⟨by omega, by omega⟩ _ hBc1 (FrM.c FrM.rf hFc1 rfl) (by have q0 := (((hFc1.1 3 rfl).trans rfl) : Pc1 0 3 = (P 0 3)); have q1 := b0_3 hB; have q2 := (((hFc1.1 4 rfl).trans rfl) : Pc1 0 4 = (P 0 4)); have q3 := b0_4 hB; have q4 := (((hFc1.1 5 rfl).trans rfl) : Pc1 0 5 = (P 0 5)); have q5 := b0_5 hB; omega) (by have q0 := (((hFc1.1 4 rfl).trans rfl) : Pc1 0 4 = (P 0 4)); have q1 := b0_4 hB; omega) (by have q0 := b0_8 hBc1; omega) (by first | (left; have q8 := (rfl : Pc1 0 8 = (Pc1 0 8)); omega) | (have q2 := (((congrFun (hFc1.2 2 rfl rfl) _).trans rfl) : Pc1 2 (P 0 37) = (P 2 (P 0 37))); have q3 := (((congrFun (hFc1.2 3 rfl rfl) _).trans rfl) : Pc1 3 (4 * P 0 37 + rc14) = (P 3 (4 * P 0 37 + rc14))); omega)) (by have q0 := b0_8 hBc1; have q1 := b0_9 hBc1; omega))
              · refine g_aload_n dX12_known_114 rfl ?_
                refine g_iconst dX12_known_115 ?_
                refine g_aload_n dX12_known_116 rfl ?_
                refine m_g4 (z := (P 0 4)) rfl dX12_known_117 ((hFc1.1 4 rfl).trans rfl) ?_
                have f31 := b0_4 hB
                refine g_vV (av := [vI 3, vI (P 0 4)]) (o := 0) (st := []) (f_X12_blame G Pc1 3 (P 0 4) (by decide) ⟨by have q0 := b0_4 hB; omega, by have q0 := b0_4 hB; omega⟩ hBc1  _ (fun Pc32 hBc32 hFc32 gc32_f gc32_pe gc32_b => ⟨rfl, ?_⟩)) cf_X12_blame t_1701 rfl (by decide) rfl rfl rfl (Nat.le_of_ble_eq_true rfl) (by decide) rfl dX12_known_120
                refine g_aload_n dX12_known_123 rfl ?_
                refine m_g8 (z := (Pc32 0 8)) rfl dX12_known_124 rfl ?_
                have f33 := b0_8 hBc32
                refine g_if_le (tgt := 134) dX12_known_127 (by decide) ⟨by have q0 := b0_8 hBc32; omega, by have q0 := b0_8 hBc32; omega⟩ (fun k34 => by exfalso; have q0 := b0_8 hBc32; omega) (fun k34 => ?_)
                refine g_iconst dX12_known_130 ?_
                refine g_goto (tgt := 135) dX12_known_131 (by decide) ?_
                exact g_retI dX12_known_135 rfl (hQ 4 (by decide) _ hBc32 (FrM.c (FrM.c FrM.rf hFc1 rfl) hFc32 rfl) (by have q0 := (((hFc32.1 3 rfl).trans ((hFc1.1 3 rfl).trans rfl)) : Pc32 0 3 = (P 0 3)); have q1 := b0_3 hB; have q2 := (((hFc32.1 4 rfl).trans ((hFc1.1 4 rfl).trans rfl)) : Pc32 0 4 = (P 0 4)); have q3 := b0_4 hB; have q4 := (((hFc32.1 5 rfl).trans ((hFc1.1 5 rfl).trans rfl)) : Pc32 0 5 = (P 0 5)); have q5 := b0_5 hB; omega) (by have q0 := (((hFc32.1 4 rfl).trans ((hFc1.1 4 rfl).trans rfl)) : Pc32 0 4 = (P 0 4)); have q1 := b0_4 hB; omega) (by have q0 := b0_8 hBc32; omega) (by first | (left; have q8 := (rfl : Pc32 0 8 = (Pc32 0 8)); omega) | (have q2 := (((congrFun (hFc32.2 2 rfl rfl) _).trans ((congrFun (hFc1.2 2 rfl rfl) _).trans rfl)) : Pc32 2 (P 0 37) = (P 2 (P 0 37))); have q3 := (((congrFun (hFc32.2 3 rfl rfl) _).trans ((congrFun (hFc1.2 3 rfl rfl) _).trans rfl)) : Pc32 3 (4 * P 0 37 + 4) = (P 3 (4 * P 0 37 + 4))); omega)) (by have q0 := b0_8 hBc32; have q1 := b0_9 hBc32; omega))
        · refine g_iconst dX12_known_64 ?_
          refine g_goto (tgt := 76) dX12_known_65 (by decide) ?_
          refine g_istore_n (l1 := [(3, vI 4), (2, vI rc4), (0, vR 0), (1, vI a1)]) dX12_known_76 (by decide) rfl ?_
          refine g_aload_n dX12_known_77 rfl ?_
          refine m_g8 (z := (Pc1 0 8)) rfl dX12_known_78 rfl ?_
          refine g_if_ne (tgt := 123) dX12_known_81 (by decide) ⟨by have q0 := b0_8 hBc1; omega, by have q0 := b0_8 hBc1; omega⟩ (fun k35 => by exfalso; have q0 := b0_8 hBc1; omega) (fun k35 => ?_)
          refine g_iload_n dX12_known_84 rfl ?_
          refine g_if_ne (tgt := 123) dX12_known_85 (by decide) ⟨by omega, by omega⟩ (fun k36 => ?_) (fun k36 => by exfalso; omega)
          refine g_aload_n dX12_known_123 rfl ?_
          refine m_g8 (z := (Pc1 0 8)) rfl dX12_known_124 rfl ?_
          refine g_if_le (tgt := 134) dX12_known_127 (by decide) ⟨by have q0 := b0_8 hBc1; omega, by have q0 := b0_8 hBc1; omega⟩ (fun k37 => ?_) (fun k37 => by exfalso; have q0 := b0_8 hBc1; omega)
          refine g_iload_n dX12_known_134 rfl ?_
          exact g_retI dX12_known_135 rfl (hQ 4 (by decide) _ hBc1 (FrM.c FrM.rf hFc1 rfl) (by have q0 := (((hFc1.1 3 rfl).trans rfl) : Pc1 0 3 = (P 0 3)); have q1 := b0_3 hB; have q2 := (((hFc1.1 4 rfl).trans rfl) : Pc1 0 4 = (P 0 4)); have q3 := b0_4 hB; have q4 := (((hFc1.1 5 rfl).trans rfl) : Pc1 0 5 = (P 0 5)); have q5 := b0_5 hB; omega) (by have q0 := (((hFc1.1 4 rfl).trans rfl) : Pc1 0 4 = (P 0 4)); have q1 := b0_4 hB; omega) (by have q0 := b0_8 hBc1; omega) (by first | (left; have q8 := (rfl : Pc1 0 8 = (Pc1 0 8)); omega) | (have q2 := (((congrFun (hFc1.2 2 rfl rfl) _).trans rfl) : Pc1 2 (P 0 37) = (P 2 (P 0 37))); have q3 := (((congrFun (hFc1.2 3 rfl rfl) _).trans rfl) : Pc1 3 (4 * P 0 37 + 4) = (P 3 (4 * P 0 37 + 4))); omega)) (by have q0 := b0_8 hBc1; have q1 := b0_9 hBc1; omega))
      · refine g_iload_n dX12_known_40 rfl ?_
        refine g_if_ne (tgt := 53) dX12_known_41 (by decide) ⟨by omega, by omega⟩ (fun k38 => ?_) (fun k38 => ?_)
        · refine g_aload_n dX12_known_53 rfl ?_
          refine m_g8 (z := (Pc1 0 8)) rfl dX12_known_54 rfl ?_
          refine g_if_gt (tgt := 64) dX12_known_57 (by decide) ⟨by have q0 := b0_8 hBc1; omega, by have q0 := b0_8 hBc1; omega⟩ (fun k39 => by exfalso; have q0 := b0_8 hBc1; omega) (fun k39 => ?_)
          refine g_iload_n dX12_known_60 rfl ?_
          refine g_if_eq (tgt := 68) dX12_known_61 (by decide) ⟨by omega, by omega⟩ (fun k40 => by exfalso; omega) (fun k40 => ?_)
          refine g_iconst dX12_known_64 ?_
          refine g_goto (tgt := 76) dX12_known_65 (by decide) ?_
          refine g_istore_n (l1 := [(3, vI 4), (2, vI rc4), (0, vR 0), (1, vI a1)]) dX12_known_76 (by decide) rfl ?_
          refine g_aload_n dX12_known_77 rfl ?_
          refine m_g8 (z := (Pc1 0 8)) rfl dX12_known_78 rfl ?_
          refine g_if_ne (tgt := 123) dX12_known_81 (by decide) ⟨by have q0 := b0_8 hBc1; omega, by have q0 := b0_8 hBc1; omega⟩ (fun k41 => by exfalso; have q0 := b0_8 hBc1; omega) (fun k41 => ?_)
          refine g_iload_n dX12_known_84 rfl ?_
          refine g_if_ne (tgt := 123) dX12_known_85 (by decide) ⟨by omega, by omega⟩ (fun k42 => ?_) (fun k42 => by exfalso; omega)
          refine g_aload_n dX12_known_123 rfl ?_
          refine m_g8 (z := (Pc1 0 8)) rfl dX12_known_124 rfl ?_
          refine g_if_le (tgt := 134) dX12_known_127 (by decide) ⟨by have q0 := b0_8 hBc1; omega, by have q0 := b0_8 hBc1; omega⟩ (fun k43 => ?_) (fun k43 => by exfalso; have q0 := b0_8 hBc1; omega)
          refine g_iload_n dX12_known_134 rfl ?_
          exact g_retI dX12_known_135 rfl (hQ 4 (by decide) _ hBc1 (FrM.c FrM.rf hFc1 rfl) (by have q0 := (((hFc1.1 3 rfl).trans rfl) : Pc1 0 3 = (P 0 3)); have q1 := b0_3 hB; have q2 := (((hFc1.1 4 rfl).trans rfl) : Pc1 0 4 = (P 0 4)); have q3 := b0_4 hB; have q4 := (((hFc1.1 5 rfl).trans rfl) : Pc1 0 5 = (P 0 5)); have q5 := b0_5 hB; omega) (by have q0 := (((hFc1.1 4 rfl).trans rfl) : Pc1 0 4 = (P 0 4)); have q1 := b0_4 hB; omega) (by have q0 := b0_8 hBc1; omega) (by first | (left; have q8 := (rfl : Pc1 0 8 = (Pc1 0 8)); omega) | (have q2 := (((congrFun (hFc1.2 2 rfl rfl) _).trans rfl) : Pc1 2 (P 0 37) = (P 2 (P 0 37))); have q3 := (((congrFun (hFc1.2 3 rfl rfl) _).trans rfl) : Pc1 3 (4 * P 0 37 + 4) = (P 3 (4 * P 0 37 + 4))); omega)) (by have q0 := b0_8 hBc1; have q1 := b0_9 hBc1; omega))
        · exfalso; omega
  · refine g_iconst dX12_known_11 ?_
    exact g_retI dX12_known_12 rfl (hQ 0 (by decide) _ hBc1 (FrM.c FrM.rf hFc1 rfl) (by have q0 := (((hFc1.1 3 rfl).trans rfl) : Pc1 0 3 = (P 0 3)); have q1 := b0_3 hB; have q2 := (((hFc1.1 4 rfl).trans rfl) : Pc1 0 4 = (P 0 4)); have q3 := b0_4 hB; have q4 := (((hFc1.1 5 rfl).trans rfl) : Pc1 0 5 = (P 0 5)); have q5 := b0_5 hB; omega) (by have q0 := (((hFc1.1 4 rfl).trans rfl) : Pc1 0 4 = (P 0 4)); have q1 := b0_4 hB; omega) (by have q0 := b0_8 hBc1; omega) (by first | (left; have q8 := (rfl : Pc1 0 8 = (Pc1 0 8)); omega) | (have q2 := (((congrFun (hFc1.2 2 rfl rfl) _).trans rfl) : Pc1 2 (P 0 37) = (P 2 (P 0 37))); have q3 := (((congrFun (hFc1.2 3 rfl rfl) _).trans rfl) : Pc1 3 (4 * P 0 37 + 0) = (P 3 (4 * P 0 37 + 0))); omega)) (by have q0 := b0_8 hBc1; have q1 := b0_9 hBc1; omega))
