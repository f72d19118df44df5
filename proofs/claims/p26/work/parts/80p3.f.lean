/-! What the reference answers: X12_runs. -/
set_option maxRecDepth 100000 in
set_option maxHeartbeats 4000000 in
theorem f_X12_runs (G : GT) (P : PH) (A : PH) (K : PH) (M : PH) (F : FT) (a1 : Int) (h_a1 : 0 ≤ a1 ∧ a1 ≤ 2147483647) (hB : BdM P) (p_st : P 0 74 ≤ 199999999) (p_aw : AW K) (p_av : AV K M) (p_az : AZ K M) (p_ga : GA M A) (p_gw : GW M) (v_okC : okC P) (v_MVw : MVw P) (v_RE : RE P) (z0 : AM A P) (z1 : MKB K P) (z2 : MMB M P) (z3 : LYT K M F P) (Q : Option PV → PH → Prop) (hQ : ∀ (r : Int) (_ : (-1) ≤ r ∧ r ≤ 11) (P1 : PH) (_ : BdM P1) (_ : FrM ([62, 66, 74, 76, 78], [39, 40, 41, 42, 43, 44, 49, 50]) P P1) (_ : P1 0 74 = P 0 74 + 1) (_ : r = tak K M F A (A 0 1) a1) (_ : MVw P1) (_ : RE P1) (_ : AM (up A 0 3 (A 0 3 + 1)) P1), Q (some (vI r)) P1) : Ct WSM G 5 iX12_runs [vR 0, vI a1] P Q := by
  refine Ct.of (by decide) (l0 := [(0, vR 0), (1, vI a1)]) rfl (Nat.le_of_ble_eq_true rfl) ?_
  have hb := z0.b
  have hm4 := m40_s (A 0 3)
  have hm5 := m40_1 (A 0 3)
  have hav := p_av
  have q35 := bl_35 (k := 0) hB
  refine g_aload_n dX12_runs_0 rfl ?_
  refine g_iconst dX12_runs_1 ?_
  refine g_aload_n dX12_runs_2 rfl ?_
  refine m_g56 rfl dX12_runs_3 ?_
  refine g_iconst dX12_runs_6 ?_
  refine m_l38 (z := (P 38 0)) dX12_runs_7 (by decide) rfl ?_
  have iv1 : ODb 0 (A 0 0) (A 1) P := AM.od z0
  have f2 := bl_38 (k := 0) hB
  refine g_vV (av := [vI 0, vI (P 38 0)]) (o := 0) (st := []) (f_X12_plants G P (K) (M) (F) (A 0 0) (A 1) 0 (P 38 0) (by decide) ⟨by have q0 := bl_38 (k := 0) hB; (clear hb hm4 hm5; omega), by have q0 := bl_38 (k := 0) hB; (clear hb hm4 hm5; omega)⟩ hB (by have q0 := bl_38 (k := 0) hB; have q1 := b0_74 hB; (clear hb hm4 hm5; omega)) p_aw (p_av) (p_ga.1) (⟨by (clear hm4 hm5; omega), by (clear hm4 hm5; omega)⟩) v_MVw v_RE (z2) (z3) (iv1) _ (fun Pc3 hBc3 hFc3 gc3_st vc3_MV vc3_RE vc3_RLt ec3_0 => ⟨rfl, ?_⟩)) cf_X12_plants t_1998 rfl (by decide) rfl rfl rfl (Nat.le_of_ble_eq_true rfl) (by decide) rfl dX12_runs_8
  refine g_aload_n dX12_runs_11 rfl ?_
  refine g_aload_n dX12_runs_12 rfl ?_
  refine m_g55 rfl dX12_runs_13 ?_
  refine g_iconst dX12_runs_16 ?_
  refine m_l37 (z := (P 37 0)) dX12_runs_17 (by decide) ((congrFun (hFc3.2 37 rfl rfl) _).trans rfl) ?_
  have f4 := bl_37 (k := 0) hB
  refine g_vI (av := [vI (P 37 0)]) (o := 0) (st := []) (f_X12_openBy G Pc3 (K) (M) (F) (A 0 0) (A 1) (P 37 0) ⟨by have q0 := bl_37 (k := 0) hB; (clear hb hm4 hm5; omega), by have q0 := bl_37 (k := 0) hB; (clear hb hm4 hm5; omega)⟩ hBc3 (by have q := (((congrFun (hFc3.2 37 rfl rfl) _).trans rfl) : Pc3 37 0 = (P 37 0)); have q2 := p_ga.2.1; (clear hb hm4 hm5; omega)) (p_ga.1) (p_gw) (⟨by (clear hm4 hm5; omega), by (clear hm4 hm5; omega)⟩) (ec3_0) _ (fun rc5 hc5 gc5_op => ⟨rc5, rfl, ?_⟩)) cf_X12_openBy t_1923 rfl (by decide) rfl rfl rfl (Nat.le_of_ble_eq_true rfl) (by decide) rfl dX12_runs_18
  obtain ⟨Y9, hY9⟩ : ∃ X : Int, X = rc5 := ⟨_, rfl⟩
  have hop9 := gc5_op
  rw [← hY9] at hop9
  refine g_istore_n (l1 := [(2, vI rc5), (0, vR 0), (1, vI a1)]) dX12_runs_21 (by decide) rfl ?_
  refine g_aload_n dX12_runs_22 rfl ?_
  refine g_iload_n dX12_runs_23 rfl ?_
  refine g_vI (av := [vI a1]) (o := 0) (st := []) (f_X12_fitting G Pc3 (K) (M) (F) (A 0 0) (A 1) a1 ⟨by (clear hb hm4 hm5; omega), by (clear hb hm4 hm5; omega)⟩ hBc3 p_aw (p_av) (p_az) (⟨by (clear hm4 hm5; omega), by (clear hm4 hm5; omega)⟩) (okC.fr (F := ([62, 66, 74, 76], [41, 42, 43])) v_okC (FrM.c FrM.rf hFc3 rfl) rfl) ((MKB.fr (F := ([62, 66, 74, 76], [41, 42, 43])) z1 (FrM.c FrM.rf hFc3 rfl) rfl)) ((MMB.fr (F := ([62, 66, 74, 76], [41, 42, 43])) z2 (FrM.c FrM.rf hFc3 rfl) rfl)) (ec3_0) _ (fun rc6 hc6 Pc6 hBc6 hFc6 gc6_ft => ⟨rc6, rfl, ?_⟩)) cf_X12_fitting t_1899 rfl (by decide) rfl rfl rfl (Nat.le_of_ble_eq_true rfl) (by decide) rfl dX12_runs_24
  obtain ⟨X9, hX9⟩ : ∃ X : Int, X = rc6 := ⟨_, rfl⟩
  have hft9 := gc6_ft
  rw [← hX9] at hft9
  refine g_iload_n dX12_runs_27 rfl ?_
  refine g_iand dX12_runs_28 ?_
  refine g_nm (fun b7 e_b7 => ?_)
  have h_b7 := iand_l (x := rc6) (y := rc5) ⟨by (clear hb hm4 hm5; omega), by (clear hb hm4 hm5; omega)⟩
  rw [← e_b7] at h_b7
  have hx9 : b7 = iand X9 Y9 := by rw [e_b7, hX9, hY9]
  have htk9 := fun (w : Int) => take_f (w := w) hft9 hop9 ⟨by (clear hb hm4 hm5; omega), by (clear hb hm4 hm5; omega)⟩ ⟨by (clear hb hm4 hm5; omega), by (clear hb hm4 hm5; omega)⟩ (by (clear hm4 hm5; omega))
  refine g_sI (av := [vI b7]) (st := []) (f_X12_lowest G Pc6 b7 ⟨by (clear hb hm4 hm5; omega), by (clear hb hm4 hm5; omega)⟩ hBc6  _ (fun rc8 hc8 gc8_l gc8_b gc8_t gc8_f => ⟨rc8, rfl, ?_⟩)) cf_X12_lowest t_1927 rfl (Nat.le_of_ble_eq_true rfl) (by decide) rfl dX12_runs_29
  have htw9 : rc8 = tak K M F A (A 0 1) a1 := by
    have q := htk9 rc8 (by rw [← hx9]; exact gc8_l) (by rw [← hx9]; exact gc8_t) (by rw [← hx9]; exact gc8_f)
    rw [hb.2.1] at q
    exact q
  refine g_istore_n (l1 := [(3, vI rc8), (2, vI rc5), (0, vR 0), (1, vI a1)]) dX12_runs_32 (by decide) rfl ?_
  refine g_aload_n dX12_runs_33 rfl ?_
  refine g_iload_n dX12_runs_34 rfl ?_
  refine g_iload_n dX12_runs_35 rfl ?_
  refine g_vI (av := [vI a1, vI rc5]) (o := 0) (st := []) (m_X12_testsFor G Pc6 a1 rc5 ⟨by (clear hb hm4 hm5 gc8_l gc8_b gc8_t; omega), by (clear hb hm4 hm5 gc8_l gc8_b gc8_t; omega)⟩ ⟨by (clear hb hm4 hm5 gc8_l gc8_b gc8_t; omega), by (clear hb hm4 hm5 gc8_l gc8_b gc8_t; omega)⟩ hBc6 (okC.fr (F := ([62, 66, 74, 76], [41, 42, 43, 44])) v_okC (FrM.c (FrM.c FrM.rf hFc3 rfl) hFc6 rfl) rfl) (MV.fr (F := ([], [44])) vc3_MV (FrM.c FrM.rf hFc6 rfl) rfl) _ (fun rc9 hc9 Pc9 hBc9 hFc9 vc9_MV => ⟨rc9, rfl, ?_⟩)) cf_X12_testsFor t_2006 rfl (by decide) rfl rfl rfl (Nat.le_of_ble_eq_true rfl) (by decide) rfl dX12_runs_36
  refine g_istore (l1 := [(4, vI rc9), (3, vI rc8), (2, vI rc5), (0, vR 0), (1, vI a1)]) dX12_runs_39 (by decide) rfl ?_
  refine g_aload_n dX12_runs_41 rfl ?_
  refine m_g57 rfl dX12_runs_42 ?_
  refine g_iconst dX12_runs_45 ?_
  refine m_l39 (z := (P 39 0)) dX12_runs_46 (by decide) ((congrFun (hFc9.2 39 rfl rfl) _).trans ((congrFun (hFc6.2 39 rfl rfl) _).trans ((congrFun (hFc3.2 39 rfl rfl) _).trans rfl))) ?_
  refine g_bipush dX12_runs_47 (by decide) ?_
  have f10 := bl_39 (k := 0) hB
  have J94_56 : ∀ (H94_56 : PH) (hB94_56 : BdM H94_56) (hE94_56 : FrM ([], [39, 40]) Pc9 H94_56) (i94_0_56 : H94_56 39 0 ≤ 39) (i94_1_56 : H94_56 39 0 + 1 = m40 (A 0 3 + 1)) (i94_2_56 : ∀ j : Int, j ≠ 0 → H94_56 39 j = P 39 j), Go WSM G 5 iX12_runs 94 [(0, vR 0), (1, vI a1), (3, vI rc8), (4, vI rc9)] [] H94_56 Q := by
    intro H94_56 hB94_56 hE94_56 i94_0_56 i94_1_56 i94_2_56
    have hi94 := i94_1_56
    have htw8 := htw9
    refine g_iconst dX12_runs_94 ?_
    refine g_aload_n dX12_runs_95 rfl ?_
    refine m_g57 rfl dX12_runs_96 ?_
    refine g_iconst dX12_runs_99 ?_
    refine m_l39 (z := (H94_56 39 0)) dX12_runs_100 (by decide) rfl ?_
    refine g_imul dX12_runs_101 ?_
    refine g_istore (l1 := [(5, vI (3 * (H94_56 39 0))), (0, vR 0), (1, vI a1), (3, vI rc8), (4, vI rc9)]) dX12_runs_102 (by decide) rfl ?_
    refine g_aload_n dX12_runs_104 rfl ?_
    refine m_g58 rfl dX12_runs_105 ?_
    refine g_iload dX12_runs_108 rfl ?_
    refine g_iload_n dX12_runs_110 rfl ?_
    refine m_s40 dX12_runs_111 ⟨by have q0 := bl_39 (k := 0) hB94_56; (clear hb hm4 hm5 gc8_l gc8_b gc8_t; omega), by have q0 := bl_39 (k := 0) hB94_56; (clear hb hm4 hm5 gc8_l gc8_b gc8_t; omega)⟩ ?_
    have hB58 := ba_40 (z := a1) (k := (3 * (H94_56 39 0))) hB94_56 ⟨by (clear hb hm4 hm5 gc8_l gc8_b gc8_t; omega), by (clear hb hm4 hm5 gc8_l gc8_b gc8_t; omega)⟩
    refine g_aload_n dX12_runs_112 rfl ?_
    refine m_g58 rfl dX12_runs_113 ?_
    refine g_iload dX12_runs_116 rfl ?_
    refine g_iconst dX12_runs_118 ?_
    refine g_iadd dX12_runs_119 ?_
    refine g_iload_n dX12_runs_120 rfl ?_
    refine g_iconst dX12_runs_121 ?_
    refine g_icmp_ne (tgt := 129) dX12_runs_122 (by decide) ⟨by (clear hb hm4 hm5 gc8_l gc8_b gc8_t; omega), by (clear hb hm4 hm5 gc8_l gc8_b gc8_t; omega)⟩ (by decide) (fun k59 => ?_) (fun k59 => ?_)
    · have k59n : 0 ≤ rc8 := by (clear hb hm4 hm5 gc8_l gc8_b gc8_t; omega)
      clear k59
      have r_gc8_t := (gc8_t.resolve_left (by (clear hb hm4 hm5 gc8_l gc8_b gc8_t; omega)))
      have r_gc8_b := (gc8_b.resolve_left (by (clear hb hm4 hm5 gc8_l gc8_b gc8_t; omega)))
      have r_gc8_l := (gc8_l.resolve_left (by (clear hb hm4 hm5 gc8_l gc8_b gc8_t; omega)))
      skip
      skip
      refine g_aload_n dX12_runs_129 rfl ?_
      refine m_g54 rfl dX12_runs_130 ?_
      refine g_iload_n dX12_runs_133 rfl ?_
      refine m_l36 (z := (P 36 rc8)) dX12_runs_134 ⟨by (clear hb hm4 hm5 gc8_l gc8_b gc8_t; omega), by (clear hb hm4 hm5 gc8_l gc8_b gc8_t; omega)⟩ ((up_o (by decide)).trans ((congrFun (hE94_56.2 36 rfl rfl) _).trans ((congrFun (hFc9.2 36 rfl rfl) _).trans ((congrFun (hFc6.2 36 rfl rfl) _).trans ((congrFun (hFc3.2 36 rfl rfl) _).trans rfl))))) ?_
      refine m_s40 dX12_runs_135 ⟨by have q0 := bl_39 (k := 0) hB94_56; (clear hb hm4 hm5 gc8_l gc8_b gc8_t; omega), by have q0 := bl_39 (k := 0) hB94_56; (clear hb hm4 hm5 gc8_l gc8_b gc8_t; omega)⟩ ?_
      have hB60 := ba_40 (z := (P 36 rc8)) (k := ((3 * (H94_56 39 0)) + 1)) hB58 ⟨by have q0 := bl_36 (k := rc8) hB; (clear hb hm4 hm5 gc8_l gc8_b gc8_t; omega), by have q0 := bl_36 (k := rc8) hB; (clear hb hm4 hm5 gc8_l gc8_b gc8_t; omega)⟩
      refine g_aload_n dX12_runs_136 rfl ?_
      refine m_g58 rfl dX12_runs_137 ?_
      refine g_iload dX12_runs_140 rfl ?_
      refine g_iconst dX12_runs_142 ?_
      refine g_iadd dX12_runs_143 ?_
      refine g_iload dX12_runs_144 rfl ?_
      refine m_s40 dX12_runs_146 ⟨by have q0 := bl_39 (k := 0) hB94_56; (clear hb hm4 hm5 gc8_l gc8_b gc8_t; omega), by have q0 := bl_39 (k := 0) hB94_56; (clear hb hm4 hm5 gc8_l gc8_b gc8_t; omega)⟩ ?_
      have hB61 := ba_40 (z := rc9) (k := ((3 * (H94_56 39 0)) + 2)) hB60 ⟨by (clear hb hm4 hm5 gc8_l gc8_b gc8_t; omega), by (clear hb hm4 hm5 gc8_l gc8_b gc8_t; omega)⟩
      refine g_aload_n dX12_runs_147 rfl ?_
      refine m_g57 rfl dX12_runs_148 ?_
      refine g_iconst dX12_runs_151 ?_
      refine g_dup2 dX12_runs_152 rfl rfl ?_
      refine m_l39 (z := (H94_56 39 0)) dX12_runs_153 (by decide) ((up_o (by decide)).trans ((up_o (by decide)).trans ((up_o (by decide)).trans rfl))) ?_
      refine g_iconst dX12_runs_154 ?_
      refine g_iadd dX12_runs_155 ?_
      refine m_s39 dX12_runs_156 (by decide) ?_
      have hB62 := ba_39 (z := ((H94_56 39 0) + 1)) (k := 0) hB61 ⟨by have q0 := bl_39 (k := 0) hB94_56; (clear hb hm4 hm5 gc8_l gc8_b gc8_t; omega), by have q0 := bl_39 (k := 0) hB94_56; (clear hb hm4 hm5 gc8_l gc8_b gc8_t; omega)⟩
      refine g_iload_n dX12_runs_157 rfl ?_
      exact g_retI dX12_runs_158 rfl (hQ rc8 ⟨by (clear hb hm4 hm5 gc8_l gc8_b gc8_t; omega), by (clear hb hm4 hm5 gc8_l gc8_b gc8_t; omega)⟩ _ hB62 (FrM.a (FrM.a (FrM.a (FrM.a (FrM.c (FrM.c (FrM.c (FrM.c FrM.rf hFc3 rfl) hFc6 rfl) hFc9 rfl) hE94_56 rfl) rfl rfl) rfl rfl) rfl rfl) rfl rfl) (by have q0 := (((up_o (by decide)).trans ((up_o (by decide)).trans ((up_o (by decide)).trans ((up_o (by decide)).trans ((hE94_56.1 74 rfl).trans ((hFc9.1 74 rfl).trans ((hFc6.1 74 rfl).trans rfl))))))) : (up (up (up (up H94_56 40 (3 * (H94_56 39 0)) a1) 40 ((3 * (H94_56 39 0)) + 1) (P 36 rc8)) 40 ((3 * (H94_56 39 0)) + 2) rc9) 39 0 ((H94_56 39 0) + 1)) 0 74 = (Pc3 0 74)); have q1 := b0_74 hBc3; (clear hb hm4 hm5 gc8_l gc8_b gc8_t; omega)) (htw9) ((MV.fr (F := ([], [39, 40])) vc9_MV (FrM.a (FrM.a (FrM.a (FrM.a (FrM.c FrM.rf hE94_56 rfl) rfl rfl) rfl rfl) rfl rfl) rfl rfl) rfl).w) (RE.fr (F := ([78], [39, 40, 44, 49, 50])) vc3_RE (FrM.a (FrM.a (FrM.a (FrM.a (FrM.c (FrM.c (FrM.c FrM.rf hFc6 rfl) hFc9 rfl) hE94_56 rfl) rfl rfl) rfl rfl) rfl rfl) rfl rfl) rfl) (AM.sc z0 (Or.inl rfl) (by have e : up A 0 3 (A 0 3 + 1) 0 3 = A 0 3 + 1 := up_same; rw [e]; have q := (up_same : (up (up (up (up H94_56 40 (3 * (H94_56 39 0)) a1) 40 ((3 * (H94_56 39 0)) + 1) (P 36 rc8)) 40 ((3 * (H94_56 39 0)) + 2) rc9) 39 0 ((H94_56 39 0) + 1)) 39 0 = ((H94_56 39 0) + 1)); (clear hb hm4 hm5 gc8_l gc8_b gc8_t; omega)) (by have e : up A 0 3 (A 0 3 + 1) 0 5 = A 0 5 := up_k (by decide); rw [e]; have q := (((up_o (by decide)).trans ((up_o (by decide)).trans ((up_o (by decide)).trans ((up_o (by decide)).trans ((hE94_56.1 61 rfl).trans ((hFc9.1 61 rfl).trans ((hFc6.1 61 rfl).trans ((hFc3.1 61 rfl).trans rfl)))))))) : (up (up (up (up H94_56 40 (3 * (H94_56 39 0)) a1) 40 ((3 * (H94_56 39 0)) + 1) (P 36 rc8)) 40 ((3 * (H94_56 39 0)) + 2) rc9) 39 0 ((H94_56 39 0) + 1)) 0 61 = (P 0 61)); (clear hm4 hm5 gc8_l gc8_b gc8_t; omega)) (by have e : up A 0 3 (A 0 3 + 1) 0 6 = A 0 6 := up_k (by decide); rw [e]; have q := (((up_o (by decide)).trans ((up_o (by decide)).trans ((up_o (by decide)).trans ((up_o (by decide)).trans ((hE94_56.1 92 rfl).trans ((hFc9.1 92 rfl).trans ((hFc6.1 92 rfl).trans ((hFc3.1 92 rfl).trans rfl)))))))) : (up (up (up (up H94_56 40 (3 * (H94_56 39 0)) a1) 40 ((3 * (H94_56 39 0)) + 1) (P 36 rc8)) 40 ((3 * (H94_56 39 0)) + 2) rc9) 39 0 ((H94_56 39 0) + 1)) 0 92 = (P 0 92)); (clear hm4 hm5 gc8_l gc8_b gc8_t; omega)) ((up_o (by decide)).trans ((up_o (by decide)).trans ((up_o (by decide)).trans ((up_o (by decide)).trans ((hE94_56.1 59 rfl).trans ((hFc9.1 59 rfl).trans ((hFc6.1 59 rfl).trans ((hFc3.1 59 rfl).trans rfl)))))))) ((up_o (by decide)).trans ((up_o (by decide)).trans ((up_o (by decide)).trans ((up_o (by decide)).trans ((hE94_56.1 60 rfl).trans ((hFc9.1 60 rfl).trans ((hFc6.1 60 rfl).trans ((hFc3.1 60 rfl).trans rfl)))))))) (fun j => ((up_o (by decide)).trans ((up_o (by decide)).trans ((up_o (by decide)).trans ((up_o (by decide)).trans ((congrFun (hE94_56.2 35 rfl rfl) _).trans ((congrFun (hFc9.2 35 rfl rfl) _).trans ((congrFun (hFc6.2 35 rfl rfl) _).trans ((congrFun (hFc3.2 35 rfl rfl) _).trans rfl))))))))) (fun j => ((up_o (by decide)).trans ((up_o (by decide)).trans ((up_o (by decide)).trans ((up_o (by decide)).trans ((congrFun (hE94_56.2 36 rfl rfl) _).trans ((congrFun (hFc9.2 36 rfl rfl) _).trans ((congrFun (hFc6.2 36 rfl rfl) _).trans ((congrFun (hFc3.2 36 rfl rfl) _).trans rfl))))))))) (fun j => ((up_o (by decide)).trans ((up_o (by decide)).trans ((up_o (by decide)).trans ((up_o (by decide)).trans ((congrFun (hE94_56.2 37 rfl rfl) _).trans ((congrFun (hFc9.2 37 rfl rfl) _).trans ((congrFun (hFc6.2 37 rfl rfl) _).trans ((congrFun (hFc3.2 37 rfl rfl) _).trans rfl))))))))) (fun j => ((up_o (by decide)).trans ((up_o (by decide)).trans ((up_o (by decide)).trans ((up_o (by decide)).trans ((congrFun (hE94_56.2 38 rfl rfl) _).trans ((congrFun (hFc9.2 38 rfl rfl) _).trans ((congrFun (hFc6.2 38 rfl rfl) _).trans ((congrFun (hFc3.2 38 rfl rfl) _).trans rfl))))))))) (fun j hj => Eq.trans ((up_k hj).trans ((up_o (by decide)).trans ((up_o (by decide)).trans ((up_o (by decide)).trans rfl)))) (i94_2_56 j hj))))
    · skip
      skip
      have r_gc8_l := (gc8_l.resolve_right (by (clear hb hm4 hm5 gc8_l gc8_b gc8_t; omega)))
      skip
      skip
      refine g_iconst dX12_runs_125 ?_
      refine g_goto (tgt := 135) dX12_runs_126 (by decide) ?_
      refine m_s40 dX12_runs_135 ⟨by have q0 := bl_39 (k := 0) hB94_56; (clear hb hm4 hm5 gc8_l gc8_b gc8_t; omega), by have q0 := bl_39 (k := 0) hB94_56; (clear hb hm4 hm5 gc8_l gc8_b gc8_t; omega)⟩ ?_
      have hB63 := ba_40 (z := (-1)) (k := ((3 * (H94_56 39 0)) + 1)) hB58 (by decide)
      refine g_aload_n dX12_runs_136 rfl ?_
      refine m_g58 rfl dX12_runs_137 ?_
      refine g_iload dX12_runs_140 rfl ?_
      refine g_iconst dX12_runs_142 ?_
      refine g_iadd dX12_runs_143 ?_
      refine g_iload dX12_runs_144 rfl ?_
      refine m_s40 dX12_runs_146 ⟨by have q0 := bl_39 (k := 0) hB94_56; (clear hb hm4 hm5 gc8_l gc8_b gc8_t; omega), by have q0 := bl_39 (k := 0) hB94_56; (clear hb hm4 hm5 gc8_l gc8_b gc8_t; omega)⟩ ?_
      have hB64 := ba_40 (z := rc9) (k := ((3 * (H94_56 39 0)) + 2)) hB63 ⟨by (clear hb hm4 hm5 gc8_l gc8_b gc8_t; omega), by (clear hb hm4 hm5 gc8_l gc8_b gc8_t; omega)⟩
      refine g_aload_n dX12_runs_147 rfl ?_
      refine m_g57 rfl dX12_runs_148 ?_
      refine g_iconst dX12_runs_151 ?_
      refine g_dup2 dX12_runs_152 rfl rfl ?_
      refine m_l39 (z := (H94_56 39 0)) dX12_runs_153 (by decide) ((up_o (by decide)).trans ((up_o (by decide)).trans ((up_o (by decide)).trans rfl))) ?_
      refine g_iconst dX12_runs_154 ?_
      refine g_iadd dX12_runs_155 ?_
      refine m_s39 dX12_runs_156 (by decide) ?_
      have hB65 := ba_39 (z := ((H94_56 39 0) + 1)) (k := 0) hB64 ⟨by have q0 := bl_39 (k := 0) hB94_56; (clear hb hm4 hm5 gc8_l gc8_b gc8_t; omega), by have q0 := bl_39 (k := 0) hB94_56; (clear hb hm4 hm5 gc8_l gc8_b gc8_t; omega)⟩
      refine g_iload_n dX12_runs_157 rfl ?_
      exact g_retI dX12_runs_158 rfl (hQ rc8 ⟨by (clear hb hm4 hm5 gc8_l gc8_b gc8_t; omega), by (clear hb hm4 hm5 gc8_l gc8_b gc8_t; omega)⟩ _ hB65 (FrM.a (FrM.a (FrM.a (FrM.a (FrM.c (FrM.c (FrM.c (FrM.c FrM.rf hFc3 rfl) hFc6 rfl) hFc9 rfl) hE94_56 rfl) rfl rfl) rfl rfl) rfl rfl) rfl rfl) (by have q0 := (((up_o (by decide)).trans ((up_o (by decide)).trans ((up_o (by decide)).trans ((up_o (by decide)).trans ((hE94_56.1 74 rfl).trans ((hFc9.1 74 rfl).trans ((hFc6.1 74 rfl).trans rfl))))))) : (up (up (up (up H94_56 40 (3 * (H94_56 39 0)) a1) 40 ((3 * (H94_56 39 0)) + 1) (-1)) 40 ((3 * (H94_56 39 0)) + 2) rc9) 39 0 ((H94_56 39 0) + 1)) 0 74 = (Pc3 0 74)); have q1 := b0_74 hBc3; (clear hb hm4 hm5 gc8_l gc8_b gc8_t; omega)) (htw9) ((MV.fr (F := ([], [39, 40])) vc9_MV (FrM.a (FrM.a (FrM.a (FrM.a (FrM.c FrM.rf hE94_56 rfl) rfl rfl) rfl rfl) rfl rfl) rfl rfl) rfl).w) (RE.fr (F := ([78], [39, 40, 44, 49, 50])) vc3_RE (FrM.a (FrM.a (FrM.a (FrM.a (FrM.c (FrM.c (FrM.c FrM.rf hFc6 rfl) hFc9 rfl) hE94_56 rfl) rfl rfl) rfl rfl) rfl rfl) rfl rfl) rfl) (AM.sc z0 (Or.inl rfl) (by have e : up A 0 3 (A 0 3 + 1) 0 3 = A 0 3 + 1 := up_same; rw [e]; have q := (up_same : (up (up (up (up H94_56 40 (3 * (H94_56 39 0)) a1) 40 ((3 * (H94_56 39 0)) + 1) (-1)) 40 ((3 * (H94_56 39 0)) + 2) rc9) 39 0 ((H94_56 39 0) + 1)) 39 0 = ((H94_56 39 0) + 1)); (clear hb hm4 hm5 gc8_l gc8_b gc8_t; omega)) (by have e : up A 0 3 (A 0 3 + 1) 0 5 = A 0 5 := up_k (by decide); rw [e]; have q := (((up_o (by decide)).trans ((up_o (by decide)).trans ((up_o (by decide)).trans ((up_o (by decide)).trans ((hE94_56.1 61 rfl).trans ((hFc9.1 61 rfl).trans ((hFc6.1 61 rfl).trans ((hFc3.1 61 rfl).trans rfl)))))))) : (up (up (up (up H94_56 40 (3 * (H94_56 39 0)) a1) 40 ((3 * (H94_56 39 0)) + 1) (-1)) 40 ((3 * (H94_56 39 0)) + 2) rc9) 39 0 ((H94_56 39 0) + 1)) 0 61 = (P 0 61)); (clear hm4 hm5 gc8_l gc8_b gc8_t; omega)) (by have e : up A 0 3 (A 0 3 + 1) 0 6 = A 0 6 := up_k (by decide); rw [e]; have q := (((up_o (by decide)).trans ((up_o (by decide)).trans ((up_o (by decide)).trans ((up_o (by decide)).trans ((hE94_56.1 92 rfl).trans ((hFc9.1 92 rfl).trans ((hFc6.1 92 rfl).trans ((hFc3.1 92 rfl).trans rfl)))))))) : (up (up (up (up H94_56 40 (3 * (H94_56 39 0)) a1) 40 ((3 * (H94_56 39 0)) + 1) (-1)) 40 ((3 * (H94_56 39 0)) + 2) rc9) 39 0 ((H94_56 39 0) + 1)) 0 92 = (P 0 92)); (clear hm4 hm5 gc8_l gc8_b gc8_t; omega)) ((up_o (by decide)).trans ((up_o (by decide)).trans ((up_o (by decide)).trans ((up_o (by decide)).trans ((hE94_56.1 59 rfl).trans ((hFc9.1 59 rfl).trans ((hFc6.1 59 rfl).trans ((hFc3.1 59 rfl).trans rfl)))))))) ((up_o (by decide)).trans ((up_o (by decide)).trans ((up_o (by decide)).trans ((up_o (by decide)).trans ((hE94_56.1 60 rfl).trans ((hFc9.1 60 rfl).trans ((hFc6.1 60 rfl).trans ((hFc3.1 60 rfl).trans rfl)))))))) (fun j => ((up_o (by decide)).trans ((up_o (by decide)).trans ((up_o (by decide)).trans ((up_o (by decide)).trans ((congrFun (hE94_56.2 35 rfl rfl) _).trans ((congrFun (hFc9.2 35 rfl rfl) _).trans ((congrFun (hFc6.2 35 rfl rfl) _).trans ((congrFun (hFc3.2 35 rfl rfl) _).trans rfl))))))))) (fun j => ((up_o (by decide)).trans ((up_o (by decide)).trans ((up_o (by decide)).trans ((up_o (by decide)).trans ((congrFun (hE94_56.2 36 rfl rfl) _).trans ((congrFun (hFc9.2 36 rfl rfl) _).trans ((congrFun (hFc6.2 36 rfl rfl) _).trans ((congrFun (hFc3.2 36 rfl rfl) _).trans rfl))))))))) (fun j => ((up_o (by decide)).trans ((up_o (by decide)).trans ((up_o (by decide)).trans ((up_o (by decide)).trans ((congrFun (hE94_56.2 37 rfl rfl) _).trans ((congrFun (hFc9.2 37 rfl rfl) _).trans ((congrFun (hFc6.2 37 rfl rfl) _).trans ((congrFun (hFc3.2 37 rfl rfl) _).trans rfl))))))))) (fun j => ((up_o (by decide)).trans ((up_o (by decide)).trans ((up_o (by decide)).trans ((up_o (by decide)).trans ((congrFun (hE94_56.2 38 rfl rfl) _).trans ((congrFun (hFc9.2 38 rfl rfl) _).trans ((congrFun (hFc6.2 38 rfl rfl) _).trans ((congrFun (hFc3.2 38 rfl rfl) _).trans rfl))))))))) (fun j hj => Eq.trans ((up_k hj).trans ((up_o (by decide)).trans ((up_o (by decide)).trans ((up_o (by decide)).trans rfl)))) (i94_2_56 j hj))))
  refine g_icmp_ne (tgt := 94) dX12_runs_49 (by decide) ⟨by have q0 := bl_39 (k := 0) hB; (clear hb hm4 hm5 gc8_l gc8_b gc8_t; omega), by have q0 := bl_39 (k := 0) hB; (clear hb hm4 hm5 gc8_l gc8_b gc8_t; omega)⟩ (by decide) (fun k66 => ?_) (fun k66 => ?_)
  · have k66n : (P 39 0) ≤ 39 := by have q0 := bl_39 (k := 0) hB; (clear hb hm4 hm5 gc8_l gc8_b gc8_t; omega)
    clear k66
    skip
    skip
    skip
    skip
    skip
    refine g_forget (l1 := [(0, vR 0), (1, vI a1), (3, vI rc8), (4, vI rc9)]) (by intro q hq; simp only [List.mem_cons, List.not_mem_nil, or_false] at hq ⊢; rcases hq with rfl | rfl | rfl | rfl <;> simp) ?_
    exact J94_56 _ hBc9 FrM.rf (by have q0 := (((congrFun (hFc9.2 39 rfl rfl) _).trans ((congrFun (hFc6.2 39 rfl rfl) _).trans ((congrFun (hFc3.2 39 rfl rfl) _).trans rfl))) : Pc9 39 0 = (P 39 0)); have q1 := bl_39 (k := 0) hB; (clear hb hm4 hm5 gc8_l gc8_b gc8_t; omega)) (by have q0 := (((congrFun (hFc9.2 39 rfl rfl) _).trans ((congrFun (hFc6.2 39 rfl rfl) _).trans ((congrFun (hFc3.2 39 rfl rfl) _).trans rfl))) : Pc9 39 0 = (P 39 0)); have q1 := bl_39 (k := 0) hB; (omega)) (by first | exact fun j hj => ((congrFun (hFc9.2 39 rfl rfl) _).trans ((congrFun (hFc6.2 39 rfl rfl) _).trans ((congrFun (hFc3.2 39 rfl rfl) _).trans rfl))))
  · skip
    skip
    skip
    skip
    skip
    refine g_iconst dX12_runs_52 ?_
    refine g_istore (l1 := [(5, vI 0), (4, vI rc9), (3, vI rc8), (2, vI rc5), (0, vR 0), (1, vI a1)]) dX12_runs_53 (by decide) rfl ?_
    have L55_66 : ∀ (n55_66 : Nat) (x55_5_66 : Int) (h_x55_5_66 : 0 ≤ x55_5_66 ∧ x55_5_66 ≤ 117) (H55_66 : PH) (hB55_66 : BdM H55_66) (hE55_66 : FrM ([], [40]) Pc9 H55_66) (hm55_66 : ((118 - x55_5_66) : Int).toNat < n55_66), Go WSM G 5 iX12_runs 55 [(0, vR 0), (1, vI a1), (3, vI rc8), (4, vI rc9), (5, vI x55_5_66)] [] H55_66 Q := by
      intro n55_66
      induction n55_66 with
      | zero => intro x55_5_66 h_x55_5_66 H55_66 hB55_66 hE55_66 hm55_66; exact absurd hm55_66 (Nat.not_lt_zero _)
      | succ n55_66 ih55_66 =>
      intro x55_5_66 h_x55_5_66 H55_66 hB55_66 hE55_66 hm55_66
      refine g_iload dX12_runs_55 rfl ?_
      refine g_bipush dX12_runs_57 (by decide) ?_
      refine g_icmp_ge (tgt := 84) dX12_runs_59 (by decide) ⟨by (clear hb hm4 hm5 gc8_l gc8_b gc8_t; omega), by (clear hb hm4 hm5 gc8_l gc8_b gc8_t; omega)⟩ (by decide) (fun k101 => ?_) (fun k101 => ?_)
      · skip
        skip
        skip
        skip
        skip
        refine g_aload_n dX12_runs_84 rfl ?_
        refine m_g57 rfl dX12_runs_85 ?_
        refine g_iconst dX12_runs_88 ?_
        refine g_dup2 dX12_runs_89 rfl rfl ?_
        refine m_l39 (z := (P 39 0)) dX12_runs_90 (by decide) ((congrFun (hE55_66.2 39 rfl rfl) _).trans ((congrFun (hFc9.2 39 rfl rfl) _).trans ((congrFun (hFc6.2 39 rfl rfl) _).trans ((congrFun (hFc3.2 39 rfl rfl) _).trans rfl)))) ?_
        refine g_iconst dX12_runs_91 ?_
        refine g_isub dX12_runs_92 ?_
        refine m_s39 dX12_runs_93 (by decide) ?_
        have hB102 := ba_39 (z := ((P 39 0) - 1)) (k := 0) hB55_66 ⟨by have q0 := bl_39 (k := 0) hB; (clear hb hm4 hm5 gc8_l gc8_b gc8_t; omega), by have q0 := bl_39 (k := 0) hB; (clear hb hm4 hm5 gc8_l gc8_b gc8_t; omega)⟩
        refine g_forget (l1 := [(0, vR 0), (1, vI a1), (3, vI rc8), (4, vI rc9)]) (by intro q hq; simp only [List.mem_cons, List.not_mem_nil, or_false] at hq ⊢; rcases hq with rfl | rfl | rfl | rfl <;> simp) ?_
        exact J94_56 _ hB102 (FrM.a (FrM.c FrM.rf hE55_66 rfl) rfl rfl) (by have q0 := (up_same : (up H55_66 39 0 ((P 39 0) - 1)) 39 0 = ((P 39 0) - 1)); have q1 := bl_39 (k := 0) hB; (clear hb hm4 hm5 gc8_l gc8_b gc8_t; omega)) (by have q0 := (up_same : (up H55_66 39 0 ((P 39 0) - 1)) 39 0 = ((P 39 0) - 1)); have q1 := bl_39 (k := 0) hB; (omega)) (by first | exact fun j hj => ((up_k hj).trans ((congrFun (hE55_66.2 39 rfl rfl) _).trans ((congrFun (hFc9.2 39 rfl rfl) _).trans ((congrFun (hFc6.2 39 rfl rfl) _).trans ((congrFun (hFc3.2 39 rfl rfl) _).trans rfl))))))
      · skip
        skip
        skip
        skip
        skip
        refine g_aload_n dX12_runs_62 rfl ?_
        refine m_g58 rfl dX12_runs_63 ?_
        refine g_iload dX12_runs_66 rfl ?_
        refine g_aload_n dX12_runs_68 rfl ?_
        refine m_g58 rfl dX12_runs_69 ?_
        refine g_iload dX12_runs_72 rfl ?_
        refine g_iconst dX12_runs_74 ?_
        refine g_iadd dX12_runs_75 ?_
        refine m_l40 (z := (H55_66 40 (x55_5_66 + 3))) dX12_runs_76 ⟨by (clear hb hm4 hm5 gc8_l gc8_b gc8_t; omega), by (clear hb hm4 hm5 gc8_l gc8_b gc8_t; omega)⟩ rfl ?_
        refine m_s40 dX12_runs_77 ⟨by (clear hb hm4 hm5 gc8_l gc8_b gc8_t; omega), by (clear hb hm4 hm5 gc8_l gc8_b gc8_t; omega)⟩ ?_
        have hB103 := ba_40 (z := (H55_66 40 (x55_5_66 + 3))) (k := x55_5_66) hB55_66 ⟨by have q0 := bl_40 (k := (x55_5_66 + 3)) hB55_66; (clear hb hm4 hm5 gc8_l gc8_b gc8_t; omega), by have q0 := bl_40 (k := (x55_5_66 + 3)) hB55_66; (clear hb hm4 hm5 gc8_l gc8_b gc8_t; omega)⟩
        refine g_iinc (l1 := [(5, vI (x55_5_66 + 1)), (0, vR 0), (1, vI a1), (3, vI rc8), (4, vI rc9)]) dX12_runs_78 rfl (by decide) rfl ?_
        refine g_goto (tgt := 55) dX12_runs_81 (by decide) ?_
        refine g_forget (l1 := [(0, vR 0), (1, vI a1), (3, vI rc8), (4, vI rc9), (5, vI (x55_5_66 + 1))]) (by intro q hq; simp only [List.mem_cons, List.not_mem_nil, or_false] at hq ⊢; rcases hq with rfl | rfl | rfl | rfl | rfl <;> simp) ?_
        exact ih55_66 (x55_5_66 + 1) ⟨by (clear hb hm4 hm5 gc8_l gc8_b gc8_t; omega), by (clear hb hm4 hm5 gc8_l gc8_b gc8_t; omega)⟩ _ hB103 (FrM.a (FrM.c FrM.rf hE55_66 rfl) rfl rfl) (by (clear hb hm4 hm5 gc8_l gc8_b gc8_t; omega))
    refine g_forget (l1 := [(0, vR 0), (1, vI a1), (3, vI rc8), (4, vI rc9), (5, vI 0)]) (by intro q hq; simp only [List.mem_cons, List.not_mem_nil, or_false] at hq ⊢; rcases hq with rfl | rfl | rfl | rfl | rfl <;> simp) ?_
    exact L55_66 _ 0 (by decide) _ hBc9 FrM.rf (Nat.lt_succ_self _)
/-! What the reference answers: X12_chance. -/
set_option maxRecDepth 100000 in
set_option maxHeartbeats 4000000 in
theorem f_X12_chance (G : GT) (P : PH) (A : PH) (k : Int) (M : PH) (K : PH) (F : FT) (a1 : Int) (h_a1 : (-2147483648) ≤ a1 ∧ a1 ≤ 2147483647) (hB : BdM P) (p_st : P 0 74 ≤ 199999900) (p_wa : WA k A) (p_aw : AW K) (p_av : AV K M) (p_az : AZ K M) (p_ga : GA M A) (p_gw : GW M) (v_okC : okC P) (v_okR : okR P) (v_MVw : MVw P) (v_RE : RE P) (z0 : AM A P) (z1 : MH M P) (z2 : MR M P) (z3 : MKB K P) (z4 : MMB M P) (z5 : LYT K M F P) (Q : Option PV → PH → Prop) (hQ : ∀ (r : Int) (_ : (-2147483648) ≤ r ∧ r ≤ 2147483647) (P1 : PH) (_ : BdM P1) (_ : FrM ([59, 60, 61, 62, 66, 74, 76, 78], [28, 35, 36, 37, 38, 39, 40, 41, 42, 43, 44, 49, 50]) P P1) (_ : P1 0 74 ≤ P 0 74 + 40) (_ : r = chR K M F A a1) (_ : MVw P1) (_ : RE P1) (_ : AM (aCha A M a1) P1), Q (some (vI r)) P1) : Ct WSM G 6 iX12_chance [vR 0, vI a1] P Q := by
  refine Ct.of (by decide) (l0 := [(0, vR 0), (1, vI a1)]) rfl (Nat.le_of_ble_eq_true rfl) ?_
  have hmh := z1
  unfold MH at hmh
  have hmr9 := z2
  unfold MR at hmr9
  refine g_aload_n dX12_chance_0 rfl ?_
  refine m_g44 (z := (P 0 44)) rfl dX12_chance_1 rfl ?_
  have f1 := b0_44 hB
  refine g_if_eq (tgt := 17) dX12_chance_4 (by decide) ⟨by have q0 := b0_44 hB; (clear hmh hmr9; omega), by have q0 := b0_44 hB; (clear hmh hmr9; omega)⟩ (fun k2 => ?_) (fun k2 => ?_)
  · refine g_aload_n dX12_chance_17 rfl ?_
    refine g_iconst dX12_chance_18 ?_
    refine g_vI (av := [vI 2]) (o := 0) (st := []) (m_X12_refuses G P 2 (by decide) hB  _ (fun rc3 hc3 Pc3 hBc3 hFc3 => ⟨rc3, rfl, ?_⟩)) cf_X12_refuses t_1667 rfl (by decide) rfl rfl rfl (Nat.le_of_ble_eq_true rfl) (by decide) rfl dX12_chance_19
    exact g_retI dX12_chance_22 rfl (hQ rc3 ⟨by (clear hmh hmr9 k2; omega), by (clear hmh hmr9 k2; omega)⟩ _ hBc3 (FrM.c FrM.rf hFc3 rfl) (by have q0 := (((hFc3.1 74 rfl).trans rfl) : Pc3 0 74 = (P 0 74)); have q1 := b0_74 hB; (clear hmh hmr9 k2; omega)) (by rw [chR_n (by (omega))]; (clear hmh hmr9 k2; omega)) (MVw.fr (F := ([], [28])) v_MVw (FrM.c FrM.rf hFc3 rfl) rfl) (RE.fr (F := ([], [28])) v_RE (FrM.c FrM.rf hFc3 rfl) rfl) (by rw [aCha_n (by (omega))]; exact (AM.fr (F := ([], [28])) z0 (FrM.c FrM.rf hFc3 rfl) rfl)))
  · have k2n : 1 ≤ (P 0 44) := by have q0 := b0_44 hB; (clear hmh hmr9; omega)
    clear k2
    refine g_iload_n dX12_chance_7 rfl ?_
    refine g_iconst dX12_chance_8 ?_
    refine g_bipush dX12_chance_9 (by decide) ?_
    refine g_sI (av := [vI a1, vI 1, vI 40]) (st := []) (m_X12_is G P a1 1 40 ⟨by (clear hmh hmr9; omega), by (clear hmh hmr9; omega)⟩ (by decide) (by decide) hB  _ (fun rc4 hc4 gc4_is => ⟨rc4, rfl, ?_⟩)) cf_X12_is t_1800 rfl (Nat.le_of_ble_eq_true rfl) (by decide) rfl dX12_chance_11
    refine g_if_ne (tgt := 23) dX12_chance_14 (by decide) ⟨by (clear hmh hmr9 gc4_is; omega), by (clear hmh hmr9 gc4_is; omega)⟩ (fun k5 => ?_) (fun k5 => ?_)
    · have k5n : 1 ≤ rc4 := by (clear hmh hmr9 gc4_is; omega)
      clear k5
      have r_gc4_is := (gc4_is.resolve_right (by (clear hmh hmr9 gc4_is; omega)))
      refine g_aload_n dX12_chance_23 rfl ?_
      refine g_vV (av := []) (o := 0) (st := []) (f_X12_keeps G P (A) (k)  hB p_wa (z0) _ (fun Pc6 hBc6 hFc6 gc6_o ec6_0 => ⟨rfl, ?_⟩)) cf_X12_keeps t_2132 rfl (by decide) rfl rfl rfl (Nat.le_of_ble_eq_true rfl) (by decide) rfl dX12_chance_24
      refine g_iconst dX12_chance_27 ?_
      refine g_istore_n (l1 := [(2, vI 0), (0, vR 0), (1, vI a1)]) dX12_chance_28 (by decide) rfl ?_
      have ho := v_okR
      unfold okR at ho
      refine g_iconst dX12_chance_29 ?_
      refine g_istore_n (l1 := [(3, vI 0), (2, vI 0), (0, vR 0), (1, vI a1)]) dX12_chance_30 (by decide) rfl ?_
      have L31_6 : ∀ (n31_6 : Nat) (x31_3_6 : Int) (h_x31_3_6 : 0 ≤ x31_3_6 ∧ x31_3_6 ≤ 40) (x31_2_6 : Int) (h_x31_2_6 : 0 ≤ x31_2_6 ∧ x31_2_6 ≤ 40) (H31_6 : PH) (hB31_6 : BdM H31_6) (hE31_6 : FrM ([61, 62, 66, 74, 76, 78], [39, 40, 41, 42, 43, 44, 49, 50]) Pc6 H31_6) (i31_0_6 : H31_6 0 74 ≤ P 0 74 + x31_3_6) (i31_1_6 : AM (aDrs (x31_3_6).toNat (aPush A)) H31_6) (i31_2_6 : x31_3_6 ≤ a1) (i31_3_6 : x31_2_6 = chN K M F (aPush A) (x31_3_6).toNat) (i31_4_6 : x31_2_6 ≤ x31_3_6) (w31_RE_6 : RE H31_6) (w31_MVw_6 : MVw H31_6) (hm31_6 : ((41 - x31_3_6) : Int).toNat < n31_6), Go WSM G 6 iX12_chance 31 [(0, vR 0), (1, vI a1), (2, vI x31_2_6), (3, vI x31_3_6)] [] H31_6 Q := by
        intro n31_6
        induction n31_6 with
        | zero => intro x31_3_6 h_x31_3_6 x31_2_6 h_x31_2_6 H31_6 hB31_6 hE31_6 i31_0_6 i31_1_6 i31_2_6 i31_3_6 i31_4_6 w31_RE_6 w31_MVw_6 hm31_6; exact absurd hm31_6 (Nat.not_lt_zero _)
        | succ n31_6 ih31_6 =>
        intro x31_3_6 h_x31_3_6 x31_2_6 h_x31_2_6 H31_6 hB31_6 hE31_6 i31_0_6 i31_1_6 i31_2_6 i31_3_6 i31_4_6 w31_RE_6 w31_MVw_6 hm31_6
        refine g_iload_n dX12_chance_31 rfl ?_
        refine g_iload_n dX12_chance_32 rfl ?_
        refine g_icmp_ge (tgt := 66) dX12_chance_33 (by decide) ⟨by (clear hmh hmr9 gc4_is ho; omega), by (clear hmh hmr9 gc4_is ho; omega)⟩ ⟨by (clear hmh hmr9 gc4_is ho; omega), by (clear hmh hmr9 gc4_is ho; omega)⟩ (fun k36 => ?_) (fun k36 => ?_)
        · skip
          refine g_iload_n dX12_chance_66 rfl ?_
          exact g_retI dX12_chance_67 rfl (hQ x31_2_6 ⟨by (clear hmh hmr9 gc4_is ho k36; omega), by (clear hmh hmr9 gc4_is ho k36; omega)⟩ _ hB31_6 (FrM.c (FrM.c FrM.rf hFc6 rfl) hE31_6 rfl) (by have q0 := b0_74 hB31_6; (clear hmh hmr9 gc4_is ho k36; omega)) (by rw [chR_y (by (clear hmr9 gc4_is ho k36; omega)), show a1 = x31_3_6 by (clear hmh hmr9 gc4_is ho; omega)]; exact i31_3_6) w31_MVw_6 w31_RE_6 (by rw [aCha_y ⟨by (clear hmr9 gc4_is ho k36; omega), by (clear hmh hmr9 gc4_is ho k36; omega), by (clear hmh hmr9 gc4_is ho k36; omega)⟩, show a1 = x31_3_6 by (clear hmh hmr9 gc4_is ho; omega)]; exact i31_1_6))
        · skip
          have hcN9 := i31_3_6
          have iv37 : AM (aDrs (x31_3_6).toNat (aPush A)) H31_6 := i31_1_6
          refine g_iload_n dX12_chance_36 rfl ?_
          refine g_aload_n dX12_chance_37 rfl ?_
          refine g_aload_n dX12_chance_38 rfl ?_
          refine g_aload_n dX12_chance_39 rfl ?_
          refine m_g52 (z := (P 0 52)) rfl dX12_chance_40 ((hE31_6.1 52 rfl).trans ((hFc6.1 52 rfl).trans rfl)) ?_
          have f38 := b0_52 hB
          refine g_vI (av := [vI (P 0 52)]) (o := 0) (st := [vR 0, vI x31_2_6]) (f_X12_draw G H31_6 (aDrs (x31_3_6).toNat (aPush A)) (P 0 52) ⟨by have q0 := b0_52 hB; (omega), by have q0 := b0_52 hB; (clear hmh hmr9 gc4_is ho k36; omega)⟩ hB31_6 (iv37) _ (fun rc39 hc39 Pc39 hBc39 hFc39 gc39_d gc39_d2 ec39_0 => ⟨rc39, rfl, ?_⟩)) cf_X12_draw t_2144 rfl (by decide) rfl rfl rfl (Nat.le_of_ble_eq_true rfl) (by decide) rfl dX12_chance_43
          have hdr9 : rc39 = drw ((aDrs (x31_3_6).toNat (aPush A)) 0 5) / 64 % M 0 1 := by have q := gc39_d2; rw [q]; congr 1; have q2 := (((hFc39.1 52 rfl).trans ((hE31_6.1 52 rfl).trans ((hFc6.1 52 rfl).trans rfl))) : Pc39 0 52 = (P 0 52)); (omega)
          refine g_vI (av := [vI rc39]) (o := 0) (st := [vI x31_2_6]) (f_X12_runs G Pc39 (up (aDrs (x31_3_6).toNat (aPush A)) 0 5 (drw ((aDrs (x31_3_6).toNat (aPush A)) 0 5))) (K) (M) (F) rc39 ⟨by (clear hmh hmr9 gc4_is ho k36; omega), by (clear hmh hmr9 gc4_is ho k36; omega)⟩ hBc39 (by have q0 := (((hFc39.1 74 rfl).trans rfl) : Pc39 0 74 = (H31_6 0 74)); have q1 := b0_74 hB31_6; (clear hmh hmr9 gc4_is ho k36; omega)) p_aw p_av p_az (((GA.drs _ (p_ga.push p_wa)).u0 (Or.inr (Or.inl rfl)))) p_gw (okC.fr (F := ([59, 60, 61, 62, 66, 74, 76, 78], [35, 36, 37, 38, 39, 40, 41, 42, 43, 44, 49, 50])) v_okC (FrM.c (FrM.c (FrM.c FrM.rf hFc6 rfl) hE31_6 rfl) hFc39 rfl) rfl) (MVw.fr (F := ([61], [])) w31_MVw_6 (FrM.c FrM.rf hFc39 rfl) rfl) (RE.fr (F := ([61], [])) w31_RE_6 (FrM.c FrM.rf hFc39 rfl) rfl) (ec39_0) ((MKB.fr (F := ([59, 60, 61, 62, 66, 74, 76, 78], [35, 36, 37, 38, 39, 40, 41, 42, 43, 44, 49, 50])) z3 (FrM.c (FrM.c (FrM.c FrM.rf hFc6 rfl) hE31_6 rfl) hFc39 rfl) rfl)) ((MMB.fr (F := ([59, 60, 61, 62, 66, 74, 76, 78], [35, 36, 37, 38, 39, 40, 41, 42, 43, 44, 49, 50])) z4 (FrM.c (FrM.c (FrM.c FrM.rf hFc6 rfl) hE31_6 rfl) hFc39 rfl) rfl)) ((LYT.fr z5 (show FrM ([59, 60, 61, 62, 66, 74, 76, 78], [35, 36, 37, 38, 39, 40, 41, 42, 43, 44, 49, 50]) _ _ from (FrM.c (FrM.c (FrM.c FrM.rf hFc6 rfl) hE31_6 rfl) hFc39 rfl)) rfl)) _ (fun rc40 hc40 Pc40 hBc40 hFc40 gc40_st gc40_tk vc40_MVw vc40_RE ec40_0 => ⟨rc40, rfl, ?_⟩)) cf_X12_runs t_2136 rfl (by decide) rfl rfl rfl (Nat.le_of_ble_eq_true rfl) (by decide) rfl dX12_chance_46
          have zf41 : Pc39 0 74 = (H31_6 0 74) := ((hFc39.1 74 rfl).trans rfl)
          have hch9 : AM (aDrs (x31_3_6 + 1).toNat (aPush A)) Pc40 := by
            rw [show (x31_3_6 + 1).toNat = (x31_3_6).toNat + 1 by (clear hmh hmr9 gc4_is ho k36; omega)]
            have q := ec40_0
            rw [up_k (by decide)] at q
            exact q
          have htk9 := gc40_tk
          rw [tak_drs, hdr9] at htk9
          refine g_iconst dX12_chance_49 ?_
          refine g_icmp_ne (tgt := 57) dX12_chance_50 (by decide) ⟨by (clear hmh hmr9 gc4_is ho k36; omega), by (clear hmh hmr9 gc4_is ho k36; omega)⟩ (by decide) (fun k42 => ?_) (fun k42 => ?_)
          · have k42n : 0 ≤ rc40 := by (clear hmh hmr9 gc4_is ho k36; omega)
            clear k42
            skip
            refine g_iconst dX12_chance_57 ?_
            have hch8 : x31_2_6 + 0 = chN K M F (aPush A) (x31_3_6 + 1).toNat := by
              rw [show (x31_3_6 + 1).toNat = (x31_3_6).toNat + 1 by (clear hmh hmr9 gc4_is ho k36; omega)]
              show _ = chN K M F (aPush A) (x31_3_6).toNat + (if tak K M F (aPush A) (aPush A 0 1) (drw (aDrs (x31_3_6).toNat (aPush A) 0 5) / 64 % M 0 1) = -1 then 1 else 0)
              rw [← hcN9]
              first
              | (rw [if_pos (by (first | (clear hmh hmr9 gc4_is ho k36; omega) | (clear hmh hmr9 gc4_is ho; omega) | (clear hmh hmr9 gc4_is k36; omega) | (clear hmh hmr9 ho k36; omega) | (clear hmh gc4_is ho k36; omega) | (clear hmr9 gc4_is ho k36; omega) | (clear hmh hmr9 gc4_is; omega) | (clear hmh; omega) | omega))])
              | (rw [if_neg (by (clear hmh hmr9 gc4_is ho k36; omega))])
            refine g_iadd dX12_chance_58 ?_
            refine g_istore_n (l1 := [(2, vI (x31_2_6 + 0)), (0, vR 0), (1, vI a1), (3, vI x31_3_6)]) dX12_chance_59 (by decide) rfl ?_
            refine g_iinc (l1 := [(3, vI (x31_3_6 + 1)), (2, vI (x31_2_6 + 0)), (0, vR 0), (1, vI a1)]) dX12_chance_60 rfl (by decide) rfl ?_
            refine g_goto (tgt := 31) dX12_chance_63 (by decide) ?_
            refine g_forget (l1 := [(0, vR 0), (1, vI a1), (2, vI (x31_2_6 + 0)), (3, vI (x31_3_6 + 1))]) (by intro q hq; simp only [List.mem_cons, List.not_mem_nil, or_false] at hq ⊢; rcases hq with rfl | rfl | rfl | rfl <;> simp) ?_
            exact ih31_6 (x31_3_6 + 1) ⟨by (clear hmh hmr9 gc4_is ho k36; omega), by (omega)⟩ (x31_2_6 + 0) ⟨by (clear hmh hmr9 gc4_is ho k36; omega), by (clear hmh hmr9 gc4_is ho k36; omega)⟩ _ hBc40 (FrM.c (FrM.c (FrM.c FrM.rf hE31_6 rfl) hFc39 rfl) hFc40 rfl) (by have q0 := b0_74 hBc40; (clear hmh hmr9 gc4_is ho k36; omega)) (by first | exact hch9 | exact (by first | (rw [show (aPush A) = (up (up (aDrs (x31_3_6).toNat (aPush A)) 0 5 (drw ((aDrs (x31_3_6).toNat (aPush A)) 0 5))) 0 3 ((up (aDrs (x31_3_6).toNat (aPush A)) 0 5 (drw ((aDrs (x31_3_6).toNat (aPush A)) 0 5))) 0 3 + 1)) by (first | (clear hmh hmr9 gc4_is ho k36; omega) | (clear hmh hmr9 gc4_is ho; omega) | (clear hmh hmr9 gc4_is k36; omega) | (clear hmh hmr9 ho k36; omega) | (clear hmh gc4_is ho k36; omega) | (clear hmr9 gc4_is ho k36; omega) | (clear hmh hmr9 gc4_is; omega) | (clear hmh; omega) | omega)]; exact ec40_0))) (by (clear hmh hmr9 gc4_is ho; omega)) (by first | exact hch8 | rfl) (by (clear hmh hmr9 gc4_is ho k36; omega)) vc40_RE vc40_MVw (by (clear hmh hmr9 gc4_is ho k36; omega))
          · skip
            refine g_iconst dX12_chance_53 ?_
            refine g_goto (tgt := 58) dX12_chance_54 (by decide) ?_
            have hch8 : x31_2_6 + 1 = chN K M F (aPush A) (x31_3_6 + 1).toNat := by
              rw [show (x31_3_6 + 1).toNat = (x31_3_6).toNat + 1 by (clear hmh hmr9 gc4_is ho k36 k42; omega)]
              show _ = chN K M F (aPush A) (x31_3_6).toNat + (if tak K M F (aPush A) (aPush A 0 1) (drw (aDrs (x31_3_6).toNat (aPush A) 0 5) / 64 % M 0 1) = -1 then 1 else 0)
              rw [← hcN9]
              first
              | (rw [if_pos (by (clear hmh hmr9 gc4_is ho k36; omega))])
              | (rw [if_neg (by (first | (clear hmh hmr9 gc4_is ho k36 k42; omega) | (clear hmh hmr9 gc4_is ho k36; omega) | (clear hmh hmr9 gc4_is ho k42; omega) | (clear hmh hmr9 gc4_is k36 k42; omega) | (clear hmh hmr9 ho k36 k42; omega) | (clear hmh gc4_is ho k36 k42; omega) | (clear hmr9 gc4_is ho k36 k42; omega) | (clear hmh hmr9 gc4_is ho; omega) | (clear hmr9 hmh; omega) | omega))])
            refine g_iadd dX12_chance_58 ?_
            refine g_istore_n (l1 := [(2, vI (x31_2_6 + 1)), (0, vR 0), (1, vI a1), (3, vI x31_3_6)]) dX12_chance_59 (by decide) rfl ?_
            refine g_iinc (l1 := [(3, vI (x31_3_6 + 1)), (2, vI (x31_2_6 + 1)), (0, vR 0), (1, vI a1)]) dX12_chance_60 rfl (by decide) rfl ?_
            refine g_goto (tgt := 31) dX12_chance_63 (by decide) ?_
            refine g_forget (l1 := [(0, vR 0), (1, vI a1), (2, vI (x31_2_6 + 1)), (3, vI (x31_3_6 + 1))]) (by intro q hq; simp only [List.mem_cons, List.not_mem_nil, or_false] at hq ⊢; rcases hq with rfl | rfl | rfl | rfl <;> simp) ?_
            exact ih31_6 (x31_3_6 + 1) ⟨by (clear hmh hmr9 gc4_is ho k36 k42; omega), by (omega)⟩ (x31_2_6 + 1) ⟨by (clear hmh hmr9 gc4_is ho k36 k42; omega), by (omega)⟩ _ hBc40 (FrM.c (FrM.c (FrM.c FrM.rf hE31_6 rfl) hFc39 rfl) hFc40 rfl) (by have q0 := b0_74 hBc40; (clear hmh hmr9 gc4_is ho k36 k42; omega)) (by first | exact hch9 | exact (by first | (rw [show (aPush A) = (up (up (aDrs (x31_3_6).toNat (aPush A)) 0 5 (drw ((aDrs (x31_3_6).toNat (aPush A)) 0 5))) 0 3 ((up (aDrs (x31_3_6).toNat (aPush A)) 0 5 (drw ((aDrs (x31_3_6).toNat (aPush A)) 0 5))) 0 3 + 1)) by (first | (clear hmh hmr9 gc4_is ho k36 k42; omega) | (clear hmh hmr9 gc4_is ho k36; omega) | (clear hmh hmr9 gc4_is ho k42; omega) | (clear hmh hmr9 gc4_is k36 k42; omega) | (clear hmh hmr9 ho k36 k42; omega) | (clear hmh gc4_is ho k36 k42; omega) | (clear hmr9 gc4_is ho k36 k42; omega) | (clear hmh hmr9 gc4_is ho; omega) | (clear hmr9 hmh; omega) | omega)]; exact ec40_0))) (by (clear hmh hmr9 gc4_is ho k42; omega)) (by first | exact hch8 | rfl) (by (clear hmh hmr9 gc4_is ho k36 k42; omega)) vc40_RE vc40_MVw (by (clear hmh hmr9 gc4_is ho k36 k42; omega))
      refine g_forget (l1 := [(0, vR 0), (1, vI a1), (2, vI 0), (3, vI 0)]) (by intro q hq; simp only [List.mem_cons, List.not_mem_nil, or_false] at hq ⊢; rcases hq with rfl | rfl | rfl | rfl <;> simp) ?_
      exact L31_6 _ 0 (by decide) 0 (by decide) _ hBc6 FrM.rf (by have q0 := (((hFc6.1 74 rfl).trans rfl) : Pc6 0 74 = (P 0 74)); have q1 := b0_74 hB; (clear hmh hmr9 gc4_is ho; omega)) (by first | exact hch9 | exact ec6_0) (by (clear hmh hmr9 gc4_is ho; omega)) (by first | exact hch8 | rfl) (by (clear hmh hmr9 gc4_is ho; omega)) (RE.fr (F := ([59, 60], [35, 36, 37, 38, 39, 40])) v_RE (FrM.c FrM.rf hFc6 rfl) rfl) (MVw.fr (F := ([59, 60], [35, 36, 37, 38, 39, 40])) v_MVw (FrM.c FrM.rf hFc6 rfl) rfl) (Nat.lt_succ_self _)
    · skip
      refine g_aload_n dX12_chance_17 rfl ?_
      refine g_iconst dX12_chance_18 ?_
      refine g_vI (av := [vI 2]) (o := 0) (st := []) (m_X12_refuses G P 2 (by decide) hB  _ (fun rc43 hc43 Pc43 hBc43 hFc43 => ⟨rc43, rfl, ?_⟩)) cf_X12_refuses t_1667 rfl (by decide) rfl rfl rfl (Nat.le_of_ble_eq_true rfl) (by decide) rfl dX12_chance_19
      exact g_retI dX12_chance_22 rfl (hQ rc43 ⟨by (clear hmh hmr9 gc4_is k5; omega), by (clear hmh hmr9 gc4_is k5; omega)⟩ _ hBc43 (FrM.c FrM.rf hFc43 rfl) (by have q0 := (((hFc43.1 74 rfl).trans rfl) : Pc43 0 74 = (P 0 74)); have q1 := b0_74 hB; (clear hmh hmr9 gc4_is k5; omega)) (by rw [chR_n (by (clear hmh hmr9; omega))]; (clear hmh hmr9 gc4_is k5; omega)) (MVw.fr (F := ([], [28])) v_MVw (FrM.c FrM.rf hFc43 rfl) rfl) (RE.fr (F := ([], [28])) v_RE (FrM.c FrM.rf hFc43 rfl) rfl) (by rw [aCha_n (by (clear hmh hmr9; omega))]; exact (AM.fr (F := ([], [28])) z0 (FrM.c FrM.rf hFc43 rfl) rfl)))
/-! What the reference answers: X12_run. -/
set_option maxRecDepth 100000 in
set_option maxHeartbeats 4000000 in
theorem f_X12_run (G : GT) (P : PH) (A : PH) (k : Int) (M : PH) (K : PH) (F : FT) (a1 : Int) (h_a1 : (-2147483648) ≤ a1 ∧ a1 ≤ 2147483647) (hB : BdM P) (p_st : P 0 74 ≤ 199999999) (p_wa : WA k A) (p_aw : AW K) (p_av : AV K M) (p_az : AZ K M) (p_ga : GA M A) (p_gw : GW M) (v_okC : okC P) (v_MVw : MVw P) (v_RE : RE P) (z0 : AM A P) (z1 : MH M P) (z2 : MR M P) (z3 : MKB K P) (z4 : MMB M P) (z5 : LYT K M F P) (Q : Option PV → PH → Prop) (hQ : ∀ (r : Int) (_ : (-2147483648) ≤ r ∧ r ≤ 2147483647) (P1 : PH) (_ : BdM P1) (_ : FrM ([59, 60, 62, 66, 74, 76, 78], [28, 35, 36, 37, 38, 39, 40, 41, 42, 43, 44, 49, 50]) P P1) (_ : P1 0 74 ≤ P 0 74 + 1) (_ : r = tkR K M F A a1) (_ : MVw P1) (_ : RE P1) (_ : AM (aRun A M a1) P1), Q (some (vI r)) P1) : Ct WSM G 6 iX12_run [vR 0, vI a1] P Q := by
  refine Ct.of (by decide) (l0 := [(0, vR 0), (1, vI a1)]) rfl (Nat.le_of_ble_eq_true rfl) ?_
  have hp3 := aPush_0 A 3 (by decide)
  refine g_aload_n dX12_run_0 rfl ?_
  refine g_iload_n dX12_run_1 rfl ?_
  refine g_vI (av := [vI a1]) (o := 0) (st := []) (f_X12_isRow G P (M) a1 ⟨by omega, by omega⟩ hB (z1) (z2) _ (fun rc1 hc1 gc1_p gc1_f => ⟨rc1, rfl, ?_⟩)) cf_X12_isRow t_1946 rfl (by decide) rfl rfl rfl (Nat.le_of_ble_eq_true rfl) (by decide) rfl dX12_run_2
  have f2 := b0_44 hB
  have f3 := b0_52 hB
  refine g_if_ne (tgt := 14) dX12_run_5 (by decide) ⟨by (first | (clear gc1_p gc1_f; omega) | omega), by (first | (clear gc1_p gc1_f; omega) | omega)⟩ (fun k4 => ?_) (fun k4 => ?_)
  · have k4n : 1 ≤ rc1 := by (first | (clear gc1_p gc1_f k4; omega) | (clear gc1_p gc1_f; omega) | (clear gc1_p k4; omega) | (clear gc1_f k4; omega) | (clear gc1_p; omega) | omega)
    clear k4
    first | (revert r_gc1_f; intro r_gc1_f) | have r_gc1_f := (gc1_f.resolve_right (by (clear gc1_p gc1_f; omega))) | have r_gc1_f := (gc1_f.resolve_left (by (clear gc1_p gc1_f; omega))) | skip
    first | (revert r_gc1_p; intro r_gc1_p) | have r_gc1_p := (gc1_p.resolve_right (by (clear gc1_p gc1_f; omega))) | have r_gc1_p := (gc1_p.resolve_left (by (clear gc1_p gc1_f; omega))) | skip
    refine g_aload_n dX12_run_14 rfl ?_
    refine g_vV (av := []) (o := 0) (st := []) (f_X12_keeps G P (A) (k)  hB p_wa (z0) _ (fun Pc5 hBc5 hFc5 gc5_o ec5_0 => ⟨rfl, ?_⟩)) cf_X12_keeps t_2132 rfl (by decide) rfl rfl rfl (Nat.le_of_ble_eq_true rfl) (by decide) rfl dX12_run_15
    refine g_aload_n dX12_run_18 rfl ?_
    refine g_iload_n dX12_run_19 rfl ?_
    refine g_vI (av := [vI a1]) (o := 0) (st := []) (f_X12_runs G Pc5 (aPush A) (K) (M) (F) a1 ⟨by (first | (clear gc1_p gc1_f; omega) | omega), by (first | (clear gc1_p gc1_f; omega) | omega)⟩ hBc5 (by have q0 := (((hFc5.1 74 rfl).trans rfl) : Pc5 0 74 = (P 0 74)); have q1 := b0_74 hB; (first | (clear gc1_p gc1_f; omega) | (clear gc1_p; omega) | (clear gc1_f; omega) | omega)) p_aw p_av p_az (p_ga.push p_wa) p_gw (okC.fr (F := ([59, 60], [35, 36, 37, 38, 39, 40])) v_okC (FrM.c FrM.rf hFc5 rfl) rfl) (MVw.fr (F := ([59, 60], [35, 36, 37, 38, 39, 40])) v_MVw (FrM.c FrM.rf hFc5 rfl) rfl) (RE.fr (F := ([59, 60], [35, 36, 37, 38, 39, 40])) v_RE (FrM.c FrM.rf hFc5 rfl) rfl) (ec5_0) ((MKB.fr (F := ([59, 60], [35, 36, 37, 38, 39, 40])) z3 (FrM.c FrM.rf hFc5 rfl) rfl)) ((MMB.fr (F := ([59, 60], [35, 36, 37, 38, 39, 40])) z4 (FrM.c FrM.rf hFc5 rfl) rfl)) ((LYT.fr z5 (show FrM ([59, 60], [35, 36, 37, 38, 39, 40]) _ _ from (FrM.c FrM.rf hFc5 rfl)) rfl)) _ (fun rc6 hc6 Pc6 hBc6 hFc6 gc6_st gc6_tk vc6_MVw vc6_RE ec6_0 => ⟨rc6, rfl, ?_⟩)) cf_X12_runs t_2136 rfl (by decide) rfl rfl rfl (Nat.le_of_ble_eq_true rfl) (by decide) rfl dX12_run_20
    have zf7 : Pc5 0 74 = (P 0 74) := ((hFc5.1 74 rfl).trans rfl)
    have htk9 := gc6_tk
    rw [tak_push] at htk9
    exact g_retI dX12_run_23 rfl (hQ rc6 ⟨by (first | (clear gc1_p gc1_f; omega) | omega), by (first | (clear gc1_p gc1_f; omega) | omega)⟩ _ hBc6 (FrM.c (FrM.c FrM.rf hFc5 rfl) hFc6 rfl) (by have q0 := b0_74 hBc6; (first | (clear gc1_p gc1_f; omega) | (clear gc1_p; omega) | (clear gc1_f; omega) | omega)) (by rw [tkR_y (by (first | (clear gc1_p gc1_f; omega) | (clear gc1_p; omega) | (clear gc1_f; omega) | omega))]; exact htk9) vc6_MVw vc6_RE (by rw [aRun_y ⟨by (first | (clear gc1_p gc1_f; omega) | (clear gc1_p; omega) | (clear gc1_f; omega) | omega), by (first | (clear gc1_p gc1_f; omega) | (clear gc1_p; omega) | (clear gc1_f; omega) | omega), by (first | (clear gc1_p gc1_f; omega) | (clear gc1_p; omega) | (clear gc1_f; omega) | omega)⟩, ← hp3]; exact ec6_0))
  · first | (revert r_gc1_f; intro r_gc1_f) | have r_gc1_f := (gc1_f.resolve_right (by (clear gc1_p gc1_f k4; omega))) | have r_gc1_f := (gc1_f.resolve_left (by (clear gc1_p gc1_f k4; omega))) | skip
    first | (revert r_gc1_p; intro r_gc1_p) | have r_gc1_p := (gc1_p.resolve_right (by (clear gc1_p gc1_f k4; omega))) | have r_gc1_p := (gc1_p.resolve_left (by (clear gc1_p gc1_f k4; omega))) | skip
    refine g_aload_n dX12_run_8 rfl ?_
    refine g_iconst dX12_run_9 ?_
    refine g_vI (av := [vI 2]) (o := 0) (st := []) (m_X12_refuses G P 2 (by decide) hB  _ (fun rc8 hc8 Pc8 hBc8 hFc8 => ⟨rc8, rfl, ?_⟩)) cf_X12_refuses t_1667 rfl (by decide) rfl rfl rfl (Nat.le_of_ble_eq_true rfl) (by decide) rfl dX12_run_10
    exact g_retI dX12_run_13 rfl (hQ rc8 ⟨by (first | (clear gc1_p gc1_f k4; omega) | omega), by (first | (clear gc1_p gc1_f k4; omega) | omega)⟩ _ hBc8 (FrM.c FrM.rf hFc8 rfl) (by have q0 := (((hFc8.1 74 rfl).trans rfl) : Pc8 0 74 = (P 0 74)); have q1 := b0_74 hB; (first | (clear gc1_p gc1_f k4; omega) | (clear gc1_p gc1_f; omega) | (clear gc1_p k4; omega) | (clear gc1_f k4; omega) | (clear gc1_p; omega) | omega)) (by rw [tkR_n (by (first | (clear gc1_p gc1_f k4; omega) | (clear gc1_p gc1_f; omega) | (clear gc1_p k4; omega) | (clear gc1_f k4; omega) | (clear gc1_p; omega) | omega))]; (first | (clear gc1_p gc1_f k4; omega) | (clear gc1_p gc1_f; omega) | (clear gc1_p k4; omega) | (clear gc1_f k4; omega) | (clear gc1_p; omega) | omega)) (MVw.fr (F := ([], [28])) v_MVw (FrM.c FrM.rf hFc8 rfl) rfl) (RE.fr (F := ([], [28])) v_RE (FrM.c FrM.rf hFc8 rfl) rfl) (by rw [aRun_n (by (first | (clear gc1_p gc1_f k4; omega) | (clear gc1_p gc1_f; omega) | (clear gc1_p k4; omega) | (clear gc1_f k4; omega) | (clear gc1_p; omega) | omega))]; exact (AM.fr (F := ([], [28])) z0 (FrM.c FrM.rf hFc8 rfl) rfl)))
/-! What the reference answers: X12_taken. -/
set_option maxRecDepth 100000 in
set_option maxHeartbeats 4000000 in
theorem f_X12_taken (G : GT) (P : PH) (K : PH) (M : PH) (F : FT) (A : PH) (a1 : Int) (h_a1 : (-2147483648) ≤ a1 ∧ a1 ≤ 2147483647) (hB : BdM P) (p_st : P 0 74 ≤ 199999999) (p_aw : AW K) (p_av : AV K M) (p_az : AZ K M) (p_ga : GA M A) (p_gw : GW M) (v_okC : okC P) (v_MVw : MVw P) (v_RE : RE P) (z0 : AM A P) (z1 : MH M P) (z2 : MR M P) (z3 : MKB K P) (z4 : MMB M P) (z5 : LYT K M F P) (Q : Option PV → PH → Prop) (hQ : ∀ (r : Int) (_ : (-2147483648) ≤ r ∧ r ≤ 2147483647) (P1 : PH) (_ : BdM P1) (_ : FrM ([62, 66, 74], [41, 42, 43, 44]) P P1) (_ : P1 0 74 ≤ P 0 74 + 1) (_ : r = tkR K M F A a1) (_ : MVw P1) (_ : RE P1), Q (some (vI r)) P1) : Ct WSM G 5 iX12_taken [vR 0, vI a1] P Q := by
  refine Ct.of (by decide) (l0 := [(0, vR 0), (1, vI a1)]) rfl (Nat.le_of_ble_eq_true rfl) ?_
  have hb := z0.b
  have hav := p_av
  have q35 := bl_35 (k := 0) hB
  refine g_aload_n dX12_taken_0 rfl ?_
  refine g_iload_n dX12_taken_1 rfl ?_
  refine g_vI (av := [vI a1]) (o := 0) (st := []) (f_X12_isRow G P (M) a1 ⟨by (clear hb; omega), by (clear hb; omega)⟩ hB (z1) (z2) _ (fun rc1 hc1 gc1_p gc1_f => ⟨rc1, rfl, ?_⟩)) cf_X12_isRow t_1946 rfl (by decide) rfl rfl rfl (Nat.le_of_ble_eq_true rfl) (by decide) rfl dX12_taken_2
  have f2 := b0_44 hB
  have f3 := b0_52 hB
  refine g_if_ne (tgt := 10) dX12_taken_5 (by decide) ⟨by (clear hb gc1_p gc1_f; omega), by (clear hb gc1_p gc1_f; omega)⟩ (fun k4 => ?_) (fun k4 => ?_)
  · have k4n : 1 ≤ rc1 := by (clear hb gc1_p gc1_f; omega)
    clear k4
    have r_gc1_f := (gc1_f.resolve_right (by (clear hb gc1_p gc1_f; omega)))
    have r_gc1_p := (gc1_p.resolve_left (by (clear hb gc1_p gc1_f; omega)))
    refine g_aload_n dX12_taken_10 rfl ?_
    refine g_iconst dX12_taken_11 ?_
    have iv5 : ODb 0 (A 0 0) (A 1) P := AM.od z0
    refine g_vV (av := [vI 0]) (o := 0) (st := []) (f_X12_arranges G P (K) (M) (F) (A 0 0) (A 1) 0 (by decide) hB (by have q0 := b0_74 hB; (clear hb gc1_p gc1_f; omega)) p_aw (p_av) (p_ga.1) (⟨by (clear gc1_p gc1_f; omega), by (clear gc1_p gc1_f; omega)⟩) v_MVw v_RE (z4) (z5) (iv5) _ (fun Pc6 hBc6 hFc6 gc6_st vc6_MV vc6_RE vc6_RLt ec6_0 => ⟨rfl, ?_⟩)) cf_X12_arranges t_1887 rfl (by decide) rfl rfl rfl (Nat.le_of_ble_eq_true rfl) (by decide) rfl dX12_taken_12
    refine g_aload_n dX12_taken_15 rfl ?_
    refine g_iload_n dX12_taken_16 rfl ?_
    refine g_vI (av := [vI a1]) (o := 0) (st := []) (f_X12_fitting G Pc6 (K) (M) (F) (A 0 0) (A 1) a1 ⟨by (clear hb gc1_p gc1_f; omega), by (clear hb gc1_p gc1_f; omega)⟩ hBc6 p_aw (p_av) (p_az) (⟨by (clear gc1_p gc1_f; omega), by (clear gc1_p gc1_f; omega)⟩) (okC.fr (F := ([62, 66, 74], [41, 42, 43])) v_okC (FrM.c FrM.rf hFc6 rfl) rfl) ((MKB.fr (F := ([62, 66, 74], [41, 42, 43])) z3 (FrM.c FrM.rf hFc6 rfl) rfl)) ((MMB.fr (F := ([62, 66, 74], [41, 42, 43])) z4 (FrM.c FrM.rf hFc6 rfl) rfl)) (ec6_0) _ (fun rc7 hc7 Pc7 hBc7 hFc7 gc7_ft => ⟨rc7, rfl, ?_⟩)) cf_X12_fitting t_1899 rfl (by decide) rfl rfl rfl (Nat.le_of_ble_eq_true rfl) (by decide) rfl dX12_taken_17
    obtain ⟨X9, hX9⟩ : ∃ X : Int, X = rc7 := ⟨_, rfl⟩
    have hft9 := gc7_ft
    rw [← hX9] at hft9
    refine g_aload_n dX12_taken_20 rfl ?_
    refine g_aload_n dX12_taken_21 rfl ?_
    refine m_g55 rfl dX12_taken_22 ?_
    refine g_iconst dX12_taken_25 ?_
    refine m_l37 (z := (P 37 0)) dX12_taken_26 (by decide) ((congrFun (hFc7.2 37 rfl rfl) _).trans ((congrFun (hFc6.2 37 rfl rfl) _).trans rfl)) ?_
    have f8 := bl_37 (k := 0) hB
    refine g_vI (av := [vI (P 37 0)]) (o := 0) (st := [vI rc7]) (f_X12_openBy G Pc7 (K) (M) (F) (A 0 0) (A 1) (P 37 0) ⟨by have q0 := bl_37 (k := 0) hB; (clear hb gc1_p gc1_f; omega), by have q0 := bl_37 (k := 0) hB; (clear hb gc1_p gc1_f; omega)⟩ hBc7 (by have q := (((congrFun (hFc7.2 37 rfl rfl) _).trans ((congrFun (hFc6.2 37 rfl rfl) _).trans rfl)) : Pc7 37 0 = (P 37 0)); have q2 := p_ga.2.1; (clear hb gc1_p gc1_f; omega)) (p_ga.1) (p_gw) (⟨by (clear gc1_p gc1_f; omega), by (clear gc1_p gc1_f; omega)⟩) ((ARG.fr ec6_0 (show FrM ([], [44]) _ _ from (FrM.c FrM.rf hFc7 rfl)) rfl)) _ (fun rc9 hc9 gc9_op => ⟨rc9, rfl, ?_⟩)) cf_X12_openBy t_1923 rfl (by decide) rfl rfl rfl (Nat.le_of_ble_eq_true rfl) (by decide) rfl dX12_taken_27
    obtain ⟨Y9, hY9⟩ : ∃ X : Int, X = rc9 := ⟨_, rfl⟩
    have hop9 := gc9_op
    rw [← hY9] at hop9
    refine g_iand dX12_taken_30 ?_
    refine g_nm (fun b10 e_b10 => ?_)
    have h_b10 := iand_l (x := rc7) (y := rc9) ⟨by (clear hb gc1_p gc1_f; omega), by (clear hb gc1_p gc1_f; omega)⟩
    rw [← e_b10] at h_b10
    have hx9 : b10 = iand X9 Y9 := by rw [e_b10, hX9, hY9]
    have htk9 := fun (w : Int) => take_f (w := w) hft9 hop9 ⟨by (clear hb gc1_p gc1_f; omega), by (clear hb gc1_p gc1_f; omega)⟩ ⟨by (clear hb gc1_p gc1_f; omega), by (clear hb gc1_p gc1_f; omega)⟩ (by (clear gc1_p gc1_f; omega))
    refine g_sI (av := [vI b10]) (st := []) (f_X12_lowest G Pc7 b10 ⟨by (clear hb gc1_p gc1_f; omega), by (clear hb gc1_p gc1_f; omega)⟩ hBc7  _ (fun rc11 hc11 gc11_l gc11_b gc11_t gc11_f => ⟨rc11, rfl, ?_⟩)) cf_X12_lowest t_1927 rfl (Nat.le_of_ble_eq_true rfl) (by decide) rfl dX12_taken_31
    have htw9 : rc11 = tak K M F A (A 0 1) a1 := by
      have q := htk9 rc11 (by rw [← hx9]; exact gc11_l) (by rw [← hx9]; exact gc11_t) (by rw [← hx9]; exact gc11_f)
      rw [hb.2.1] at q
      exact q
    exact g_retI dX12_taken_34 rfl (hQ rc11 ⟨by (clear hb gc1_p gc1_f gc11_l gc11_b gc11_t; omega), by (clear hb gc1_p gc1_f gc11_l gc11_b gc11_t; omega)⟩ _ hBc7 (FrM.c (FrM.c FrM.rf hFc6 rfl) hFc7 rfl) (by have q0 := (((hFc7.1 74 rfl).trans rfl) : Pc7 0 74 = (Pc6 0 74)); have q1 := b0_74 hBc6; (clear hb gc1_p gc1_f gc11_l gc11_b gc11_t; omega)) (by rw [tkR_y (by (clear hb gc1_p gc1_f gc11_l gc11_b gc11_t; omega))]; exact htw9) ((MV.fr (F := ([], [44])) vc6_MV (FrM.c FrM.rf hFc7 rfl) rfl).w) (RE.fr (F := ([], [44])) vc6_RE (FrM.c FrM.rf hFc7 rfl) rfl))
  · skip
    skip
    refine g_iconst dX12_taken_8 ?_
    exact g_retI dX12_taken_9 rfl (hQ (-1) (by decide) _ hB FrM.rf (by have q0 := b0_74 hB; (clear hb gc1_p gc1_f k4; omega)) (by rw [tkR_n (by (clear hb gc1_p; omega))]) v_MVw v_RE)
