/-! What the reference answers: X12_blame. -/
set_option maxRecDepth 100000 in
set_option maxHeartbeats 4000000 in
theorem f_X12_blame (G : GT) (P : PH) (a1 : Int) (a2 : Int) (h_a1 : 0 ≤ a1 ∧ a1 ≤ 6) (h_a2 : (-1) ≤ a2 ∧ a2 ≤ 1600) (hB : BdM P) (p_k1 : 1 ≤ a1) (v_FP : FP P) (Q : Option PV → PH → Prop) (hQ : ∀ (P1 : PH) (_ : BdM P1) (_ : FrM ([8, 9], []) P P1) (_ : 0 < P1 0 8 ∨ a1 ≤ 0) (_ : P 0 8 ≤ 0 ∨ 0 < P1 0 8) (_ : (0 < P 0 8 ∧ P1 0 8 = P 0 8 ∧ P1 0 9 = P 0 9) ∨ (P 0 8 ≤ 0 ∧ P1 0 8 = a1 ∧ P1 0 9 = a2)) (_ : FP P1), Q none P1) : Ct WSM G 1 iX12_blame [vR 0, vI a1, vI a2] P Q := by
  refine Ct.of (by decide) (l0 := [(0, vR 0), (1, vI a1), (2, vI a2)]) rfl (Nat.le_of_ble_eq_true rfl) ?_
  refine g_aload_n dX12_blame_0 rfl ?_
  refine m_g8 (z := (P 0 8)) rfl dX12_blame_1 rfl ?_
  have f1 := b0_8 hB
  refine g_if_le (tgt := 8) dX12_blame_4 (by decide) ⟨by have q0 := b0_8 hB; omega, by have q0 := b0_8 hB; omega⟩ (fun k2 => ?_) (fun k2 => ?_)
  · refine g_aload_n dX12_blame_8 rfl ?_
    refine g_iload_n dX12_blame_9 rfl ?_
    refine m_p8 rfl dX12_blame_10 ?_
    have hB3 := bs_8 (z := a1) hB ⟨by omega, by omega⟩
    refine g_aload_n dX12_blame_13 rfl ?_
    refine g_iload_n dX12_blame_14 rfl ?_
    refine m_p9 rfl dX12_blame_15 ?_
    have hB4 := bs_9 (z := a2) hB3 ⟨by omega, by omega⟩
    have iv5 : FP (up (up P 0 8 a1) 0 9 a2) := fun h => by exfalso; have q := (((up_k (by decide)).trans up_same) : (up (up P 0 8 a1) 0 9 a2) 0 8 = a1); omega
    exact g_retV dX12_blame_18 rfl (hQ _ hB4 (FrM.s (FrM.s FrM.rf rfl) rfl) (by have q0 := (((up_k (by decide)).trans up_same) : (up (up P 0 8 a1) 0 9 a2) 0 8 = a1); omega) (by have q0 := (((up_k (by decide)).trans up_same) : (up (up P 0 8 a1) 0 9 a2) 0 8 = a1); omega) (by have q0 := (((up_k (by decide)).trans up_same) : (up (up P 0 8 a1) 0 9 a2) 0 8 = a1); have q1 := (up_same : (up (up P 0 8 a1) 0 9 a2) 0 9 = a2); omega) iv5)
  · exact g_retV dX12_blame_7 rfl (hQ _ hB FrM.rf (by have q0 := b0_8 hB; omega) (by have q0 := b0_8 hB; omega) (by have q0 := b0_8 hB; have q1 := b0_9 hB; omega) v_FP)
/-! What the reference answers: X12_lex. -/
set_option maxRecDepth 100000 in
set_option maxHeartbeats 4000000 in
theorem f_X12_lex (G : GT) (P : PH) (T : TT) (p : Int) (hB : BdM P) (v_FP : FP P) (z0 : CP (P 0 8) (MS T p) P) (Q : Option PV → PH → Prop) (hQ : ∀ (P1 : PH) (_ : BdM P1) (_ : FrM ([8, 9], []) P P1) (_ : P 0 8 ≤ 0 ∨ 0 < P1 0 8) (_ : (0 < P 0 8 ∧ P1 0 8 = P 0 8 ∧ P1 0 9 = P 0 9) ∨ (P 0 8 = 0 ∧ tK T p = 4 ∧ P1 0 8 = 1 ∧ P1 0 9 = tS T p) ∨ (P 0 8 = 0 ∧ tK T p ≠ 4 ∧ P1 0 8 = P 0 8 ∧ P1 0 9 = P 0 9)) (_ : FP P1), Q none P1) : Ct WSM G 2 iX12_lex [vR 0] P Q := by
  refine Ct.of (by decide) (l0 := [(0, vR 0)]) rfl (Nat.le_of_ble_eq_true rfl) ?_
  have hb8 := b0_8 hB
  have hbad : P 0 8 = 0 → (tK T p = 4 ∧ P 0 12 = tS T p ∧ P 0 12 ≠ -1) ∨ (tK T p ≠ 4 ∧ P 0 12 = -1) := fun h => (z0 h).bad
  refine g_aload_n dX12_lex_0 rfl ?_
  refine m_g12 (z := (P 0 12)) rfl dX12_lex_1 rfl ?_
  refine g_iconst dX12_lex_4 ?_
  have f1 := b0_12 hB
  refine g_icmp_eq (tgt := 17) dX12_lex_5 (by decide) ⟨by have q0 := b0_12 hB; (clear hbad; omega), by have q0 := b0_12 hB; (clear hbad; omega)⟩ (by decide) (fun k2 => ?_) (fun k2 => ?_)
  · exact g_retV dX12_lex_17 rfl (hQ _ hB FrM.rf (by have q0 := b0_8 hB; (clear hbad; omega)) (by have q0 := b0_8 hB; have q1 := b0_9 hB; (omega)) v_FP)
  · have k2n : 0 ≤ (P 0 12) := by have q0 := b0_12 hB; (clear hbad; omega)
    clear k2
    refine g_aload_n dX12_lex_8 rfl ?_
    refine g_iconst dX12_lex_9 ?_
    refine g_aload_n dX12_lex_10 rfl ?_
    refine m_g12 (z := (P 0 12)) rfl dX12_lex_11 rfl ?_
    refine g_vV (av := [vI 1, vI (P 0 12)]) (o := 0) (st := []) (f_X12_blame G P 1 (P 0 12) (by decide) ⟨by have q0 := b0_12 hB; (clear hbad; omega), by have q0 := b0_12 hB; (clear hbad; omega)⟩ hB (by have q0 := b0_12 hB; (clear hbad; omega)) v_FP _ (fun Pc3 hBc3 hFc3 gc3_f gc3_pe gc3_b vc3_FP => ⟨rfl, ?_⟩)) cf_X12_blame t_1701 rfl (by decide) rfl rfl rfl (Nat.le_of_ble_eq_true rfl) (by decide) rfl dX12_lex_14
    exact g_retV dX12_lex_17 rfl (hQ _ hBc3 (FrM.c FrM.rf hFc3 rfl) (by have q0 := b0_8 hBc3; (clear hbad gc3_f gc3_pe; omega)) (by have q0 := b0_8 hBc3; have q1 := b0_9 hBc3; (omega)) vc3_FP)
/-! What the reference answers: X12_isSign. -/
set_option maxRecDepth 100000 in
set_option maxHeartbeats 4000000 in
theorem f_X12_isSign (G : GT) (P : PH) (T : TT) (p : Int) (a1 : Int) (h_a1 : (-2147483648) ≤ a1 ∧ a1 ≤ 2147483647) (hB : BdM P) (z0 : MS T p P) (Q : Option PV → PH → Prop) (hQ : ∀ (r : Int) (_ : 0 ≤ r ∧ r ≤ 1) (_ : r = 0 ∨ (P 0 3 = 3 ∧ P 0 6 = a1)) (_ : tK T p = 4 ∨ (r = 1 ∧ tK T p = 3 ∧ tV T p = a1) ∨ (r = 0 ∧ (tK T p ≠ 3 ∨ tV T p ≠ a1))), Q (some (vI r)) P) : Ct WSM G 1 iX12_isSign [vR 0, vI a1] P Q := by
  refine Ct.of (by decide) (l0 := [(0, vR 0), (1, vI a1)]) rfl (Nat.le_of_ble_eq_true rfl) ?_
  have ht : tK T p ≠ 4 → P 0 3 = tK T p ∧ P 0 5 = tE T p := z0.tok
  have hv : tK T p = 2 ∨ tK T p = 3 → P 0 6 = tV T p := z0.val
  refine g_aload_n dX12_isSign_0 rfl ?_
  refine m_g3 (z := (P 0 3)) rfl dX12_isSign_1 rfl ?_
  refine g_iconst dX12_isSign_4 ?_
  have f1 := b0_3 hB
  refine g_icmp_ne (tgt := 20) dX12_isSign_5 (by decide) ⟨by have q0 := b0_3 hB; (first | (clear ht hv; omega) | omega), by have q0 := b0_3 hB; (first | (clear ht hv; omega) | omega)⟩ (by decide) (fun k2 => ?_) (fun k2 => ?_)
  · have k2n : (P 0 3) ≤ 2 := by have q0 := b0_3 hB; (first | (clear ht hv; omega) | (clear ht; omega) | (clear hv; omega) | omega)
    clear k2
    refine g_iconst dX12_isSign_20 ?_
    exact g_retZ dX12_isSign_21 rfl (by decide) (hQ 0 (by decide) (by have q0 := b0_3 hB; have q1 := b0_6 hB; (first | (clear ht hv; omega) | (clear ht; omega) | (clear hv; omega) | omega)) (by (first | (clear ht hv; omega) | (clear ht; omega) | (clear hv; omega) | omega)))
  · refine g_aload_n dX12_isSign_8 rfl ?_
    refine m_g6 (z := (P 0 6)) rfl dX12_isSign_9 rfl ?_
    refine g_iload_n dX12_isSign_12 rfl ?_
    have f3 := b0_6 hB
    refine g_icmp_ne (tgt := 20) dX12_isSign_13 (by decide) ⟨by have q0 := b0_6 hB; (first | (clear ht hv; omega) | omega), by have q0 := b0_6 hB; (first | (clear ht hv; omega) | omega)⟩ ⟨by (first | (clear ht hv; omega) | omega), by (first | (clear ht hv; omega) | omega)⟩ (fun k4 => ?_) (fun k4 => ?_)
    · refine g_iconst dX12_isSign_20 ?_
      exact g_retZ dX12_isSign_21 rfl (by decide) (hQ 0 (by decide) (by have q0 := b0_3 hB; have q1 := b0_6 hB; (first | (clear ht hv k4; omega) | (clear ht hv; omega) | (clear ht k4; omega) | (clear hv k4; omega) | (clear ht; omega) | omega)) (by (first | (clear ht hv k4; omega) | (clear ht hv; omega) | (clear ht k4; omega) | (clear hv k4; omega) | (clear ht; omega) | omega)))
    · refine g_iconst dX12_isSign_16 ?_
      refine g_goto (tgt := 21) dX12_isSign_17 (by decide) ?_
      exact g_retZ dX12_isSign_21 rfl (by decide) (hQ 1 (by decide) (by have q0 := b0_3 hB; have q1 := b0_6 hB; (first | (clear ht hv k4; omega) | (clear ht hv; omega) | (clear ht k4; omega) | (clear hv k4; omega) | (clear ht; omega) | omega)) (by (first | (clear ht hv k4; omega) | (clear ht hv; omega) | (clear ht k4; omega) | (clear hv k4; omega) | (clear ht; omega) | omega)))
/-! What the reference answers: X12_isWord. -/
set_option maxRecDepth 100000 in
set_option maxHeartbeats 4000000 in
theorem f_X12_isWord (G : GT) (P : PH) (T : TT) (p : Int) (a1 : Int) (h_a1 : (-9223372036854775808) ≤ a1 ∧ a1 ≤ 9223372036854775807) (hB : BdM P) (z0 : MS T p P) (Q : Option PV → PH → Prop) (hQ : ∀ (r : Int) (_ : 0 ≤ r ∧ r ≤ 1) (_ : r = 0 ∨ (P 0 3 = 1 ∧ P 0 7 = a1)) (_ : tK T p = 4 ∨ (r = 1 ∧ tK T p = 1 ∧ tW T p = a1) ∨ (r = 0 ∧ (tK T p ≠ 1 ∨ tW T p ≠ a1))), Q (some (vI r)) P) : Ct WSM G 1 iX12_isWord [vR 0, vL a1] P Q := by
  refine Ct.of (by decide) (l0 := [(0, vR 0), (1, vL a1)]) rfl (Nat.le_of_ble_eq_true rfl) ?_
  have ht : tK T p ≠ 4 → P 0 3 = tK T p ∧ P 0 5 = tE T p := z0.tok
  have hv : tK T p = 1 → P 0 7 = tW T p := z0.word
  refine g_aload_n dX12_isWord_0 rfl ?_
  refine m_g3 (z := (P 0 3)) rfl dX12_isWord_1 rfl ?_
  refine g_iconst dX12_isWord_4 ?_
  have f1 := b0_3 hB
  refine g_icmp_ne (tgt := 21) dX12_isWord_5 (by decide) ⟨by have q0 := b0_3 hB; (first | (clear ht hv; omega) | omega), by have q0 := b0_3 hB; (first | (clear ht hv; omega) | omega)⟩ (by decide) (fun k2 => ?_) (fun k2 => ?_)
  · refine g_iconst dX12_isWord_21 ?_
    exact g_retZ dX12_isWord_22 rfl (by decide) (hQ 0 (by decide) (by have q0 := b0_3 hB; have q1 := b0_7 hB; (first | (clear ht hv k2; omega) | (clear ht hv; omega) | (clear ht k2; omega) | (clear hv k2; omega) | (clear ht; omega) | omega)) (by (first | (clear ht hv k2; omega) | (clear ht hv; omega) | (clear ht k2; omega) | (clear hv k2; omega) | (clear ht; omega) | omega)))
  · refine g_aload_n dX12_isWord_8 rfl ?_
    refine m_g7 (z := (P 0 7)) rfl dX12_isWord_9 rfl ?_
    refine g_lload_n dX12_isWord_12 rfl ?_
    refine g_lcmp dX12_isWord_13 ⟨by have q0 := b0_7 hB; (first | (clear ht hv k2; omega) | omega), by have q0 := b0_7 hB; (first | (clear ht hv k2; omega) | omega)⟩ ⟨by (first | (clear ht hv k2; omega) | omega), by (first | (clear ht hv k2; omega) | omega)⟩ ?_
    refine g_nm (fun b3 e_b3 => ?_)
    have h_b3 := lcmpv_b (P 0 7) a1
    have h0_b3 := lcmpv_0 (x := (P 0 7)) (y := a1)
    have h1_b3 := lcmpv_lt (x := (P 0 7)) (y := a1)
    have h2_b3 := lcmpv_gt (x := (P 0 7)) (y := a1)
    rw [← e_b3] at h_b3 h0_b3 h1_b3 h2_b3
    refine g_if_ne (tgt := 21) dX12_isWord_14 (by decide) ⟨by (first | (clear ht hv k2 h0_b3 h1_b3 h2_b3; omega) | omega), by (first | (clear ht hv k2 h0_b3 h1_b3 h2_b3; omega) | omega)⟩ (fun k4 => ?_) (fun k4 => ?_)
    · refine g_iconst dX12_isWord_21 ?_
      exact g_retZ dX12_isWord_22 rfl (by decide) (hQ 0 (by decide) (by have q0 := b0_3 hB; have q1 := b0_7 hB; (first | (clear ht hv k2 h0_b3 h1_b3 h2_b3 k4; omega) | (clear ht hv k2 h0_b3 h1_b3 h2_b3; omega) | (clear ht hv k2 h0_b3 h1_b3 k4; omega) | (clear ht hv k2 h0_b3 h2_b3 k4; omega) | (clear ht hv k2 h1_b3 h2_b3 k4; omega) | (clear ht hv h0_b3 h1_b3 h2_b3 k4; omega) | (clear ht k2 h0_b3 h1_b3 h2_b3 k4; omega) | (clear hv k2 h0_b3 h1_b3 h2_b3 k4; omega) | (clear ht hv k2 h0_b3 h1_b3; omega) | (clear k2 hv ht; omega) | omega)) (by (first | (clear ht hv k2 h0_b3 h1_b3 h2_b3 k4; omega) | (clear ht hv k2 h0_b3 h1_b3 h2_b3; omega) | (clear ht hv k2 h0_b3 h1_b3 k4; omega) | (clear ht hv k2 h0_b3 h2_b3 k4; omega) | (clear ht hv k2 h1_b3 h2_b3 k4; omega) | (clear ht hv h0_b3 h1_b3 h2_b3 k4; omega) | (clear ht k2 h0_b3 h1_b3 h2_b3 k4; omega) | (clear hv k2 h0_b3 h1_b3 h2_b3 k4; omega) | (clear ht hv k2 h0_b3 h1_b3; omega) | (clear k2 hv ht; omega) | omega)))
    · refine g_iconst dX12_isWord_17 ?_
      refine g_goto (tgt := 22) dX12_isWord_18 (by decide) ?_
      exact g_retZ dX12_isWord_22 rfl (by decide) (hQ 1 (by decide) (by have q0 := b0_3 hB; have q1 := b0_7 hB; (first | (clear ht hv k2 h0_b3 h1_b3 h2_b3 k4; omega) | (clear ht hv k2 h0_b3 h1_b3 h2_b3; omega) | (clear ht hv k2 h0_b3 h1_b3 k4; omega) | (clear ht hv k2 h0_b3 h2_b3 k4; omega) | (clear ht hv k2 h1_b3 h2_b3 k4; omega) | (clear ht hv h0_b3 h1_b3 h2_b3 k4; omega) | (clear ht k2 h0_b3 h1_b3 h2_b3 k4; omega) | (clear hv k2 h0_b3 h1_b3 h2_b3 k4; omega) | (clear ht hv k2 h0_b3 h1_b3; omega) | (clear k2 hv ht; omega) | omega)) (by (first | (clear ht hv k2 h0_b3 h1_b3 h2_b3 k4; omega) | (clear ht hv k2 h0_b3 h1_b3 h2_b3; omega) | (clear ht hv k2 h0_b3 h1_b3 k4; omega) | (clear ht hv k2 h0_b3 h2_b3 k4; omega) | (clear ht hv k2 h1_b3 h2_b3 k4; omega) | (clear ht hv h0_b3 h1_b3 h2_b3 k4; omega) | (clear ht k2 h0_b3 h1_b3 h2_b3 k4; omega) | (clear hv k2 h0_b3 h1_b3 h2_b3 k4; omega) | (clear ht hv k2 h0_b3 h1_b3; omega) | (clear k2 hv ht; omega) | omega)))
/-! What the reference answers: X12_isOwn. -/
set_option maxRecDepth 100000 in
set_option maxHeartbeats 4000000 in
theorem f_X12_isOwn (G : GT) (P : PH) (a1 : Int) (h_a1 : (-9223372036854775808) ≤ a1 ∧ a1 ≤ 9223372036854775807) (hB : BdM P) (Q : Option PV → PH → Prop) (hQ : ∀ (r : Int) (_ : 0 ≤ r ∧ r ≤ 1) (_ : (r = 1 ∧ oWS a1) ∨ (r = 0 ∧ ¬ oWS a1)), Q (some (vI r)) P) : Ct WSM G 1 iX12_isOwn [vR 0, vL a1] P Q := by
  refine Ct.of (by decide) (l0 := [(0, vR 0), (1, vL a1)]) rfl (Nat.le_of_ble_eq_true rfl) ?_
  refine g_lload_n dX12_isOwn_0 rfl ?_
  refine g_ldc2 (z := 1802071652) dX12_isOwn_1 t_1705 (by decide) ?_
  refine g_lcmp dX12_isOwn_4 ⟨by omega, by omega⟩ (by decide) ?_
  refine g_nm (fun b1 e_b1 => ?_)
  have h_b1 := lcmpv_b a1 1802071652
  have h0_b1 := lcmpv_0 (x := a1) (y := 1802071652)
  have h1_b1 := lcmpv_lt (x := a1) (y := 1802071652)
  have h2_b1 := lcmpv_gt (x := a1) (y := 1802071652)
  rw [← e_b1] at h_b1 h0_b1 h1_b1 h2_b1
  refine g_if_eq (tgt := 40) dX12_isOwn_5 (by decide) ⟨by (clear h0_b1 h1_b1 h2_b1; omega), by (clear h0_b1 h1_b1 h2_b1; omega)⟩ (fun k2 => ?_) (fun k2 => ?_)
  · refine g_iconst dX12_isOwn_40 ?_
    exact g_retZ dX12_isOwn_41 rfl (by decide) (hQ 1 (by decide) (by first | exact Or.inl ⟨rfl, oWS_t (by (omega))⟩ | exact Or.inr ⟨rfl, oWS_f (by (first | (clear h0_b1 h1_b1 h2_b1 k2; omega) | (clear h0_b1 h1_b1 h2_b1; omega) | (clear h0_b1 h1_b1 k2; omega) | (clear h0_b1 h2_b1 k2; omega) | (clear h1_b1 h2_b1 k2; omega) | (clear h0_b1 h1_b1; omega) | omega))⟩))
  · refine g_lload_n dX12_isOwn_8 rfl ?_
    refine g_ldc2 (z := 6516590) dX12_isOwn_9 t_1726 (by decide) ?_
    refine g_lcmp dX12_isOwn_12 ⟨by (clear h0_b1 h1_b1 h2_b1 k2; omega), by (clear h0_b1 h1_b1 h2_b1 k2; omega)⟩ (by decide) ?_
    refine g_nm (fun b3 e_b3 => ?_)
    have h_b3 := lcmpv_b a1 6516590
    have h0_b3 := lcmpv_0 (x := a1) (y := 6516590)
    have h1_b3 := lcmpv_lt (x := a1) (y := 6516590)
    have h2_b3 := lcmpv_gt (x := a1) (y := 6516590)
    rw [← e_b3] at h_b3 h0_b3 h1_b3 h2_b3
    refine g_if_eq (tgt := 40) dX12_isOwn_13 (by decide) ⟨by (clear h0_b1 h1_b1 h2_b1 k2 h0_b3 h1_b3 h2_b3; omega), by (clear h0_b1 h1_b1 h2_b1 k2 h0_b3 h1_b3 h2_b3; omega)⟩ (fun k4 => ?_) (fun k4 => ?_)
    · refine g_iconst dX12_isOwn_40 ?_
      exact g_retZ dX12_isOwn_41 rfl (by decide) (hQ 1 (by decide) (by first | exact Or.inl ⟨rfl, oWS_t (by (clear k2 h2_b1 h1_b1 h0_b1; omega))⟩ | exact Or.inr ⟨rfl, oWS_f (by (first | (clear h0_b1 h1_b1 h2_b1 k2 h0_b3 h1_b3 h2_b3 k4; omega) | (clear h0_b1 h1_b1 h2_b1 k2 h0_b3 h1_b3 h2_b3; omega) | (clear h0_b1 h1_b1 h2_b1 k2 h0_b3 h1_b3 k4; omega) | (clear h0_b1 h1_b1 h2_b1 k2 h0_b3 h2_b3 k4; omega) | (clear h0_b1 h1_b1 h2_b1 k2 h1_b3 h2_b3 k4; omega) | (clear h0_b1 h1_b1 h2_b1 h0_b3 h1_b3 h2_b3 k4; omega) | (clear h0_b1 h1_b1 k2 h0_b3 h1_b3 h2_b3 k4; omega) | (clear h0_b1 h2_b1 k2 h0_b3 h1_b3 h2_b3 k4; omega) | (clear h1_b1 h2_b1 k2 h0_b3 h1_b3 h2_b3 k4; omega) | (clear h0_b1 h1_b1 h2_b1 k2 h0_b3 h1_b3; omega) | (clear k2 h2_b1 h1_b1 h0_b1; omega) | omega))⟩))
    · refine g_lload_n dX12_isOwn_16 rfl ?_
      refine g_ldc2 (z := 469786452840) dX12_isOwn_17 t_1727 (by decide) ?_
      refine g_lcmp dX12_isOwn_20 ⟨by (clear h0_b1 h1_b1 h2_b1 k2 h0_b3 h1_b3 h2_b3 k4; omega), by (clear h0_b1 h1_b1 h2_b1 k2 h0_b3 h1_b3 h2_b3 k4; omega)⟩ (by decide) ?_
      refine g_nm (fun b5 e_b5 => ?_)
      have h_b5 := lcmpv_b a1 469786452840
      have h0_b5 := lcmpv_0 (x := a1) (y := 469786452840)
      have h1_b5 := lcmpv_lt (x := a1) (y := 469786452840)
      have h2_b5 := lcmpv_gt (x := a1) (y := 469786452840)
      rw [← e_b5] at h_b5 h0_b5 h1_b5 h2_b5
      refine g_if_eq (tgt := 40) dX12_isOwn_21 (by decide) ⟨by (clear h0_b1 h1_b1 h2_b1 k2 h0_b3 h1_b3 h2_b3 k4 h0_b5 h1_b5 h2_b5; omega), by (clear h0_b1 h1_b1 h2_b1 k2 h0_b3 h1_b3 h2_b3 k4 h0_b5 h1_b5 h2_b5; omega)⟩ (fun k6 => ?_) (fun k6 => ?_)
      · refine g_iconst dX12_isOwn_40 ?_
        exact g_retZ dX12_isOwn_41 rfl (by decide) (hQ 1 (by decide) (by first | exact Or.inl ⟨rfl, oWS_t (by (clear k4 h2_b3 h1_b3 h0_b3 k2 h2_b1 h1_b1 h0_b1; omega))⟩ | exact Or.inr ⟨rfl, oWS_f (by (first | (clear h0_b1 h1_b1 h2_b1 k2 h0_b3 h1_b3 h2_b3 k4 h0_b5 h1_b5 h2_b5 k6; omega) | (clear h0_b1 h1_b1 h2_b1 k2 h0_b3 h1_b3 h2_b3 k4 h0_b5 h1_b5 h2_b5; omega) | (clear h0_b1 h1_b1 h2_b1 k2 h0_b3 h1_b3 h2_b3 k4 h0_b5 h1_b5 k6; omega) | (clear h0_b1 h1_b1 h2_b1 k2 h0_b3 h1_b3 h2_b3 k4 h0_b5 h2_b5 k6; omega) | (clear h0_b1 h1_b1 h2_b1 k2 h0_b3 h1_b3 h2_b3 k4 h1_b5 h2_b5 k6; omega) | (clear h0_b1 h1_b1 h2_b1 k2 h0_b3 h1_b3 h2_b3 h0_b5 h1_b5 h2_b5 k6; omega) | (clear h0_b1 h1_b1 h2_b1 k2 h0_b3 h1_b3 k4 h0_b5 h1_b5 h2_b5 k6; omega) | (clear h0_b1 h1_b1 h2_b1 k2 h0_b3 h2_b3 k4 h0_b5 h1_b5 h2_b5 k6; omega) | (clear h0_b1 h1_b1 h2_b1 k2 h1_b3 h2_b3 k4 h0_b5 h1_b5 h2_b5 k6; omega) | (clear h0_b1 h1_b1 h2_b1 k2 h0_b3 h1_b3 h2_b3 k4 h0_b5 h1_b5; omega) | (clear k4 h2_b3 h1_b3 h0_b3 k2 h2_b1 h1_b1 h0_b1; omega) | omega))⟩))
      · refine g_lload_n dX12_isOwn_24 rfl ?_
        refine g_ldc2 (z := 6386285) dX12_isOwn_25 t_1728 (by decide) ?_
        refine g_lcmp dX12_isOwn_28 ⟨by (clear h0_b1 h1_b1 h2_b1 k2 h0_b3 h1_b3 h2_b3 k4 h0_b5 h1_b5 h2_b5 k6; omega), by (clear h0_b1 h1_b1 h2_b1 k2 h0_b3 h1_b3 h2_b3 k4 h0_b5 h1_b5 h2_b5 k6; omega)⟩ (by decide) ?_
        refine g_nm (fun b7 e_b7 => ?_)
        have h_b7 := lcmpv_b a1 6386285
        have h0_b7 := lcmpv_0 (x := a1) (y := 6386285)
        have h1_b7 := lcmpv_lt (x := a1) (y := 6386285)
        have h2_b7 := lcmpv_gt (x := a1) (y := 6386285)
        rw [← e_b7] at h_b7 h0_b7 h1_b7 h2_b7
        refine g_if_eq (tgt := 40) dX12_isOwn_29 (by decide) ⟨by (clear h0_b1 h1_b1 h2_b1 k2 h0_b3 h1_b3 h2_b3 k4 h0_b5 h1_b5 h2_b5 k6 h0_b7 h1_b7 h2_b7; omega), by (clear h0_b1 h1_b1 h2_b1 k2 h0_b3 h1_b3 h2_b3 k4 h0_b5 h1_b5 h2_b5 k6 h0_b7 h1_b7 h2_b7; omega)⟩ (fun k8 => ?_) (fun k8 => ?_)
        · refine g_iconst dX12_isOwn_40 ?_
          exact g_retZ dX12_isOwn_41 rfl (by decide) (hQ 1 (by decide) (by first | exact Or.inl ⟨rfl, oWS_t (by (clear k6 h2_b5 h1_b5 h0_b5 k4 h2_b3 h1_b3 h0_b3 k2 h2_b1 h1_b1 h0_b1; omega))⟩ | exact Or.inr ⟨rfl, oWS_f (by (first | (clear h0_b1 h1_b1 h2_b1 k2 h0_b3 h1_b3 h2_b3 k4 h0_b5 h1_b5 h2_b5 k6 h0_b7 h1_b7 h2_b7 k8; omega) | (clear h0_b1 h1_b1 h2_b1 k2 h0_b3 h1_b3 h2_b3 k4 h0_b5 h1_b5 h2_b5 k6 h0_b7 h1_b7 h2_b7; omega) | (clear h0_b1 h1_b1 h2_b1 k2 h0_b3 h1_b3 h2_b3 k4 h0_b5 h1_b5 h2_b5 k6 h0_b7 h1_b7 k8; omega) | (clear h0_b1 h1_b1 h2_b1 k2 h0_b3 h1_b3 h2_b3 k4 h0_b5 h1_b5 h2_b5 k6 h0_b7 h2_b7 k8; omega) | (clear h0_b1 h1_b1 h2_b1 k2 h0_b3 h1_b3 h2_b3 k4 h0_b5 h1_b5 h2_b5 k6 h1_b7 h2_b7 k8; omega) | (clear h0_b1 h1_b1 h2_b1 k2 h0_b3 h1_b3 h2_b3 k4 h0_b5 h1_b5 h2_b5 h0_b7 h1_b7 h2_b7 k8; omega) | (clear h0_b1 h1_b1 h2_b1 k2 h0_b3 h1_b3 h2_b3 k4 h0_b5 h1_b5 k6 h0_b7 h1_b7 h2_b7 k8; omega) | (clear h0_b1 h1_b1 h2_b1 k2 h0_b3 h1_b3 h2_b3 k4 h0_b5 h2_b5 k6 h0_b7 h1_b7 h2_b7 k8; omega) | (clear h0_b1 h1_b1 h2_b1 k2 h0_b3 h1_b3 h2_b3 k4 h1_b5 h2_b5 k6 h0_b7 h1_b7 h2_b7 k8; omega) | (clear h0_b1 h1_b1 h2_b1 k2 h0_b3 h1_b3 h2_b3 k4 h0_b5 h1_b5 h2_b5 k6 h0_b7 h1_b7; omega) | (clear k6 h2_b5 h1_b5 h0_b5 k4 h2_b3 h1_b3 h0_b3 k2 h2_b1 h1_b1 h0_b1; omega) | omega))⟩))
        · refine g_lload_n dX12_isOwn_32 rfl ?_
          refine g_ldc2 (z := 2003330414) dX12_isOwn_33 t_1729 (by decide) ?_
          refine g_lcmp dX12_isOwn_36 ⟨by (clear h0_b1 h1_b1 h2_b1 k2 h0_b3 h1_b3 h2_b3 k4 h0_b5 h1_b5 h2_b5 k6 h0_b7 h1_b7 h2_b7 k8; omega), by (clear h0_b1 h1_b1 h2_b1 k2 h0_b3 h1_b3 h2_b3 k4 h0_b5 h1_b5 h2_b5 k6 h0_b7 h1_b7 h2_b7 k8; omega)⟩ (by decide) ?_
          refine g_nm (fun b9 e_b9 => ?_)
          have h_b9 := lcmpv_b a1 2003330414
          have h0_b9 := lcmpv_0 (x := a1) (y := 2003330414)
          have h1_b9 := lcmpv_lt (x := a1) (y := 2003330414)
          have h2_b9 := lcmpv_gt (x := a1) (y := 2003330414)
          rw [← e_b9] at h_b9 h0_b9 h1_b9 h2_b9
          refine g_if_ne (tgt := 42) dX12_isOwn_37 (by decide) ⟨by (clear h0_b1 h1_b1 h2_b1 k2 h0_b3 h1_b3 h2_b3 k4 h0_b5 h1_b5 h2_b5 k6 h0_b7 h1_b7 h2_b7 k8 h0_b9 h1_b9 h2_b9; omega), by (clear h0_b1 h1_b1 h2_b1 k2 h0_b3 h1_b3 h2_b3 k4 h0_b5 h1_b5 h2_b5 k6 h0_b7 h1_b7 h2_b7 k8 h0_b9 h1_b9 h2_b9; omega)⟩ (fun k10 => ?_) (fun k10 => ?_)
          · refine g_lload_n dX12_isOwn_42 rfl ?_
            refine g_ldc2 (z := 1920298085) dX12_isOwn_43 t_1730 (by decide) ?_
            refine g_lcmp dX12_isOwn_46 ⟨by (clear h0_b1 h1_b1 h2_b1 k2 h0_b3 h1_b3 h2_b3 k4 h0_b5 h1_b5 h2_b5 k6 h0_b7 h1_b7 h2_b7 k8 h0_b9 h1_b9 h2_b9 k10; omega), by (clear h0_b1 h1_b1 h2_b1 k2 h0_b3 h1_b3 h2_b3 k4 h0_b5 h1_b5 h2_b5 k6 h0_b7 h1_b7 h2_b7 k8 h0_b9 h1_b9 h2_b9 k10; omega)⟩ (by decide) ?_
            refine g_nm (fun b11 e_b11 => ?_)
            have h_b11 := lcmpv_b a1 1920298085
            have h0_b11 := lcmpv_0 (x := a1) (y := 1920298085)
            have h1_b11 := lcmpv_lt (x := a1) (y := 1920298085)
            have h2_b11 := lcmpv_gt (x := a1) (y := 1920298085)
            rw [← e_b11] at h_b11 h0_b11 h1_b11 h2_b11
            refine g_if_eq (tgt := 82) dX12_isOwn_47 (by decide) ⟨by (clear h0_b1 h1_b1 h2_b1 k2 h0_b3 h1_b3 h2_b3 k4 h0_b5 h1_b5 h2_b5 k6 h0_b7 h1_b7 h2_b7 k8 h0_b9 h1_b9 h2_b9 k10 h0_b11 h1_b11 h2_b11; omega), by (clear h0_b1 h1_b1 h2_b1 k2 h0_b3 h1_b3 h2_b3 k4 h0_b5 h1_b5 h2_b5 k6 h0_b7 h1_b7 h2_b7 k8 h0_b9 h1_b9 h2_b9 k10 h0_b11 h1_b11 h2_b11; omega)⟩ (fun k12 => ?_) (fun k12 => ?_)
            · refine g_iconst dX12_isOwn_82 ?_
              exact g_retZ dX12_isOwn_83 rfl (by decide) (hQ 1 (by decide) (by first | exact Or.inl ⟨rfl, oWS_t (by (clear k10 h2_b9 h1_b9 h0_b9 k8 h2_b7 h1_b7 h0_b7 k6 h2_b5 h1_b5 h0_b5 k4 h2_b3 h1_b3 h0_b3 k2 h2_b1 h1_b1 h0_b1; omega))⟩ | exact Or.inr ⟨rfl, oWS_f (by (first | (clear h0_b1 h1_b1 h2_b1 k2 h0_b3 h1_b3 h2_b3 k4 h0_b5 h1_b5 h2_b5 k6 h0_b7 h1_b7 h2_b7 k8 h0_b9 h1_b9 h2_b9 k10 h0_b11 h1_b11 h2_b11 k12; omega) | (clear h0_b1 h1_b1 h2_b1 k2 h0_b3 h1_b3 h2_b3 k4 h0_b5 h1_b5 h2_b5 k6 h0_b7 h1_b7 h2_b7 k8 h0_b9 h1_b9 h2_b9 k10 h0_b11 h1_b11 h2_b11; omega) | (clear h0_b1 h1_b1 h2_b1 k2 h0_b3 h1_b3 h2_b3 k4 h0_b5 h1_b5 h2_b5 k6 h0_b7 h1_b7 h2_b7 k8 h0_b9 h1_b9 h2_b9 k10 h0_b11 h1_b11 k12; omega) | (clear h0_b1 h1_b1 h2_b1 k2 h0_b3 h1_b3 h2_b3 k4 h0_b5 h1_b5 h2_b5 k6 h0_b7 h1_b7 h2_b7 k8 h0_b9 h1_b9 h2_b9 k10 h0_b11 h2_b11 k12; omega) | (clear h0_b1 h1_b1 h2_b1 k2 h0_b3 h1_b3 h2_b3 k4 h0_b5 h1_b5 h2_b5 k6 h0_b7 h1_b7 h2_b7 k8 h0_b9 h1_b9 h2_b9 k10 h1_b11 h2_b11 k12; omega) | (clear h0_b1 h1_b1 h2_b1 k2 h0_b3 h1_b3 h2_b3 k4 h0_b5 h1_b5 h2_b5 k6 h0_b7 h1_b7 h2_b7 k8 h0_b9 h1_b9 h2_b9 h0_b11 h1_b11 h2_b11 k12; omega) | (clear h0_b1 h1_b1 h2_b1 k2 h0_b3 h1_b3 h2_b3 k4 h0_b5 h1_b5 h2_b5 k6 h0_b7 h1_b7 h2_b7 k8 h0_b9 h1_b9 k10 h0_b11 h1_b11 h2_b11 k12; omega) | (clear h0_b1 h1_b1 h2_b1 k2 h0_b3 h1_b3 h2_b3 k4 h0_b5 h1_b5 h2_b5 k6 h0_b7 h1_b7 h2_b7 k8 h0_b9 h2_b9 k10 h0_b11 h1_b11 h2_b11 k12; omega) | (clear h0_b1 h1_b1 h2_b1 k2 h0_b3 h1_b3 h2_b3 k4 h0_b5 h1_b5 h2_b5 k6 h0_b7 h1_b7 h2_b7 k8 h1_b9 h2_b9 k10 h0_b11 h1_b11 h2_b11 k12; omega) | (clear h0_b1 h1_b1 h2_b1 k2 h0_b3 h1_b3 h2_b3 k4 h0_b5 h1_b5 h2_b5 k6 h0_b7 h1_b7 h2_b7 k8 h0_b9 h1_b9 h2_b9 k10 h0_b11 h1_b11; omega) | (clear k10 h2_b9 h1_b9 h0_b9 k8 h2_b7 h1_b7 h0_b7 k6 h2_b5 h1_b5 h0_b5 k4 h2_b3 h1_b3 h0_b3 k2 h2_b1 h1_b1 h0_b1; omega) | omega))⟩))
            · refine g_lload_n dX12_isOwn_50 rfl ?_
              refine g_ldc2 (z := 108256335193460) dX12_isOwn_51 t_1731 (by decide) ?_
              refine g_lcmp dX12_isOwn_54 ⟨by (clear h0_b1 h1_b1 h2_b1 k2 h0_b3 h1_b3 h2_b3 k4 h0_b5 h1_b5 h2_b5 k6 h0_b7 h1_b7 h2_b7 k8 h0_b9 h1_b9 h2_b9 k10 h0_b11 h1_b11 h2_b11 k12; omega), by (clear h0_b1 h1_b1 h2_b1 k2 h0_b3 h1_b3 h2_b3 k4 h0_b5 h1_b5 h2_b5 k6 h0_b7 h1_b7 h2_b7 k8 h0_b9 h1_b9 h2_b9 k10 h0_b11 h1_b11 h2_b11 k12; omega)⟩ (by decide) ?_
              refine g_nm (fun b13 e_b13 => ?_)
              have h_b13 := lcmpv_b a1 108256335193460
              have h0_b13 := lcmpv_0 (x := a1) (y := 108256335193460)
              have h1_b13 := lcmpv_lt (x := a1) (y := 108256335193460)
              have h2_b13 := lcmpv_gt (x := a1) (y := 108256335193460)
              rw [← e_b13] at h_b13 h0_b13 h1_b13 h2_b13
              refine g_if_eq (tgt := 82) dX12_isOwn_55 (by decide) ⟨by (clear k2 h0_b3 h1_b3 h2_b3 k4 h0_b5 h1_b5 h2_b5 k6 h0_b7 h1_b7 h2_b7 k8 h0_b9 h1_b9 h2_b9 k10 h0_b11 h1_b11 h2_b11 k12 h0_b13 h1_b13 h2_b13; omega), by (clear k2 h0_b3 h1_b3 h2_b3 k4 h0_b5 h1_b5 h2_b5 k6 h0_b7 h1_b7 h2_b7 k8 h0_b9 h1_b9 h2_b9 k10 h0_b11 h1_b11 h2_b11 k12 h0_b13 h1_b13 h2_b13; omega)⟩ (fun k14 => ?_) (fun k14 => ?_)
              · refine g_iconst dX12_isOwn_82 ?_
                exact g_retZ dX12_isOwn_83 rfl (by decide) (hQ 1 (by decide) (by first | exact Or.inl ⟨rfl, oWS_t (by (clear k12 h2_b11 h1_b11 h0_b11 k10 h2_b9 h1_b9 h0_b9 k8 h2_b7 h1_b7 h0_b7 k6 h2_b5 h1_b5 h0_b5 k4 h2_b3 h1_b3 h0_b3; omega))⟩ | exact Or.inr ⟨rfl, oWS_f (by (first | (clear h0_b3 h1_b3 h2_b3 k4 h0_b5 h1_b5 h2_b5 k6 h0_b7 h1_b7 h2_b7 k8 h0_b9 h1_b9 h2_b9 k10 h0_b11 h1_b11 h2_b11 k12 h0_b13 h1_b13 h2_b13 k14; omega) | (clear h0_b3 h1_b3 h2_b3 k4 h0_b5 h1_b5 h2_b5 k6 h0_b7 h1_b7 h2_b7 k8 h0_b9 h1_b9 h2_b9 k10 h0_b11 h1_b11 h2_b11 k12 h0_b13 h1_b13 h2_b13; omega) | (clear h0_b3 h1_b3 h2_b3 k4 h0_b5 h1_b5 h2_b5 k6 h0_b7 h1_b7 h2_b7 k8 h0_b9 h1_b9 h2_b9 k10 h0_b11 h1_b11 h2_b11 k12 h0_b13 h1_b13 k14; omega) | (clear h0_b3 h1_b3 h2_b3 k4 h0_b5 h1_b5 h2_b5 k6 h0_b7 h1_b7 h2_b7 k8 h0_b9 h1_b9 h2_b9 k10 h0_b11 h1_b11 h2_b11 k12 h0_b13 h2_b13 k14; omega) | (clear h0_b3 h1_b3 h2_b3 k4 h0_b5 h1_b5 h2_b5 k6 h0_b7 h1_b7 h2_b7 k8 h0_b9 h1_b9 h2_b9 k10 h0_b11 h1_b11 h2_b11 k12 h1_b13 h2_b13 k14; omega) | (clear h0_b3 h1_b3 h2_b3 k4 h0_b5 h1_b5 h2_b5 k6 h0_b7 h1_b7 h2_b7 k8 h0_b9 h1_b9 h2_b9 k10 h0_b11 h1_b11 h2_b11 h0_b13 h1_b13 h2_b13 k14; omega) | (clear h0_b3 h1_b3 h2_b3 k4 h0_b5 h1_b5 h2_b5 k6 h0_b7 h1_b7 h2_b7 k8 h0_b9 h1_b9 h2_b9 k10 h0_b11 h1_b11 k12 h0_b13 h1_b13 h2_b13 k14; omega) | (clear h0_b3 h1_b3 h2_b3 k4 h0_b5 h1_b5 h2_b5 k6 h0_b7 h1_b7 h2_b7 k8 h0_b9 h1_b9 h2_b9 k10 h0_b11 h2_b11 k12 h0_b13 h1_b13 h2_b13 k14; omega) | (clear h0_b3 h1_b3 h2_b3 k4 h0_b5 h1_b5 h2_b5 k6 h0_b7 h1_b7 h2_b7 k8 h0_b9 h1_b9 h2_b9 k10 h1_b11 h2_b11 k12 h0_b13 h1_b13 h2_b13 k14; omega) | (clear h0_b3 h1_b3 h2_b3 k4 h0_b5 h1_b5 h2_b5 k6 h0_b7 h1_b7 h2_b7 k8 h0_b9 h1_b9 h2_b9 k10 h0_b11 h1_b11 h2_b11 k12 h0_b13 h1_b13; omega) | (clear k12 h2_b11 h1_b11 h0_b11 k10 h2_b9 h1_b9 h0_b9 k8 h2_b7 h1_b7 h0_b7 k6 h2_b5 h1_b5 h0_b5 k4 h2_b3 h1_b3 h0_b3; omega) | omega))⟩))
              · refine g_lload_n dX12_isOwn_58 rfl ?_
                refine g_ldc2 (z := 7239021) dX12_isOwn_59 t_1732 (by decide) ?_
                refine g_lcmp dX12_isOwn_62 ⟨by (clear h0_b3 h1_b3 h2_b3 k4 h0_b5 h1_b5 h2_b5 k6 h0_b7 h1_b7 h2_b7 k8 h0_b9 h1_b9 h2_b9 k10 h0_b11 h1_b11 h2_b11 k12 h0_b13 h1_b13 h2_b13 k14; omega), by (clear h0_b3 h1_b3 h2_b3 k4 h0_b5 h1_b5 h2_b5 k6 h0_b7 h1_b7 h2_b7 k8 h0_b9 h1_b9 h2_b9 k10 h0_b11 h1_b11 h2_b11 k12 h0_b13 h1_b13 h2_b13 k14; omega)⟩ (by decide) ?_
                refine g_nm (fun b15 e_b15 => ?_)
                have h_b15 := lcmpv_b a1 7239021
                have h0_b15 := lcmpv_0 (x := a1) (y := 7239021)
                have h1_b15 := lcmpv_lt (x := a1) (y := 7239021)
                have h2_b15 := lcmpv_gt (x := a1) (y := 7239021)
                rw [← e_b15] at h_b15 h0_b15 h1_b15 h2_b15
                refine g_if_eq (tgt := 82) dX12_isOwn_63 (by decide) ⟨by (clear k4 h0_b5 h1_b5 h2_b5 k6 h0_b7 h1_b7 h2_b7 k8 h0_b9 h1_b9 h2_b9 k10 h0_b11 h1_b11 h2_b11 k12 h0_b13 h1_b13 h2_b13 k14 h0_b15 h1_b15 h2_b15; omega), by (clear k4 h0_b5 h1_b5 h2_b5 k6 h0_b7 h1_b7 h2_b7 k8 h0_b9 h1_b9 h2_b9 k10 h0_b11 h1_b11 h2_b11 k12 h0_b13 h1_b13 h2_b13 k14 h0_b15 h1_b15 h2_b15; omega)⟩ (fun k16 => ?_) (fun k16 => ?_)
                · refine g_iconst dX12_isOwn_82 ?_
                  exact g_retZ dX12_isOwn_83 rfl (by decide) (hQ 1 (by decide) (by first | exact Or.inl ⟨rfl, oWS_t (by (clear k14 h2_b13 h1_b13 h0_b13 k12 h2_b11 h1_b11 h0_b11 k10 h2_b9 h1_b9 h0_b9 k8 h2_b7 h1_b7 h0_b7 k6 h2_b5 h1_b5 h0_b5; omega))⟩ | exact Or.inr ⟨rfl, oWS_f (by (first | (clear h0_b5 h1_b5 h2_b5 k6 h0_b7 h1_b7 h2_b7 k8 h0_b9 h1_b9 h2_b9 k10 h0_b11 h1_b11 h2_b11 k12 h0_b13 h1_b13 h2_b13 k14 h0_b15 h1_b15 h2_b15 k16; omega) | (clear h0_b5 h1_b5 h2_b5 k6 h0_b7 h1_b7 h2_b7 k8 h0_b9 h1_b9 h2_b9 k10 h0_b11 h1_b11 h2_b11 k12 h0_b13 h1_b13 h2_b13 k14 h0_b15 h1_b15 h2_b15; omega) | (clear h0_b5 h1_b5 h2_b5 k6 h0_b7 h1_b7 h2_b7 k8 h0_b9 h1_b9 h2_b9 k10 h0_b11 h1_b11 h2_b11 k12 h0_b13 h1_b13 h2_b13 k14 h0_b15 h1_b15 k16; omega) | (clear h0_b5 h1_b5 h2_b5 k6 h0_b7 h1_b7 h2_b7 k8 h0_b9 h1_b9 h2_b9 k10 h0_b11 h1_b11 h2_b11 k12 h0_b13 h1_b13 h2_b13 k14 h0_b15 h2_b15 k16; omega) | (clear h0_b5 h1_b5 h2_b5 k6 h0_b7 h1_b7 h2_b7 k8 h0_b9 h1_b9 h2_b9 k10 h0_b11 h1_b11 h2_b11 k12 h0_b13 h1_b13 h2_b13 k14 h1_b15 h2_b15 k16; omega) | (clear h0_b5 h1_b5 h2_b5 k6 h0_b7 h1_b7 h2_b7 k8 h0_b9 h1_b9 h2_b9 k10 h0_b11 h1_b11 h2_b11 k12 h0_b13 h1_b13 h2_b13 h0_b15 h1_b15 h2_b15 k16; omega) | (clear h0_b5 h1_b5 h2_b5 k6 h0_b7 h1_b7 h2_b7 k8 h0_b9 h1_b9 h2_b9 k10 h0_b11 h1_b11 h2_b11 k12 h0_b13 h1_b13 k14 h0_b15 h1_b15 h2_b15 k16; omega) | (clear h0_b5 h1_b5 h2_b5 k6 h0_b7 h1_b7 h2_b7 k8 h0_b9 h1_b9 h2_b9 k10 h0_b11 h1_b11 h2_b11 k12 h0_b13 h2_b13 k14 h0_b15 h1_b15 h2_b15 k16; omega) | (clear h0_b5 h1_b5 h2_b5 k6 h0_b7 h1_b7 h2_b7 k8 h0_b9 h1_b9 h2_b9 k10 h0_b11 h1_b11 h2_b11 k12 h1_b13 h2_b13 k14 h0_b15 h1_b15 h2_b15 k16; omega) | (clear h0_b5 h1_b5 h2_b5 k6 h0_b7 h1_b7 h2_b7 k8 h0_b9 h1_b9 h2_b9 k10 h0_b11 h1_b11 h2_b11 k12 h0_b13 h1_b13 h2_b13 k14 h0_b15 h1_b15; omega) | (clear k14 h2_b13 h1_b13 h0_b13 k12 h2_b11 h1_b11 h0_b11 k10 h2_b9 h1_b9 h0_b9 k8 h2_b7 h1_b7 h0_b7 k6 h2_b5 h1_b5 h0_b5; omega) | omega))⟩))
                · refine g_lload_n dX12_isOwn_66 rfl ?_
                  refine g_ldc2 (z := 6385273) dX12_isOwn_67 t_1733 (by decide) ?_
                  refine g_lcmp dX12_isOwn_70 ⟨by (clear h0_b5 h1_b5 h2_b5 k6 h0_b7 h1_b7 h2_b7 k8 h0_b9 h1_b9 h2_b9 k10 h0_b11 h1_b11 h2_b11 k12 h0_b13 h1_b13 h2_b13 k14 h0_b15 h1_b15 h2_b15 k16; omega), by (clear h0_b5 h1_b5 h2_b5 k6 h0_b7 h1_b7 h2_b7 k8 h0_b9 h1_b9 h2_b9 k10 h0_b11 h1_b11 h2_b11 k12 h0_b13 h1_b13 h2_b13 k14 h0_b15 h1_b15 h2_b15 k16; omega)⟩ (by decide) ?_
                  refine g_nm (fun b17 e_b17 => ?_)
                  have h_b17 := lcmpv_b a1 6385273
                  have h0_b17 := lcmpv_0 (x := a1) (y := 6385273)
                  have h1_b17 := lcmpv_lt (x := a1) (y := 6385273)
                  have h2_b17 := lcmpv_gt (x := a1) (y := 6385273)
                  rw [← e_b17] at h_b17 h0_b17 h1_b17 h2_b17
                  refine g_if_eq (tgt := 82) dX12_isOwn_71 (by decide) ⟨by (clear k6 h0_b7 h1_b7 h2_b7 k8 h0_b9 h1_b9 h2_b9 k10 h0_b11 h1_b11 h2_b11 k12 h0_b13 h1_b13 h2_b13 k14 h0_b15 h1_b15 h2_b15 k16 h0_b17 h1_b17 h2_b17; omega), by (clear k6 h0_b7 h1_b7 h2_b7 k8 h0_b9 h1_b9 h2_b9 k10 h0_b11 h1_b11 h2_b11 k12 h0_b13 h1_b13 h2_b13 k14 h0_b15 h1_b15 h2_b15 k16 h0_b17 h1_b17 h2_b17; omega)⟩ (fun k18 => ?_) (fun k18 => ?_)
                  · refine g_iconst dX12_isOwn_82 ?_
                    exact g_retZ dX12_isOwn_83 rfl (by decide) (hQ 1 (by decide) (by first | exact Or.inl ⟨rfl, oWS_t (by (clear k16 h2_b15 h1_b15 h0_b15 k14 h2_b13 h1_b13 h0_b13 k12 h2_b11 h1_b11 h0_b11 k10 h2_b9 h1_b9 h0_b9 k8 h2_b7 h1_b7 h0_b7; omega))⟩ | exact Or.inr ⟨rfl, oWS_f (by (first | (clear h0_b7 h1_b7 h2_b7 k8 h0_b9 h1_b9 h2_b9 k10 h0_b11 h1_b11 h2_b11 k12 h0_b13 h1_b13 h2_b13 k14 h0_b15 h1_b15 h2_b15 k16 h0_b17 h1_b17 h2_b17 k18; omega) | (clear h0_b7 h1_b7 h2_b7 k8 h0_b9 h1_b9 h2_b9 k10 h0_b11 h1_b11 h2_b11 k12 h0_b13 h1_b13 h2_b13 k14 h0_b15 h1_b15 h2_b15 k16 h0_b17 h1_b17 h2_b17; omega) | (clear h0_b7 h1_b7 h2_b7 k8 h0_b9 h1_b9 h2_b9 k10 h0_b11 h1_b11 h2_b11 k12 h0_b13 h1_b13 h2_b13 k14 h0_b15 h1_b15 h2_b15 k16 h0_b17 h1_b17 k18; omega) | (clear h0_b7 h1_b7 h2_b7 k8 h0_b9 h1_b9 h2_b9 k10 h0_b11 h1_b11 h2_b11 k12 h0_b13 h1_b13 h2_b13 k14 h0_b15 h1_b15 h2_b15 k16 h0_b17 h2_b17 k18; omega) | (clear h0_b7 h1_b7 h2_b7 k8 h0_b9 h1_b9 h2_b9 k10 h0_b11 h1_b11 h2_b11 k12 h0_b13 h1_b13 h2_b13 k14 h0_b15 h1_b15 h2_b15 k16 h1_b17 h2_b17 k18; omega) | (clear h0_b7 h1_b7 h2_b7 k8 h0_b9 h1_b9 h2_b9 k10 h0_b11 h1_b11 h2_b11 k12 h0_b13 h1_b13 h2_b13 k14 h0_b15 h1_b15 h2_b15 h0_b17 h1_b17 h2_b17 k18; omega) | (clear h0_b7 h1_b7 h2_b7 k8 h0_b9 h1_b9 h2_b9 k10 h0_b11 h1_b11 h2_b11 k12 h0_b13 h1_b13 h2_b13 k14 h0_b15 h1_b15 k16 h0_b17 h1_b17 h2_b17 k18; omega) | (clear h0_b7 h1_b7 h2_b7 k8 h0_b9 h1_b9 h2_b9 k10 h0_b11 h1_b11 h2_b11 k12 h0_b13 h1_b13 h2_b13 k14 h0_b15 h2_b15 k16 h0_b17 h1_b17 h2_b17 k18; omega) | (clear h0_b7 h1_b7 h2_b7 k8 h0_b9 h1_b9 h2_b9 k10 h0_b11 h1_b11 h2_b11 k12 h0_b13 h1_b13 h2_b13 k14 h1_b15 h2_b15 k16 h0_b17 h1_b17 h2_b17 k18; omega) | (clear h0_b7 h1_b7 h2_b7 k8 h0_b9 h1_b9 h2_b9 k10 h0_b11 h1_b11 h2_b11 k12 h0_b13 h1_b13 h2_b13 k14 h0_b15 h1_b15 h2_b15 k16 h0_b17 h1_b17; omega) | (clear k16 h2_b15 h1_b15 h0_b15 k14 h2_b13 h1_b13 h0_b13 k12 h2_b11 h1_b11 h0_b11 k10 h2_b9 h1_b9 h0_b9 k8 h2_b7 h1_b7 h0_b7; omega) | omega))⟩))
                  · refine g_lload_n dX12_isOwn_74 rfl ?_
                    refine g_ldc2 (z := 28530) dX12_isOwn_75 t_1734 (by decide) ?_
                    refine g_lcmp dX12_isOwn_78 ⟨by (clear h0_b7 h1_b7 h2_b7 k8 h0_b9 h1_b9 h2_b9 k10 h0_b11 h1_b11 h2_b11 k12 h0_b13 h1_b13 h2_b13 k14 h0_b15 h1_b15 h2_b15 k16 h0_b17 h1_b17 h2_b17 k18; omega), by (clear h0_b7 h1_b7 h2_b7 k8 h0_b9 h1_b9 h2_b9 k10 h0_b11 h1_b11 h2_b11 k12 h0_b13 h1_b13 h2_b13 k14 h0_b15 h1_b15 h2_b15 k16 h0_b17 h1_b17 h2_b17 k18; omega)⟩ (by decide) ?_
                    refine g_nm (fun b19 e_b19 => ?_)
                    have h_b19 := lcmpv_b a1 28530
                    have h0_b19 := lcmpv_0 (x := a1) (y := 28530)
                    have h1_b19 := lcmpv_lt (x := a1) (y := 28530)
                    have h2_b19 := lcmpv_gt (x := a1) (y := 28530)
                    rw [← e_b19] at h_b19 h0_b19 h1_b19 h2_b19
                    refine g_if_ne (tgt := 84) dX12_isOwn_79 (by decide) ⟨by (clear k8 h0_b9 h1_b9 h2_b9 k10 h0_b11 h1_b11 h2_b11 k12 h0_b13 h1_b13 h2_b13 k14 h0_b15 h1_b15 h2_b15 k16 h0_b17 h1_b17 h2_b17 k18 h0_b19 h1_b19 h2_b19; omega), by (clear k8 h0_b9 h1_b9 h2_b9 k10 h0_b11 h1_b11 h2_b11 k12 h0_b13 h1_b13 h2_b13 k14 h0_b15 h1_b15 h2_b15 k16 h0_b17 h1_b17 h2_b17 k18 h0_b19 h1_b19 h2_b19; omega)⟩ (fun k20 => ?_) (fun k20 => ?_)
                    · refine g_lload_n dX12_isOwn_84 rfl ?_
                      refine g_ldc2 (z := 29807) dX12_isOwn_85 t_1735 (by decide) ?_
                      refine g_lcmp dX12_isOwn_88 ⟨by (clear h0_b9 h1_b9 h2_b9 k10 h0_b11 h1_b11 h2_b11 k12 h0_b13 h1_b13 h2_b13 k14 h0_b15 h1_b15 h2_b15 k16 h0_b17 h1_b17 h2_b17 k18 h0_b19 h1_b19 h2_b19 k20; omega), by (clear h0_b9 h1_b9 h2_b9 k10 h0_b11 h1_b11 h2_b11 k12 h0_b13 h1_b13 h2_b13 k14 h0_b15 h1_b15 h2_b15 k16 h0_b17 h1_b17 h2_b17 k18 h0_b19 h1_b19 h2_b19 k20; omega)⟩ (by decide) ?_
                      refine g_nm (fun b21 e_b21 => ?_)
                      have h_b21 := lcmpv_b a1 29807
                      have h0_b21 := lcmpv_0 (x := a1) (y := 29807)
                      have h1_b21 := lcmpv_lt (x := a1) (y := 29807)
                      have h2_b21 := lcmpv_gt (x := a1) (y := 29807)
                      rw [← e_b21] at h_b21 h0_b21 h1_b21 h2_b21
                      refine g_if_ne (tgt := 94) dX12_isOwn_89 (by decide) ⟨by (clear k10 h0_b11 h1_b11 h2_b11 k12 h0_b13 h1_b13 h2_b13 k14 h0_b15 h1_b15 h2_b15 k16 h0_b17 h1_b17 h2_b17 k18 h0_b19 h1_b19 h2_b19 k20 h0_b21 h1_b21 h2_b21; omega), by (clear k10 h0_b11 h1_b11 h2_b11 k12 h0_b13 h1_b13 h2_b13 k14 h0_b15 h1_b15 h2_b15 k16 h0_b17 h1_b17 h2_b17 k18 h0_b19 h1_b19 h2_b19 k20 h0_b21 h1_b21 h2_b21; omega)⟩ (fun k22 => ?_) (fun k22 => ?_)
                      · refine g_iconst dX12_isOwn_94 ?_
                        exact g_retZ dX12_isOwn_95 rfl (by decide) (hQ 0 (by decide) (by first | exact Or.inl ⟨rfl, oWS_t (by (first | (clear h0_b11 h1_b11 h2_b11 k12 h0_b13 h1_b13 h2_b13 k14 h0_b15 h1_b15 h2_b15 k16 h0_b17 h1_b17 h2_b17 k18 h0_b19 h1_b19 h2_b19 k20 h0_b21 h1_b21 h2_b21 k22; omega) | (clear h0_b11 h1_b11 h2_b11 k12 h0_b13 h1_b13 h2_b13 k14 h0_b15 h1_b15 h2_b15 k16 h0_b17 h1_b17 h2_b17 k18 h0_b19 h1_b19 h2_b19 k20 h0_b21 h1_b21 h2_b21; omega) | (clear h0_b11 h1_b11 h2_b11 k12 h0_b13 h1_b13 h2_b13 k14 h0_b15 h1_b15 h2_b15 k16 h0_b17 h1_b17 h2_b17 k18 h0_b19 h1_b19 h2_b19 k20 h0_b21 h1_b21 k22; omega) | (clear h0_b11 h1_b11 h2_b11 k12 h0_b13 h1_b13 h2_b13 k14 h0_b15 h1_b15 h2_b15 k16 h0_b17 h1_b17 h2_b17 k18 h0_b19 h1_b19 h2_b19 k20 h0_b21 h2_b21 k22; omega) | (clear h0_b11 h1_b11 h2_b11 k12 h0_b13 h1_b13 h2_b13 k14 h0_b15 h1_b15 h2_b15 k16 h0_b17 h1_b17 h2_b17 k18 h0_b19 h1_b19 h2_b19 k20 h1_b21 h2_b21 k22; omega) | (clear h0_b11 h1_b11 h2_b11 k12 h0_b13 h1_b13 h2_b13 k14 h0_b15 h1_b15 h2_b15 k16 h0_b17 h1_b17 h2_b17 k18 h0_b19 h1_b19 h2_b19 h0_b21 h1_b21 h2_b21 k22; omega) | (clear h0_b11 h1_b11 h2_b11 k12 h0_b13 h1_b13 h2_b13 k14 h0_b15 h1_b15 h2_b15 k16 h0_b17 h1_b17 h2_b17 k18 h0_b19 h1_b19 k20 h0_b21 h1_b21 h2_b21 k22; omega) | (clear h0_b11 h1_b11 h2_b11 k12 h0_b13 h1_b13 h2_b13 k14 h0_b15 h1_b15 h2_b15 k16 h0_b17 h1_b17 h2_b17 k18 h0_b19 h2_b19 k20 h0_b21 h1_b21 h2_b21 k22; omega) | (clear h0_b11 h1_b11 h2_b11 k12 h0_b13 h1_b13 h2_b13 k14 h0_b15 h1_b15 h2_b15 k16 h0_b17 h1_b17 h2_b17 k18 h1_b19 h2_b19 k20 h0_b21 h1_b21 h2_b21 k22; omega) | (clear h0_b11 h1_b11 h2_b11 k12 h0_b13 h1_b13 h2_b13 k14 h0_b15 h1_b15 h2_b15 k16 h0_b17 h1_b17 h2_b17 k18 h0_b19 h1_b19 h2_b19 k20 h0_b21 h1_b21; omega) | (clear k20 h2_b19 h1_b19 h0_b19 k18 h2_b17 h1_b17 h0_b17 k16 h2_b15 h1_b15 h0_b15 k14 h2_b13 h1_b13 h0_b13 k12 h2_b11 h1_b11 h0_b11; omega) | omega))⟩ | exact Or.inr ⟨rfl, oWS_f (by (omega))⟩))
                      · refine g_iconst dX12_isOwn_92 ?_
                        exact g_retZ dX12_isOwn_93 rfl (by decide) (hQ 1 (by decide) (by first | exact Or.inl ⟨rfl, oWS_t (by (clear k20 h2_b19 h1_b19 h0_b19 k18 h2_b17 h1_b17 h0_b17 k16 h2_b15 h1_b15 h0_b15 k14 h2_b13 h1_b13 h0_b13 k12 h2_b11 h1_b11 h0_b11; omega))⟩ | exact Or.inr ⟨rfl, oWS_f (by (first | (clear h0_b11 h1_b11 h2_b11 k12 h0_b13 h1_b13 h2_b13 k14 h0_b15 h1_b15 h2_b15 k16 h0_b17 h1_b17 h2_b17 k18 h0_b19 h1_b19 h2_b19 k20 h0_b21 h1_b21 h2_b21 k22; omega) | (clear h0_b11 h1_b11 h2_b11 k12 h0_b13 h1_b13 h2_b13 k14 h0_b15 h1_b15 h2_b15 k16 h0_b17 h1_b17 h2_b17 k18 h0_b19 h1_b19 h2_b19 k20 h0_b21 h1_b21 h2_b21; omega) | (clear h0_b11 h1_b11 h2_b11 k12 h0_b13 h1_b13 h2_b13 k14 h0_b15 h1_b15 h2_b15 k16 h0_b17 h1_b17 h2_b17 k18 h0_b19 h1_b19 h2_b19 k20 h0_b21 h1_b21 k22; omega) | (clear h0_b11 h1_b11 h2_b11 k12 h0_b13 h1_b13 h2_b13 k14 h0_b15 h1_b15 h2_b15 k16 h0_b17 h1_b17 h2_b17 k18 h0_b19 h1_b19 h2_b19 k20 h0_b21 h2_b21 k22; omega) | (clear h0_b11 h1_b11 h2_b11 k12 h0_b13 h1_b13 h2_b13 k14 h0_b15 h1_b15 h2_b15 k16 h0_b17 h1_b17 h2_b17 k18 h0_b19 h1_b19 h2_b19 k20 h1_b21 h2_b21 k22; omega) | (clear h0_b11 h1_b11 h2_b11 k12 h0_b13 h1_b13 h2_b13 k14 h0_b15 h1_b15 h2_b15 k16 h0_b17 h1_b17 h2_b17 k18 h0_b19 h1_b19 h2_b19 h0_b21 h1_b21 h2_b21 k22; omega) | (clear h0_b11 h1_b11 h2_b11 k12 h0_b13 h1_b13 h2_b13 k14 h0_b15 h1_b15 h2_b15 k16 h0_b17 h1_b17 h2_b17 k18 h0_b19 h1_b19 k20 h0_b21 h1_b21 h2_b21 k22; omega) | (clear h0_b11 h1_b11 h2_b11 k12 h0_b13 h1_b13 h2_b13 k14 h0_b15 h1_b15 h2_b15 k16 h0_b17 h1_b17 h2_b17 k18 h0_b19 h2_b19 k20 h0_b21 h1_b21 h2_b21 k22; omega) | (clear h0_b11 h1_b11 h2_b11 k12 h0_b13 h1_b13 h2_b13 k14 h0_b15 h1_b15 h2_b15 k16 h0_b17 h1_b17 h2_b17 k18 h1_b19 h2_b19 k20 h0_b21 h1_b21 h2_b21 k22; omega) | (clear h0_b11 h1_b11 h2_b11 k12 h0_b13 h1_b13 h2_b13 k14 h0_b15 h1_b15 h2_b15 k16 h0_b17 h1_b17 h2_b17 k18 h0_b19 h1_b19 h2_b19 k20 h0_b21 h1_b21; omega) | (clear k20 h2_b19 h1_b19 h0_b19 k18 h2_b17 h1_b17 h0_b17 k16 h2_b15 h1_b15 h0_b15 k14 h2_b13 h1_b13 h0_b13 k12 h2_b11 h1_b11 h0_b11; omega) | omega))⟩))
                    · refine g_iconst dX12_isOwn_82 ?_
                      exact g_retZ dX12_isOwn_83 rfl (by decide) (hQ 1 (by decide) (by first | exact Or.inl ⟨rfl, oWS_t (by (clear k18 h2_b17 h1_b17 h0_b17 k16 h2_b15 h1_b15 h0_b15 k14 h2_b13 h1_b13 h0_b13 k12 h2_b11 h1_b11 h0_b11 k10 h2_b9 h1_b9 h0_b9; omega))⟩ | exact Or.inr ⟨rfl, oWS_f (by (first | (clear h0_b9 h1_b9 h2_b9 k10 h0_b11 h1_b11 h2_b11 k12 h0_b13 h1_b13 h2_b13 k14 h0_b15 h1_b15 h2_b15 k16 h0_b17 h1_b17 h2_b17 k18 h0_b19 h1_b19 h2_b19 k20; omega) | (clear h0_b9 h1_b9 h2_b9 k10 h0_b11 h1_b11 h2_b11 k12 h0_b13 h1_b13 h2_b13 k14 h0_b15 h1_b15 h2_b15 k16 h0_b17 h1_b17 h2_b17 k18 h0_b19 h1_b19 h2_b19; omega) | (clear h0_b9 h1_b9 h2_b9 k10 h0_b11 h1_b11 h2_b11 k12 h0_b13 h1_b13 h2_b13 k14 h0_b15 h1_b15 h2_b15 k16 h0_b17 h1_b17 h2_b17 k18 h0_b19 h1_b19 k20; omega) | (clear h0_b9 h1_b9 h2_b9 k10 h0_b11 h1_b11 h2_b11 k12 h0_b13 h1_b13 h2_b13 k14 h0_b15 h1_b15 h2_b15 k16 h0_b17 h1_b17 h2_b17 k18 h0_b19 h2_b19 k20; omega) | (clear h0_b9 h1_b9 h2_b9 k10 h0_b11 h1_b11 h2_b11 k12 h0_b13 h1_b13 h2_b13 k14 h0_b15 h1_b15 h2_b15 k16 h0_b17 h1_b17 h2_b17 k18 h1_b19 h2_b19 k20; omega) | (clear h0_b9 h1_b9 h2_b9 k10 h0_b11 h1_b11 h2_b11 k12 h0_b13 h1_b13 h2_b13 k14 h0_b15 h1_b15 h2_b15 k16 h0_b17 h1_b17 h2_b17 h0_b19 h1_b19 h2_b19 k20; omega) | (clear h0_b9 h1_b9 h2_b9 k10 h0_b11 h1_b11 h2_b11 k12 h0_b13 h1_b13 h2_b13 k14 h0_b15 h1_b15 h2_b15 k16 h0_b17 h1_b17 k18 h0_b19 h1_b19 h2_b19 k20; omega) | (clear h0_b9 h1_b9 h2_b9 k10 h0_b11 h1_b11 h2_b11 k12 h0_b13 h1_b13 h2_b13 k14 h0_b15 h1_b15 h2_b15 k16 h0_b17 h2_b17 k18 h0_b19 h1_b19 h2_b19 k20; omega) | (clear h0_b9 h1_b9 h2_b9 k10 h0_b11 h1_b11 h2_b11 k12 h0_b13 h1_b13 h2_b13 k14 h0_b15 h1_b15 h2_b15 k16 h1_b17 h2_b17 k18 h0_b19 h1_b19 h2_b19 k20; omega) | (clear h0_b9 h1_b9 h2_b9 k10 h0_b11 h1_b11 h2_b11 k12 h0_b13 h1_b13 h2_b13 k14 h0_b15 h1_b15 h2_b15 k16 h0_b17 h1_b17 h2_b17 k18 h0_b19 h1_b19; omega) | (clear k18 h2_b17 h1_b17 h0_b17 k16 h2_b15 h1_b15 h0_b15 k14 h2_b13 h1_b13 h0_b13 k12 h2_b11 h1_b11 h0_b11 k10 h2_b9 h1_b9 h0_b9; omega) | omega))⟩))
          · refine g_iconst dX12_isOwn_40 ?_
            exact g_retZ dX12_isOwn_41 rfl (by decide) (hQ 1 (by decide) (by first | exact Or.inl ⟨rfl, oWS_t (by (clear k8 h2_b7 h1_b7 h0_b7 k6 h2_b5 h1_b5 h0_b5 k4 h2_b3 h1_b3 h0_b3 k2 h2_b1 h1_b1 h0_b1; omega))⟩ | exact Or.inr ⟨rfl, oWS_f (by (first | (clear h0_b1 h1_b1 h2_b1 k2 h0_b3 h1_b3 h2_b3 k4 h0_b5 h1_b5 h2_b5 k6 h0_b7 h1_b7 h2_b7 k8 h0_b9 h1_b9 h2_b9 k10; omega) | (clear h0_b1 h1_b1 h2_b1 k2 h0_b3 h1_b3 h2_b3 k4 h0_b5 h1_b5 h2_b5 k6 h0_b7 h1_b7 h2_b7 k8 h0_b9 h1_b9 h2_b9; omega) | (clear h0_b1 h1_b1 h2_b1 k2 h0_b3 h1_b3 h2_b3 k4 h0_b5 h1_b5 h2_b5 k6 h0_b7 h1_b7 h2_b7 k8 h0_b9 h1_b9 k10; omega) | (clear h0_b1 h1_b1 h2_b1 k2 h0_b3 h1_b3 h2_b3 k4 h0_b5 h1_b5 h2_b5 k6 h0_b7 h1_b7 h2_b7 k8 h0_b9 h2_b9 k10; omega) | (clear h0_b1 h1_b1 h2_b1 k2 h0_b3 h1_b3 h2_b3 k4 h0_b5 h1_b5 h2_b5 k6 h0_b7 h1_b7 h2_b7 k8 h1_b9 h2_b9 k10; omega) | (clear h0_b1 h1_b1 h2_b1 k2 h0_b3 h1_b3 h2_b3 k4 h0_b5 h1_b5 h2_b5 k6 h0_b7 h1_b7 h2_b7 h0_b9 h1_b9 h2_b9 k10; omega) | (clear h0_b1 h1_b1 h2_b1 k2 h0_b3 h1_b3 h2_b3 k4 h0_b5 h1_b5 h2_b5 k6 h0_b7 h1_b7 k8 h0_b9 h1_b9 h2_b9 k10; omega) | (clear h0_b1 h1_b1 h2_b1 k2 h0_b3 h1_b3 h2_b3 k4 h0_b5 h1_b5 h2_b5 k6 h0_b7 h2_b7 k8 h0_b9 h1_b9 h2_b9 k10; omega) | (clear h0_b1 h1_b1 h2_b1 k2 h0_b3 h1_b3 h2_b3 k4 h0_b5 h1_b5 h2_b5 k6 h1_b7 h2_b7 k8 h0_b9 h1_b9 h2_b9 k10; omega) | (clear h0_b1 h1_b1 h2_b1 k2 h0_b3 h1_b3 h2_b3 k4 h0_b5 h1_b5 h2_b5 k6 h0_b7 h1_b7 h2_b7 k8 h0_b9 h1_b9; omega) | (clear k8 h2_b7 h1_b7 h0_b7 k6 h2_b5 h1_b5 h0_b5 k4 h2_b3 h1_b3 h0_b3 k2 h2_b1 h1_b1 h0_b1; omega) | omega))⟩))
/-! What the reference answers: X12_isKindHere. -/
set_option maxRecDepth 100000 in
set_option maxHeartbeats 4000000 in
theorem f_X12_isKindHere (G : GT) (P : PH) (T : TT) (p : Int) (hB : BdM P) (z0 : MS T p P) (Q : Option PV → PH → Prop) (hQ : ∀ (r : Int) (_ : 0 ≤ r ∧ r ≤ 1) (_ : r = 0 ∨ P 0 3 = 1) (_ : (r = 1 ∧ tK T p = 1 ∧ (tO T p = -1 ∨ tO T p = 7)) ∨ (r = 0 ∧ (tK T p ≠ 1 ∨ (tO T p ≠ -1 ∧ tO T p ≠ 7)))), Q (some (vI r)) P) : Ct WSM G 2 iX12_isKindHere [vR 0] P Q := by
  refine Ct.of (by decide) (l0 := [(0, vR 0)]) rfl (Nat.le_of_ble_eq_true rfl) ?_
  have ht : tK T p ≠ 4 → P 0 3 = tK T p ∧ P 0 5 = tE T p := z0.tok
  have hv : tK T p = 1 → P 0 7 = tW T p := z0.word
  have hbad := z0.bad
  have ho7 := own_is (T := T) (p := p) 7 (by decide) 7239021 (by decide +kernel)
  have hor := tO_r T p
  refine g_aload_n dX12_isKindHere_0 rfl ?_
  refine m_g3 (z := (P 0 3)) rfl dX12_isKindHere_1 rfl ?_
  refine g_iconst dX12_isKindHere_4 ?_
  have f1 := b0_3 hB
  refine g_icmp_ne (tgt := 41) dX12_isKindHere_5 (by decide) ⟨by have q0 := b0_3 hB; (clear ht hv hbad ho7 hor; omega), by have q0 := b0_3 hB; (clear ht hv hbad ho7 hor; omega)⟩ (by decide) (fun k2 => ?_) (fun k2 => ?_)
  · refine g_iconst dX12_isKindHere_41 ?_
    exact g_retZ dX12_isKindHere_42 rfl (by decide) (hQ 0 (by decide) (by have q0 := b0_3 hB; (clear ht hv hbad ho7 hor k2; omega)) (by (omega)))
  · refine g_aload_n dX12_isKindHere_8 rfl ?_
    refine m_g12 (z := (P 0 12)) rfl dX12_isKindHere_9 rfl ?_
    refine g_iconst dX12_isKindHere_12 ?_
    have f3 := b0_12 hB
    refine g_icmp_ne (tgt := 41) dX12_isKindHere_13 (by decide) ⟨by have q0 := b0_12 hB; (clear ht hv hbad ho7 hor k2; omega), by have q0 := b0_12 hB; (clear ht hv hbad ho7 hor k2; omega)⟩ (by decide) (fun k4 => ?_) (fun k4 => ?_)
    · have k4n : 0 ≤ (P 0 12) := by have q0 := b0_12 hB; (clear ht hv hbad ho7 hor k2; omega)
      clear k4
      refine g_iconst dX12_isKindHere_41 ?_
      exact g_retZ dX12_isKindHere_42 rfl (by decide) (hQ 0 (by decide) (by have q0 := b0_3 hB; (clear ht hv hbad ho7 hor k2; omega)) (by (clear ht hv ho7 hor k2; omega)))
    · refine g_aload_n dX12_isKindHere_16 rfl ?_
      refine g_ldc2 (z := 7239021) dX12_isKindHere_17 t_1732 (by decide) ?_
      refine g_vI (av := [vL 7239021]) (o := 0) (st := []) (f_X12_isWord G P (T) (p) 7239021 (by decide) hB (z0) _ (fun rc5 hc5 gc5_w gc5_f => ⟨rc5, rfl, ?_⟩)) cf_X12_isWord t_1706 rfl (by decide) rfl rfl rfl (Nat.le_of_ble_eq_true rfl) (by decide) rfl dX12_isKindHere_20
      refine g_if_ne (tgt := 37) dX12_isKindHere_23 (by decide) ⟨by (clear ht hv hbad ho7 hor k2 k4 gc5_w gc5_f; omega), by (clear ht hv hbad ho7 hor k2 k4 gc5_w gc5_f; omega)⟩ (fun k6 => ?_) (fun k6 => ?_)
      · have k6n : 1 ≤ rc5 := by (clear ht hv hbad ho7 hor k2 k4 gc5_w gc5_f; omega)
        clear k6
        skip
        have r_gc5_w := (gc5_w.resolve_left (by (clear ht hv hbad ho7 hor k2 k4 gc5_w gc5_f; omega)))
        refine g_iconst dX12_isKindHere_37 ?_
        refine g_goto (tgt := 42) dX12_isKindHere_38 (by decide) ?_
        exact g_retZ dX12_isKindHere_42 rfl (by decide) (hQ 1 (by decide) (by have q0 := b0_3 hB; (clear ht hv hbad ho7 hor k2 k4 gc5_w gc5_f; omega)) (by (omega)))
      · skip
        skip
        refine g_aload_n dX12_isKindHere_26 rfl ?_
        refine g_aload_n dX12_isKindHere_27 rfl ?_
        refine m_g7 (z := (P 0 7)) rfl dX12_isKindHere_28 rfl ?_
        have f7 := b0_7 hB
        refine g_vI (av := [vL (P 0 7)]) (o := 0) (st := []) (f_X12_isOwn G P (P 0 7) ⟨by have q0 := b0_7 hB; (clear ht hv hbad ho7 hor k2 k4 gc5_w gc5_f k6; omega), by have q0 := b0_7 hB; (clear ht hv hbad ho7 hor k2 k4 gc5_w gc5_f k6; omega)⟩ hB  _ (fun rc8 hc8 gc8_o => ⟨rc8, rfl, ?_⟩)) cf_X12_isOwn t_1722 rfl (by decide) rfl rfl rfl (Nat.le_of_ble_eq_true rfl) (by decide) rfl dX12_isKindHere_31
        have hown := own_r (T := T) (p := p) gc8_o hv
        refine g_if_ne (tgt := 41) dX12_isKindHere_34 (by decide) ⟨by (clear ht hv hbad ho7 hor k2 k4 gc5_w gc5_f k6 gc8_o hown; omega), by (clear ht hv hbad ho7 hor k2 k4 gc5_w gc5_f k6 gc8_o hown; omega)⟩ (fun k9 => ?_) (fun k9 => ?_)
        · have k9n : 1 ≤ rc8 := by (clear ht hv hbad ho7 hor k2 k4 gc5_w gc5_f k6 gc8_o hown; omega)
          clear k9
          skip
          have r_gc8_o := (gc8_o.resolve_right (by (clear ht hv hbad ho7 hor k2 k4 gc5_w gc5_f k6 gc8_o hown; omega)))
          skip
          skip
          refine g_iconst dX12_isKindHere_41 ?_
          exact g_retZ dX12_isKindHere_42 rfl (by decide) (hQ 0 (by decide) (by have q0 := b0_3 hB; (clear ht hv hbad ho7 hor k2 k4 gc5_w gc5_f k6 gc8_o hown; omega)) (by (omega)))
        · skip
          have r_gc8_o := (gc8_o.resolve_left (by (clear ht hv hbad ho7 hor k2 k4 gc5_w gc5_f k6 gc8_o hown; omega)))
          skip
          skip
          refine g_iconst dX12_isKindHere_37 ?_
          refine g_goto (tgt := 42) dX12_isKindHere_38 (by decide) ?_
          exact g_retZ dX12_isKindHere_42 rfl (by decide) (hQ 1 (by decide) (by have q0 := b0_3 hB; (clear ht hv hbad ho7 hor k4 gc5_w gc5_f k6 gc8_o hown; omega)) (by (omega)))
/-! What the reference answers: X12_ahead. -/
set_option maxRecDepth 100000 in
set_option maxHeartbeats 4000000 in
theorem f_X12_ahead (G : GT) (P : PH) (T : TT) (p : Int) (hB : BdM P) (p_pp : P 0 5 = p ∧ 0 ≤ p ∧ p ≤ T.2) (z0 : MT T P) (Q : Option PV → PH → Prop) (hQ : ∀ (P1 : PH) (_ : BdM P1) (_ : FrM ([3, 4, 5, 6, 7, 12], []) P P1) (_ : (P1 0 3 = 0 ∨ P1 0 4 + 1 ≤ P1 0 5) ∧ P1 0 4 ≤ P1 0 5) (_ : P 0 5 ≤ P1 0 4) (_ : MS T p P1), Q none P1) : Ct WSM G 2 iX12_ahead [vR 0] P Q := by
  refine Ct.of (by decide) (l0 := [(0, vR 0)]) rfl (Nat.le_of_ble_eq_true rfl) ?_
  have hsz := z0.1
  have hta := tA_ge T p
  have htl := tA_le (T := T) p_pp.2.2
  have hta9 : tA T p = rE bW T p := rfl
  refine g_aload_n dX12_ahead_0 rfl ?_
  refine m_g5 (z := (P 0 5)) rfl dX12_ahead_1 rfl ?_
  refine g_istore_n (l1 := [(1, vI (P 0 5)), (0, vR 0)]) dX12_ahead_4 (by decide) rfl ?_
  have L5_0 : ∀ (n5_0 : Nat) (x5_1_0 : Int) (h_x5_1_0 : 0 ≤ x5_1_0 ∧ x5_1_0 ≤ 1600) (i5_0_0 : P 0 5 ≤ x5_1_0) (i5_1_0 : rE bW T p = rE bW T x5_1_0) (hm5_0 : ((1601 - x5_1_0) : Int).toNat < n5_0), Go WSM G 2 iX12_ahead 5 [(0, vR 0), (1, vI x5_1_0)] [] P Q := by
    intro n5_0
    induction n5_0 with
    | zero => intro x5_1_0 h_x5_1_0 i5_0_0 i5_1_0 hm5_0; exact absurd hm5_0 (Nat.not_lt_zero _)
    | succ n5_0 ih5_0 =>
    intro x5_1_0 h_x5_1_0 i5_0_0 i5_1_0 hm5_0
    have hT := z0.2 x5_1_0
    refine g_iload_n dX12_ahead_5 rfl ?_
    refine g_aload_n dX12_ahead_6 rfl ?_
    refine m_g2 (z := (P 0 2)) rfl dX12_ahead_7 rfl ?_
    have f45579 := b0_2 hB
    have J41_51275 : ∀ (i41_0_51275 : P 0 5 ≤ x5_1_0) (i41_1_51275 : rE bW T p = x5_1_0), Go WSM G 2 iX12_ahead 41 [(0, vR 0), (1, vI x5_1_0)] [] P Q := by
      intro i41_0_51275 i41_1_51275
      have hl41 : x5_1_0 = tA T p := by omega
      have hp9 := p_pp
      refine g_aload_n dX12_ahead_41 rfl ?_
      refine g_iload_n dX12_ahead_42 rfl ?_
      refine m_p4 rfl dX12_ahead_43 ?_
      have hB51277 := bs_4 (z := x5_1_0) hB ⟨by omega, by omega⟩
      refine g_aload_n dX12_ahead_46 rfl ?_
      refine g_iload_n dX12_ahead_47 rfl ?_
      refine m_p5 rfl dX12_ahead_48 ?_
      have hB51278 := bs_5 (z := x5_1_0) hB51277 ⟨by omega, by omega⟩
      refine g_aload_n dX12_ahead_51 rfl ?_
      refine g_iconst dX12_ahead_52 ?_
      refine m_p3 rfl dX12_ahead_53 ?_
      have hB51279 := bs_3 (z := 0) hB51278 (by decide)
      refine g_aload_n dX12_ahead_56 rfl ?_
      refine g_iconst dX12_ahead_57 ?_
      refine m_p12 rfl dX12_ahead_58 ?_
      have hB51280 := bs_12 (z := (-1)) hB51279 (by decide)
      refine g_iload_n dX12_ahead_61 rfl ?_
      refine g_aload_n dX12_ahead_62 rfl ?_
      refine m_g2 (z := (P 0 2)) rfl dX12_ahead_63 ((up_k (by decide)).trans ((up_k (by decide)).trans ((up_k (by decide)).trans ((up_k (by decide)).trans rfl)))) ?_
      refine g_icmp_lt (tgt := 70) dX12_ahead_66 (by decide) ⟨by omega, by omega⟩ ⟨by have q0 := b0_2 hB; omega, by have q0 := b0_2 hB; omega⟩ (fun k51281 => ?_) (fun k51281 => ?_)
      · have hTa : P 1 x5_1_0 = T.1 (tA T p) := by rw [hl41]; exact z0.2 _ (by omega) (by omega)
        refine g_aload_n dX12_ahead_70 rfl ?_
        refine m_g0 rfl dX12_ahead_71 ?_
        refine g_iload_n dX12_ahead_74 rfl ?_
        refine m_l1 (z := (P 1 x5_1_0)) dX12_ahead_75 ⟨by omega, by omega⟩ ((up_o (by decide)).trans ((up_o (by decide)).trans ((up_o (by decide)).trans ((up_o (by decide)).trans rfl)))) ?_
        have f51282 := bl_1 (k := x5_1_0) hB
        refine g_sI (av := [vI (P 1 x5_1_0)]) (st := []) (m_X12_isLetter G (up (up (up (up P 0 4 x5_1_0) 0 5 x5_1_0) 0 3 0) 0 12 (-1)) (P 1 x5_1_0) ⟨by have q0 := bl_1 (k := x5_1_0) hB; omega, by have q0 := bl_1 (k := x5_1_0) hB; omega⟩ hB51280  _ (fun rc51283 hc51283 gc51283_i => ⟨rc51283, rfl, ?_⟩)) cf_X12_isLetter t_1687 rfl (Nat.le_of_ble_eq_true rfl) (by decide) rfl dX12_ahead_76
        have hL := gc51283_i
        clear gc51283_i
        refine g_istore_n (l1 := [(2, vI rc51283), (0, vR 0), (1, vI x5_1_0)]) dX12_ahead_79 (by decide) rfl ?_
        refine g_aload_n dX12_ahead_80 rfl ?_
        refine m_g0 rfl dX12_ahead_81 ?_
        refine g_iload_n dX12_ahead_84 rfl ?_
        refine m_l1 (z := (P 1 x5_1_0)) dX12_ahead_85 ⟨by (clear hL; omega), by (clear hL; omega)⟩ ((up_o (by decide)).trans ((up_o (by decide)).trans ((up_o (by decide)).trans ((up_o (by decide)).trans rfl)))) ?_
        refine g_sI (av := [vI (P 1 x5_1_0)]) (st := []) (m_X12_isDigit G (up (up (up (up P 0 4 x5_1_0) 0 5 x5_1_0) 0 3 0) 0 12 (-1)) (P 1 x5_1_0) ⟨by have q0 := bl_1 (k := x5_1_0) hB; (clear hL; omega), by have q0 := bl_1 (k := x5_1_0) hB; (clear hL; omega)⟩ hB51280  _ (fun rc51284 hc51284 gc51284_i => ⟨rc51284, rfl, ?_⟩)) cf_X12_isDigit t_1690 rfl (Nat.le_of_ble_eq_true rfl) (by decide) rfl dX12_ahead_86
        have hD := gc51284_i
        clear gc51284_i
        refine g_istore_n (l1 := [(3, vI rc51284), (2, vI rc51283), (0, vR 0), (1, vI x5_1_0)]) dX12_ahead_89 (by decide) rfl ?_
        refine g_iload_n dX12_ahead_90 rfl ?_
        have J135_54124 : ∀ (H135_54124 : PH) (hB135_54124 : BdM H135_54124) (hE135_54124 : FrM ([12], []) (up (up (up (up P 0 4 x5_1_0) 0 5 x5_1_0) 0 3 0) 0 12 (-1)) H135_54124) (i135_0_54124 : L0 T p rc51283 rc51284 (H135_54124 0 12)), Go WSM G 2 iX12_ahead 135 [(0, vR 0), (1, vI x5_1_0), (2, vI rc51283), (3, vI rc51284)] [] H135_54124 Q := by
          intro H135_54124 hB135_54124 hE135_54124 i135_0_54124
          have hl0 := i135_0_54124
          refine g_aload_n dX12_ahead_135 rfl ?_
          refine g_iconst dX12_ahead_136 ?_
          refine m_p6 rfl dX12_ahead_137 ?_
          have hB54126 := bs_6 (z := 0) hB135_54124 (by decide)
          refine g_aload_n dX12_ahead_140 rfl ?_
          refine g_lconst (z := 0) dX12_ahead_141 (by decide) ?_
          refine m_p7 rfl dX12_ahead_142 ?_
          have hB54127 := bs_7 (z := 0) hB54126 (by decide)
          refine g_aload_n dX12_ahead_145 rfl ?_
          refine g_iconst dX12_ahead_146 ?_
          refine m_p3 rfl dX12_ahead_147 ?_
          have hB54128 := bs_3 (z := 3) hB54127 (by decide)
          refine g_aload_n dX12_ahead_150 rfl ?_
          refine g_iload_n dX12_ahead_151 rfl ?_
          refine g_iconst dX12_ahead_152 ?_
          refine g_iadd dX12_ahead_153 ?_
          refine m_p5 rfl dX12_ahead_154 ?_
          have hB54129 := bs_5 (z := (x5_1_0 + 1)) hB54128 ⟨by (clear hL hD; omega), by (clear hL hD; omega)⟩
          refine g_iload_n dX12_ahead_157 rfl ?_
          have J176_55539 : ∀ (i176_0_55539 : rc51283 ≠ 0 ∨ rc51284 ≠ 0), Go WSM G 2 iX12_ahead 176 [(0, vR 0), (1, vI x5_1_0), (2, vI rc51283), (3, vI rc51284)] [] (up (up (up (up H135_54124 0 6 0) 0 7 0) 0 3 3) 0 5 (x5_1_0 + 1)) Q := by
            intro i176_0_55539
            refine g_aload_n dX12_ahead_176 rfl ?_
            refine g_iload_n dX12_ahead_177 rfl ?_
            refine g_if_eq (tgt := 185) dX12_ahead_178 (by decide) ⟨by (clear hL hD i176_0_55539; omega), by (clear hL hD i176_0_55539; omega)⟩ (fun k55541 => ?_) (fun k55541 => ?_)
            · have r_i176_0_55539 := (i176_0_55539.resolve_left (by (clear hL hD i176_0_55539; omega)))
              refine g_iconst dX12_ahead_185 ?_
              refine m_p3 rfl dX12_ahead_186 ?_
              have hB55542 := bs_3 (z := 2) hB54129 (by decide)
              refine g_iload_n dX12_ahead_189 rfl ?_
              refine g_if_eq (tgt := 198) dX12_ahead_190 (by decide) ⟨by (clear hL hD i176_0_55539; omega), by (clear hL hD i176_0_55539; omega)⟩ (fun k55543 => ?_) (fun k55543 => by exfalso; (clear hL hD i176_0_55539; omega))
              skip
              refine g_iconst dX12_ahead_198 ?_
              have hcA : CC 4 (T.1 (tA T p)) := ⟨fun e => by (clear hL hD i176_0_55539; omega), fun e => by (clear hL i176_0_55539; omega)⟩
              have hfl : rc51283 = 0 ∨ rc51284 = 0 := by (clear hL hD i176_0_55539; omega)
              clear hL hD
              refine g_istore (l1 := [(4, vI 4), (0, vR 0), (1, vI x5_1_0), (2, vI rc51283), (3, vI rc51284)]) dX12_ahead_199 (by decide) rfl ?_
              refine g_iconst dX12_ahead_201 ?_
              refine g_istore (l1 := [(5, vI 0), (4, vI 4), (0, vR 0), (1, vI x5_1_0), (2, vI rc51283), (3, vI rc51284)]) dX12_ahead_202 (by decide) rfl ?_
              have L204_55543 : ∀ (n204_55543 : Nat) (x204_5_55543 : Int) (h_x204_5_55543 : 0 ≤ x204_5_55543 ∧ x204_5_55543 ≤ 1600) (x204_1_55543 : Int) (h_x204_1_55543 : 0 ≤ x204_1_55543 ∧ x204_1_55543 ≤ 1600) (H204_55543 : PH) (hB204_55543 : BdM H204_55543) (hE204_55543 : FrM ([6, 12], []) (up (up (up (up (up H135_54124 0 6 0) 0 7 0) 0 3 3) 0 5 (x5_1_0 + 1)) 0 3 2) H204_55543) (i204_0_55543 : x5_1_0 ≤ x204_1_55543) (i204_1_55543 : x204_5_55543 ≤ x204_1_55543) (i204_2_55543 : x204_1_55543 = tA T p + x204_5_55543) (i204_3_55543 : RN 4 T (tA T p) x204_1_55543) (i204_4_55543 : WV 4 (H204_55543 0 7) (H204_55543 0 6) T (tA T p) x204_5_55543) (i204_5_55543 : H204_55543 0 12 = lx T p x204_5_55543 4) (hm204_55543 : ((1601 - x204_5_55543) : Int).toNat < n204_55543), Go WSM G 2 iX12_ahead 204 [(0, vR 0), (1, vI x204_1_55543), (2, vI rc51283), (3, vI rc51284), (4, vI 4), (5, vI x204_5_55543)] [] H204_55543 Q := by
                intro n204_55543
                induction n204_55543 with
                | zero => intro x204_5_55543 h_x204_5_55543 x204_1_55543 h_x204_1_55543 H204_55543 hB204_55543 hE204_55543 i204_0_55543 i204_1_55543 i204_2_55543 i204_3_55543 i204_4_55543 i204_5_55543 hm204_55543; exact absurd hm204_55543 (Nat.not_lt_zero _)
                | succ n204_55543 ih204_55543 =>
                intro x204_5_55543 h_x204_5_55543 x204_1_55543 h_x204_1_55543 H204_55543 hB204_55543 hE204_55543 i204_0_55543 i204_1_55543 i204_2_55543 i204_3_55543 i204_4_55543 i204_5_55543 hm204_55543
                have hT2 := z0.2 x204_1_55543
                have hrn := i204_3_55543
                have hwv : WV 4 (0) ((H204_55543 0 6)) T (tA T p) x204_5_55543 := by have q := i204_4_55543; rw [show H204_55543 0 7 = 0 from ((hE204_55543.1 7 rfl).trans ((up_k (by decide)).trans ((up_k (by decide)).trans ((up_k (by decide)).trans up_same)))), show H204_55543 0 6 = (H204_55543 0 6) from rfl] at q; exact q
                have hlx := i204_5_55543
                refine g_iload_n dX12_ahead_204 rfl ?_
                refine g_aload_n dX12_ahead_205 rfl ?_
                refine m_g2 (z := (P 0 2)) rfl dX12_ahead_206 ((hE204_55543.1 2 rfl).trans ((up_k (by decide)).trans ((up_k (by decide)).trans ((up_k (by decide)).trans ((up_k (by decide)).trans ((up_k (by decide)).trans ((hE135_54124.1 2 rfl).trans ((up_k (by decide)).trans ((up_k (by decide)).trans ((up_k (by decide)).trans ((up_k (by decide)).trans rfl))))))))))) ?_
                refine g_icmp_ge (tgt := 334) dX12_ahead_209 (by decide) ⟨by (clear i176_0_55539 hfl; omega), by (clear i176_0_55539 hfl; omega)⟩ ⟨by have q0 := b0_2 hB; (clear i176_0_55539 hfl; omega), by have q0 := b0_2 hB; (clear i176_0_55539 hfl; omega)⟩ (fun k56066 => ?_) (fun k56066 => ?_)
                · have r_hfl := (hfl.resolve_right (by (clear i176_0_55539 hfl; omega)))
                  skip
                  have hrs := hrn.stop (by (clear i176_0_55539 hfl; omega))
                  have hps := RX_pos (by decide) (by (clear i176_0_55539 hfl; omega)) hcA
                  have hne : tA T p + 1 ≤ x204_1_55543 := by (clear i176_0_55539 hfl; omega)
                  refine g_aload_n dX12_ahead_334 rfl ?_
                  refine g_iload_n dX12_ahead_335 rfl ?_
                  refine m_p5 rfl dX12_ahead_336 ?_
                  have hB56067 := bs_5 (z := x204_1_55543) hB204_55543 ⟨by (clear i176_0_55539 hfl; omega), by (clear i176_0_55539 hfl; omega)⟩
                  exact g_retV dX12_ahead_339 rfl (hQ _ hB56067 (FrM.s (FrM.c (FrM.s (FrM.s (FrM.s (FrM.s (FrM.s (FrM.c (FrM.s (FrM.s (FrM.s (FrM.s FrM.rf rfl) rfl) rfl) rfl) hE135_54124 rfl) rfl) rfl) rfl) rfl) rfl) hE204_55543 rfl) rfl) (by have q0 := (((up_k (by decide)).trans ((hE204_55543.1 3 rfl).trans up_same)) : (up H204_55543 0 5 x204_1_55543) 0 3 = 2); have q1 := (((up_k (by decide)).trans ((hE204_55543.1 4 rfl).trans ((up_k (by decide)).trans ((up_k (by decide)).trans ((up_k (by decide)).trans ((up_k (by decide)).trans ((up_k (by decide)).trans ((hE135_54124.1 4 rfl).trans ((up_k (by decide)).trans ((up_k (by decide)).trans ((up_k (by decide)).trans up_same))))))))))) : (up H204_55543 0 5 x204_1_55543) 0 4 = x5_1_0); have q2 := (up_same : (up H204_55543 0 5 x204_1_55543) 0 5 = x204_1_55543); (clear i176_0_55539 hfl; omega)) (by have q0 := (up_same : (up H204_55543 0 5 x204_1_55543) 0 5 = x204_1_55543); have q1 := (((up_k (by decide)).trans ((hE204_55543.1 4 rfl).trans ((up_k (by decide)).trans ((up_k (by decide)).trans ((up_k (by decide)).trans ((up_k (by decide)).trans ((up_k (by decide)).trans ((hE135_54124.1 4 rfl).trans ((up_k (by decide)).trans ((up_k (by decide)).trans ((up_k (by decide)).trans up_same))))))))))) : (up H204_55543 0 5 x204_1_55543) 0 4 = x5_1_0); (clear i176_0_55539 hfl; omega)) (by have q4 := (((up_k (by decide)).trans ((hE204_55543.1 4 rfl).trans ((up_k (by decide)).trans ((up_k (by decide)).trans ((up_k (by decide)).trans ((up_k (by decide)).trans ((up_k (by decide)).trans ((hE135_54124.1 4 rfl).trans ((up_k (by decide)).trans ((up_k (by decide)).trans ((up_k (by decide)).trans up_same))))))))))) : (up H204_55543 0 5 x204_1_55543) 0 4 = x5_1_0); have q5 := (up_same : (up H204_55543 0 5 x204_1_55543) 0 5 = x204_1_55543); have q3 := (((up_k (by decide)).trans ((hE204_55543.1 3 rfl).trans up_same)) : (up H204_55543 0 5 x204_1_55543) 0 3 = 2); first | exact MS.wor2 (n := x204_5_55543) ⟨by (first | (clear i176_0_55539 hfl; omega) | (clear i176_0_55539; omega) | (clear hfl; omega) | omega), by (first | (clear i176_0_55539 hfl; omega) | (clear i176_0_55539; omega) | (clear hfl; omega) | omega)⟩ (by (first | (clear i176_0_55539 hfl; omega) | (clear i176_0_55539; omega) | (clear hfl; omega) | omega)) (by (first | (clear i176_0_55539 hfl; omega) | (clear i176_0_55539; omega) | (clear hfl; omega) | omega)) (hcA.1 rfl) (by (first | (clear i176_0_55539 hfl; omega) | (clear i176_0_55539; omega) | (clear hfl; omega) | omega)) (by (first | (clear i176_0_55539 hfl; omega) | (clear i176_0_55539; omega) | (clear hfl; omega) | omega)) hrs (by (first | (clear i176_0_55539 hfl; omega) | (clear i176_0_55539; omega) | (clear hfl; omega) | omega)) ((((up_k (by decide)).trans rfl)).trans hlx) (by rw [show (up H204_55543 0 5 x204_1_55543) 0 7 = _ from ((up_k (by decide)).trans ((hE204_55543.1 7 rfl).trans ((up_k (by decide)).trans ((up_k (by decide)).trans ((up_k (by decide)).trans up_same))))), show (up H204_55543 0 5 x204_1_55543) 0 6 = _ from ((up_k (by decide)).trans rfl)]; exact hwv) | exact MS.nu2 (n := x204_5_55543) ⟨by (clear i176_0_55539 hfl; omega), by (clear i176_0_55539 hfl; omega)⟩ (by (clear i176_0_55539 hfl; omega)) (by (clear i176_0_55539 hfl; omega)) (hcA.2 rfl) (by (clear i176_0_55539 hfl; omega)) (by (clear i176_0_55539 hfl; omega)) hrs (by (clear i176_0_55539 hfl; omega)) ((((up_k (by decide)).trans rfl)).trans hlx) (by rw [show (up H204_55543 0 5 x204_1_55543) 0 7 = _ from ((up_k (by decide)).trans ((hE204_55543.1 7 rfl).trans ((up_k (by decide)).trans ((up_k (by decide)).trans ((up_k (by decide)).trans up_same))))), show (up H204_55543 0 5 x204_1_55543) 0 6 = _ from ((up_k (by decide)).trans rfl)]; exact hwv)))
                · have r_hfl := (hfl.resolve_right (by (clear i176_0_55539 hfl; omega)))
                  skip
                  refine g_iload_n dX12_ahead_212 rfl ?_
                  have J243_56119 : ∀ (i243_0_56119 : x204_1_55543 < T.2 ∧ P 1 x204_1_55543 = T.1 x204_1_55543) (i243_1_56119 : CC 4 (T.1 x204_1_55543)), Go WSM G 2 iX12_ahead 243 [(0, vR 0), (1, vI x204_1_55543), (2, vI rc51283), (3, vI rc51284), (4, vI 4), (5, vI x204_5_55543)] [] H204_55543 Q := by
                    intro i243_0_56119 i243_1_56119
                    have hcT := i243_0_56119
                    have hcc1 := i243_1_56119
                    refine g_iload dX12_ahead_243 rfl ?_
                    refine g_iload dX12_ahead_245 rfl ?_
                    have J263_56143 : ∀ (H263_56143 : PH) (hB263_56143 : BdM H263_56143) (hE263_56143 : FrM ([12], []) H204_55543 H263_56143) (i263_0_56143 : H263_56143 0 12 = lx T p (x204_5_55543 + 1) 4), Go WSM G 2 iX12_ahead 263 [(0, vR 0), (1, vI x204_1_55543), (2, vI rc51283), (3, vI rc51284), (4, vI 4), (5, vI x204_5_55543)] [] H263_56143 Q := by
                      intro H263_56143 hB263_56143 hE263_56143 i263_0_56143
                      refine g_iload dX12_ahead_263 rfl ?_
                      refine g_iload dX12_ahead_265 rfl ?_
                      have J293_56153 : ∀ (i293_0_56153 : W2 4 (H263_56143 0 7) (H263_56143 0 6) T (tA T p) x204_5_55543), Go WSM G 2 iX12_ahead 293 [(0, vR 0), (1, vI x204_1_55543), (2, vI rc51283), (3, vI rc51284), (4, vI 4), (5, vI x204_5_55543)] [] H263_56143 Q := by
                        intro i293_0_56153
                        have hw2 : W2 4 (0) ((H204_55543 0 6)) T (tA T p) x204_5_55543 := by have q := i293_0_56153; rw [show H263_56143 0 7 = 0 from ((hE263_56143.1 7 rfl).trans ((hE204_55543.1 7 rfl).trans ((up_k (by decide)).trans ((up_k (by decide)).trans ((up_k (by decide)).trans up_same))))), show H263_56143 0 6 = (H204_55543 0 6) from ((hE263_56143.1 6 rfl).trans rfl)] at q; exact q
                        refine g_iload dX12_ahead_293 rfl ?_
                        refine g_iload dX12_ahead_295 rfl ?_
                        have J325_56157 : ∀ (H325_56157 : PH) (hB325_56157 : BdM H325_56157) (hE325_56157 : FrM ([6], []) H263_56143 H325_56157) (i325_0_56157 : WV 4 (H325_56157 0 7) (H325_56157 0 6) T (tA T p) (x204_5_55543 + 1)), Go WSM G 2 iX12_ahead 325 [(0, vR 0), (1, vI x204_1_55543), (2, vI rc51283), (3, vI rc51284), (4, vI 4), (5, vI x204_5_55543)] [] H325_56157 Q := by
                          intro H325_56157 hB325_56157 hE325_56157 i325_0_56157
                          have hwv9 := i325_0_56157
                          refine g_iinc (l1 := [(5, vI (x204_5_55543 + 1)), (0, vR 0), (1, vI x204_1_55543), (2, vI rc51283), (3, vI rc51284), (4, vI 4)]) dX12_ahead_325 rfl (by decide) rfl ?_
                          refine g_iinc (l1 := [(1, vI (x204_1_55543 + 1)), (5, vI (x204_5_55543 + 1)), (0, vR 0), (2, vI rc51283), (3, vI rc51284), (4, vI 4)]) dX12_ahead_328 rfl (by decide) rfl ?_
                          refine g_goto (tgt := 204) dX12_ahead_331 (by decide) ?_
                          refine g_forget (l1 := [(0, vR 0), (1, vI (x204_1_55543 + 1)), (2, vI rc51283), (3, vI rc51284), (4, vI 4), (5, vI (x204_5_55543 + 1))]) (by intro q hq; simp only [List.mem_cons, List.not_mem_nil, or_false] at hq ⊢; rcases hq with rfl | rfl | rfl | rfl | rfl | rfl <;> simp) ?_
                          exact ih204_55543 (x204_5_55543 + 1) ⟨by have q0 := b0_2 hB; (clear i176_0_55539 hfl; omega), by have q0 := b0_2 hB; (clear i176_0_55539 hfl; omega)⟩ (x204_1_55543 + 1) ⟨by have q0 := b0_2 hB; (clear i176_0_55539 hfl; omega), by have q0 := b0_2 hB; (clear i176_0_55539 hfl; omega)⟩ _ hB325_56157 (FrM.c (FrM.c (FrM.c FrM.rf hE204_55543 rfl) hE263_56143 rfl) hE325_56157 rfl) (by (clear i176_0_55539 hfl; omega)) (by (clear i176_0_55539 hfl; omega)) (by (clear i176_0_55539 hfl; omega)) (by first | exact RN.start (by (first | (clear i176_0_55539 hfl; omega) | (clear i176_0_55539; omega) | (clear hfl; omega) | omega)) | exact hrn.go (by decide) (by (clear i176_0_55539 hfl; omega)) hcc1) (by first | exact hwv9 | (rw [show H325_56157 0 7 = 0 from ((hE325_56157.1 7 rfl).trans ((hE263_56143.1 7 rfl).trans ((hE204_55543.1 7 rfl).trans ((up_k (by decide)).trans ((up_k (by decide)).trans ((up_k (by decide)).trans up_same)))))), show H325_56157 0 6 = 0 from rfl]; exact WV.start)) (by first | (have q12 := (((hE325_56157.1 12 rfl).trans rfl) : H325_56157 0 12 = (H263_56143 0 12)); (clear i176_0_55539 hfl; omega)) | exact (((hE325_56157.1 12 rfl).trans rfl)).trans (hl0.2 (by (first | (clear i176_0_55539 hfl; omega) | (clear i176_0_55539; omega) | (clear hfl; omega) | omega)) _ (by decide))) (by (clear i176_0_55539 hfl; omega))
                        refine g_icmp_ge (tgt := 325) dX12_ahead_297 (by decide) ⟨by (clear i176_0_55539 hfl; omega), by (clear i176_0_55539 hfl; omega)⟩ (by decide) (fun k56159 => ?_) (fun k56159 => ?_)
                        · skip
                          skip
                          refine g_forget (l1 := [(0, vR 0), (1, vI x204_1_55543), (2, vI rc51283), (3, vI rc51284), (4, vI 4), (5, vI x204_5_55543)]) (by intro q hq; simp only [List.mem_cons, List.not_mem_nil, or_false] at hq ⊢; rcases hq with rfl | rfl | rfl | rfl | rfl | rfl <;> simp) ?_
                          exact J325_56157 _ hB263_56143 FrM.rf (by first | (rw [show H263_56143 0 7 = _ from ((hE263_56143.1 7 rfl).trans ((hE204_55543.1 7 rfl).trans ((up_k (by decide)).trans ((up_k (by decide)).trans ((up_k (by decide)).trans up_same))))), show H263_56143 0 6 = _ from ((hE263_56143.1 6 rfl).trans rfl)]; first | exact hw2.1 rfl | exact (hw2.2 rfl).v (by (first | (clear i176_0_55539 hfl; omega) | (clear i176_0_55539; omega) | (clear hfl; omega) | omega)) (by (first | (clear i176_0_55539 hfl; omega) | (clear i176_0_55539; omega) | (clear hfl; omega) | omega)) hcT.2 hv9 | exact WV.big (by decide) (by (clear i176_0_55539 hfl; omega))))
                        · skip
                          skip
                          refine g_iload_n dX12_ahead_300 rfl ?_
                          refine g_if_eq (tgt := 325) dX12_ahead_301 (by decide) ⟨by (clear i176_0_55539 hfl; omega), by (clear i176_0_55539 hfl; omega)⟩ (fun k56160 => ?_) (fun k56160 => ?_)
                          · skip
                            skip
                            refine g_forget (l1 := [(0, vR 0), (1, vI x204_1_55543), (2, vI rc51283), (3, vI rc51284), (4, vI 4), (5, vI x204_5_55543)]) (by intro q hq; simp only [List.mem_cons, List.not_mem_nil, or_false] at hq ⊢; rcases hq with rfl | rfl | rfl | rfl | rfl | rfl <;> simp) ?_
                            exact J325_56157 _ hB263_56143 FrM.rf (by first | (rw [show H263_56143 0 7 = _ from ((hE263_56143.1 7 rfl).trans ((hE204_55543.1 7 rfl).trans ((up_k (by decide)).trans ((up_k (by decide)).trans ((up_k (by decide)).trans up_same))))), show H263_56143 0 6 = _ from ((hE263_56143.1 6 rfl).trans rfl)]; first | exact hw2.1 rfl | exact (hw2.2 rfl).v (by (first | (clear i176_0_55539 hfl; omega) | (clear i176_0_55539; omega) | (clear hfl; omega) | omega)) (by (first | (clear i176_0_55539 hfl; omega) | (clear i176_0_55539; omega) | (clear hfl; omega) | omega)) hcT.2 hv9 | exact WV.big (by decide) (by (clear i176_0_55539 hfl; omega))))
                          · have k56160n : 1 ≤ rc51284 := by (clear i176_0_55539 hfl; omega)
                            clear k56160
                            skip
                            skip
                            have hvb : 0 ≤ (H204_55543 0 6) ∧ (H204_55543 0 6) ≤ 999 := by first | exact (hw2.2 rfl).vb hrn ⟨by (clear i176_0_55539 hfl; omega), by (clear i176_0_55539 hfl; omega)⟩ (by (clear i176_0_55539 hfl; omega)) | (exfalso; (first | (clear i176_0_55539 hfl; omega) | (clear i176_0_55539; omega) | (clear hfl; omega) | omega))
                            refine g_aload_n dX12_ahead_304 rfl ?_
                            refine g_bipush dX12_ahead_305 (by decide) ?_
                            refine g_aload_n dX12_ahead_307 rfl ?_
                            refine m_g6 (z := (H204_55543 0 6)) rfl dX12_ahead_308 ((hE263_56143.1 6 rfl).trans rfl) ?_
                            refine g_imul dX12_ahead_311 ?_
                            refine g_aload_n dX12_ahead_312 rfl ?_
                            refine m_g0 rfl dX12_ahead_313 ?_
                            refine g_iload_n dX12_ahead_316 rfl ?_
                            refine m_l1 (z := (P 1 x204_1_55543)) dX12_ahead_317 ⟨by (clear i176_0_55539 hfl; omega), by (clear i176_0_55539 hfl; omega)⟩ ((congrFun (hE263_56143.2 1 rfl rfl) _).trans ((congrFun (hE204_55543.2 1 rfl rfl) _).trans ((up_o (by decide)).trans ((up_o (by decide)).trans ((up_o (by decide)).trans ((up_o (by decide)).trans ((up_o (by decide)).trans ((congrFun (hE135_54124.2 1 rfl rfl) _).trans ((up_o (by decide)).trans ((up_o (by decide)).trans ((up_o (by decide)).trans ((up_o (by decide)).trans rfl)))))))))))) ?_
                            refine g_iadd dX12_ahead_318 ?_
                            refine g_bipush dX12_ahead_319 (by decide) ?_
                            refine g_isub dX12_ahead_321 ?_
                            have hv9 : (((10 * (H204_55543 0 6)) + (P 1 x204_1_55543)) - 48) = (H204_55543 0 6) * 10 + ((P 1 x204_1_55543) - 48) := by (clear i176_0_55539 hfl; omega)
                            refine m_p6 rfl dX12_ahead_322 ?_
                            have hB56161 := bs_6 (z := (((10 * (H204_55543 0 6)) + (P 1 x204_1_55543)) - 48)) hB263_56143 ⟨by have q0 := b0_6 hB204_55543; have q1 := bl_1 (k := x204_1_55543) hB; (clear i176_0_55539 hfl; omega), by have q0 := b0_6 hB204_55543; have q1 := bl_1 (k := x204_1_55543) hB; (clear i176_0_55539 hfl; omega)⟩
                            refine g_forget (l1 := [(0, vR 0), (1, vI x204_1_55543), (2, vI rc51283), (3, vI rc51284), (4, vI 4), (5, vI x204_5_55543)]) (by intro q hq; simp only [List.mem_cons, List.not_mem_nil, or_false] at hq ⊢; rcases hq with rfl | rfl | rfl | rfl | rfl | rfl <;> simp) ?_
                            exact J325_56157 _ hB56161 (FrM.s FrM.rf rfl) (by first | (rw [show (up H263_56143 0 6 (((10 * (H204_55543 0 6)) + (P 1 x204_1_55543)) - 48)) 0 7 = _ from ((up_k (by decide)).trans ((hE263_56143.1 7 rfl).trans ((hE204_55543.1 7 rfl).trans ((up_k (by decide)).trans ((up_k (by decide)).trans ((up_k (by decide)).trans up_same)))))), show (up H263_56143 0 6 (((10 * (H204_55543 0 6)) + (P 1 x204_1_55543)) - 48)) 0 6 = _ from up_same]; first | exact hw2.1 rfl | exact (hw2.2 rfl).v (by (clear i176_0_55539 hfl; omega)) (by (clear i176_0_55539 hfl; omega)) hcT.2 hv9 | exact WV.big (by decide) (by (first | (clear i176_0_55539 hfl; omega) | (clear i176_0_55539; omega) | (clear hfl; omega) | omega))))
                      refine g_icmp_ge (tgt := 293) dX12_ahead_267 (by decide) ⟨by (clear i176_0_55539 hfl; omega), by (clear i176_0_55539 hfl; omega)⟩ (by decide) (fun k56162 => ?_) (fun k56162 => ?_)
                      · skip
                        skip
                        refine g_forget (l1 := [(0, vR 0), (1, vI x204_1_55543), (2, vI rc51283), (3, vI rc51284), (4, vI 4), (5, vI x204_5_55543)]) (by intro q hq; simp only [List.mem_cons, List.not_mem_nil, or_false] at hq ⊢; rcases hq with rfl | rfl | rfl | rfl | rfl | rfl <;> simp) ?_
                        exact J293_56153 (by first | (rw [show H263_56143 0 7 = _ from ((hE263_56143.1 7 rfl).trans ((hE204_55543.1 7 rfl).trans ((up_k (by decide)).trans ((up_k (by decide)).trans ((up_k (by decide)).trans up_same))))), show H263_56143 0 6 = _ from ((hE263_56143.1 6 rfl).trans rfl)]; first | exact W2.six (hwv.w hrn (by (first | (clear i176_0_55539 hfl; omega) | (clear i176_0_55539; omega) | (clear hfl; omega) | omega)) (by (first | (clear i176_0_55539 hfl; omega) | (clear i176_0_55539; omega) | (clear hfl; omega) | omega)) hcT.2 (hcc1.1 rfl) hw9) | exact W2.four hwv) | (rw [show H263_56143 0 7 = _ from ((hE263_56143.1 7 rfl).trans ((hE204_55543.1 7 rfl).trans ((up_k (by decide)).trans ((up_k (by decide)).trans ((up_k (by decide)).trans up_same))))), show H263_56143 0 6 = _ from ((hE263_56143.1 6 rfl).trans rfl)]; exact W2.six (WV.big (by decide) (by (first | (clear i176_0_55539 hfl; omega) | (clear i176_0_55539; omega) | (clear hfl; omega) | omega)))))
                      · skip
                        skip
                        refine g_iload_n dX12_ahead_270 rfl ?_
                        refine g_if_eq (tgt := 293) dX12_ahead_271 (by decide) ⟨by (clear i176_0_55539 hfl; omega), by (clear i176_0_55539 hfl; omega)⟩ (fun k56163 => ?_) (fun k56163 => by exfalso; (clear i176_0_55539 hfl; omega))
                        skip
                        skip
                        refine g_forget (l1 := [(0, vR 0), (1, vI x204_1_55543), (2, vI rc51283), (3, vI rc51284), (4, vI 4), (5, vI x204_5_55543)]) (by intro q hq; simp only [List.mem_cons, List.not_mem_nil, or_false] at hq ⊢; rcases hq with rfl | rfl | rfl | rfl | rfl | rfl <;> simp) ?_
                        exact J293_56153 (by first | (rw [show H263_56143 0 7 = _ from ((hE263_56143.1 7 rfl).trans ((hE204_55543.1 7 rfl).trans ((up_k (by decide)).trans ((up_k (by decide)).trans ((up_k (by decide)).trans up_same))))), show H263_56143 0 6 = _ from ((hE263_56143.1 6 rfl).trans rfl)]; first | exact W2.six (hwv.w hrn (by (first | (clear i176_0_55539 hfl; omega) | (clear i176_0_55539; omega) | (clear hfl; omega) | omega)) (by (first | (clear i176_0_55539 hfl; omega) | (clear i176_0_55539; omega) | (clear hfl; omega) | omega)) hcT.2 (hcc1.1 rfl) hw9) | exact W2.four hwv) | (rw [show H263_56143 0 7 = _ from ((hE263_56143.1 7 rfl).trans ((hE204_55543.1 7 rfl).trans ((up_k (by decide)).trans ((up_k (by decide)).trans ((up_k (by decide)).trans up_same))))), show H263_56143 0 6 = _ from ((hE263_56143.1 6 rfl).trans rfl)]; exact W2.six (WV.big (by decide) (by (first | (clear i176_0_55539 hfl; omega) | (clear i176_0_55539; omega) | (clear hfl; omega) | omega)))))
                    refine g_icmp_ne (tgt := 263) dX12_ahead_247 (by decide) ⟨by (clear i176_0_55539 hfl; omega), by (clear i176_0_55539 hfl; omega)⟩ (by decide) (fun k56164 => ?_) (fun k56164 => ?_)
                    · skip
                      skip
                      refine g_forget (l1 := [(0, vR 0), (1, vI x204_1_55543), (2, vI rc51283), (3, vI rc51284), (4, vI 4), (5, vI x204_5_55543)]) (by intro q hq; simp only [List.mem_cons, List.not_mem_nil, or_false] at hq ⊢; rcases hq with rfl | rfl | rfl | rfl | rfl | rfl <;> simp) ?_
                      exact J263_56143 _ hB204_55543 FrM.rf (by first | exact (rfl).trans ((show _ = tA T p + 4 by (first | (clear i176_0_55539 hfl k56164; omega) | (clear i176_0_55539 hfl; omega) | (clear i176_0_55539 k56164; omega) | (clear hfl k56164; omega) | (clear i176_0_55539; omega) | omega)).trans (lx_hit (by (first | (clear i176_0_55539 hfl k56164; omega) | (clear i176_0_55539 hfl; omega) | (clear i176_0_55539 k56164; omega) | (clear hfl k56164; omega) | (clear i176_0_55539; omega) | omega)) (by (first | (clear i176_0_55539 hfl k56164; omega) | (clear i176_0_55539 hfl; omega) | (clear i176_0_55539 k56164; omega) | (clear hfl k56164; omega) | (clear i176_0_55539; omega) | omega)) (by (first | (clear i176_0_55539 hfl k56164; omega) | (clear i176_0_55539 hfl; omega) | (clear i176_0_55539 k56164; omega) | (clear hfl k56164; omega) | (clear i176_0_55539; omega) | omega))).symm) | exact (rfl).trans (hlx.trans (lx_no (by (clear i176_0_55539 hfl; omega))).symm))
                    · skip
                      skip
                      refine g_aload_n dX12_ahead_250 rfl ?_
                      refine m_g12 (z := (H204_55543 0 12)) rfl dX12_ahead_251 rfl ?_
                      refine g_iconst dX12_ahead_254 ?_
                      have f56165 := b0_12 hB204_55543
                      refine g_icmp_ne (tgt := 263) dX12_ahead_255 (by decide) ⟨by have q0 := b0_12 hB204_55543; (clear i176_0_55539 hfl k56164; omega), by have q0 := b0_12 hB204_55543; (clear i176_0_55539 hfl k56164; omega)⟩ (by decide) (fun k56166 => ?_) (fun k56166 => ?_)
                      · have k56166n : 0 ≤ (H204_55543 0 12) := by have q0 := b0_12 hB204_55543; (clear i176_0_55539 hfl k56164; omega)
                        clear k56166
                        skip
                        skip
                        refine g_forget (l1 := [(0, vR 0), (1, vI x204_1_55543), (2, vI rc51283), (3, vI rc51284), (4, vI 4), (5, vI x204_5_55543)]) (by intro q hq; simp only [List.mem_cons, List.not_mem_nil, or_false] at hq ⊢; rcases hq with rfl | rfl | rfl | rfl | rfl | rfl <;> simp) ?_
                        exact J263_56143 _ hB204_55543 FrM.rf (by first | exact (rfl).trans ((show _ = tA T p + 4 by (first | (clear i176_0_55539 hfl k56164; omega) | (clear i176_0_55539 hfl; omega) | (clear i176_0_55539 k56164; omega) | (clear hfl k56164; omega) | (clear i176_0_55539; omega) | omega)).trans (lx_hit (by (first | (clear i176_0_55539 hfl k56164; omega) | (clear i176_0_55539 hfl; omega) | (clear i176_0_55539 k56164; omega) | (clear hfl k56164; omega) | (clear i176_0_55539; omega) | omega)) (by (first | (clear i176_0_55539 hfl k56164; omega) | (clear i176_0_55539 hfl; omega) | (clear i176_0_55539 k56164; omega) | (clear hfl k56164; omega) | (clear i176_0_55539; omega) | omega)) (by (first | (clear i176_0_55539 hfl k56164; omega) | (clear i176_0_55539 hfl; omega) | (clear i176_0_55539 k56164; omega) | (clear hfl k56164; omega) | (clear i176_0_55539; omega) | omega))).symm) | exact (rfl).trans (hlx.trans (lx_no (by (clear i176_0_55539 hfl k56164; omega))).symm))
                      · skip
                        skip
                        refine g_aload_n dX12_ahead_258 rfl ?_
                        refine g_iload_n dX12_ahead_259 rfl ?_
                        refine m_p12 rfl dX12_ahead_260 ?_
                        have hB56167 := bs_12 (z := x204_1_55543) hB204_55543 ⟨by (clear i176_0_55539 hfl k56164; omega), by (clear i176_0_55539 hfl k56164; omega)⟩
                        refine g_forget (l1 := [(0, vR 0), (1, vI x204_1_55543), (2, vI rc51283), (3, vI rc51284), (4, vI 4), (5, vI x204_5_55543)]) (by intro q hq; simp only [List.mem_cons, List.not_mem_nil, or_false] at hq ⊢; rcases hq with rfl | rfl | rfl | rfl | rfl | rfl <;> simp) ?_
                        exact J263_56143 _ hB56167 (FrM.s FrM.rf rfl) (by first | exact (up_same).trans ((show _ = tA T p + 4 by (clear i176_0_55539 hfl; omega)).trans (lx_hit (by (clear i176_0_55539 hfl k56164; omega)) (by (clear i176_0_55539 hfl; omega)) (by (clear i176_0_55539 hfl k56164; omega))).symm) | exact (up_same).trans (hlx.trans (lx_no (by (first | (clear i176_0_55539 hfl k56164; omega) | (clear i176_0_55539 hfl; omega) | (clear i176_0_55539 k56164; omega) | (clear hfl k56164; omega) | (clear i176_0_55539; omega) | omega))).symm))
                  refine g_if_eq (tgt := 231) dX12_ahead_213 (by decide) ⟨by (clear i176_0_55539 hfl; omega), by (clear i176_0_55539 hfl; omega)⟩ (fun k56168 => ?_) (fun k56168 => by exfalso; (clear i176_0_55539 hfl; omega))
                  skip
                  skip
                  refine g_aload_n dX12_ahead_231 rfl ?_
                  refine m_g0 rfl dX12_ahead_232 ?_
                  refine g_iload_n dX12_ahead_235 rfl ?_
                  refine m_l1 (z := (P 1 x204_1_55543)) dX12_ahead_236 ⟨by (clear i176_0_55539 hfl; omega), by (clear i176_0_55539 hfl; omega)⟩ ((congrFun (hE204_55543.2 1 rfl rfl) _).trans ((up_o (by decide)).trans ((up_o (by decide)).trans ((up_o (by decide)).trans ((up_o (by decide)).trans ((up_o (by decide)).trans ((congrFun (hE135_54124.2 1 rfl rfl) _).trans ((up_o (by decide)).trans ((up_o (by decide)).trans ((up_o (by decide)).trans ((up_o (by decide)).trans rfl))))))))))) ?_
                  have f56169 := bl_1 (k := x204_1_55543) hB
                  refine g_sI (av := [vI (P 1 x204_1_55543)]) (st := []) (m_X12_isDigit G H204_55543 (P 1 x204_1_55543) ⟨by have q0 := bl_1 (k := x204_1_55543) hB; (clear i176_0_55539 hfl; omega), by have q0 := bl_1 (k := x204_1_55543) hB; (clear i176_0_55539 hfl; omega)⟩ hB204_55543  _ (fun rc56170 hc56170 gc56170_i => ⟨rc56170, rfl, ?_⟩)) cf_X12_isDigit t_1690 rfl (Nat.le_of_ble_eq_true rfl) (by decide) rfl dX12_ahead_237
                  refine g_if_eq (tgt := 334) dX12_ahead_240 (by decide) ⟨by (clear i176_0_55539 hfl gc56170_i; omega), by (clear i176_0_55539 hfl gc56170_i; omega)⟩ (fun k56171 => ?_) (fun k56171 => ?_)
                  · skip
                    skip
                    have hrs := hrn.stop (by (clear i176_0_55539 hfl; omega))
                    have hps := RX_pos (by decide) (by (clear i176_0_55539 hfl gc56170_i; omega)) hcA
                    have hne : tA T p + 1 ≤ x204_1_55543 := by (clear i176_0_55539 hfl gc56170_i; omega)
                    refine g_aload_n dX12_ahead_334 rfl ?_
                    refine g_iload_n dX12_ahead_335 rfl ?_
                    refine m_p5 rfl dX12_ahead_336 ?_
                    have hB56172 := bs_5 (z := x204_1_55543) hB204_55543 ⟨by (clear i176_0_55539 hfl gc56170_i; omega), by (clear i176_0_55539 hfl gc56170_i; omega)⟩
                    exact g_retV dX12_ahead_339 rfl (hQ _ hB56172 (FrM.s (FrM.c (FrM.s (FrM.s (FrM.s (FrM.s (FrM.s (FrM.c (FrM.s (FrM.s (FrM.s (FrM.s FrM.rf rfl) rfl) rfl) rfl) hE135_54124 rfl) rfl) rfl) rfl) rfl) rfl) hE204_55543 rfl) rfl) (by have q0 := (((up_k (by decide)).trans ((hE204_55543.1 3 rfl).trans up_same)) : (up H204_55543 0 5 x204_1_55543) 0 3 = 2); have q1 := (((up_k (by decide)).trans ((hE204_55543.1 4 rfl).trans ((up_k (by decide)).trans ((up_k (by decide)).trans ((up_k (by decide)).trans ((up_k (by decide)).trans ((up_k (by decide)).trans ((hE135_54124.1 4 rfl).trans ((up_k (by decide)).trans ((up_k (by decide)).trans ((up_k (by decide)).trans up_same))))))))))) : (up H204_55543 0 5 x204_1_55543) 0 4 = x5_1_0); have q2 := (up_same : (up H204_55543 0 5 x204_1_55543) 0 5 = x204_1_55543); (clear i176_0_55539 hfl gc56170_i; omega)) (by have q0 := (up_same : (up H204_55543 0 5 x204_1_55543) 0 5 = x204_1_55543); have q1 := (((up_k (by decide)).trans ((hE204_55543.1 4 rfl).trans ((up_k (by decide)).trans ((up_k (by decide)).trans ((up_k (by decide)).trans ((up_k (by decide)).trans ((up_k (by decide)).trans ((hE135_54124.1 4 rfl).trans ((up_k (by decide)).trans ((up_k (by decide)).trans ((up_k (by decide)).trans up_same))))))))))) : (up H204_55543 0 5 x204_1_55543) 0 4 = x5_1_0); (clear i176_0_55539 hfl gc56170_i; omega)) (by have q4 := (((up_k (by decide)).trans ((hE204_55543.1 4 rfl).trans ((up_k (by decide)).trans ((up_k (by decide)).trans ((up_k (by decide)).trans ((up_k (by decide)).trans ((up_k (by decide)).trans ((hE135_54124.1 4 rfl).trans ((up_k (by decide)).trans ((up_k (by decide)).trans ((up_k (by decide)).trans up_same))))))))))) : (up H204_55543 0 5 x204_1_55543) 0 4 = x5_1_0); have q5 := (up_same : (up H204_55543 0 5 x204_1_55543) 0 5 = x204_1_55543); have q3 := (((up_k (by decide)).trans ((hE204_55543.1 3 rfl).trans up_same)) : (up H204_55543 0 5 x204_1_55543) 0 3 = 2); first | exact MS.wor2 (n := x204_5_55543) ⟨by (first | (clear i176_0_55539 hfl gc56170_i; omega) | (clear i176_0_55539 hfl; omega) | (clear i176_0_55539 gc56170_i; omega) | (clear hfl gc56170_i; omega) | (clear i176_0_55539; omega) | omega), by (first | (clear i176_0_55539 hfl gc56170_i; omega) | (clear i176_0_55539 hfl; omega) | (clear i176_0_55539 gc56170_i; omega) | (clear hfl gc56170_i; omega) | (clear i176_0_55539; omega) | omega)⟩ (by (first | (clear i176_0_55539 hfl gc56170_i; omega) | (clear i176_0_55539 hfl; omega) | (clear i176_0_55539 gc56170_i; omega) | (clear hfl gc56170_i; omega) | (clear i176_0_55539; omega) | omega)) (by (first | (clear i176_0_55539 hfl gc56170_i; omega) | (clear i176_0_55539 hfl; omega) | (clear i176_0_55539 gc56170_i; omega) | (clear hfl gc56170_i; omega) | (clear i176_0_55539; omega) | omega)) (hcA.1 rfl) (by (first | (clear i176_0_55539 hfl gc56170_i; omega) | (clear i176_0_55539 hfl; omega) | (clear i176_0_55539 gc56170_i; omega) | (clear hfl gc56170_i; omega) | (clear i176_0_55539; omega) | omega)) (by (first | (clear i176_0_55539 hfl gc56170_i; omega) | (clear i176_0_55539 hfl; omega) | (clear i176_0_55539 gc56170_i; omega) | (clear hfl gc56170_i; omega) | (clear i176_0_55539; omega) | omega)) hrs (by (first | (clear i176_0_55539 hfl gc56170_i; omega) | (clear i176_0_55539 hfl; omega) | (clear i176_0_55539 gc56170_i; omega) | (clear hfl gc56170_i; omega) | (clear i176_0_55539; omega) | omega)) ((((up_k (by decide)).trans rfl)).trans hlx) (by rw [show (up H204_55543 0 5 x204_1_55543) 0 7 = _ from ((up_k (by decide)).trans ((hE204_55543.1 7 rfl).trans ((up_k (by decide)).trans ((up_k (by decide)).trans ((up_k (by decide)).trans up_same))))), show (up H204_55543 0 5 x204_1_55543) 0 6 = _ from ((up_k (by decide)).trans rfl)]; exact hwv) | exact MS.nu2 (n := x204_5_55543) ⟨by (clear i176_0_55539 hfl gc56170_i; omega), by (clear i176_0_55539 hfl gc56170_i; omega)⟩ (by (clear i176_0_55539 hfl gc56170_i; omega)) (by (clear i176_0_55539 hfl gc56170_i; omega)) (hcA.2 rfl) (by (clear i176_0_55539 hfl gc56170_i; omega)) (by (clear i176_0_55539 hfl gc56170_i; omega)) hrs (by (clear i176_0_55539 hfl gc56170_i; omega)) ((((up_k (by decide)).trans rfl)).trans hlx) (by rw [show (up H204_55543 0 5 x204_1_55543) 0 7 = _ from ((up_k (by decide)).trans ((hE204_55543.1 7 rfl).trans ((up_k (by decide)).trans ((up_k (by decide)).trans ((up_k (by decide)).trans up_same))))), show (up H204_55543 0 5 x204_1_55543) 0 6 = _ from ((up_k (by decide)).trans rfl)]; exact hwv)))
                  · have k56171n : 1 ≤ rc56170 := by (clear i176_0_55539 hfl gc56170_i; omega)
                    clear k56171
                    skip
                    skip
                    refine g_forget (l1 := [(0, vR 0), (1, vI x204_1_55543), (2, vI rc51283), (3, vI rc51284), (4, vI 4), (5, vI x204_5_55543)]) (by intro q hq; simp only [List.mem_cons, List.not_mem_nil, or_false] at hq ⊢; rcases hq with rfl | rfl | rfl | rfl | rfl | rfl <;> simp) ?_
                    exact J243_56119 (by (clear i176_0_55539 hfl gc56170_i; omega)) (⟨fun e => by (clear i176_0_55539 hfl gc56170_i; omega), fun e => by (clear i176_0_55539 hfl; omega)⟩)
              refine g_forget (l1 := [(0, vR 0), (1, vI x5_1_0), (2, vI rc51283), (3, vI rc51284), (4, vI 4), (5, vI 0)]) (by intro q hq; simp only [List.mem_cons, List.not_mem_nil, or_false] at hq ⊢; rcases hq with rfl | rfl | rfl | rfl | rfl | rfl <;> simp) ?_
              exact L204_55543 _ 0 (by decide) x5_1_0 ⟨by have q0 := b0_2 hB; (clear i176_0_55539 hfl; omega), by have q0 := b0_2 hB; (clear i176_0_55539 hfl; omega)⟩ _ hB55542 FrM.rf (by (clear i176_0_55539 hfl; omega)) (by (clear i176_0_55539 hfl; omega)) (by (clear i176_0_55539 hfl; omega)) (by first | exact RN.start (by (clear i176_0_55539 hfl; omega)) | exact hrn.go (by decide) (by (first | (clear i176_0_55539 hfl; omega) | (clear i176_0_55539; omega) | (clear hfl; omega) | omega)) hcc1) (by first | exact hwv9 | (rw [show (up (up (up (up (up H135_54124 0 6 0) 0 7 0) 0 3 3) 0 5 (x5_1_0 + 1)) 0 3 2) 0 7 = 0 from ((up_k (by decide)).trans ((up_k (by decide)).trans ((up_k (by decide)).trans up_same))), show (up (up (up (up (up H135_54124 0 6 0) 0 7 0) 0 3 3) 0 5 (x5_1_0 + 1)) 0 3 2) 0 6 = 0 from ((up_k (by decide)).trans ((up_k (by decide)).trans ((up_k (by decide)).trans ((up_k (by decide)).trans up_same))))]; exact WV.start)) (by first | (have q12 := (((up_k (by decide)).trans ((up_k (by decide)).trans ((up_k (by decide)).trans ((up_k (by decide)).trans ((up_k (by decide)).trans rfl))))) : (up (up (up (up (up H135_54124 0 6 0) 0 7 0) 0 3 3) 0 5 (x5_1_0 + 1)) 0 3 2) 0 12 = (H135_54124 0 12)); (first | (clear i176_0_55539 hfl; omega) | (clear i176_0_55539; omega) | (clear hfl; omega) | omega)) | exact (((up_k (by decide)).trans ((up_k (by decide)).trans ((up_k (by decide)).trans ((up_k (by decide)).trans ((up_k (by decide)).trans rfl)))))).trans (hl0.2 (by (clear i176_0_55539 hfl; omega)) _ (by decide))) (Nat.lt_succ_self _)
            · have k55541n : 1 ≤ rc51283 := by (clear hL hD i176_0_55539; omega)
              clear k55541
              skip
              refine g_iconst dX12_ahead_181 ?_
              refine g_goto (tgt := 186) dX12_ahead_182 (by decide) ?_
              refine m_p3 rfl dX12_ahead_186 ?_
              have hB56173 := bs_3 (z := 1) hB54129 (by decide)
              refine g_iload_n dX12_ahead_189 rfl ?_
              refine g_if_eq (tgt := 198) dX12_ahead_190 (by decide) ⟨by (clear hL hD i176_0_55539; omega), by (clear hL hD i176_0_55539; omega)⟩ (fun k56174 => by exfalso; (clear hL hD i176_0_55539; omega)) (fun k56174 => ?_)
              skip
              refine g_bipush dX12_ahead_193 (by decide) ?_
              refine g_goto (tgt := 199) dX12_ahead_195 (by decide) ?_
              have hcA : CC 6 (T.1 (tA T p)) := ⟨fun e => by (clear hD i176_0_55539 k56174; omega), fun e => by (clear hL hD i176_0_55539 k56174; omega)⟩
              have hfl : rc51283 = 0 ∨ rc51284 = 0 := by (omega)
              clear hL hD
              refine g_istore (l1 := [(4, vI 6), (0, vR 0), (1, vI x5_1_0), (2, vI rc51283), (3, vI rc51284)]) dX12_ahead_199 (by decide) rfl ?_
              refine g_iconst dX12_ahead_201 ?_
              refine g_istore (l1 := [(5, vI 0), (4, vI 6), (0, vR 0), (1, vI x5_1_0), (2, vI rc51283), (3, vI rc51284)]) dX12_ahead_202 (by decide) rfl ?_
              have L204_56174 : ∀ (n204_56174 : Nat) (x204_5_56174 : Int) (h_x204_5_56174 : 0 ≤ x204_5_56174 ∧ x204_5_56174 ≤ 1600) (x204_1_56174 : Int) (h_x204_1_56174 : 0 ≤ x204_1_56174 ∧ x204_1_56174 ≤ 1600) (H204_56174 : PH) (hB204_56174 : BdM H204_56174) (hE204_56174 : FrM ([6, 7, 12], []) (up (up (up (up (up H135_54124 0 6 0) 0 7 0) 0 3 3) 0 5 (x5_1_0 + 1)) 0 3 1) H204_56174) (i204_0_56174 : x5_1_0 ≤ x204_1_56174) (i204_1_56174 : x204_5_56174 ≤ x204_1_56174) (i204_2_56174 : x204_1_56174 = tA T p + x204_5_56174) (i204_3_56174 : RN 6 T (tA T p) x204_1_56174) (i204_4_56174 : WV 6 (H204_56174 0 7) (H204_56174 0 6) T (tA T p) x204_5_56174) (i204_5_56174 : H204_56174 0 12 = lx T p x204_5_56174 6) (hm204_56174 : ((1601 - x204_5_56174) : Int).toNat < n204_56174), Go WSM G 2 iX12_ahead 204 [(0, vR 0), (1, vI x204_1_56174), (2, vI rc51283), (3, vI rc51284), (4, vI 6), (5, vI x204_5_56174)] [] H204_56174 Q := by
                intro n204_56174
                induction n204_56174 with
                | zero => intro x204_5_56174 h_x204_5_56174 x204_1_56174 h_x204_1_56174 H204_56174 hB204_56174 hE204_56174 i204_0_56174 i204_1_56174 i204_2_56174 i204_3_56174 i204_4_56174 i204_5_56174 hm204_56174; exact absurd hm204_56174 (Nat.not_lt_zero _)
                | succ n204_56174 ih204_56174 =>
                intro x204_5_56174 h_x204_5_56174 x204_1_56174 h_x204_1_56174 H204_56174 hB204_56174 hE204_56174 i204_0_56174 i204_1_56174 i204_2_56174 i204_3_56174 i204_4_56174 i204_5_56174 hm204_56174
                have hT2 := z0.2 x204_1_56174
                have hrn := i204_3_56174
                have hwv : WV 6 ((H204_56174 0 7)) ((H204_56174 0 6)) T (tA T p) x204_5_56174 := by have q := i204_4_56174; rw [show H204_56174 0 7 = (H204_56174 0 7) from rfl, show H204_56174 0 6 = (H204_56174 0 6) from rfl] at q; exact q
                have hlx := i204_5_56174
                refine g_iload_n dX12_ahead_204 rfl ?_
                refine g_aload_n dX12_ahead_205 rfl ?_
                refine m_g2 (z := (P 0 2)) rfl dX12_ahead_206 ((hE204_56174.1 2 rfl).trans ((up_k (by decide)).trans ((up_k (by decide)).trans ((up_k (by decide)).trans ((up_k (by decide)).trans ((up_k (by decide)).trans ((hE135_54124.1 2 rfl).trans ((up_k (by decide)).trans ((up_k (by decide)).trans ((up_k (by decide)).trans ((up_k (by decide)).trans rfl))))))))))) ?_
                refine g_icmp_ge (tgt := 334) dX12_ahead_209 (by decide) ⟨by (clear i176_0_55539 k56174 hfl; omega), by (clear i176_0_55539 k56174 hfl; omega)⟩ ⟨by have q0 := b0_2 hB; (clear i176_0_55539 k56174 hfl; omega), by have q0 := b0_2 hB; (clear i176_0_55539 k56174 hfl; omega)⟩ (fun k56817 => ?_) (fun k56817 => ?_)
                · have r_hfl := (hfl.resolve_left (by (clear i176_0_55539 k56174 hfl; omega)))
                  have r_i176_0_55539 := (i176_0_55539.resolve_right (by (clear i176_0_55539 k56174 hfl; omega)))
                  have hrs := hrn.stop (by (clear i176_0_55539 k56174 hfl; omega))
                  have hps := RX_pos (by decide) (by (clear i176_0_55539 k56174 hfl; omega)) hcA
                  have hne : tA T p + 1 ≤ x204_1_56174 := by (clear i176_0_55539 k56174 hfl; omega)
                  refine g_aload_n dX12_ahead_334 rfl ?_
                  refine g_iload_n dX12_ahead_335 rfl ?_
                  refine m_p5 rfl dX12_ahead_336 ?_
                  have hB56818 := bs_5 (z := x204_1_56174) hB204_56174 ⟨by (clear i176_0_55539 k56174 hfl; omega), by (clear i176_0_55539 k56174 hfl; omega)⟩
                  exact g_retV dX12_ahead_339 rfl (hQ _ hB56818 (FrM.s (FrM.c (FrM.s (FrM.s (FrM.s (FrM.s (FrM.s (FrM.c (FrM.s (FrM.s (FrM.s (FrM.s FrM.rf rfl) rfl) rfl) rfl) hE135_54124 rfl) rfl) rfl) rfl) rfl) rfl) hE204_56174 rfl) rfl) (by have q0 := (((up_k (by decide)).trans ((hE204_56174.1 3 rfl).trans up_same)) : (up H204_56174 0 5 x204_1_56174) 0 3 = 1); have q1 := (((up_k (by decide)).trans ((hE204_56174.1 4 rfl).trans ((up_k (by decide)).trans ((up_k (by decide)).trans ((up_k (by decide)).trans ((up_k (by decide)).trans ((up_k (by decide)).trans ((hE135_54124.1 4 rfl).trans ((up_k (by decide)).trans ((up_k (by decide)).trans ((up_k (by decide)).trans up_same))))))))))) : (up H204_56174 0 5 x204_1_56174) 0 4 = x5_1_0); have q2 := (up_same : (up H204_56174 0 5 x204_1_56174) 0 5 = x204_1_56174); (clear i176_0_55539 k56174 hfl; omega)) (by have q0 := (up_same : (up H204_56174 0 5 x204_1_56174) 0 5 = x204_1_56174); have q1 := (((up_k (by decide)).trans ((hE204_56174.1 4 rfl).trans ((up_k (by decide)).trans ((up_k (by decide)).trans ((up_k (by decide)).trans ((up_k (by decide)).trans ((up_k (by decide)).trans ((hE135_54124.1 4 rfl).trans ((up_k (by decide)).trans ((up_k (by decide)).trans ((up_k (by decide)).trans up_same))))))))))) : (up H204_56174 0 5 x204_1_56174) 0 4 = x5_1_0); (clear i176_0_55539 k56174 hfl; omega)) (by have q4 := (((up_k (by decide)).trans ((hE204_56174.1 4 rfl).trans ((up_k (by decide)).trans ((up_k (by decide)).trans ((up_k (by decide)).trans ((up_k (by decide)).trans ((up_k (by decide)).trans ((hE135_54124.1 4 rfl).trans ((up_k (by decide)).trans ((up_k (by decide)).trans ((up_k (by decide)).trans up_same))))))))))) : (up H204_56174 0 5 x204_1_56174) 0 4 = x5_1_0); have q5 := (up_same : (up H204_56174 0 5 x204_1_56174) 0 5 = x204_1_56174); have q3 := (((up_k (by decide)).trans ((hE204_56174.1 3 rfl).trans up_same)) : (up H204_56174 0 5 x204_1_56174) 0 3 = 1); first | exact MS.wor2 (n := x204_5_56174) ⟨by (clear i176_0_55539 k56174 hfl; omega), by (clear i176_0_55539 k56174 hfl; omega)⟩ (by (clear i176_0_55539 k56174 hfl; omega)) (by (clear i176_0_55539 k56174 hfl; omega)) (hcA.1 rfl) (by (clear i176_0_55539 k56174 hfl; omega)) (by (clear i176_0_55539 k56174 hfl; omega)) hrs (by (clear i176_0_55539 k56174 hfl; omega)) ((((up_k (by decide)).trans rfl)).trans hlx) (by rw [show (up H204_56174 0 5 x204_1_56174) 0 7 = _ from ((up_k (by decide)).trans rfl), show (up H204_56174 0 5 x204_1_56174) 0 6 = _ from ((up_k (by decide)).trans rfl)]; exact hwv) | exact MS.nu2 (n := x204_5_56174) ⟨by (first | (clear i176_0_55539 k56174 hfl; omega) | (clear i176_0_55539 k56174; omega) | (clear i176_0_55539 hfl; omega) | (clear k56174 hfl; omega) | (clear i176_0_55539; omega) | omega), by (first | (clear i176_0_55539 k56174 hfl; omega) | (clear i176_0_55539 k56174; omega) | (clear i176_0_55539 hfl; omega) | (clear k56174 hfl; omega) | (clear i176_0_55539; omega) | omega)⟩ (by (first | (clear i176_0_55539 k56174 hfl; omega) | (clear i176_0_55539 k56174; omega) | (clear i176_0_55539 hfl; omega) | (clear k56174 hfl; omega) | (clear i176_0_55539; omega) | omega)) (by (first | (clear i176_0_55539 k56174 hfl; omega) | (clear i176_0_55539 k56174; omega) | (clear i176_0_55539 hfl; omega) | (clear k56174 hfl; omega) | (clear i176_0_55539; omega) | omega)) (hcA.2 rfl) (by (first | (clear i176_0_55539 k56174 hfl; omega) | (clear i176_0_55539 k56174; omega) | (clear i176_0_55539 hfl; omega) | (clear k56174 hfl; omega) | (clear i176_0_55539; omega) | omega)) (by (first | (clear i176_0_55539 k56174 hfl; omega) | (clear i176_0_55539 k56174; omega) | (clear i176_0_55539 hfl; omega) | (clear k56174 hfl; omega) | (clear i176_0_55539; omega) | omega)) hrs (by (first | (clear i176_0_55539 k56174 hfl; omega) | (clear i176_0_55539 k56174; omega) | (clear i176_0_55539 hfl; omega) | (clear k56174 hfl; omega) | (clear i176_0_55539; omega) | omega)) ((((up_k (by decide)).trans rfl)).trans hlx) (by rw [show (up H204_56174 0 5 x204_1_56174) 0 7 = _ from ((up_k (by decide)).trans rfl), show (up H204_56174 0 5 x204_1_56174) 0 6 = _ from ((up_k (by decide)).trans rfl)]; exact hwv)))
                · have r_hfl := (hfl.resolve_left (by (clear i176_0_55539 k56174 hfl; omega)))
                  have r_i176_0_55539 := (i176_0_55539.resolve_right (by (clear i176_0_55539 k56174 hfl; omega)))
                  refine g_iload_n dX12_ahead_212 rfl ?_
                  have J243_56882 : ∀ (i243_0_56882 : x204_1_56174 < T.2 ∧ P 1 x204_1_56174 = T.1 x204_1_56174) (i243_1_56882 : CC 6 (T.1 x204_1_56174)), Go WSM G 2 iX12_ahead 243 [(0, vR 0), (1, vI x204_1_56174), (2, vI rc51283), (3, vI rc51284), (4, vI 6), (5, vI x204_5_56174)] [] H204_56174 Q := by
                    intro i243_0_56882 i243_1_56882
                    have hcT := i243_0_56882
                    have hcc1 := i243_1_56882
                    refine g_iload dX12_ahead_243 rfl ?_
                    refine g_iload dX12_ahead_245 rfl ?_
                    have J263_56912 : ∀ (H263_56912 : PH) (hB263_56912 : BdM H263_56912) (hE263_56912 : FrM ([12], []) H204_56174 H263_56912) (i263_0_56912 : H263_56912 0 12 = lx T p (x204_5_56174 + 1) 6), Go WSM G 2 iX12_ahead 263 [(0, vR 0), (1, vI x204_1_56174), (2, vI rc51283), (3, vI rc51284), (4, vI 6), (5, vI x204_5_56174)] [] H263_56912 Q := by
                      intro H263_56912 hB263_56912 hE263_56912 i263_0_56912
                      refine g_iload dX12_ahead_263 rfl ?_
                      refine g_iload dX12_ahead_265 rfl ?_
                      have J293_56925 : ∀ (H293_56925 : PH) (hB293_56925 : BdM H293_56925) (hE293_56925 : FrM ([7], []) H263_56912 H293_56925) (i293_0_56925 : W2 6 (H293_56925 0 7) (H293_56925 0 6) T (tA T p) x204_5_56174), Go WSM G 2 iX12_ahead 293 [(0, vR 0), (1, vI x204_1_56174), (2, vI rc51283), (3, vI rc51284), (4, vI 6), (5, vI x204_5_56174)] [] H293_56925 Q := by
                        intro H293_56925 hB293_56925 hE293_56925 i293_0_56925
                        have hw2 : W2 6 ((H293_56925 0 7)) ((H204_56174 0 6)) T (tA T p) x204_5_56174 := by have q := i293_0_56925; rw [show H293_56925 0 7 = (H293_56925 0 7) from rfl, show H293_56925 0 6 = (H204_56174 0 6) from ((hE293_56925.1 6 rfl).trans ((hE263_56912.1 6 rfl).trans rfl))] at q; exact q
                        refine g_iload dX12_ahead_293 rfl ?_
                        refine g_iload dX12_ahead_295 rfl ?_
                        have J325_56929 : ∀ (H325_56929 : PH) (hB325_56929 : BdM H325_56929) (hE325_56929 : FrM ([6], []) H293_56925 H325_56929) (i325_0_56929 : WV 6 (H325_56929 0 7) (H325_56929 0 6) T (tA T p) (x204_5_56174 + 1)), Go WSM G 2 iX12_ahead 325 [(0, vR 0), (1, vI x204_1_56174), (2, vI rc51283), (3, vI rc51284), (4, vI 6), (5, vI x204_5_56174)] [] H325_56929 Q := by
                          intro H325_56929 hB325_56929 hE325_56929 i325_0_56929
                          have hwv9 := i325_0_56929
                          refine g_iinc (l1 := [(5, vI (x204_5_56174 + 1)), (0, vR 0), (1, vI x204_1_56174), (2, vI rc51283), (3, vI rc51284), (4, vI 6)]) dX12_ahead_325 rfl (by decide) rfl ?_
                          refine g_iinc (l1 := [(1, vI (x204_1_56174 + 1)), (5, vI (x204_5_56174 + 1)), (0, vR 0), (2, vI rc51283), (3, vI rc51284), (4, vI 6)]) dX12_ahead_328 rfl (by decide) rfl ?_
                          refine g_goto (tgt := 204) dX12_ahead_331 (by decide) ?_
                          refine g_forget (l1 := [(0, vR 0), (1, vI (x204_1_56174 + 1)), (2, vI rc51283), (3, vI rc51284), (4, vI 6), (5, vI (x204_5_56174 + 1))]) (by intro q hq; simp only [List.mem_cons, List.not_mem_nil, or_false] at hq ⊢; rcases hq with rfl | rfl | rfl | rfl | rfl | rfl <;> simp) ?_
                          exact ih204_56174 (x204_5_56174 + 1) ⟨by have q0 := b0_2 hB; (clear i176_0_55539 k56174 hfl; omega), by have q0 := b0_2 hB; (clear i176_0_55539 k56174 hfl; omega)⟩ (x204_1_56174 + 1) ⟨by have q0 := b0_2 hB; (clear i176_0_55539 k56174 hfl; omega), by have q0 := b0_2 hB; (clear i176_0_55539 k56174 hfl; omega)⟩ _ hB325_56929 (FrM.c (FrM.c (FrM.c (FrM.c FrM.rf hE204_56174 rfl) hE263_56912 rfl) hE293_56925 rfl) hE325_56929 rfl) (by (clear i176_0_55539 k56174 hfl; omega)) (by (clear i176_0_55539 k56174 hfl; omega)) (by (clear i176_0_55539 k56174 hfl; omega)) (by first | exact RN.start (by (first | (clear i176_0_55539 k56174 hfl; omega) | (clear i176_0_55539 k56174; omega) | (clear i176_0_55539 hfl; omega) | (clear k56174 hfl; omega) | (clear i176_0_55539; omega) | omega)) | exact hrn.go (by decide) (by (clear i176_0_55539 k56174 hfl; omega)) hcc1) (by first | exact hwv9 | (rw [show H325_56929 0 7 = 0 from ((hE325_56929.1 7 rfl).trans rfl), show H325_56929 0 6 = 0 from rfl]; exact WV.start)) (by first | (have q12 := (((hE325_56929.1 12 rfl).trans ((hE293_56925.1 12 rfl).trans rfl)) : H325_56929 0 12 = (H263_56912 0 12)); (clear i176_0_55539 k56174 hfl; omega)) | exact (((hE325_56929.1 12 rfl).trans ((hE293_56925.1 12 rfl).trans rfl))).trans (hl0.2 (by (first | (clear i176_0_55539 k56174 hfl; omega) | (clear i176_0_55539 k56174; omega) | (clear i176_0_55539 hfl; omega) | (clear k56174 hfl; omega) | (clear i176_0_55539; omega) | omega)) _ (by decide))) (by (clear i176_0_55539 k56174 hfl; omega))
                        refine g_icmp_ge (tgt := 325) dX12_ahead_297 (by decide) ⟨by (clear i176_0_55539 k56174 hfl; omega), by (clear i176_0_55539 k56174 hfl; omega)⟩ (by decide) (fun k56931 => ?_) (fun k56931 => ?_)
                        · skip
                          skip
                          refine g_forget (l1 := [(0, vR 0), (1, vI x204_1_56174), (2, vI rc51283), (3, vI rc51284), (4, vI 6), (5, vI x204_5_56174)]) (by intro q hq; simp only [List.mem_cons, List.not_mem_nil, or_false] at hq ⊢; rcases hq with rfl | rfl | rfl | rfl | rfl | rfl <;> simp) ?_
                          exact J325_56929 _ hB293_56925 FrM.rf (by first | (rw [show H293_56925 0 7 = _ from rfl, show H293_56925 0 6 = _ from ((hE293_56925.1 6 rfl).trans ((hE263_56912.1 6 rfl).trans rfl))]; first | exact hw2.1 rfl | exact (hw2.2 rfl).v (by (first | (clear i176_0_55539 k56174 hfl; omega) | (clear i176_0_55539 k56174; omega) | (clear i176_0_55539 hfl; omega) | (clear k56174 hfl; omega) | (clear i176_0_55539; omega) | omega)) (by (first | (clear i176_0_55539 k56174 hfl; omega) | (clear i176_0_55539 k56174; omega) | (clear i176_0_55539 hfl; omega) | (clear k56174 hfl; omega) | (clear i176_0_55539; omega) | omega)) hcT.2 hv9 | exact WV.big (by decide) (by (first | (clear i176_0_55539 k56174 hfl; omega) | (clear i176_0_55539 k56174; omega) | (clear i176_0_55539 hfl; omega) | (clear k56174 hfl; omega) | (clear i176_0_55539; omega) | omega))))
                        · skip
                          skip
                          refine g_iload_n dX12_ahead_300 rfl ?_
                          refine g_if_eq (tgt := 325) dX12_ahead_301 (by decide) ⟨by (clear i176_0_55539 k56174 hfl; omega), by (clear i176_0_55539 k56174 hfl; omega)⟩ (fun k56932 => ?_) (fun k56932 => ?_)
                          · skip
                            skip
                            refine g_forget (l1 := [(0, vR 0), (1, vI x204_1_56174), (2, vI rc51283), (3, vI rc51284), (4, vI 6), (5, vI x204_5_56174)]) (by intro q hq; simp only [List.mem_cons, List.not_mem_nil, or_false] at hq ⊢; rcases hq with rfl | rfl | rfl | rfl | rfl | rfl <;> simp) ?_
                            exact J325_56929 _ hB293_56925 FrM.rf (by first | (rw [show H293_56925 0 7 = _ from rfl, show H293_56925 0 6 = _ from ((hE293_56925.1 6 rfl).trans ((hE263_56912.1 6 rfl).trans rfl))]; first | exact hw2.1 rfl | exact (hw2.2 rfl).v (by (first | (clear i176_0_55539 k56174 hfl; omega) | (clear i176_0_55539 k56174; omega) | (clear i176_0_55539 hfl; omega) | (clear k56174 hfl; omega) | (clear i176_0_55539; omega) | omega)) (by (first | (clear i176_0_55539 k56174 hfl; omega) | (clear i176_0_55539 k56174; omega) | (clear i176_0_55539 hfl; omega) | (clear k56174 hfl; omega) | (clear i176_0_55539; omega) | omega)) hcT.2 hv9 | exact WV.big (by decide) (by (first | (clear i176_0_55539 k56174 hfl; omega) | (clear i176_0_55539 k56174; omega) | (clear i176_0_55539 hfl; omega) | (clear k56174 hfl; omega) | (clear i176_0_55539; omega) | omega))))
                          · have k56932n : 1 ≤ rc51284 := by (clear i176_0_55539 k56174 hfl; omega)
                            clear k56932
                            skip
                            skip
                            have hvb : 0 ≤ (H204_56174 0 6) ∧ (H204_56174 0 6) ≤ 999 := by first | exact (hw2.2 rfl).vb hrn ⟨by (first | (clear i176_0_55539 k56174 hfl; omega) | (clear i176_0_55539 k56174; omega) | (clear i176_0_55539 hfl; omega) | (clear k56174 hfl; omega) | (clear i176_0_55539; omega) | omega), by (first | (clear i176_0_55539 k56174 hfl; omega) | (clear i176_0_55539 k56174; omega) | (clear i176_0_55539 hfl; omega) | (clear k56174 hfl; omega) | (clear i176_0_55539; omega) | omega)⟩ (by (first | (clear i176_0_55539 k56174 hfl; omega) | (clear i176_0_55539 k56174; omega) | (clear i176_0_55539 hfl; omega) | (clear k56174 hfl; omega) | (clear i176_0_55539; omega) | omega)) | (exfalso; (clear i176_0_55539 k56174 hfl; omega))
                            refine g_aload_n dX12_ahead_304 rfl ?_
                            refine g_bipush dX12_ahead_305 (by decide) ?_
                            refine g_aload_n dX12_ahead_307 rfl ?_
                            refine m_g6 (z := (H204_56174 0 6)) rfl dX12_ahead_308 ((hE293_56925.1 6 rfl).trans ((hE263_56912.1 6 rfl).trans rfl)) ?_
                            refine g_imul dX12_ahead_311 ?_
                            refine g_aload_n dX12_ahead_312 rfl ?_
                            refine m_g0 rfl dX12_ahead_313 ?_
                            refine g_iload_n dX12_ahead_316 rfl ?_
                            refine m_l1 (z := (P 1 x204_1_56174)) dX12_ahead_317 ⟨by (clear i176_0_55539 k56174 hfl; omega), by (clear i176_0_55539 k56174 hfl; omega)⟩ ((congrFun (hE293_56925.2 1 rfl rfl) _).trans ((congrFun (hE263_56912.2 1 rfl rfl) _).trans ((congrFun (hE204_56174.2 1 rfl rfl) _).trans ((up_o (by decide)).trans ((up_o (by decide)).trans ((up_o (by decide)).trans ((up_o (by decide)).trans ((up_o (by decide)).trans ((congrFun (hE135_54124.2 1 rfl rfl) _).trans ((up_o (by decide)).trans ((up_o (by decide)).trans ((up_o (by decide)).trans ((up_o (by decide)).trans rfl))))))))))))) ?_
                            refine g_iadd dX12_ahead_318 ?_
                            refine g_bipush dX12_ahead_319 (by decide) ?_
                            refine g_isub dX12_ahead_321 ?_
                            have hv9 : (((10 * (H204_56174 0 6)) + (P 1 x204_1_56174)) - 48) = (H204_56174 0 6) * 10 + ((P 1 x204_1_56174) - 48) := by (clear i176_0_55539 k56174 hfl; omega)
                            refine m_p6 rfl dX12_ahead_322 ?_
                            have hB56933 := bs_6 (z := (((10 * (H204_56174 0 6)) + (P 1 x204_1_56174)) - 48)) hB293_56925 ⟨by have q0 := b0_6 hB204_56174; have q1 := bl_1 (k := x204_1_56174) hB; (clear i176_0_55539 k56174 hfl; omega), by have q0 := b0_6 hB204_56174; have q1 := bl_1 (k := x204_1_56174) hB; (clear i176_0_55539 k56174 hfl; omega)⟩
                            refine g_forget (l1 := [(0, vR 0), (1, vI x204_1_56174), (2, vI rc51283), (3, vI rc51284), (4, vI 6), (5, vI x204_5_56174)]) (by intro q hq; simp only [List.mem_cons, List.not_mem_nil, or_false] at hq ⊢; rcases hq with rfl | rfl | rfl | rfl | rfl | rfl <;> simp) ?_
                            exact J325_56929 _ hB56933 (FrM.s FrM.rf rfl) (by first | (rw [show (up H293_56925 0 6 (((10 * (H204_56174 0 6)) + (P 1 x204_1_56174)) - 48)) 0 7 = _ from ((up_k (by decide)).trans rfl), show (up H293_56925 0 6 (((10 * (H204_56174 0 6)) + (P 1 x204_1_56174)) - 48)) 0 6 = _ from up_same]; first | exact hw2.1 rfl | exact (hw2.2 rfl).v (by (clear i176_0_55539 k56174 hfl; omega)) (by (clear i176_0_55539 k56174 hfl; omega)) hcT.2 hv9 | exact WV.big (by decide) (by (clear i176_0_55539 k56174 hfl; omega))))
                      refine g_icmp_ge (tgt := 293) dX12_ahead_267 (by decide) ⟨by (clear i176_0_55539 k56174 hfl; omega), by (clear i176_0_55539 k56174 hfl; omega)⟩ (by decide) (fun k56934 => ?_) (fun k56934 => ?_)
                      · skip
                        skip
                        refine g_forget (l1 := [(0, vR 0), (1, vI x204_1_56174), (2, vI rc51283), (3, vI rc51284), (4, vI 6), (5, vI x204_5_56174)]) (by intro q hq; simp only [List.mem_cons, List.not_mem_nil, or_false] at hq ⊢; rcases hq with rfl | rfl | rfl | rfl | rfl | rfl <;> simp) ?_
                        exact J293_56925 _ hB263_56912 FrM.rf (by first | (rw [show H263_56912 0 7 = _ from ((hE263_56912.1 7 rfl).trans rfl), show H263_56912 0 6 = _ from ((hE263_56912.1 6 rfl).trans rfl)]; first | exact W2.six (hwv.w hrn (by (first | (clear i176_0_55539 k56174 hfl; omega) | (clear i176_0_55539 k56174; omega) | (clear i176_0_55539 hfl; omega) | (clear k56174 hfl; omega) | (clear i176_0_55539; omega) | omega)) (by (first | (clear i176_0_55539 k56174 hfl; omega) | (clear i176_0_55539 k56174; omega) | (clear i176_0_55539 hfl; omega) | (clear k56174 hfl; omega) | (clear i176_0_55539; omega) | omega)) hcT.2 (hcc1.1 rfl) hw9) | exact W2.four hwv) | (rw [show H263_56912 0 7 = _ from ((hE263_56912.1 7 rfl).trans rfl), show H263_56912 0 6 = _ from ((hE263_56912.1 6 rfl).trans rfl)]; exact W2.six (WV.big (by decide) (by (clear i176_0_55539 k56174 hfl; omega)))))
                      · skip
                        skip
                        refine g_iload_n dX12_ahead_270 rfl ?_
                        refine g_if_eq (tgt := 293) dX12_ahead_271 (by decide) ⟨by (clear i176_0_55539 k56174 hfl; omega), by (clear i176_0_55539 k56174 hfl; omega)⟩ (fun k56935 => by exfalso; (clear i176_0_55539 k56174 hfl; omega)) (fun k56935 => ?_)
                        skip
                        skip
                        refine g_aload_n dX12_ahead_274 rfl ?_
                        refine g_aload_n dX12_ahead_275 rfl ?_
                        refine m_g7 (z := (H204_56174 0 7)) rfl dX12_ahead_276 ((hE263_56912.1 7 rfl).trans rfl) ?_
                        refine g_bipush dX12_ahead_279 (by decide) ?_
                        refine g_lshl dX12_ahead_281 ?_
                        refine g_nm (fun b56936 e_b56936 => ?_)
                        have h_b56936 := llshl_ir (H204_56174 0 7) 8
                        rw [← e_b56936] at h_b56936
                        refine g_aload_n dX12_ahead_282 rfl ?_
                        refine m_g0 rfl dX12_ahead_283 ?_
                        refine g_iload_n dX12_ahead_286 rfl ?_
                        refine m_l1 (z := (P 1 x204_1_56174)) dX12_ahead_287 ⟨by (clear i176_0_55539 k56174 hfl k56935; omega), by (clear i176_0_55539 k56174 hfl k56935; omega)⟩ ((congrFun (hE263_56912.2 1 rfl rfl) _).trans ((congrFun (hE204_56174.2 1 rfl rfl) _).trans ((up_o (by decide)).trans ((up_o (by decide)).trans ((up_o (by decide)).trans ((up_o (by decide)).trans ((up_o (by decide)).trans ((congrFun (hE135_54124.2 1 rfl rfl) _).trans ((up_o (by decide)).trans ((up_o (by decide)).trans ((up_o (by decide)).trans ((up_o (by decide)).trans rfl)))))))))))) ?_
                        refine g_i2l dX12_ahead_288 ⟨by have q0 := bl_1 (k := x204_1_56174) hB; (clear i176_0_55539 k56174 hfl k56935; omega), by have q0 := bl_1 (k := x204_1_56174) hB; (clear i176_0_55539 k56174 hfl k56935; omega)⟩ ?_
                        refine g_lor dX12_ahead_289 ?_
                        refine g_nm (fun b56937 e_b56937 => ?_)
                        have h_b56937 := llor_ir b56936 (P 1 x204_1_56174)
                        rw [← e_b56937] at h_b56937
                        have hw9 : b56937 = llor (llshl (H204_56174 0 7) 8) (P 1 x204_1_56174) := by rw [e_b56937, e_b56936]
                        refine m_p7 rfl dX12_ahead_290 ?_
                        have hB56938 := bs_7 (z := b56937) hB263_56912 ⟨by (clear i176_0_55539 k56174 hfl k56935; omega), by (clear i176_0_55539 k56174 hfl k56935; omega)⟩
                        refine g_forget (l1 := [(0, vR 0), (1, vI x204_1_56174), (2, vI rc51283), (3, vI rc51284), (4, vI 6), (5, vI x204_5_56174)]) (by intro q hq; simp only [List.mem_cons, List.not_mem_nil, or_false] at hq ⊢; rcases hq with rfl | rfl | rfl | rfl | rfl | rfl <;> simp) ?_
                        exact J293_56925 _ hB56938 (FrM.s FrM.rf rfl) (by first | (rw [show (up H263_56912 0 7 b56937) 0 7 = _ from up_same, show (up H263_56912 0 7 b56937) 0 6 = _ from ((up_k (by decide)).trans ((hE263_56912.1 6 rfl).trans rfl))]; first | exact W2.six (hwv.w hrn (by (clear i176_0_55539 k56174 hfl k56935; omega)) (by (clear i176_0_55539 k56174 hfl k56935; omega)) hcT.2 (hcc1.1 rfl) hw9) | exact W2.four hwv) | (rw [show (up H263_56912 0 7 b56937) 0 7 = _ from up_same, show (up H263_56912 0 7 b56937) 0 6 = _ from ((up_k (by decide)).trans ((hE263_56912.1 6 rfl).trans rfl))]; exact W2.six (WV.big (by decide) (by (first | (clear i176_0_55539 k56174 hfl k56935; omega) | (clear i176_0_55539 k56174 hfl; omega) | (clear i176_0_55539 k56174 k56935; omega) | (clear i176_0_55539 hfl k56935; omega) | (clear k56174 hfl k56935; omega) | (clear i176_0_55539 k56174; omega) | omega)))))
                    refine g_icmp_ne (tgt := 263) dX12_ahead_247 (by decide) ⟨by (clear i176_0_55539 k56174 hfl; omega), by (clear i176_0_55539 k56174 hfl; omega)⟩ (by decide) (fun k56939 => ?_) (fun k56939 => ?_)
                    · skip
                      skip
                      refine g_forget (l1 := [(0, vR 0), (1, vI x204_1_56174), (2, vI rc51283), (3, vI rc51284), (4, vI 6), (5, vI x204_5_56174)]) (by intro q hq; simp only [List.mem_cons, List.not_mem_nil, or_false] at hq ⊢; rcases hq with rfl | rfl | rfl | rfl | rfl | rfl <;> simp) ?_
                      exact J263_56912 _ hB204_56174 FrM.rf (by first | exact (rfl).trans ((show _ = tA T p + 6 by (first | (clear i176_0_55539 k56174 hfl k56939; omega) | (clear i176_0_55539 k56174 hfl; omega) | (clear i176_0_55539 k56174 k56939; omega) | (clear i176_0_55539 hfl k56939; omega) | (clear k56174 hfl k56939; omega) | (clear i176_0_55539 k56174; omega) | omega)).trans (lx_hit (by (first | (clear i176_0_55539 k56174 hfl k56939; omega) | (clear i176_0_55539 k56174 hfl; omega) | (clear i176_0_55539 k56174 k56939; omega) | (clear i176_0_55539 hfl k56939; omega) | (clear k56174 hfl k56939; omega) | (clear i176_0_55539 k56174; omega) | omega)) (by (first | (clear i176_0_55539 k56174 hfl k56939; omega) | (clear i176_0_55539 k56174 hfl; omega) | (clear i176_0_55539 k56174 k56939; omega) | (clear i176_0_55539 hfl k56939; omega) | (clear k56174 hfl k56939; omega) | (clear i176_0_55539 k56174; omega) | omega)) (by (first | (clear i176_0_55539 k56174 hfl k56939; omega) | (clear i176_0_55539 k56174 hfl; omega) | (clear i176_0_55539 k56174 k56939; omega) | (clear i176_0_55539 hfl k56939; omega) | (clear k56174 hfl k56939; omega) | (clear i176_0_55539 k56174; omega) | omega))).symm) | exact (rfl).trans (hlx.trans (lx_no (by (clear i176_0_55539 k56174 hfl; omega))).symm))
                    · skip
                      skip
                      refine g_aload_n dX12_ahead_250 rfl ?_
                      refine m_g12 (z := (H204_56174 0 12)) rfl dX12_ahead_251 rfl ?_
                      refine g_iconst dX12_ahead_254 ?_
                      have f56940 := b0_12 hB204_56174
                      refine g_icmp_ne (tgt := 263) dX12_ahead_255 (by decide) ⟨by have q0 := b0_12 hB204_56174; (clear i176_0_55539 k56174 hfl k56939; omega), by have q0 := b0_12 hB204_56174; (clear i176_0_55539 k56174 hfl k56939; omega)⟩ (by decide) (fun k56941 => ?_) (fun k56941 => ?_)
                      · have k56941n : 0 ≤ (H204_56174 0 12) := by have q0 := b0_12 hB204_56174; (clear i176_0_55539 k56174 hfl k56939; omega)
                        clear k56941
                        skip
                        skip
                        refine g_forget (l1 := [(0, vR 0), (1, vI x204_1_56174), (2, vI rc51283), (3, vI rc51284), (4, vI 6), (5, vI x204_5_56174)]) (by intro q hq; simp only [List.mem_cons, List.not_mem_nil, or_false] at hq ⊢; rcases hq with rfl | rfl | rfl | rfl | rfl | rfl <;> simp) ?_
                        exact J263_56912 _ hB204_56174 FrM.rf (by first | exact (rfl).trans ((show _ = tA T p + 6 by (first | (clear i176_0_55539 k56174 hfl k56939; omega) | (clear i176_0_55539 k56174 hfl; omega) | (clear i176_0_55539 k56174 k56939; omega) | (clear i176_0_55539 hfl k56939; omega) | (clear k56174 hfl k56939; omega) | (clear i176_0_55539 k56174; omega) | omega)).trans (lx_hit (by (first | (clear i176_0_55539 k56174 hfl k56939; omega) | (clear i176_0_55539 k56174 hfl; omega) | (clear i176_0_55539 k56174 k56939; omega) | (clear i176_0_55539 hfl k56939; omega) | (clear k56174 hfl k56939; omega) | (clear i176_0_55539 k56174; omega) | omega)) (by (first | (clear i176_0_55539 k56174 hfl k56939; omega) | (clear i176_0_55539 k56174 hfl; omega) | (clear i176_0_55539 k56174 k56939; omega) | (clear i176_0_55539 hfl k56939; omega) | (clear k56174 hfl k56939; omega) | (clear i176_0_55539 k56174; omega) | omega)) (by (first | (clear i176_0_55539 k56174 hfl k56939; omega) | (clear i176_0_55539 k56174 hfl; omega) | (clear i176_0_55539 k56174 k56939; omega) | (clear i176_0_55539 hfl k56939; omega) | (clear k56174 hfl k56939; omega) | (clear i176_0_55539 k56174; omega) | omega))).symm) | exact (rfl).trans (hlx.trans (lx_no (by (clear i176_0_55539 k56174 hfl k56939; omega))).symm))
                      · skip
                        skip
                        refine g_aload_n dX12_ahead_258 rfl ?_
                        refine g_iload_n dX12_ahead_259 rfl ?_
                        refine m_p12 rfl dX12_ahead_260 ?_
                        have hB56942 := bs_12 (z := x204_1_56174) hB204_56174 ⟨by (clear i176_0_55539 k56174 hfl k56939; omega), by (clear i176_0_55539 k56174 hfl k56939; omega)⟩
                        refine g_forget (l1 := [(0, vR 0), (1, vI x204_1_56174), (2, vI rc51283), (3, vI rc51284), (4, vI 6), (5, vI x204_5_56174)]) (by intro q hq; simp only [List.mem_cons, List.not_mem_nil, or_false] at hq ⊢; rcases hq with rfl | rfl | rfl | rfl | rfl | rfl <;> simp) ?_
                        exact J263_56912 _ hB56942 (FrM.s FrM.rf rfl) (by first | exact (up_same).trans ((show _ = tA T p + 6 by (clear i176_0_55539 k56174 hfl; omega)).trans (lx_hit (by (clear i176_0_55539 k56174 hfl k56939; omega)) (by (clear i176_0_55539 k56174 hfl; omega)) (by (clear i176_0_55539 k56174 hfl k56939; omega))).symm) | exact (up_same).trans (hlx.trans (lx_no (by (first | (clear i176_0_55539 k56174 hfl k56939; omega) | (clear i176_0_55539 k56174 hfl; omega) | (clear i176_0_55539 k56174 k56939; omega) | (clear i176_0_55539 hfl k56939; omega) | (clear k56174 hfl k56939; omega) | (clear i176_0_55539 k56174; omega) | omega))).symm))
                  refine g_if_eq (tgt := 231) dX12_ahead_213 (by decide) ⟨by (clear i176_0_55539 k56174 hfl; omega), by (clear i176_0_55539 k56174 hfl; omega)⟩ (fun k56943 => by exfalso; (clear i176_0_55539 k56174 hfl; omega)) (fun k56943 => ?_)
                  skip
                  skip
                  refine g_aload_n dX12_ahead_216 rfl ?_
                  refine m_g0 rfl dX12_ahead_217 ?_
                  refine g_iload_n dX12_ahead_220 rfl ?_
                  refine m_l1 (z := (P 1 x204_1_56174)) dX12_ahead_221 ⟨by (clear i176_0_55539 k56174 hfl k56943; omega), by (clear i176_0_55539 k56174 hfl k56943; omega)⟩ ((congrFun (hE204_56174.2 1 rfl rfl) _).trans ((up_o (by decide)).trans ((up_o (by decide)).trans ((up_o (by decide)).trans ((up_o (by decide)).trans ((up_o (by decide)).trans ((congrFun (hE135_54124.2 1 rfl rfl) _).trans ((up_o (by decide)).trans ((up_o (by decide)).trans ((up_o (by decide)).trans ((up_o (by decide)).trans rfl))))))))))) ?_
                  have f56944 := bl_1 (k := x204_1_56174) hB
                  refine g_sI (av := [vI (P 1 x204_1_56174)]) (st := []) (m_X12_isLetter G H204_56174 (P 1 x204_1_56174) ⟨by have q0 := bl_1 (k := x204_1_56174) hB; (clear i176_0_55539 k56174 hfl k56943; omega), by have q0 := bl_1 (k := x204_1_56174) hB; (clear i176_0_55539 k56174 hfl k56943; omega)⟩ hB204_56174  _ (fun rc56945 hc56945 gc56945_i => ⟨rc56945, rfl, ?_⟩)) cf_X12_isLetter t_1687 rfl (Nat.le_of_ble_eq_true rfl) (by decide) rfl dX12_ahead_222
                  refine g_if_eq (tgt := 334) dX12_ahead_225 (by decide) ⟨by (clear i176_0_55539 k56174 hfl k56943 gc56945_i; omega), by (clear i176_0_55539 k56174 hfl k56943 gc56945_i; omega)⟩ (fun k56946 => ?_) (fun k56946 => ?_)
                  · skip
                    skip
                    have hrs := hrn.stop (by (clear i176_0_55539 k56174 hfl k56943; omega))
                    have hps := RX_pos (by decide) (by (clear i176_0_55539 k56174 hfl k56943 gc56945_i; omega)) hcA
                    have hne : tA T p + 1 ≤ x204_1_56174 := by (clear i176_0_55539 k56174 hfl k56943 gc56945_i; omega)
                    refine g_aload_n dX12_ahead_334 rfl ?_
                    refine g_iload_n dX12_ahead_335 rfl ?_
                    refine m_p5 rfl dX12_ahead_336 ?_
                    have hB56947 := bs_5 (z := x204_1_56174) hB204_56174 ⟨by (clear i176_0_55539 k56174 hfl k56943 gc56945_i; omega), by (clear i176_0_55539 k56174 hfl k56943 gc56945_i; omega)⟩
                    exact g_retV dX12_ahead_339 rfl (hQ _ hB56947 (FrM.s (FrM.c (FrM.s (FrM.s (FrM.s (FrM.s (FrM.s (FrM.c (FrM.s (FrM.s (FrM.s (FrM.s FrM.rf rfl) rfl) rfl) rfl) hE135_54124 rfl) rfl) rfl) rfl) rfl) rfl) hE204_56174 rfl) rfl) (by have q0 := (((up_k (by decide)).trans ((hE204_56174.1 3 rfl).trans up_same)) : (up H204_56174 0 5 x204_1_56174) 0 3 = 1); have q1 := (((up_k (by decide)).trans ((hE204_56174.1 4 rfl).trans ((up_k (by decide)).trans ((up_k (by decide)).trans ((up_k (by decide)).trans ((up_k (by decide)).trans ((up_k (by decide)).trans ((hE135_54124.1 4 rfl).trans ((up_k (by decide)).trans ((up_k (by decide)).trans ((up_k (by decide)).trans up_same))))))))))) : (up H204_56174 0 5 x204_1_56174) 0 4 = x5_1_0); have q2 := (up_same : (up H204_56174 0 5 x204_1_56174) 0 5 = x204_1_56174); (clear i176_0_55539 k56174 hfl k56943 gc56945_i; omega)) (by have q0 := (up_same : (up H204_56174 0 5 x204_1_56174) 0 5 = x204_1_56174); have q1 := (((up_k (by decide)).trans ((hE204_56174.1 4 rfl).trans ((up_k (by decide)).trans ((up_k (by decide)).trans ((up_k (by decide)).trans ((up_k (by decide)).trans ((up_k (by decide)).trans ((hE135_54124.1 4 rfl).trans ((up_k (by decide)).trans ((up_k (by decide)).trans ((up_k (by decide)).trans up_same))))))))))) : (up H204_56174 0 5 x204_1_56174) 0 4 = x5_1_0); (clear i176_0_55539 k56174 hfl k56943 gc56945_i; omega)) (by have q4 := (((up_k (by decide)).trans ((hE204_56174.1 4 rfl).trans ((up_k (by decide)).trans ((up_k (by decide)).trans ((up_k (by decide)).trans ((up_k (by decide)).trans ((up_k (by decide)).trans ((hE135_54124.1 4 rfl).trans ((up_k (by decide)).trans ((up_k (by decide)).trans ((up_k (by decide)).trans up_same))))))))))) : (up H204_56174 0 5 x204_1_56174) 0 4 = x5_1_0); have q5 := (up_same : (up H204_56174 0 5 x204_1_56174) 0 5 = x204_1_56174); have q3 := (((up_k (by decide)).trans ((hE204_56174.1 3 rfl).trans up_same)) : (up H204_56174 0 5 x204_1_56174) 0 3 = 1); first | exact MS.wor2 (n := x204_5_56174) ⟨by (clear i176_0_55539 k56174 hfl k56943 gc56945_i; omega), by (clear i176_0_55539 k56174 hfl k56943 gc56945_i; omega)⟩ (by (clear i176_0_55539 k56174 hfl k56943 gc56945_i; omega)) (by (clear i176_0_55539 k56174 hfl k56943 gc56945_i; omega)) (hcA.1 rfl) (by (clear i176_0_55539 k56174 hfl k56943 gc56945_i; omega)) (by (clear i176_0_55539 k56174 hfl k56943 gc56945_i; omega)) hrs (by (clear i176_0_55539 k56174 hfl k56943 gc56945_i; omega)) ((((up_k (by decide)).trans rfl)).trans hlx) (by rw [show (up H204_56174 0 5 x204_1_56174) 0 7 = _ from ((up_k (by decide)).trans rfl), show (up H204_56174 0 5 x204_1_56174) 0 6 = _ from ((up_k (by decide)).trans rfl)]; exact hwv) | exact MS.nu2 (n := x204_5_56174) ⟨by (first | (clear i176_0_55539 k56174 hfl k56943 gc56945_i; omega) | (clear i176_0_55539 k56174 hfl k56943; omega) | (clear i176_0_55539 k56174 hfl gc56945_i; omega) | (clear i176_0_55539 k56174 k56943 gc56945_i; omega) | (clear i176_0_55539 hfl k56943 gc56945_i; omega) | (clear k56174 hfl k56943 gc56945_i; omega) | (clear i176_0_55539 k56174 hfl; omega) | (clear i176_0_55539; omega) | omega), by (first | (clear i176_0_55539 k56174 hfl k56943 gc56945_i; omega) | (clear i176_0_55539 k56174 hfl k56943; omega) | (clear i176_0_55539 k56174 hfl gc56945_i; omega) | (clear i176_0_55539 k56174 k56943 gc56945_i; omega) | (clear i176_0_55539 hfl k56943 gc56945_i; omega) | (clear k56174 hfl k56943 gc56945_i; omega) | (clear i176_0_55539 k56174 hfl; omega) | (clear i176_0_55539; omega) | omega)⟩ (by (first | (clear i176_0_55539 k56174 hfl k56943 gc56945_i; omega) | (clear i176_0_55539 k56174 hfl k56943; omega) | (clear i176_0_55539 k56174 hfl gc56945_i; omega) | (clear i176_0_55539 k56174 k56943 gc56945_i; omega) | (clear i176_0_55539 hfl k56943 gc56945_i; omega) | (clear k56174 hfl k56943 gc56945_i; omega) | (clear i176_0_55539 k56174 hfl; omega) | (clear i176_0_55539; omega) | omega)) (by (first | (clear i176_0_55539 k56174 hfl k56943 gc56945_i; omega) | (clear i176_0_55539 k56174 hfl k56943; omega) | (clear i176_0_55539 k56174 hfl gc56945_i; omega) | (clear i176_0_55539 k56174 k56943 gc56945_i; omega) | (clear i176_0_55539 hfl k56943 gc56945_i; omega) | (clear k56174 hfl k56943 gc56945_i; omega) | (clear i176_0_55539 k56174 hfl; omega) | (clear i176_0_55539; omega) | omega)) (hcA.2 rfl) (by (first | (clear i176_0_55539 k56174 hfl k56943 gc56945_i; omega) | (clear i176_0_55539 k56174 hfl k56943; omega) | (clear i176_0_55539 k56174 hfl gc56945_i; omega) | (clear i176_0_55539 k56174 k56943 gc56945_i; omega) | (clear i176_0_55539 hfl k56943 gc56945_i; omega) | (clear k56174 hfl k56943 gc56945_i; omega) | (clear i176_0_55539 k56174 hfl; omega) | (clear i176_0_55539; omega) | omega)) (by (first | (clear i176_0_55539 k56174 hfl k56943 gc56945_i; omega) | (clear i176_0_55539 k56174 hfl k56943; omega) | (clear i176_0_55539 k56174 hfl gc56945_i; omega) | (clear i176_0_55539 k56174 k56943 gc56945_i; omega) | (clear i176_0_55539 hfl k56943 gc56945_i; omega) | (clear k56174 hfl k56943 gc56945_i; omega) | (clear i176_0_55539 k56174 hfl; omega) | (clear i176_0_55539; omega) | omega)) hrs (by (first | (clear i176_0_55539 k56174 hfl k56943 gc56945_i; omega) | (clear i176_0_55539 k56174 hfl k56943; omega) | (clear i176_0_55539 k56174 hfl gc56945_i; omega) | (clear i176_0_55539 k56174 k56943 gc56945_i; omega) | (clear i176_0_55539 hfl k56943 gc56945_i; omega) | (clear k56174 hfl k56943 gc56945_i; omega) | (clear i176_0_55539 k56174 hfl; omega) | (clear i176_0_55539; omega) | omega)) ((((up_k (by decide)).trans rfl)).trans hlx) (by rw [show (up H204_56174 0 5 x204_1_56174) 0 7 = _ from ((up_k (by decide)).trans rfl), show (up H204_56174 0 5 x204_1_56174) 0 6 = _ from ((up_k (by decide)).trans rfl)]; exact hwv)))
                  · have k56946n : 1 ≤ rc56945 := by (clear i176_0_55539 k56174 hfl k56943 gc56945_i; omega)
                    clear k56946
                    skip
                    skip
                    refine g_goto (tgt := 243) dX12_ahead_228 (by decide) ?_
                    refine g_forget (l1 := [(0, vR 0), (1, vI x204_1_56174), (2, vI rc51283), (3, vI rc51284), (4, vI 6), (5, vI x204_5_56174)]) (by intro q hq; simp only [List.mem_cons, List.not_mem_nil, or_false] at hq ⊢; rcases hq with rfl | rfl | rfl | rfl | rfl | rfl <;> simp) ?_
                    exact J243_56882 (by (clear i176_0_55539 k56174 hfl k56943 gc56945_i; omega)) (⟨fun e => by (clear i176_0_55539 k56174 hfl k56943; omega), fun e => by (clear i176_0_55539 k56174 hfl k56943 gc56945_i; omega)⟩)
              refine g_forget (l1 := [(0, vR 0), (1, vI x5_1_0), (2, vI rc51283), (3, vI rc51284), (4, vI 6), (5, vI 0)]) (by intro q hq; simp only [List.mem_cons, List.not_mem_nil, or_false] at hq ⊢; rcases hq with rfl | rfl | rfl | rfl | rfl | rfl <;> simp) ?_
              exact L204_56174 _ 0 (by decide) x5_1_0 ⟨by have q0 := b0_2 hB; (clear i176_0_55539 k56174 hfl; omega), by have q0 := b0_2 hB; (clear i176_0_55539 k56174 hfl; omega)⟩ _ hB56173 FrM.rf (by (clear i176_0_55539 k56174 hfl; omega)) (by (clear i176_0_55539 k56174 hfl; omega)) (by (clear i176_0_55539 k56174 hfl; omega)) (by first | exact RN.start (by (clear i176_0_55539 k56174 hfl; omega)) | exact hrn.go (by decide) (by (first | (clear i176_0_55539 k56174 hfl; omega) | (clear i176_0_55539 k56174; omega) | (clear i176_0_55539 hfl; omega) | (clear k56174 hfl; omega) | (clear i176_0_55539; omega) | omega)) hcc1) (by first | exact hwv9 | (rw [show (up (up (up (up (up H135_54124 0 6 0) 0 7 0) 0 3 3) 0 5 (x5_1_0 + 1)) 0 3 1) 0 7 = 0 from ((up_k (by decide)).trans ((up_k (by decide)).trans ((up_k (by decide)).trans up_same))), show (up (up (up (up (up H135_54124 0 6 0) 0 7 0) 0 3 3) 0 5 (x5_1_0 + 1)) 0 3 1) 0 6 = 0 from ((up_k (by decide)).trans ((up_k (by decide)).trans ((up_k (by decide)).trans ((up_k (by decide)).trans up_same))))]; exact WV.start)) (by first | (have q12 := (((up_k (by decide)).trans ((up_k (by decide)).trans ((up_k (by decide)).trans ((up_k (by decide)).trans ((up_k (by decide)).trans rfl))))) : (up (up (up (up (up H135_54124 0 6 0) 0 7 0) 0 3 3) 0 5 (x5_1_0 + 1)) 0 3 1) 0 12 = (H135_54124 0 12)); (first | (clear i176_0_55539 k56174 hfl; omega) | (clear i176_0_55539 k56174; omega) | (clear i176_0_55539 hfl; omega) | (clear k56174 hfl; omega) | (clear i176_0_55539; omega) | omega)) | exact (((up_k (by decide)).trans ((up_k (by decide)).trans ((up_k (by decide)).trans ((up_k (by decide)).trans ((up_k (by decide)).trans rfl)))))).trans (hl0.2 (by (clear i176_0_55539 k56174 hfl; omega)) _ (by decide))) (Nat.lt_succ_self _)
          refine g_if_ne (tgt := 176) dX12_ahead_158 (by decide) ⟨by (clear hL hD; omega), by (clear hL hD; omega)⟩ (fun k56948 => ?_) (fun k56948 => ?_)
          · have k56948n : 1 ≤ rc51283 := by (clear hL hD; omega)
            clear k56948
            refine g_forget (l1 := [(0, vR 0), (1, vI x5_1_0), (2, vI rc51283), (3, vI rc51284)]) (by intro q hq; simp only [List.mem_cons, List.not_mem_nil, or_false] at hq ⊢; rcases hq with rfl | rfl | rfl | rfl <;> simp) ?_
            exact J176_55539 (by (clear hL hD; omega))
          · refine g_iload_n dX12_ahead_161 rfl ?_
            refine g_if_ne (tgt := 176) dX12_ahead_162 (by decide) ⟨by (clear hL hD; omega), by (clear hL hD; omega)⟩ (fun k56949 => ?_) (fun k56949 => ?_)
            · have k56949n : 1 ≤ rc51284 := by (clear hL hD; omega)
              clear k56949
              refine g_forget (l1 := [(0, vR 0), (1, vI x5_1_0), (2, vI rc51283), (3, vI rc51284)]) (by intro q hq; simp only [List.mem_cons, List.not_mem_nil, or_false] at hq ⊢; rcases hq with rfl | rfl | rfl | rfl <;> simp) ?_
              exact J176_55539 (by (clear hL hD; omega))
            · refine g_aload_n dX12_ahead_165 rfl ?_
              refine g_aload_n dX12_ahead_166 rfl ?_
              refine m_g0 rfl dX12_ahead_167 ?_
              refine g_iload_n dX12_ahead_170 rfl ?_
              refine m_l1 (z := (P 1 x5_1_0)) dX12_ahead_171 ⟨by (clear hL hD; omega), by (clear hL hD; omega)⟩ ((up_o (by decide)).trans ((up_o (by decide)).trans ((up_o (by decide)).trans ((up_o (by decide)).trans ((congrFun (hE135_54124.2 1 rfl rfl) _).trans ((up_o (by decide)).trans ((up_o (by decide)).trans ((up_o (by decide)).trans ((up_o (by decide)).trans rfl))))))))) ?_
              refine m_p6 rfl dX12_ahead_172 ?_
              have hB56950 := bs_6 (z := (P 1 x5_1_0)) hB54129 ⟨by have q0 := bl_1 (k := x5_1_0) hB; (clear hL hD; omega), by have q0 := bl_1 (k := x5_1_0) hB; (clear hL hD; omega)⟩
              exact g_retV dX12_ahead_175 rfl (hQ _ hB56950 (FrM.s (FrM.s (FrM.s (FrM.s (FrM.s (FrM.c (FrM.s (FrM.s (FrM.s (FrM.s FrM.rf rfl) rfl) rfl) rfl) hE135_54124 rfl) rfl) rfl) rfl) rfl) rfl) (by have q0 := (((up_k (by decide)).trans ((up_k (by decide)).trans up_same)) : (up (up (up (up (up H135_54124 0 6 0) 0 7 0) 0 3 3) 0 5 (x5_1_0 + 1)) 0 6 (P 1 x5_1_0)) 0 3 = 3); have q1 := (((up_k (by decide)).trans ((up_k (by decide)).trans ((up_k (by decide)).trans ((up_k (by decide)).trans ((up_k (by decide)).trans ((hE135_54124.1 4 rfl).trans ((up_k (by decide)).trans ((up_k (by decide)).trans ((up_k (by decide)).trans up_same))))))))) : (up (up (up (up (up H135_54124 0 6 0) 0 7 0) 0 3 3) 0 5 (x5_1_0 + 1)) 0 6 (P 1 x5_1_0)) 0 4 = x5_1_0); have q2 := (((up_k (by decide)).trans up_same) : (up (up (up (up (up H135_54124 0 6 0) 0 7 0) 0 3 3) 0 5 (x5_1_0 + 1)) 0 6 (P 1 x5_1_0)) 0 5 = (x5_1_0 + 1)); (clear hL hD; omega)) (by have q0 := (((up_k (by decide)).trans up_same) : (up (up (up (up (up H135_54124 0 6 0) 0 7 0) 0 3 3) 0 5 (x5_1_0 + 1)) 0 6 (P 1 x5_1_0)) 0 5 = (x5_1_0 + 1)); have q1 := (((up_k (by decide)).trans ((up_k (by decide)).trans ((up_k (by decide)).trans ((up_k (by decide)).trans ((up_k (by decide)).trans ((hE135_54124.1 4 rfl).trans ((up_k (by decide)).trans ((up_k (by decide)).trans ((up_k (by decide)).trans up_same))))))))) : (up (up (up (up (up H135_54124 0 6 0) 0 7 0) 0 3 3) 0 5 (x5_1_0 + 1)) 0 6 (P 1 x5_1_0)) 0 4 = x5_1_0); (clear hL hD; omega)) (MS.sig ⟨by (clear hL hD; omega), by (clear hL hD; omega)⟩ (by have q := (((up_k (by decide)).trans ((up_k (by decide)).trans ((up_k (by decide)).trans ((up_k (by decide)).trans ((up_k (by decide)).trans ((hE135_54124.1 4 rfl).trans ((up_k (by decide)).trans ((up_k (by decide)).trans ((up_k (by decide)).trans up_same))))))))) : (up (up (up (up (up H135_54124 0 6 0) 0 7 0) 0 3 3) 0 5 (x5_1_0 + 1)) 0 6 (P 1 x5_1_0)) 0 4 = x5_1_0); (clear hL hD; omega)) (by (clear hL hD; omega)) (by (clear hD; omega)) (by (clear hL; omega)) ((up_k (by decide)).trans ((up_k (by decide)).trans up_same)) ((((up_k (by decide)).trans ((up_k (by decide)).trans ((up_k (by decide)).trans ((up_k (by decide)).trans ((up_k (by decide)).trans rfl)))))).trans (hl0.1 ⟨by (clear hL hD; omega), by (clear hL hD; omega)⟩)) (by have q := (((up_k (by decide)).trans up_same) : (up (up (up (up (up H135_54124 0 6 0) 0 7 0) 0 3 3) 0 5 (x5_1_0 + 1)) 0 6 (P 1 x5_1_0)) 0 5 = (x5_1_0 + 1)); (clear hL hD; omega)) (by have q := (up_same : (up (up (up (up (up H135_54124 0 6 0) 0 7 0) 0 3 3) 0 5 (x5_1_0 + 1)) 0 6 (P 1 x5_1_0)) 0 6 = (P 1 x5_1_0)); (clear hL hD; omega))))
        have J98_56950 : ∀ (i98_0_56950 : rc51283 ≠ 0 ∨ rc51284 ≠ 0), Go WSM G 2 iX12_ahead 98 [(0, vR 0), (1, vI x5_1_0), (2, vI rc51283), (3, vI rc51284)] [] (up (up (up (up P 0 4 x5_1_0) 0 5 x5_1_0) 0 3 0) 0 12 (-1)) Q := by
          intro i98_0_56950
          have hTm := z0.2 (x5_1_0 - 1)
          refine g_iload_n dX12_ahead_98 rfl ?_
          refine g_if_le (tgt := 135) dX12_ahead_99 (by decide) ⟨by (clear hL hD i98_0_56950; omega), by (clear hL hD i98_0_56950; omega)⟩ (fun k56952 => ?_) (fun k56952 => ?_)
          · skip
            refine g_forget (l1 := [(0, vR 0), (1, vI x5_1_0), (2, vI rc51283), (3, vI rc51284)]) (by intro q hq; simp only [List.mem_cons, List.not_mem_nil, or_false] at hq ⊢; rcases hq with rfl | rfl | rfl | rfl <;> simp) ?_
            exact J135_54124 _ hB51280 FrM.rf (by first | exact L0.j (by (clear hL hD; omega)) (tJ_t (T := T) (p := p) (by (clear hL hD i98_0_56950; omega)) ⟨by (first | (clear hL hD i98_0_56950; omega) | (clear hL hD; omega) | (clear hL i98_0_56950; omega) | (clear hD i98_0_56950; omega) | (clear hL; omega) | omega), by rw [show tA T p - 1 = x5_1_0 - 1 by (first | (clear hL hD i98_0_56950; omega) | (clear hL hD; omega) | (clear hL i98_0_56950; omega) | (clear hD i98_0_56950; omega) | (clear hL; omega) | omega)]; (first | (clear hL hD i98_0_56950; omega) | (clear hL hD; omega) | (clear hL i98_0_56950; omega) | (clear hD i98_0_56950; omega) | (clear hL; omega) | omega)⟩) ((up_same).trans (by (first | (clear hL hD i98_0_56950; omega) | (clear hL hD; omega) | (clear hL i98_0_56950; omega) | (clear hD i98_0_56950; omega) | (clear hL; omega) | omega))) | exact L0.n (by (clear hL hD; omega)) (tJ_f (T := T) (p := p) (by first | (left; (clear hL hD i98_0_56950; omega)) | (right; rw [show tA T p - 1 = x5_1_0 - 1 by (first | (clear hL hD i98_0_56950; omega) | (clear hL hD; omega) | (clear hL i98_0_56950; omega) | (clear hD i98_0_56950; omega) | (clear hL; omega) | omega)]; (first | (clear hL hD i98_0_56950; omega) | (clear hL hD; omega) | (clear hL i98_0_56950; omega) | (clear hD i98_0_56950; omega) | (clear hL; omega) | omega)))) ((up_same).trans (by (clear hL hD i98_0_56950; omega))) | exact L0.sign ⟨by (first | (clear hL hD i98_0_56950; omega) | (clear hL hD; omega) | (clear hL i98_0_56950; omega) | (clear hD i98_0_56950; omega) | (clear hL; omega) | omega), by (first | (clear hL hD i98_0_56950; omega) | (clear hL hD; omega) | (clear hL i98_0_56950; omega) | (clear hD i98_0_56950; omega) | (clear hL; omega) | omega)⟩ ((up_same).trans (by (first | (clear hL hD i98_0_56950; omega) | (clear hL hD; omega) | (clear hL i98_0_56950; omega) | (clear hD i98_0_56950; omega) | (clear hL; omega) | omega))))
          · skip
            refine g_aload_n dX12_ahead_102 rfl ?_
            refine m_g0 rfl dX12_ahead_103 ?_
            refine g_iload_n dX12_ahead_106 rfl ?_
            refine g_iconst dX12_ahead_107 ?_
            refine g_isub dX12_ahead_108 ?_
            refine m_l1 (z := (P 1 (x5_1_0 - 1))) dX12_ahead_109 ⟨by (clear hL hD i98_0_56950; omega), by (clear hL hD i98_0_56950; omega)⟩ ((up_o (by decide)).trans ((up_o (by decide)).trans ((up_o (by decide)).trans ((up_o (by decide)).trans rfl)))) ?_
            have f56953 := bl_1 (k := (x5_1_0 - 1)) hB
            refine g_sI (av := [vI (P 1 (x5_1_0 - 1))]) (st := []) (m_X12_isLetter G (up (up (up (up P 0 4 x5_1_0) 0 5 x5_1_0) 0 3 0) 0 12 (-1)) (P 1 (x5_1_0 - 1)) ⟨by have q0 := bl_1 (k := (x5_1_0 - 1)) hB; (clear hL hD i98_0_56950; omega), by have q0 := bl_1 (k := (x5_1_0 - 1)) hB; (clear hL hD i98_0_56950; omega)⟩ hB51280  _ (fun rc56954 hc56954 gc56954_i => ⟨rc56954, rfl, ?_⟩)) cf_X12_isLetter t_1687 rfl (Nat.le_of_ble_eq_true rfl) (by decide) rfl dX12_ahead_110
            have J130_56958 : ∀ (i130_0_56958 : 0 < x5_1_0 ∧ ((97 ≤ T.1 (x5_1_0 - 1) ∧ T.1 (x5_1_0 - 1) ≤ 122) ∨ (48 ≤ T.1 (x5_1_0 - 1) ∧ T.1 (x5_1_0 - 1) ≤ 57))), Go WSM G 2 iX12_ahead 130 [(0, vR 0), (1, vI x5_1_0), (2, vI rc51283), (3, vI rc51284)] [] (up (up (up (up P 0 4 x5_1_0) 0 5 x5_1_0) 0 3 0) 0 12 (-1)) Q := by
              intro i130_0_56958
              refine g_aload_n dX12_ahead_130 rfl ?_
              refine g_iload_n dX12_ahead_131 rfl ?_
              refine m_p12 rfl dX12_ahead_132 ?_
              have hB56960 := bs_12 (z := x5_1_0) hB51280 ⟨by (clear hL hD i98_0_56950 gc56954_i i130_0_56958; omega), by (clear hL hD i98_0_56950 gc56954_i i130_0_56958; omega)⟩
              refine g_forget (l1 := [(0, vR 0), (1, vI x5_1_0), (2, vI rc51283), (3, vI rc51284)]) (by intro q hq; simp only [List.mem_cons, List.not_mem_nil, or_false] at hq ⊢; rcases hq with rfl | rfl | rfl | rfl <;> simp) ?_
              exact J135_54124 _ hB56960 (FrM.s FrM.rf rfl) (by first | exact L0.j (by (clear hL hD gc56954_i i130_0_56958; omega)) (tJ_t (T := T) (p := p) (by (clear hL hD i98_0_56950 gc56954_i i130_0_56958; omega)) ⟨by (clear hL hD i98_0_56950 gc56954_i i130_0_56958; omega), by rw [show tA T p - 1 = x5_1_0 - 1 by (clear hL hD i98_0_56950 gc56954_i i130_0_56958; omega)]; (clear hL hD i98_0_56950 gc56954_i; omega)⟩) ((up_same).trans (by (clear hL hD i98_0_56950 gc56954_i i130_0_56958; omega))) | exact L0.n (by (first | (clear hL hD i98_0_56950 gc56954_i i130_0_56958; omega) | (clear hL hD i98_0_56950 gc56954_i; omega) | (clear hL hD i98_0_56950 i130_0_56958; omega) | (clear hL hD gc56954_i i130_0_56958; omega) | (clear hL i98_0_56950 gc56954_i i130_0_56958; omega) | (clear hD i98_0_56950 gc56954_i i130_0_56958; omega) | (clear hL hD i98_0_56950; omega) | (clear hL; omega) | omega)) (tJ_f (T := T) (p := p) (by first | (left; (first | (clear hL hD i98_0_56950 gc56954_i i130_0_56958; omega) | (clear hL hD i98_0_56950 gc56954_i; omega) | (clear hL hD i98_0_56950 i130_0_56958; omega) | (clear hL hD gc56954_i i130_0_56958; omega) | (clear hL i98_0_56950 gc56954_i i130_0_56958; omega) | (clear hD i98_0_56950 gc56954_i i130_0_56958; omega) | (clear hL hD i98_0_56950; omega) | (clear hL; omega) | omega)) | (right; rw [show tA T p - 1 = x5_1_0 - 1 by (first | (clear hL hD i98_0_56950 gc56954_i i130_0_56958; omega) | (clear hL hD i98_0_56950 gc56954_i; omega) | (clear hL hD i98_0_56950 i130_0_56958; omega) | (clear hL hD gc56954_i i130_0_56958; omega) | (clear hL i98_0_56950 gc56954_i i130_0_56958; omega) | (clear hD i98_0_56950 gc56954_i i130_0_56958; omega) | (clear hL hD i98_0_56950; omega) | (clear hL; omega) | omega)]; (first | (clear hL hD i98_0_56950 gc56954_i i130_0_56958; omega) | (clear hL hD i98_0_56950 gc56954_i; omega) | (clear hL hD i98_0_56950 i130_0_56958; omega) | (clear hL hD gc56954_i i130_0_56958; omega) | (clear hL i98_0_56950 gc56954_i i130_0_56958; omega) | (clear hD i98_0_56950 gc56954_i i130_0_56958; omega) | (clear hL hD i98_0_56950; omega) | (clear hL; omega) | omega)))) ((up_same).trans (by (first | (clear hL hD i98_0_56950 gc56954_i i130_0_56958; omega) | (clear hL hD i98_0_56950 gc56954_i; omega) | (clear hL hD i98_0_56950 i130_0_56958; omega) | (clear hL hD gc56954_i i130_0_56958; omega) | (clear hL i98_0_56950 gc56954_i i130_0_56958; omega) | (clear hD i98_0_56950 gc56954_i i130_0_56958; omega) | (clear hL hD i98_0_56950; omega) | (clear hL; omega) | omega))) | exact L0.sign ⟨by (first | (clear hL hD i98_0_56950 gc56954_i i130_0_56958; omega) | (clear hL hD i98_0_56950 gc56954_i; omega) | (clear hL hD i98_0_56950 i130_0_56958; omega) | (clear hL hD gc56954_i i130_0_56958; omega) | (clear hL i98_0_56950 gc56954_i i130_0_56958; omega) | (clear hD i98_0_56950 gc56954_i i130_0_56958; omega) | (clear hL hD i98_0_56950; omega) | (clear hL; omega) | omega), by (first | (clear hL hD i98_0_56950 gc56954_i i130_0_56958; omega) | (clear hL hD i98_0_56950 gc56954_i; omega) | (clear hL hD i98_0_56950 i130_0_56958; omega) | (clear hL hD gc56954_i i130_0_56958; omega) | (clear hL i98_0_56950 gc56954_i i130_0_56958; omega) | (clear hD i98_0_56950 gc56954_i i130_0_56958; omega) | (clear hL hD i98_0_56950; omega) | (clear hL; omega) | omega)⟩ ((up_same).trans (by (first | (clear hL hD i98_0_56950 gc56954_i i130_0_56958; omega) | (clear hL hD i98_0_56950 gc56954_i; omega) | (clear hL hD i98_0_56950 i130_0_56958; omega) | (clear hL hD gc56954_i i130_0_56958; omega) | (clear hL i98_0_56950 gc56954_i i130_0_56958; omega) | (clear hD i98_0_56950 gc56954_i i130_0_56958; omega) | (clear hL hD i98_0_56950; omega) | (clear hL; omega) | omega))))
            refine g_if_ne (tgt := 130) dX12_ahead_113 (by decide) ⟨by (clear hL hD i98_0_56950 gc56954_i; omega), by (clear hL hD i98_0_56950 gc56954_i; omega)⟩ (fun k56961 => ?_) (fun k56961 => ?_)
            · have k56961n : 1 ≤ rc56954 := by (clear hL hD i98_0_56950 gc56954_i; omega)
              clear k56961
              skip
              refine g_forget (l1 := [(0, vR 0), (1, vI x5_1_0), (2, vI rc51283), (3, vI rc51284)]) (by intro q hq; simp only [List.mem_cons, List.not_mem_nil, or_false] at hq ⊢; rcases hq with rfl | rfl | rfl | rfl <;> simp) ?_
              exact J130_56958 (by (clear hL hD i98_0_56950; omega))
            · skip
              refine g_aload_n dX12_ahead_116 rfl ?_
              refine m_g0 rfl dX12_ahead_117 ?_
              refine g_iload_n dX12_ahead_120 rfl ?_
              refine g_iconst dX12_ahead_121 ?_
              refine g_isub dX12_ahead_122 ?_
              refine m_l1 (z := (P 1 (x5_1_0 - 1))) dX12_ahead_123 ⟨by (clear hL hD i98_0_56950 gc56954_i; omega), by (clear hL hD i98_0_56950 gc56954_i; omega)⟩ ((up_o (by decide)).trans ((up_o (by decide)).trans ((up_o (by decide)).trans ((up_o (by decide)).trans rfl)))) ?_
              refine g_sI (av := [vI (P 1 (x5_1_0 - 1))]) (st := []) (m_X12_isDigit G (up (up (up (up P 0 4 x5_1_0) 0 5 x5_1_0) 0 3 0) 0 12 (-1)) (P 1 (x5_1_0 - 1)) ⟨by have q0 := bl_1 (k := (x5_1_0 - 1)) hB; (clear hL hD i98_0_56950 gc56954_i; omega), by have q0 := bl_1 (k := (x5_1_0 - 1)) hB; (clear hL hD i98_0_56950 gc56954_i; omega)⟩ hB51280  _ (fun rc56962 hc56962 gc56962_i => ⟨rc56962, rfl, ?_⟩)) cf_X12_isDigit t_1690 rfl (Nat.le_of_ble_eq_true rfl) (by decide) rfl dX12_ahead_124
              refine g_if_eq (tgt := 135) dX12_ahead_127 (by decide) ⟨by (clear hL hD i98_0_56950 gc56954_i gc56962_i; omega), by (clear hL hD i98_0_56950 gc56954_i gc56962_i; omega)⟩ (fun k56963 => ?_) (fun k56963 => ?_)
              · skip
                refine g_forget (l1 := [(0, vR 0), (1, vI x5_1_0), (2, vI rc51283), (3, vI rc51284)]) (by intro q hq; simp only [List.mem_cons, List.not_mem_nil, or_false] at hq ⊢; rcases hq with rfl | rfl | rfl | rfl <;> simp) ?_
                exact J135_54124 _ hB51280 FrM.rf (by first | exact L0.j (by (clear hL hD gc56954_i gc56962_i; omega)) (tJ_t (T := T) (p := p) (by (clear hL hD i98_0_56950 gc56954_i gc56962_i; omega)) ⟨by (clear hL hD i98_0_56950 gc56954_i gc56962_i; omega), by rw [show tA T p - 1 = x5_1_0 - 1 by (clear hL hD i98_0_56950 gc56954_i gc56962_i; omega)]; (first | (clear hL hD i98_0_56950 gc56954_i gc56962_i; omega) | (clear hL hD i98_0_56950 gc56954_i; omega) | (clear hL hD i98_0_56950 gc56962_i; omega) | (clear hL hD gc56954_i gc56962_i; omega) | (clear hL i98_0_56950 gc56954_i gc56962_i; omega) | (clear hD i98_0_56950 gc56954_i gc56962_i; omega) | (clear hL hD i98_0_56950; omega) | (clear hL; omega) | omega)⟩) ((up_same).trans (by (first | (clear hL hD i98_0_56950 gc56954_i gc56962_i; omega) | (clear hL hD i98_0_56950 gc56954_i; omega) | (clear hL hD i98_0_56950 gc56962_i; omega) | (clear hL hD gc56954_i gc56962_i; omega) | (clear hL i98_0_56950 gc56954_i gc56962_i; omega) | (clear hD i98_0_56950 gc56954_i gc56962_i; omega) | (clear hL hD i98_0_56950; omega) | (clear hL; omega) | omega))) | exact L0.n (by (clear hL hD gc56954_i gc56962_i; omega)) (tJ_f (T := T) (p := p) (by first | (left; (first | (clear hL hD i98_0_56950 gc56954_i gc56962_i; omega) | (clear hL hD i98_0_56950 gc56954_i; omega) | (clear hL hD i98_0_56950 gc56962_i; omega) | (clear hL hD gc56954_i gc56962_i; omega) | (clear hL i98_0_56950 gc56954_i gc56962_i; omega) | (clear hD i98_0_56950 gc56954_i gc56962_i; omega) | (clear hL hD i98_0_56950; omega) | (clear hL; omega) | omega)) | (right; rw [show tA T p - 1 = x5_1_0 - 1 by (clear hL hD i98_0_56950 gc56954_i gc56962_i; omega)]; (clear hL hD i98_0_56950; omega)))) ((up_same).trans (by (clear hL hD i98_0_56950 gc56954_i gc56962_i; omega))) | exact L0.sign ⟨by (first | (clear hL hD i98_0_56950 gc56954_i gc56962_i; omega) | (clear hL hD i98_0_56950 gc56954_i; omega) | (clear hL hD i98_0_56950 gc56962_i; omega) | (clear hL hD gc56954_i gc56962_i; omega) | (clear hL i98_0_56950 gc56954_i gc56962_i; omega) | (clear hD i98_0_56950 gc56954_i gc56962_i; omega) | (clear hL hD i98_0_56950; omega) | (clear hL; omega) | omega), by (first | (clear hL hD i98_0_56950 gc56954_i gc56962_i; omega) | (clear hL hD i98_0_56950 gc56954_i; omega) | (clear hL hD i98_0_56950 gc56962_i; omega) | (clear hL hD gc56954_i gc56962_i; omega) | (clear hL i98_0_56950 gc56954_i gc56962_i; omega) | (clear hD i98_0_56950 gc56954_i gc56962_i; omega) | (clear hL hD i98_0_56950; omega) | (clear hL; omega) | omega)⟩ ((up_same).trans (by (first | (clear hL hD i98_0_56950 gc56954_i gc56962_i; omega) | (clear hL hD i98_0_56950 gc56954_i; omega) | (clear hL hD i98_0_56950 gc56962_i; omega) | (clear hL hD gc56954_i gc56962_i; omega) | (clear hL i98_0_56950 gc56954_i gc56962_i; omega) | (clear hD i98_0_56950 gc56954_i gc56962_i; omega) | (clear hL hD i98_0_56950; omega) | (clear hL; omega) | omega))))
              · have k56963n : 1 ≤ rc56962 := by (clear hL hD i98_0_56950 gc56954_i gc56962_i; omega)
                clear k56963
                skip
                refine g_forget (l1 := [(0, vR 0), (1, vI x5_1_0), (2, vI rc51283), (3, vI rc51284)]) (by intro q hq; simp only [List.mem_cons, List.not_mem_nil, or_false] at hq ⊢; rcases hq with rfl | rfl | rfl | rfl <;> simp) ?_
                exact J130_56958 (by (clear hL hD i98_0_56950 gc56954_i; omega))
        refine g_if_ne (tgt := 98) dX12_ahead_91 (by decide) ⟨by (clear hL hD; omega), by (clear hL hD; omega)⟩ (fun k56964 => ?_) (fun k56964 => ?_)
        · have k56964n : 1 ≤ rc51283 := by (clear hL hD; omega)
          clear k56964
          refine g_forget (l1 := [(0, vR 0), (1, vI x5_1_0), (2, vI rc51283), (3, vI rc51284)]) (by intro q hq; simp only [List.mem_cons, List.not_mem_nil, or_false] at hq ⊢; rcases hq with rfl | rfl | rfl | rfl <;> simp) ?_
          exact J98_56950 (by (clear hL hD; omega))
        · refine g_iload_n dX12_ahead_94 rfl ?_
          refine g_if_eq (tgt := 135) dX12_ahead_95 (by decide) ⟨by (clear hL hD; omega), by (clear hL hD; omega)⟩ (fun k56965 => ?_) (fun k56965 => ?_)
          · refine g_forget (l1 := [(0, vR 0), (1, vI x5_1_0), (2, vI rc51283), (3, vI rc51284)]) (by intro q hq; simp only [List.mem_cons, List.not_mem_nil, or_false] at hq ⊢; rcases hq with rfl | rfl | rfl | rfl <;> simp) ?_
            exact J135_54124 _ hB51280 FrM.rf (by first | exact L0.j (by (first | (clear hL hD; omega) | (clear hL; omega) | (clear hD; omega) | omega)) (tJ_t (T := T) (p := p) (by (first | (clear hL hD; omega) | (clear hL; omega) | (clear hD; omega) | omega)) ⟨by (first | (clear hL hD; omega) | (clear hL; omega) | (clear hD; omega) | omega), by rw [show tA T p - 1 = x5_1_0 - 1 by (first | (clear hL hD; omega) | (clear hL; omega) | (clear hD; omega) | omega)]; (first | (clear hL hD; omega) | (clear hL; omega) | (clear hD; omega) | omega)⟩) ((up_same).trans (by (first | (clear hL hD; omega) | (clear hL; omega) | (clear hD; omega) | omega))) | exact L0.n (by (first | (clear hL hD; omega) | (clear hL; omega) | (clear hD; omega) | omega)) (tJ_f (T := T) (p := p) (by first | (left; (first | (clear hL hD; omega) | (clear hL; omega) | (clear hD; omega) | omega)) | (right; rw [show tA T p - 1 = x5_1_0 - 1 by (first | (clear hL hD; omega) | (clear hL; omega) | (clear hD; omega) | omega)]; (first | (clear hL hD; omega) | (clear hL; omega) | (clear hD; omega) | omega)))) ((up_same).trans (by (first | (clear hL hD; omega) | (clear hL; omega) | (clear hD; omega) | omega))) | exact L0.sign ⟨by (clear hL hD; omega), by (clear hL hD; omega)⟩ ((up_same).trans (by (clear hL hD; omega))))
          · have k56965n : 1 ≤ rc51284 := by (clear hL hD; omega)
            clear k56965
            refine g_forget (l1 := [(0, vR 0), (1, vI x5_1_0), (2, vI rc51283), (3, vI rc51284)]) (by intro q hq; simp only [List.mem_cons, List.not_mem_nil, or_false] at hq ⊢; rcases hq with rfl | rfl | rfl | rfl <;> simp) ?_
            exact J98_56950 (by (clear hL hD; omega))
      · exact g_retV dX12_ahead_69 rfl (hQ _ hB51280 (FrM.s (FrM.s (FrM.s (FrM.s FrM.rf rfl) rfl) rfl) rfl) (by have q0 := (((up_k (by decide)).trans up_same) : (up (up (up (up P 0 4 x5_1_0) 0 5 x5_1_0) 0 3 0) 0 12 (-1)) 0 3 = 0); have q1 := (((up_k (by decide)).trans ((up_k (by decide)).trans ((up_k (by decide)).trans up_same))) : (up (up (up (up P 0 4 x5_1_0) 0 5 x5_1_0) 0 3 0) 0 12 (-1)) 0 4 = x5_1_0); have q2 := (((up_k (by decide)).trans ((up_k (by decide)).trans up_same)) : (up (up (up (up P 0 4 x5_1_0) 0 5 x5_1_0) 0 3 0) 0 12 (-1)) 0 5 = x5_1_0); omega) (by have q0 := (((up_k (by decide)).trans ((up_k (by decide)).trans up_same)) : (up (up (up (up P 0 4 x5_1_0) 0 5 x5_1_0) 0 3 0) 0 12 (-1)) 0 5 = x5_1_0); have q1 := (((up_k (by decide)).trans ((up_k (by decide)).trans ((up_k (by decide)).trans up_same))) : (up (up (up (up P 0 4 x5_1_0) 0 5 x5_1_0) 0 3 0) 0 12 (-1)) 0 4 = x5_1_0); omega) (MS.end ⟨by omega, by omega⟩ (by have q := (((up_k (by decide)).trans ((up_k (by decide)).trans ((up_k (by decide)).trans up_same))) : (up (up (up (up P 0 4 x5_1_0) 0 5 x5_1_0) 0 3 0) 0 12 (-1)) 0 4 = x5_1_0); omega) (by omega) ((up_k (by decide)).trans up_same) up_same (by have q := (((up_k (by decide)).trans ((up_k (by decide)).trans up_same)) : (up (up (up (up P 0 4 x5_1_0) 0 5 x5_1_0) 0 3 0) 0 12 (-1)) 0 5 = x5_1_0); omega)))
    refine g_icmp_ge (tgt := 41) dX12_ahead_10 (by decide) ⟨by omega, by omega⟩ ⟨by have q0 := b0_2 hB; omega, by have q0 := b0_2 hB; omega⟩ (fun k56966 => ?_) (fun k56966 => ?_)
    · refine g_forget (l1 := [(0, vR 0), (1, vI x5_1_0)]) (by intro q hq; simp only [List.mem_cons, List.not_mem_nil, or_false] at hq ⊢; rcases hq with rfl | rfl <;> simp) ?_
      exact J41_51275 (by omega) (i5_1_0.trans (rE_st (fun h => by have q := bW_t.mp h.2; omega)))
    · refine g_aload_n dX12_ahead_13 rfl ?_
      refine m_g0 rfl dX12_ahead_14 ?_
      refine g_iload_n dX12_ahead_17 rfl ?_
      refine m_l1 (z := (P 1 x5_1_0)) dX12_ahead_18 ⟨by omega, by omega⟩ rfl ?_
      refine g_bipush dX12_ahead_19 (by decide) ?_
      have f56967 := bl_1 (k := x5_1_0) hB
      have J35_56969 : ∀ (i35_0_56969 : x5_1_0 < T.2 ∧ (T.1 x5_1_0 = 32 ∨ T.1 x5_1_0 = 10)), Go WSM G 2 iX12_ahead 35 [(0, vR 0), (1, vI x5_1_0)] [] P Q := by
        intro i35_0_56969
        have hgo := rE_go (f := bW) (T := T) (p := x5_1_0) (by (clear i35_0_56969; omega)) (bW_t.mpr (by (omega)))
        refine g_iinc (l1 := [(1, vI (x5_1_0 + 1)), (0, vR 0)]) dX12_ahead_35 rfl (by decide) rfl ?_
        refine g_goto (tgt := 5) dX12_ahead_38 (by decide) ?_
        refine g_forget (l1 := [(0, vR 0), (1, vI (x5_1_0 + 1))]) (by intro q hq; simp only [List.mem_cons, List.not_mem_nil, or_false] at hq ⊢; rcases hq with rfl | rfl <;> simp) ?_
        exact ih5_0 (x5_1_0 + 1) ⟨by (clear i35_0_56969; omega), by (clear i35_0_56969; omega)⟩ (by (clear i35_0_56969; omega)) (by first | (clear i35_0_56969; omega) | rfl | (rw [p_pp.1])) (by (clear i35_0_56969; omega))
      refine g_icmp_eq (tgt := 35) dX12_ahead_21 (by decide) ⟨by have q0 := bl_1 (k := x5_1_0) hB; omega, by have q0 := bl_1 (k := x5_1_0) hB; omega⟩ (by decide) (fun k56971 => ?_) (fun k56971 => ?_)
      · refine g_forget (l1 := [(0, vR 0), (1, vI x5_1_0)]) (by intro q hq; simp only [List.mem_cons, List.not_mem_nil, or_false] at hq ⊢; rcases hq with rfl | rfl <;> simp) ?_
        exact J35_56969 (by (omega))
      · refine g_aload_n dX12_ahead_24 rfl ?_
        refine m_g0 rfl dX12_ahead_25 ?_
        refine g_iload_n dX12_ahead_28 rfl ?_
        refine m_l1 (z := (P 1 x5_1_0)) dX12_ahead_29 ⟨by (clear k56971; omega), by (clear k56971; omega)⟩ rfl ?_
        refine g_bipush dX12_ahead_30 (by decide) ?_
        refine g_icmp_ne (tgt := 41) dX12_ahead_32 (by decide) ⟨by have q0 := bl_1 (k := x5_1_0) hB; (clear k56971; omega), by have q0 := bl_1 (k := x5_1_0) hB; (clear k56971; omega)⟩ (by decide) (fun k56972 => ?_) (fun k56972 => ?_)
        · refine g_forget (l1 := [(0, vR 0), (1, vI x5_1_0)]) (by intro q hq; simp only [List.mem_cons, List.not_mem_nil, or_false] at hq ⊢; rcases hq with rfl | rfl <;> simp) ?_
          exact J41_51275 (by (clear k56971 k56972; omega)) (i5_1_0.trans (rE_st (fun h => by have q := bW_t.mp h.2; (omega))))
        · refine g_forget (l1 := [(0, vR 0), (1, vI x5_1_0)]) (by intro q hq; simp only [List.mem_cons, List.not_mem_nil, or_false] at hq ⊢; rcases hq with rfl | rfl <;> simp) ?_
          exact J35_56969 (by (clear k56971; omega))
  refine g_forget (l1 := [(0, vR 0), (1, vI (P 0 5))]) (by intro q hq; simp only [List.mem_cons, List.not_mem_nil, or_false] at hq ⊢; rcases hq with rfl | rfl <;> simp) ?_
  exact L5_0 _ (P 0 5) ⟨by have q0 := b0_5 hB; omega, by have q0 := b0_5 hB; omega⟩ (by have q0 := b0_5 hB; omega) (by first | omega | rfl | (rw [p_pp.1])) (Nat.lt_succ_self _)
/-! What the reference answers: X12_must. -/
set_option maxRecDepth 100000 in
set_option maxHeartbeats 4000000 in
theorem f_X12_must (G : GT) (P : PH) (T : TT) (p : Int) (a1 : Int) (h_a1 : (-2147483648) ≤ a1 ∧ a1 ≤ 2147483647) (hB : BdM P) (p_lx : (P 0 3 = 0 ∨ P 0 4 + 1 ≤ P 0 5) ∧ P 0 4 ≤ P 0 5) (v_FP : FP P) (z0 : MT T P) (z1 : MS T p P) (Q : Option PV → PH → Prop) (hQ : ∀ (P1 : PH) (_ : BdM P1) (_ : FrM ([3, 4, 5, 6, 7, 8, 9, 12], []) P P1) (_ : (P1 0 3 = 0 ∨ P1 0 4 + 1 ≤ P1 0 5) ∧ P1 0 4 ≤ P1 0 5) (_ : P 0 4 ≤ P1 0 4) (_ : P 0 8 ≤ 0 ∨ 0 < P1 0 8) (_ : 0 < P1 0 8 ∨ P 0 4 + 1 ≤ P1 0 4) (_ : (0 < P 0 8 ∧ P1 0 8 = P 0 8 ∧ P1 0 9 = P 0 9) ∨ (P 0 8 ≤ 0 ∧ P1 0 8 = (sgn T a1 p).1 ∧ ((sgn T a1 p).1 = 0 ∨ P1 0 9 = (sgn T a1 p).2))) (_ : FP P1) (_ : CP (P1 0 8) (MS T (sgn T a1 p).2) P1), Q none P1) : Ct WSM G 3 iX12_must [vR 0, vI a1] P Q := by
  refine Ct.of (by decide) (l0 := [(0, vR 0), (1, vI a1)]) rfl (Nat.le_of_ble_eq_true rfl) ?_
  have hsg := sgn_s T a1 p
  have hfh := fh_s T p
  have hat := z1.at.1
  have hb8 := b0_8 hB
  refine g_aload_n dX12_must_0 rfl ?_
  refine g_vV (av := []) (o := 0) (st := []) (f_X12_lex G P (T) (p)  hB v_FP ((fun h0 => by first | exact z1 | (exfalso; (first | (clear p_lx hsg hfh; omega) | (clear p_lx hsg; omega) | (clear p_lx hfh; omega) | (clear hsg hfh; omega) | (clear p_lx; omega) | omega)))) _ (fun Pc1 hBc1 hFc1 gc1_pe gc1_l vc1_FP => ⟨rfl, ?_⟩)) cf_X12_lex t_1697 rfl (by decide) rfl rfl rfl (Nat.le_of_ble_eq_true rfl) (by decide) rfl dX12_must_1
  refine g_aload_n dX12_must_4 rfl ?_
  refine g_iload_n dX12_must_5 rfl ?_
  refine g_vI (av := [vI a1]) (o := 0) (st := []) (f_X12_isSign G Pc1 (T) (p) a1 ⟨by (clear p_lx hsg hfh gc1_pe gc1_l; omega), by (clear p_lx hsg hfh gc1_pe gc1_l; omega)⟩ hBc1 ((MS.fr (F := ([8, 9], [])) z1 (FrM.c FrM.rf hFc1 rfl) rfl)) _ (fun rc2 hc2 gc2_s gc2_f => ⟨rc2, rfl, ?_⟩)) cf_X12_isSign t_1772 rfl (by decide) rfl rfl rfl (Nat.le_of_ble_eq_true rfl) (by decide) rfl dX12_must_6
  have z3 : Pc1 0 3 = (P 0 3) := ((hFc1.1 3 rfl).trans rfl)
  have z4 : Pc1 0 6 = (P 0 6) := ((hFc1.1 6 rfl).trans rfl)
  refine g_if_ne (tgt := 21) dX12_must_9 (by decide) ⟨by (clear p_lx hsg hfh gc1_pe gc1_l gc2_s gc2_f; omega), by (clear p_lx hsg hfh gc1_pe gc1_l gc2_s gc2_f; omega)⟩ (fun k5 => ?_) (fun k5 => ?_)
  · have k5n : 1 ≤ rc2 := by (clear p_lx hsg hfh gc1_pe gc1_l gc2_s gc2_f; omega)
    clear k5
    skip
    have r_gc2_s := (gc2_s.resolve_left (by (clear p_lx hsg hfh gc1_pe gc1_l gc2_s gc2_f; omega)))
    skip
    skip
    skip
    skip
    refine g_aload_n dX12_must_21 rfl ?_
    refine m_g8 (z := (Pc1 0 8)) rfl dX12_must_22 rfl ?_
    have f6 := b0_8 hBc1
    refine g_if_ne (tgt := 32) dX12_must_25 (by decide) ⟨by have q0 := b0_8 hBc1; (clear p_lx hsg hfh gc1_pe gc1_l gc2_s gc2_f; omega), by have q0 := b0_8 hBc1; (clear p_lx hsg hfh gc1_pe gc1_l gc2_s gc2_f; omega)⟩ (fun k7 => ?_) (fun k7 => ?_)
    · have k7n : 1 ≤ (Pc1 0 8) := by have q0 := b0_8 hBc1; (clear p_lx hsg hfh gc1_pe gc1_l gc2_s gc2_f; omega)
      clear k7
      skip
      skip
      skip
      skip
      skip
      skip
      exact g_retV dX12_must_32 rfl (hQ _ hBc1 (FrM.c FrM.rf hFc1 rfl) (by have q0 := (((hFc1.1 3 rfl).trans rfl) : Pc1 0 3 = (P 0 3)); have q1 := b0_3 hB; have q2 := (((hFc1.1 4 rfl).trans rfl) : Pc1 0 4 = (P 0 4)); have q3 := b0_4 hB; have q4 := (((hFc1.1 5 rfl).trans rfl) : Pc1 0 5 = (P 0 5)); have q5 := b0_5 hB; (clear hsg hfh gc1_pe gc1_l gc2_s gc2_f; omega)) (by have q0 := (((hFc1.1 4 rfl).trans rfl) : Pc1 0 4 = (P 0 4)); have q1 := b0_4 hB; (clear p_lx hsg hfh gc1_pe gc1_l gc2_s gc2_f; omega)) (by have q0 := b0_8 hBc1; (clear p_lx hsg hfh gc1_pe gc1_l gc2_s gc2_f; omega)) (by have q0 := b0_8 hBc1; have q1 := (((hFc1.1 4 rfl).trans rfl) : Pc1 0 4 = (P 0 4)); have q2 := b0_4 hB; (clear p_lx hsg hfh gc1_pe gc1_l gc2_s gc2_f; omega)) (by have q0 := b0_8 hBc1; have q1 := b0_9 hBc1; (omega)) vc1_FP ((fun h0 => by first | exact (by first | (rw [show (sgn T a1 p).2 = p by (clear p_lx hsg hfh gc1_pe gc1_l gc2_s gc2_f; omega)]; exact (MS.fr (F := ([8, 9], [])) z1 (FrM.c FrM.rf hFc1 rfl) rfl))) | (exfalso; (first | (clear p_lx hsg hfh gc1_pe gc1_l gc2_s gc2_f; omega) | (clear p_lx hsg hfh gc1_pe gc1_l gc2_s; omega) | (clear p_lx hsg hfh gc1_pe gc1_l gc2_f; omega) | (clear p_lx hsg hfh gc1_pe gc2_s gc2_f; omega) | (clear p_lx hsg hfh gc1_l gc2_s gc2_f; omega) | (clear p_lx hsg gc1_pe gc1_l gc2_s gc2_f; omega) | (clear p_lx hfh gc1_pe gc1_l gc2_s gc2_f; omega) | (clear hsg hfh gc1_pe gc1_l gc2_s gc2_f; omega) | (clear p_lx hsg hfh gc1_pe gc1_l; omega) | (clear hfh hsg p_lx; omega) | omega)))))
    · skip
      skip
      have r_gc1_l := ((gc1_l.resolve_left (by (clear p_lx hsg hfh gc1_pe gc1_l gc2_s gc2_f; omega))).resolve_left (by (clear p_lx hsg hfh gc1_pe gc1_l gc2_s gc2_f; omega)))
      have r_gc1_pe := (gc1_pe.resolve_right (by (clear p_lx hsg hfh gc1_pe gc1_l gc2_s gc2_f; omega)))
      have r_hfh := (hfh.resolve_left (by (clear p_lx hsg hfh gc1_pe gc1_l gc2_s gc2_f; omega)))
      skip
      refine g_aload_n dX12_must_28 rfl ?_
      refine g_vV (av := []) (o := 0) (st := []) (f_X12_ahead G Pc1 (T) (tE T p)  hBc1 (by have q := (((hFc1.1 5 rfl).trans rfl) : Pc1 0 5 = (P 0 5)); have q2 := z1.tok (by (clear p_lx hsg hfh gc1_pe gc1_l gc2_s gc2_f; omega)); have q3 := tE_b (T := T) (p := p) (by (clear p_lx hsg hfh gc1_pe gc1_l gc2_s gc2_f; omega)); have q4 := z1.at; (clear p_lx hsg hfh gc1_pe gc1_l gc2_s gc2_f; omega)) ((MT.fr (F := ([8, 9], [])) z0 (FrM.c FrM.rf hFc1 rfl) rfl)) _ (fun Pc8 hBc8 hFc8 gc8_lx gc8_nx ec8_0 => ⟨rfl, ?_⟩)) cf_X12_ahead t_1683 rfl (by decide) rfl rfl rfl (Nat.le_of_ble_eq_true rfl) (by decide) rfl dX12_must_29
      have z9 : Pc1 0 5 = (P 0 5) := ((hFc1.1 5 rfl).trans rfl)
      exact g_retV dX12_must_32 rfl (hQ _ hBc8 (FrM.c (FrM.c FrM.rf hFc1 rfl) hFc8 rfl) (by have q0 := b0_3 hBc8; have q1 := b0_4 hBc8; have q2 := b0_5 hBc8; (clear p_lx hsg hfh gc1_pe gc1_l gc2_s gc2_f; omega)) (by have q0 := b0_4 hBc8; (clear hsg hfh gc1_pe gc1_l gc2_s gc2_f gc8_lx; omega)) (by have q0 := (((hFc8.1 8 rfl).trans rfl) : Pc8 0 8 = (Pc1 0 8)); have q1 := b0_8 hBc1; (clear p_lx hsg hfh gc1_pe gc1_l gc2_s gc2_f gc8_lx; omega)) (by have q0 := (((hFc8.1 8 rfl).trans rfl) : Pc8 0 8 = (Pc1 0 8)); have q1 := b0_8 hBc1; have q2 := b0_4 hBc8; (clear hsg hfh gc1_pe gc1_l gc2_s gc2_f gc8_lx; omega)) (by have q0 := (((hFc8.1 8 rfl).trans rfl) : Pc8 0 8 = (Pc1 0 8)); have q1 := b0_8 hBc1; have q2 := (((hFc8.1 9 rfl).trans rfl) : Pc8 0 9 = (Pc1 0 9)); have q3 := b0_9 hBc1; (omega)) (FP.fr (F := ([3, 4, 5, 6, 7, 12], [])) vc1_FP (FrM.c FrM.rf hFc8 rfl) rfl) ((fun h0 => by have hz8 := (((hFc8.1 8 rfl).trans rfl) : Pc8 0 8 = (Pc1 0 8)); first | exact (by first | (rw [show (sgn T a1 p).2 = (tE T p) by (omega)]; exact ec8_0)) | (exfalso; (first | (clear p_lx hsg hfh gc1_pe gc1_l gc2_s gc2_f gc8_lx; omega) | (clear p_lx hsg hfh gc1_pe gc1_l gc2_s gc2_f; omega) | (clear p_lx hsg hfh gc1_pe gc1_l gc2_s gc8_lx; omega) | (clear p_lx hsg hfh gc1_pe gc1_l gc2_f gc8_lx; omega) | (clear p_lx hsg hfh gc1_pe gc2_s gc2_f gc8_lx; omega) | (clear p_lx hsg hfh gc1_l gc2_s gc2_f gc8_lx; omega) | (clear p_lx hsg gc1_pe gc1_l gc2_s gc2_f gc8_lx; omega) | (clear p_lx hfh gc1_pe gc1_l gc2_s gc2_f gc8_lx; omega) | (clear hsg hfh gc1_pe gc1_l gc2_s gc2_f gc8_lx; omega) | (clear p_lx hsg hfh gc1_pe gc1_l gc2_s; omega) | (clear gc1_pe hfh hsg p_lx; omega) | omega)))))
  · skip
    skip
    skip
    skip
    skip
    skip
    refine g_aload_n dX12_must_12 rfl ?_
    refine g_iconst dX12_must_13 ?_
    refine g_aload_n dX12_must_14 rfl ?_
    refine m_g4 (z := (P 0 4)) rfl dX12_must_15 ((hFc1.1 4 rfl).trans rfl) ?_
    have f10 := b0_4 hB
    refine g_vV (av := [vI 1, vI (P 0 4)]) (o := 0) (st := []) (f_X12_blame G Pc1 1 (P 0 4) (by decide) ⟨by have q0 := b0_4 hB; (clear p_lx hsg hfh gc1_pe gc1_l gc2_s gc2_f k5; omega), by have q0 := b0_4 hB; (clear p_lx hsg hfh gc1_pe gc1_l gc2_s gc2_f k5; omega)⟩ hBc1 (by have q0 := b0_4 hB; (clear p_lx hsg hfh gc1_pe gc1_l gc2_s gc2_f k5; omega)) vc1_FP _ (fun Pc11 hBc11 hFc11 gc11_f gc11_pe gc11_b vc11_FP => ⟨rfl, ?_⟩)) cf_X12_blame t_1701 rfl (by decide) rfl rfl rfl (Nat.le_of_ble_eq_true rfl) (by decide) rfl dX12_must_18
    refine g_aload_n dX12_must_21 rfl ?_
    refine m_g8 (z := (Pc11 0 8)) rfl dX12_must_22 rfl ?_
    have f12 := b0_8 hBc11
    refine g_if_ne (tgt := 32) dX12_must_25 (by decide) ⟨by have q0 := b0_8 hBc11; (clear p_lx hsg hfh gc1_pe gc1_l gc2_s gc2_f k5 gc11_f gc11_pe gc11_b; omega), by have q0 := b0_8 hBc11; (clear p_lx hsg hfh gc1_pe gc1_l gc2_s gc2_f k5 gc11_f gc11_pe gc11_b; omega)⟩ (fun k13 => ?_) (fun k13 => by exfalso; have q0 := b0_8 hBc11; (clear p_lx hsg hfh gc1_pe gc1_l gc2_s gc2_f k5 gc11_f gc11_pe; omega))
    skip
    skip
    have r_gc11_f := (gc11_f.resolve_right (by (clear p_lx hsg hfh gc1_pe gc1_l gc2_s gc2_f k5 gc11_f gc11_pe gc11_b k13; omega)))
    skip
    skip
    skip
    skip
    skip
    exact g_retV dX12_must_32 rfl (hQ _ hBc11 (FrM.c (FrM.c FrM.rf hFc1 rfl) hFc11 rfl) (by have q0 := (((hFc11.1 3 rfl).trans ((hFc1.1 3 rfl).trans rfl)) : Pc11 0 3 = (P 0 3)); have q1 := b0_3 hB; have q2 := (((hFc11.1 4 rfl).trans ((hFc1.1 4 rfl).trans rfl)) : Pc11 0 4 = (P 0 4)); have q3 := b0_4 hB; have q4 := (((hFc11.1 5 rfl).trans ((hFc1.1 5 rfl).trans rfl)) : Pc11 0 5 = (P 0 5)); have q5 := b0_5 hB; (omega)) (by have q0 := (((hFc11.1 4 rfl).trans ((hFc1.1 4 rfl).trans rfl)) : Pc11 0 4 = (P 0 4)); have q1 := b0_4 hB; (clear p_lx hsg hfh gc1_pe gc1_l gc2_s gc2_f k5 gc11_f gc11_pe gc11_b k13; omega)) (by have q0 := b0_8 hBc11; (clear p_lx hsg hfh gc1_pe gc1_l gc2_s gc2_f k5 gc11_f gc11_pe gc11_b k13; omega)) (by have q0 := b0_8 hBc11; have q1 := (((hFc11.1 4 rfl).trans ((hFc1.1 4 rfl).trans rfl)) : Pc11 0 4 = (P 0 4)); have q2 := b0_4 hB; (clear p_lx hsg hfh gc1_pe gc1_l gc2_s gc2_f k5 gc11_f gc11_pe gc11_b k13; omega)) (by have q0 := b0_8 hBc11; have q1 := b0_9 hBc11; (omega)) vc11_FP ((fun h0 => by first | exact (by first | (rw [show (sgn T a1 p).2 = p by (clear p_lx hsg hfh gc1_pe gc1_l gc2_s gc2_f k5 gc11_f gc11_pe gc11_b k13; omega)]; exact (MS.fr (F := ([8, 9], [])) z1 (FrM.c (FrM.c FrM.rf hFc1 rfl) hFc11 rfl) rfl))) | (exfalso; (first | (clear p_lx hsg hfh gc1_pe gc1_l gc2_s gc2_f k5 gc11_f gc11_pe gc11_b k13; omega) | (clear p_lx hsg hfh gc1_pe gc1_l gc2_s gc2_f k5 gc11_f gc11_pe gc11_b; omega) | (clear p_lx hsg hfh gc1_pe gc1_l gc2_s gc2_f k5 gc11_f gc11_pe k13; omega) | (clear p_lx hsg hfh gc1_pe gc1_l gc2_s gc2_f k5 gc11_f gc11_b k13; omega) | (clear p_lx hsg hfh gc1_pe gc1_l gc2_s gc2_f k5 gc11_pe gc11_b k13; omega) | (clear p_lx hsg hfh gc1_pe gc1_l gc2_s gc2_f gc11_f gc11_pe gc11_b k13; omega) | (clear p_lx hsg hfh gc1_pe gc1_l gc2_s k5 gc11_f gc11_pe gc11_b k13; omega) | (clear p_lx hsg hfh gc1_pe gc1_l gc2_f k5 gc11_f gc11_pe gc11_b k13; omega) | (clear p_lx hsg hfh gc1_pe gc2_s gc2_f k5 gc11_f gc11_pe gc11_b k13; omega) | (clear p_lx hsg hfh gc1_pe gc1_l gc2_s gc2_f k5 gc11_f gc11_pe; omega) | (clear k5 gc2_f gc2_s gc1_l gc1_pe hfh hsg p_lx; omega) | omega)))))
/-! What the reference answers: X12_number. -/
set_option maxRecDepth 100000 in
set_option maxHeartbeats 4000000 in
theorem f_X12_number (G : GT) (P : PH) (T : TT) (p : Int) (a1 : Int) (a2 : Int) (h_a1 : (-2147483648) ≤ a1 ∧ a1 ≤ 2147483647) (h_a2 : (-2147483648) ≤ a2 ∧ a2 ≤ 2147483647) (hB : BdM P) (p_lx : (P 0 3 = 0 ∨ P 0 4 + 1 ≤ P 0 5) ∧ P 0 4 ≤ P 0 5) (p_fk : P 0 8 ≤ 0) (v_FP : FP P) (z0 : MT T P) (z1 : MS T p P) (Q : Option PV → PH → Prop) (hQ : ∀ (r : Int) (_ : (-2147483648) ≤ r ∧ r ≤ 2147483647) (P1 : PH) (_ : BdM P1) (_ : FrM ([3, 4, 5, 6, 7, 8, 9, 12], []) P P1) (_ : (P1 0 3 = 0 ∨ P1 0 4 + 1 ≤ P1 0 5) ∧ P1 0 4 ≤ P1 0 5) (_ : P 0 4 ≤ P1 0 4) (_ : P 0 8 ≤ 0 ∨ 0 < P1 0 8) (_ : 0 < P1 0 8 ∨ (a1 ≤ r ∧ r ≤ a2 ∧ P 0 4 + 1 ≤ P1 0 4)) (_ : P1 0 8 = (num T a1 a2 p).1 ∧ ((num T a1 a2 p).1 = 0 ∨ P1 0 9 = (num T a1 a2 p).2)) (_ : (num T a1 a2 p).1 ≠ 0 ∨ r = tV T p) (_ : FP P1) (_ : CP (num T a1 a2 p).1 (MS T (num T a1 a2 p).2) P1), Q (some (vI r)) P1) : Ct WSM G 3 iX12_number [vR 0, vI a1, vI a2] P Q := by
  refine Ct.of (by decide) (l0 := [(0, vR 0), (1, vI a1), (2, vI a2)]) rfl (Nat.le_of_ble_eq_true rfl) ?_
  have hsg := num_s T a1 a2 p
  have hfh := fh_s T p
  have hat := z1.at.1
  refine g_aload_n dX12_number_0 rfl ?_
  refine g_vV (av := []) (o := 0) (st := []) (f_X12_lex G P (T) (p)  hB v_FP ((fun h0 => by first | exact z1 | (exfalso; (first | (clear p_lx hsg hfh; omega) | (clear p_lx hsg; omega) | (clear p_lx hfh; omega) | (clear hsg hfh; omega) | (clear p_lx; omega) | omega)))) _ (fun Pc1 hBc1 hFc1 gc1_pe gc1_l vc1_FP => ⟨rfl, ?_⟩)) cf_X12_lex t_1697 rfl (by decide) rfl rfl rfl (Nat.le_of_ble_eq_true rfl) (by decide) rfl dX12_number_1
  have hlx := gc1_l
  clear gc1_l
  refine g_aload_n dX12_number_4 rfl ?_
  refine m_g8 (z := (Pc1 0 8)) rfl dX12_number_5 rfl ?_
  have f2 := b0_8 hBc1
  refine g_if_le (tgt := 13) dX12_number_8 (by decide) ⟨by have q0 := b0_8 hBc1; (clear p_lx hsg hfh gc1_pe hlx; omega), by have q0 := b0_8 hBc1; (clear p_lx hsg hfh gc1_pe hlx; omega)⟩ (fun k3 => ?_) (fun k3 => ?_)
  · have r_hlx := ((hlx.resolve_left (by (clear p_lx hsg hfh gc1_pe hlx; omega))).resolve_left (by (clear p_lx hsg hfh gc1_pe hlx; omega)))
    have r_gc1_pe := (gc1_pe.resolve_right (by (clear p_lx hsg hfh gc1_pe hlx; omega)))
    have r_hfh := (hfh.resolve_left (by (clear p_lx hsg hfh gc1_pe hlx; omega)))
    skip
    have hk4 : tK T (p) ≠ 4 := by (clear p_lx hsg hfh gc1_pe hlx; omega)
    have hl8 : Pc1 0 8 = P 0 8 ∧ Pc1 0 9 = P 0 9 := by (clear p_lx hsg hfh gc1_pe hlx hk4; omega)
    clear hlx
    have htk := z1.tok hk4
    have hv : tK T p = 2 → P 0 6 = tV T p := fun h => z1.val (Or.inl h)
    refine g_aload_n dX12_number_13 rfl ?_
    refine m_g3 (z := (P 0 3)) rfl dX12_number_14 ((hFc1.1 3 rfl).trans rfl) ?_
    refine g_iconst dX12_number_17 ?_
    have f4 := b0_3 hB
    refine g_icmp_eq (tgt := 30) dX12_number_18 (by decide) ⟨by have q0 := b0_3 hB; (clear p_lx hsg hfh gc1_pe hk4 hv; omega), by have q0 := b0_3 hB; (clear p_lx hsg hfh gc1_pe hk4 hv; omega)⟩ (by decide) (fun k5 => ?_) (fun k5 => ?_)
    · skip
      skip
      skip
      refine g_aload_n dX12_number_30 rfl ?_
      refine m_g8 (z := (Pc1 0 8)) rfl dX12_number_31 rfl ?_
      refine g_if_ne (tgt := 58) dX12_number_34 (by decide) ⟨by have q0 := b0_8 hBc1; (clear p_lx hsg hfh gc1_pe hk4 hv k5; omega), by have q0 := b0_8 hBc1; (clear p_lx hsg hfh gc1_pe hk4 hv k5; omega)⟩ (fun k6 => by exfalso; have q0 := b0_8 hBc1; (clear p_lx hsg hfh gc1_pe hk4 hv k5; omega)) (fun k6 => ?_)
      skip
      skip
      skip
      refine g_aload_n dX12_number_37 rfl ?_
      refine m_g6 (z := (P 0 6)) rfl dX12_number_38 ((hFc1.1 6 rfl).trans rfl) ?_
      refine g_iload_n dX12_number_41 rfl ?_
      refine g_iload_n dX12_number_42 rfl ?_
      have f7 := b0_6 hB
      refine g_sI (av := [vI (P 0 6), vI a1, vI a2]) (st := []) (m_X12_is G Pc1 (P 0 6) a1 a2 ⟨by have q0 := b0_6 hB; (clear p_lx hsg hfh gc1_pe hk4 hv k5 k6; omega), by have q0 := b0_6 hB; (clear p_lx hsg hfh gc1_pe hk4 hv k5 k6; omega)⟩ ⟨by (clear p_lx hsg hfh gc1_pe hk4 hv k5 k6; omega), by (clear p_lx hsg hfh gc1_pe hk4 hv k5 k6; omega)⟩ ⟨by (clear p_lx hsg hfh gc1_pe hk4 hv k5 k6; omega), by (clear p_lx hsg hfh gc1_pe hk4 hv k5 k6; omega)⟩ hBc1  _ (fun rc8 hc8 gc8_is => ⟨rc8, rfl, ?_⟩)) cf_X12_is t_1800 rfl (Nat.le_of_ble_eq_true rfl) (by decide) rfl dX12_number_43
      refine g_if_ne (tgt := 58) dX12_number_46 (by decide) ⟨by (clear p_lx hsg hfh gc1_pe hk4 hv k5 k6 gc8_is; omega), by (clear p_lx hsg hfh gc1_pe hk4 hv k5 k6 gc8_is; omega)⟩ (fun k9 => ?_) (fun k9 => ?_)
      · have k9n : 1 ≤ rc8 := by (clear p_lx hsg hfh gc1_pe hk4 hv k5 k6 gc8_is; omega)
        clear k9
        have r_gc8_is := (gc8_is.resolve_right (by (clear p_lx hsg hfh gc1_pe hk4 hv k5 k6 gc8_is; omega)))
        skip
        skip
        skip
        refine g_aload_n dX12_number_58 rfl ?_
        refine m_g6 (z := (P 0 6)) rfl dX12_number_59 ((hFc1.1 6 rfl).trans rfl) ?_
        refine g_istore_n (l1 := [(3, vI (P 0 6)), (0, vR 0), (1, vI a1), (2, vI a2)]) dX12_number_62 (by decide) rfl ?_
        refine g_aload_n dX12_number_63 rfl ?_
        refine m_g8 (z := (Pc1 0 8)) rfl dX12_number_64 rfl ?_
        refine g_if_ne (tgt := 74) dX12_number_67 (by decide) ⟨by have q0 := b0_8 hBc1; (clear p_lx hsg hfh gc1_pe hk4 hv k5 k6 gc8_is; omega), by have q0 := b0_8 hBc1; (clear p_lx hsg hfh gc1_pe hk4 hv k5 k6 gc8_is; omega)⟩ (fun k10 => by exfalso; have q0 := b0_8 hBc1; (clear p_lx hsg hfh gc1_pe hk4 hv k5 k6 gc8_is; omega)) (fun k10 => ?_)
        skip
        skip
        skip
        skip
        refine g_aload_n dX12_number_70 rfl ?_
        refine g_vV (av := []) (o := 0) (st := []) (f_X12_ahead G Pc1 (T) (tE T p)  hBc1 (by have q := (((hFc1.1 5 rfl).trans rfl) : Pc1 0 5 = (P 0 5)); have q2 := z1.tok (by (clear p_lx hsg hfh gc1_pe hk4 hv k5 k6 gc8_is k10; omega)); have q3 := tE_b (T := T) (p := p) (by (clear p_lx hsg hfh gc1_pe hk4 hv k6 gc8_is k10; omega)); have q4 := z1.at; (clear p_lx hsg hfh gc1_pe hk4 hv k5 k6 gc8_is k10; omega)) ((MT.fr (F := ([8, 9], [])) z0 (FrM.c FrM.rf hFc1 rfl) rfl)) _ (fun Pc11 hBc11 hFc11 gc11_lx gc11_nx ec11_0 => ⟨rfl, ?_⟩)) cf_X12_ahead t_1683 rfl (by decide) rfl rfl rfl (Nat.le_of_ble_eq_true rfl) (by decide) rfl dX12_number_71
        have z12 : Pc1 0 5 = (P 0 5) := ((hFc1.1 5 rfl).trans rfl)
        refine g_iload_n dX12_number_74 rfl ?_
        exact g_retI dX12_number_75 rfl (hQ (P 0 6) ⟨by have q0 := b0_6 hB; (clear p_lx hsg hfh gc1_pe hk4 hv k5 k6 gc8_is k10 gc11_lx; omega), by have q0 := b0_6 hB; (clear p_lx hsg hfh gc1_pe hk4 hv k5 k6 gc8_is k10 gc11_lx; omega)⟩ _ hBc11 (FrM.c (FrM.c FrM.rf hFc1 rfl) hFc11 rfl) (by have q0 := b0_6 hB; have q1 := b0_3 hBc11; have q2 := b0_4 hBc11; have q3 := b0_5 hBc11; (clear p_lx hsg hfh gc1_pe hk4 hv k5 k6 gc8_is k10; omega)) (by have q0 := b0_6 hB; have q1 := b0_4 hBc11; (omega)) (by have q0 := b0_6 hB; have q1 := (((hFc11.1 8 rfl).trans rfl) : Pc11 0 8 = (Pc1 0 8)); have q2 := b0_8 hBc1; (clear p_lx hsg hfh gc1_pe hk4 hv k5 k6 gc8_is k10 gc11_lx; omega)) (by have q0 := b0_6 hB; have q1 := (((hFc11.1 8 rfl).trans rfl) : Pc11 0 8 = (Pc1 0 8)); have q2 := b0_8 hBc1; have q3 := b0_4 hBc11; (omega)) (by have q0 := b0_6 hB; have q1 := (((hFc11.1 8 rfl).trans rfl) : Pc11 0 8 = (Pc1 0 8)); have q2 := b0_8 hBc1; have q3 := (((hFc11.1 9 rfl).trans rfl) : Pc11 0 9 = (Pc1 0 9)); have q4 := b0_9 hBc1; (omega)) (by have q0 := b0_6 hB; (omega)) (FP.fr (F := ([3, 4, 5, 6, 7, 12], [])) vc1_FP (FrM.c FrM.rf hFc11 rfl) rfl) ((fun h0 => by first | exact (by first | (rw [show (num T a1 a2 p).2 = (tE T p) by (omega)]; exact ec11_0)) | (exfalso; (first | (clear p_lx hsg hfh gc1_pe hk4 hv k5 k6 gc8_is k10 gc11_lx; omega) | (clear p_lx hsg hfh gc1_pe hk4 hv k5 k6 gc8_is k10; omega) | (clear p_lx hsg hfh gc1_pe hk4 hv k5 k6 gc8_is gc11_lx; omega) | (clear p_lx hsg hfh gc1_pe hk4 hv k5 k6 k10 gc11_lx; omega) | (clear p_lx hsg hfh gc1_pe hk4 hv k5 gc8_is k10 gc11_lx; omega) | (clear p_lx hsg hfh gc1_pe hk4 hv k6 gc8_is k10 gc11_lx; omega) | (clear p_lx hsg hfh gc1_pe hk4 k5 k6 gc8_is k10 gc11_lx; omega) | (clear p_lx hsg hfh gc1_pe hv k5 k6 gc8_is k10 gc11_lx; omega) | (clear p_lx hsg hfh hk4 hv k5 k6 gc8_is k10 gc11_lx; omega) | (clear p_lx hsg hfh gc1_pe hk4 hv k5 k6 gc8_is; omega) | (clear k5 hv hk4 gc1_pe hfh hsg p_lx; omega) | omega)))))
      · skip
        skip
        skip
        skip
        refine g_aload_n dX12_number_49 rfl ?_
        refine g_iconst dX12_number_50 ?_
        refine g_aload_n dX12_number_51 rfl ?_
        refine m_g4 (z := (P 0 4)) rfl dX12_number_52 ((hFc1.1 4 rfl).trans rfl) ?_
        have f13 := b0_4 hB
        refine g_vV (av := [vI 4, vI (P 0 4)]) (o := 0) (st := []) (f_X12_blame G Pc1 4 (P 0 4) (by decide) ⟨by have q0 := b0_4 hB; (clear p_lx hsg hfh gc1_pe hk4 hv k5 k6 gc8_is k9; omega), by have q0 := b0_4 hB; (clear p_lx hsg hfh gc1_pe hk4 hv k5 k6 gc8_is k9; omega)⟩ hBc1 (by have q0 := b0_4 hB; (clear p_lx hsg hfh gc1_pe hk4 hv k5 k6 gc8_is k9; omega)) vc1_FP _ (fun Pc14 hBc14 hFc14 gc14_f gc14_pe gc14_b vc14_FP => ⟨rfl, ?_⟩)) cf_X12_blame t_1701 rfl (by decide) rfl rfl rfl (Nat.le_of_ble_eq_true rfl) (by decide) rfl dX12_number_55
        refine g_aload_n dX12_number_58 rfl ?_
        refine m_g6 (z := (P 0 6)) rfl dX12_number_59 ((hFc14.1 6 rfl).trans ((hFc1.1 6 rfl).trans rfl)) ?_
        refine g_istore_n (l1 := [(3, vI (P 0 6)), (0, vR 0), (1, vI a1), (2, vI a2)]) dX12_number_62 (by decide) rfl ?_
        refine g_aload_n dX12_number_63 rfl ?_
        refine m_g8 (z := (Pc14 0 8)) rfl dX12_number_64 rfl ?_
        have f15 := b0_8 hBc14
        refine g_if_ne (tgt := 74) dX12_number_67 (by decide) ⟨by have q0 := b0_8 hBc14; (clear p_lx hsg hfh gc1_pe hk4 hv k5 k6 gc8_is k9 gc14_f gc14_pe gc14_b; omega), by have q0 := b0_8 hBc14; (clear p_lx hsg hfh gc1_pe hk4 hv k5 k6 gc8_is k9 gc14_f gc14_pe gc14_b; omega)⟩ (fun k16 => ?_) (fun k16 => by exfalso; have q0 := b0_8 hBc14; (clear p_lx hsg hfh gc1_pe hk4 hv k5 k6 gc8_is k9 gc14_f gc14_pe; omega))
        have r_gc14_b := (gc14_b.resolve_left (by (clear p_lx hsg hfh gc1_pe hk4 hv k5 k6 gc8_is k9 gc14_f gc14_pe gc14_b k16; omega)))
        skip
        have r_gc14_f := (gc14_f.resolve_right (by (clear p_lx hsg hfh gc1_pe hk4 hv k5 k6 gc8_is k9 gc14_f gc14_pe gc14_b k16; omega)))
        skip
        skip
        skip
        skip
        refine g_iload_n dX12_number_74 rfl ?_
        exact g_retI dX12_number_75 rfl (hQ (P 0 6) ⟨by have q0 := b0_6 hB; (clear p_lx hsg hfh gc1_pe hk4 hv k5 k6 gc8_is k9 gc14_f gc14_pe gc14_b k16; omega), by have q0 := b0_6 hB; (clear p_lx hsg hfh gc1_pe hk4 hv k5 k6 gc8_is k9 gc14_f gc14_pe gc14_b k16; omega)⟩ _ hBc14 (FrM.c (FrM.c FrM.rf hFc1 rfl) hFc14 rfl) (by have q0 := b0_6 hB; have q1 := (((hFc14.1 3 rfl).trans ((hFc1.1 3 rfl).trans rfl)) : Pc14 0 3 = (P 0 3)); have q2 := b0_3 hB; have q3 := (((hFc14.1 4 rfl).trans ((hFc1.1 4 rfl).trans rfl)) : Pc14 0 4 = (P 0 4)); have q4 := b0_4 hB; have q5 := (((hFc14.1 5 rfl).trans ((hFc1.1 5 rfl).trans rfl)) : Pc14 0 5 = (P 0 5)); have q6 := b0_5 hB; (omega)) (by have q0 := b0_6 hB; have q1 := (((hFc14.1 4 rfl).trans ((hFc1.1 4 rfl).trans rfl)) : Pc14 0 4 = (P 0 4)); have q2 := b0_4 hB; (clear p_lx hsg hfh gc1_pe hk4 hv k5 k6 gc8_is k9 gc14_f gc14_pe gc14_b k16; omega)) (by have q0 := b0_6 hB; have q1 := b0_8 hBc14; (clear p_lx hsg hfh gc1_pe hk4 hv k5 k6 gc8_is k9 gc14_f gc14_pe gc14_b k16; omega)) (by have q0 := b0_6 hB; have q1 := b0_8 hBc14; have q2 := (((hFc14.1 4 rfl).trans ((hFc1.1 4 rfl).trans rfl)) : Pc14 0 4 = (P 0 4)); have q3 := b0_4 hB; (clear p_lx hsg hfh gc1_pe hk4 hv k5 k6 gc8_is k9 gc14_f gc14_pe gc14_b k16; omega)) (by have q0 := b0_6 hB; have q1 := b0_8 hBc14; have q2 := b0_9 hBc14; (omega)) (by have q0 := b0_6 hB; (omega)) vc14_FP ((fun h0 => by first | exact (by first | (rw [show (num T a1 a2 p).2 = p by (omega)]; exact (MS.fr (F := ([8, 9], [])) z1 (FrM.c (FrM.c FrM.rf hFc1 rfl) hFc14 rfl) rfl))) | (exfalso; (first | (clear p_lx hsg hfh gc1_pe hk4 hv k5 k6 gc8_is k9 gc14_f gc14_pe gc14_b k16; omega) | (clear p_lx hsg hfh gc1_pe hk4 hv k5 k6 gc8_is k9 gc14_f gc14_pe gc14_b; omega) | (clear p_lx hsg hfh gc1_pe hk4 hv k5 k6 gc8_is k9 gc14_f gc14_pe k16; omega) | (clear p_lx hsg hfh gc1_pe hk4 hv k5 k6 gc8_is k9 gc14_f gc14_b k16; omega) | (clear p_lx hsg hfh gc1_pe hk4 hv k5 k6 gc8_is k9 gc14_pe gc14_b k16; omega) | (clear p_lx hsg hfh gc1_pe hk4 hv k5 k6 gc8_is gc14_f gc14_pe gc14_b k16; omega) | (clear p_lx hsg hfh gc1_pe hk4 hv k5 k6 k9 gc14_f gc14_pe gc14_b k16; omega) | (clear p_lx hsg hfh gc1_pe hk4 hv k5 gc8_is k9 gc14_f gc14_pe gc14_b k16; omega) | (clear p_lx hsg hfh gc1_pe hk4 hv k6 gc8_is k9 gc14_f gc14_pe gc14_b k16; omega) | (clear p_lx hsg hfh gc1_pe hk4 hv k5 k6 gc8_is k9 gc14_f gc14_pe; omega) | (clear k9 gc8_is k6 k5 hv hk4 gc1_pe hfh hsg p_lx; omega) | omega)))))
    · skip
      skip
      skip
      refine g_aload_n dX12_number_21 rfl ?_
      refine g_iconst dX12_number_22 ?_
      refine g_aload_n dX12_number_23 rfl ?_
      refine m_g4 (z := (P 0 4)) rfl dX12_number_24 ((hFc1.1 4 rfl).trans rfl) ?_
      have f17 := b0_4 hB
      refine g_vV (av := [vI 1, vI (P 0 4)]) (o := 0) (st := []) (f_X12_blame G Pc1 1 (P 0 4) (by decide) ⟨by have q0 := b0_4 hB; (clear p_lx hsg hfh gc1_pe hk4 hv k5; omega), by have q0 := b0_4 hB; (clear p_lx hsg hfh gc1_pe hk4 hv k5; omega)⟩ hBc1 (by have q0 := b0_4 hB; (clear p_lx hsg hfh gc1_pe hk4 hv k5; omega)) vc1_FP _ (fun Pc18 hBc18 hFc18 gc18_f gc18_pe gc18_b vc18_FP => ⟨rfl, ?_⟩)) cf_X12_blame t_1701 rfl (by decide) rfl rfl rfl (Nat.le_of_ble_eq_true rfl) (by decide) rfl dX12_number_27
      refine g_aload_n dX12_number_30 rfl ?_
      refine m_g8 (z := (Pc18 0 8)) rfl dX12_number_31 rfl ?_
      have f19 := b0_8 hBc18
      refine g_if_ne (tgt := 58) dX12_number_34 (by decide) ⟨by have q0 := b0_8 hBc18; (clear p_lx hsg hfh gc1_pe hk4 hv k5 gc18_f gc18_pe gc18_b; omega), by have q0 := b0_8 hBc18; (clear p_lx hsg hfh gc1_pe hk4 hv k5 gc18_f gc18_pe gc18_b; omega)⟩ (fun k20 => ?_) (fun k20 => by exfalso; have q0 := b0_8 hBc18; (clear p_lx hsg hfh gc1_pe hk4 hv k5 gc18_f gc18_pe; omega))
      have r_gc18_b := (gc18_b.resolve_left (by (clear p_lx hsg hfh gc1_pe hk4 hv k5 gc18_f gc18_pe gc18_b k20; omega)))
      skip
      have r_gc18_f := (gc18_f.resolve_right (by (clear p_lx hsg hfh gc1_pe hk4 hv k5 gc18_f gc18_pe gc18_b k20; omega)))
      skip
      skip
      skip
      refine g_aload_n dX12_number_58 rfl ?_
      refine m_g6 (z := (P 0 6)) rfl dX12_number_59 ((hFc18.1 6 rfl).trans ((hFc1.1 6 rfl).trans rfl)) ?_
      refine g_istore_n (l1 := [(3, vI (P 0 6)), (0, vR 0), (1, vI a1), (2, vI a2)]) dX12_number_62 (by decide) rfl ?_
      refine g_aload_n dX12_number_63 rfl ?_
      refine m_g8 (z := (Pc18 0 8)) rfl dX12_number_64 rfl ?_
      refine g_if_ne (tgt := 74) dX12_number_67 (by decide) ⟨by have q0 := b0_8 hBc18; (clear p_lx hsg hfh gc1_pe hk4 hv k5 gc18_f gc18_pe gc18_b k20; omega), by have q0 := b0_8 hBc18; (clear p_lx hsg hfh gc1_pe hk4 hv k5 gc18_f gc18_pe gc18_b k20; omega)⟩ (fun k21 => ?_) (fun k21 => by exfalso; have q0 := b0_8 hBc18; (clear p_lx hsg hfh gc1_pe hk4 hv k5 gc18_f gc18_pe gc18_b k20; omega))
      skip
      skip
      skip
      skip
      skip
      skip
      refine g_iload_n dX12_number_74 rfl ?_
      exact g_retI dX12_number_75 rfl (hQ (P 0 6) ⟨by have q0 := b0_6 hB; (clear p_lx hsg hfh gc1_pe hk4 hv k5 gc18_f gc18_pe gc18_b k20 k21; omega), by have q0 := b0_6 hB; (clear p_lx hsg hfh gc1_pe hk4 hv k5 gc18_f gc18_pe gc18_b k20 k21; omega)⟩ _ hBc18 (FrM.c (FrM.c FrM.rf hFc1 rfl) hFc18 rfl) (by have q0 := b0_6 hB; have q1 := (((hFc18.1 3 rfl).trans ((hFc1.1 3 rfl).trans rfl)) : Pc18 0 3 = (P 0 3)); have q2 := b0_3 hB; have q3 := (((hFc18.1 4 rfl).trans ((hFc1.1 4 rfl).trans rfl)) : Pc18 0 4 = (P 0 4)); have q4 := b0_4 hB; have q5 := (((hFc18.1 5 rfl).trans ((hFc1.1 5 rfl).trans rfl)) : Pc18 0 5 = (P 0 5)); have q6 := b0_5 hB; (omega)) (by have q0 := b0_6 hB; have q1 := (((hFc18.1 4 rfl).trans ((hFc1.1 4 rfl).trans rfl)) : Pc18 0 4 = (P 0 4)); have q2 := b0_4 hB; (clear p_lx hsg hfh gc1_pe hk4 hv k5 gc18_f gc18_pe gc18_b k20 k21; omega)) (by have q0 := b0_6 hB; have q1 := b0_8 hBc18; (clear p_lx hsg hfh gc1_pe hk4 hv k5 gc18_f gc18_pe gc18_b k20 k21; omega)) (by have q0 := b0_6 hB; have q1 := b0_8 hBc18; have q2 := (((hFc18.1 4 rfl).trans ((hFc1.1 4 rfl).trans rfl)) : Pc18 0 4 = (P 0 4)); have q3 := b0_4 hB; (clear p_lx hsg hfh gc1_pe hk4 hv k5 gc18_f gc18_pe gc18_b k20 k21; omega)) (by have q0 := b0_6 hB; have q1 := b0_8 hBc18; have q2 := b0_9 hBc18; (omega)) (by have q0 := b0_6 hB; (omega)) vc18_FP ((fun h0 => by first | exact (by first | (rw [show (num T a1 a2 p).2 = p by (omega)]; exact (MS.fr (F := ([8, 9], [])) z1 (FrM.c (FrM.c FrM.rf hFc1 rfl) hFc18 rfl) rfl))) | (exfalso; (first | (clear p_lx hsg hfh gc1_pe hk4 hv k5 gc18_f gc18_pe gc18_b k20 k21; omega) | (clear p_lx hsg hfh gc1_pe hk4 hv k5 gc18_f gc18_pe gc18_b k20; omega) | (clear p_lx hsg hfh gc1_pe hk4 hv k5 gc18_f gc18_pe gc18_b k21; omega) | (clear p_lx hsg hfh gc1_pe hk4 hv k5 gc18_f gc18_pe k20 k21; omega) | (clear p_lx hsg hfh gc1_pe hk4 hv k5 gc18_f gc18_b k20 k21; omega) | (clear p_lx hsg hfh gc1_pe hk4 hv k5 gc18_pe gc18_b k20 k21; omega) | (clear p_lx hsg hfh gc1_pe hk4 hv gc18_f gc18_pe gc18_b k20 k21; omega) | (clear p_lx hsg hfh gc1_pe hk4 k5 gc18_f gc18_pe gc18_b k20 k21; omega) | (clear p_lx hsg hfh gc1_pe hv k5 gc18_f gc18_pe gc18_b k20 k21; omega) | (clear p_lx hsg hfh gc1_pe hk4 hv k5 gc18_f gc18_pe gc18_b; omega) | (clear gc18_f k5 hv hk4 gc1_pe hfh hsg p_lx; omega) | omega)))))
  · have r_hlx := ((hlx.resolve_left (by (clear p_lx hsg hfh gc1_pe hlx; omega))).resolve_right (by (clear p_lx hsg hfh gc1_pe hlx; omega)))
    skip
    have r_hfh := (hfh.resolve_right (by (clear p_lx hsg hfh gc1_pe hlx; omega)))
    have r_hsg := ((hsg.resolve_left (by (clear p_lx hsg hfh gc1_pe hlx; omega))).resolve_left (by (clear p_lx hsg hfh gc1_pe hlx; omega)))
    refine g_iconst dX12_number_11 ?_
    exact g_retI dX12_number_12 rfl (hQ 0 (by decide) _ hBc1 (FrM.c FrM.rf hFc1 rfl) (by have q0 := (((hFc1.1 3 rfl).trans rfl) : Pc1 0 3 = (P 0 3)); have q1 := b0_3 hB; have q2 := (((hFc1.1 4 rfl).trans rfl) : Pc1 0 4 = (P 0 4)); have q3 := b0_4 hB; have q4 := (((hFc1.1 5 rfl).trans rfl) : Pc1 0 5 = (P 0 5)); have q5 := b0_5 hB; (clear hsg hfh gc1_pe hlx; omega)) (by have q0 := (((hFc1.1 4 rfl).trans rfl) : Pc1 0 4 = (P 0 4)); have q1 := b0_4 hB; (clear p_lx hsg hfh gc1_pe hlx; omega)) (by have q0 := b0_8 hBc1; (clear p_lx hsg hfh gc1_pe hlx; omega)) (by have q0 := b0_8 hBc1; have q1 := (((hFc1.1 4 rfl).trans rfl) : Pc1 0 4 = (P 0 4)); have q2 := b0_4 hB; (clear p_lx hsg hfh gc1_pe hlx; omega)) (by have q0 := b0_8 hBc1; have q1 := b0_9 hBc1; (clear p_lx hsg hfh gc1_pe hlx; omega)) (by (clear p_lx hsg hfh gc1_pe hlx; omega)) vc1_FP ((fun h0 => by first | exact (by first | (rw [show (num T a1 a2 p).2 = p by (clear p_lx hsg hfh gc1_pe hlx; omega)]; exact (MS.fr (F := ([8, 9], [])) z1 (FrM.c FrM.rf hFc1 rfl) rfl))) | (exfalso; (first | (clear p_lx hsg hfh gc1_pe hlx; omega) | (clear p_lx hsg hfh gc1_pe; omega) | (clear p_lx hsg hfh hlx; omega) | (clear p_lx hsg gc1_pe hlx; omega) | (clear p_lx hfh gc1_pe hlx; omega) | (clear hsg hfh gc1_pe hlx; omega) | (clear p_lx hsg hfh; omega) | (clear p_lx; omega) | omega)))))
/-! What the reference answers: X12_isCounted. -/
set_option maxRecDepth 100000 in
set_option maxHeartbeats 4000000 in
theorem f_X12_isCounted (G : GT) (P : PH) (T : TT) (p : Int) (a1 : Int) (h_a1 : 0 ≤ a1 ∧ a1 ≤ 1) (hB : BdM P) (p_lx : (P 0 3 = 0 ∨ P 0 4 + 1 ≤ P 0 5) ∧ P 0 4 ≤ P 0 5) (p_k1 : 1 ≤ tK T p ∧ tK T p ≤ 3) (v_FP : FP P) (z0 : MT T P) (z1 : MS T p P) (Q : Option PV → PH → Prop) (hQ : ∀ (r : Int) (_ : 0 ≤ r ∧ r ≤ 1) (P1 : PH) (_ : BdM P1) (_ : FrM ([3, 4, 5, 6, 7, 8, 9, 12], []) P P1) (_ : (P1 0 3 = 0 ∨ P1 0 4 + 1 ≤ P1 0 5) ∧ P1 0 4 ≤ P1 0 5) (_ : P 0 4 ≤ P1 0 4) (_ : P 0 8 ≤ 0 ∨ 0 < P1 0 8) (_ : (r = 1 ∧ P1 0 8 ≤ 0 ∧ a1 = 0) ∨ (r = 0 ∧ 0 < P1 0 8)) (_ : r = 0 ∨ P 0 3 = 0 ∨ P 0 4 + 1 ≤ P1 0 4) (_ : (0 < P 0 8 ∧ P1 0 8 = P 0 8 ∧ P1 0 9 = P 0 9 ∧ r = 0) ∨ (P 0 8 ≤ 0 ∧ a1 = 1 ∧ P1 0 8 = 6 ∧ P1 0 9 = tA T p ∧ r = 0) ∨ (P 0 8 ≤ 0 ∧ a1 = 0 ∧ P1 0 8 = 0 ∧ r = 1)) (_ : FP P1) (_ : CP (P1 0 8) (MS T (tE T p)) P1), Q (some (vI r)) P1) : Ct WSM G 3 iX12_isCounted [vR 0, vI a1] P Q := by
  refine Ct.of (by decide) (l0 := [(0, vR 0), (1, vI a1)]) rfl (Nat.le_of_ble_eq_true rfl) ?_
  have hat := z1.at.1
  have htk := z1.tok (by (clear p_lx; omega))
  refine g_aload_n dX12_isCounted_0 rfl ?_
  refine m_g8 (z := (P 0 8)) rfl dX12_isCounted_1 rfl ?_
  have f1 := b0_8 hB
  refine g_if_ne (tgt := 21) dX12_isCounted_4 (by decide) ⟨by have q0 := b0_8 hB; (clear p_lx; omega), by have q0 := b0_8 hB; (clear p_lx; omega)⟩ (fun k2 => ?_) (fun k2 => ?_)
  · have k2n : 1 ≤ (P 0 8) := by have q0 := b0_8 hB; (clear p_lx; omega)
    clear k2
    refine g_aload_n dX12_isCounted_21 rfl ?_
    refine m_g8 (z := (P 0 8)) rfl dX12_isCounted_22 rfl ?_
    refine g_if_ne (tgt := 32) dX12_isCounted_25 (by decide) ⟨by have q0 := b0_8 hB; (clear p_lx; omega), by have q0 := b0_8 hB; (clear p_lx; omega)⟩ (fun k3 => ?_) (fun k3 => by exfalso; have q0 := b0_8 hB; (clear p_lx; omega))
    refine g_aload_n dX12_isCounted_32 rfl ?_
    refine m_g8 (z := (P 0 8)) rfl dX12_isCounted_33 rfl ?_
    refine g_if_ne (tgt := 43) dX12_isCounted_36 (by decide) ⟨by have q0 := b0_8 hB; (clear p_lx k3; omega), by have q0 := b0_8 hB; (clear p_lx k3; omega)⟩ (fun k4 => ?_) (fun k4 => by exfalso; have q0 := b0_8 hB; (clear p_lx k3; omega))
    refine g_iconst dX12_isCounted_43 ?_
    exact g_retZ dX12_isCounted_44 rfl (by decide) (hQ 0 (by decide) _ hB FrM.rf (by have q0 := b0_3 hB; have q1 := b0_4 hB; have q2 := b0_5 hB; (clear k3 k4; omega)) (by have q0 := b0_4 hB; (clear p_lx k3 k4; omega)) (by have q0 := b0_8 hB; (clear p_lx k3 k4; omega)) (by have q0 := b0_8 hB; (clear p_lx k3 k4; omega)) (by have q0 := b0_3 hB; have q1 := b0_4 hB; (clear p_lx k3 k4; omega)) (by have q0 := b0_8 hB; have q1 := b0_9 hB; (clear p_lx k3 k4; omega)) v_FP ((fun h0 => by first | exact (by first | (rw [show (tE T p) = p by (clear p_lx k3 k4; omega)]; exact z1)) | (exfalso; (first | (clear p_lx k3 k4; omega) | (clear p_lx k3; omega) | (clear p_lx k4; omega) | (clear k3 k4; omega) | (clear p_lx; omega) | omega)))))
  · refine g_iload_n dX12_isCounted_7 rfl ?_
    refine g_if_eq (tgt := 21) dX12_isCounted_8 (by decide) ⟨by (clear p_lx k2; omega), by (clear p_lx k2; omega)⟩ (fun k5 => ?_) (fun k5 => ?_)
    · refine g_aload_n dX12_isCounted_21 rfl ?_
      refine m_g8 (z := (P 0 8)) rfl dX12_isCounted_22 rfl ?_
      refine g_if_ne (tgt := 32) dX12_isCounted_25 (by decide) ⟨by have q0 := b0_8 hB; (clear p_lx k2 k5; omega), by have q0 := b0_8 hB; (clear p_lx k2 k5; omega)⟩ (fun k6 => by exfalso; have q0 := b0_8 hB; (clear p_lx k5; omega)) (fun k6 => ?_)
      refine g_aload_n dX12_isCounted_28 rfl ?_
      refine g_vV (av := []) (o := 0) (st := []) (f_X12_ahead G P (T) (tE T p)  hB (by have q := (rfl : P 0 5 = (P 0 5)); have q2 := z1.tok (by (clear p_lx k2 k5 k6; omega)); have q3 := tE_b (T := T) (p := p) (by (clear p_lx k2 k5 k6; omega)); have q4 := z1.at; (clear p_lx k2 k5 k6; omega)) (z0) _ (fun Pc7 hBc7 hFc7 gc7_lx gc7_nx ec7_0 => ⟨rfl, ?_⟩)) cf_X12_ahead t_1683 rfl (by decide) rfl rfl rfl (Nat.le_of_ble_eq_true rfl) (by decide) rfl dX12_isCounted_29
      refine g_aload_n dX12_isCounted_32 rfl ?_
      refine m_g8 (z := (P 0 8)) rfl dX12_isCounted_33 ((hFc7.1 8 rfl).trans rfl) ?_
      refine g_if_ne (tgt := 43) dX12_isCounted_36 (by decide) ⟨by have q0 := b0_8 hB; (clear p_lx k2 k5 k6 gc7_lx; omega), by have q0 := b0_8 hB; (clear p_lx k2 k5 k6 gc7_lx; omega)⟩ (fun k8 => by exfalso; have q0 := b0_8 hB; (clear p_lx k2 k5 gc7_lx; omega)) (fun k8 => ?_)
      refine g_iconst dX12_isCounted_39 ?_
      refine g_goto (tgt := 44) dX12_isCounted_40 (by decide) ?_
      exact g_retZ dX12_isCounted_44 rfl (by decide) (hQ 1 (by decide) _ hBc7 (FrM.c FrM.rf hFc7 rfl) (by have q0 := b0_3 hBc7; have q1 := b0_4 hBc7; have q2 := b0_5 hBc7; (clear p_lx k2 k5 k6 k8; omega)) (by have q0 := b0_4 hBc7; (clear k2 k5 k6 gc7_lx k8; omega)) (by have q0 := (((hFc7.1 8 rfl).trans rfl) : Pc7 0 8 = (P 0 8)); have q1 := b0_8 hB; (clear p_lx k2 k5 k6 gc7_lx k8; omega)) (by have q0 := (((hFc7.1 8 rfl).trans rfl) : Pc7 0 8 = (P 0 8)); have q1 := b0_8 hB; (clear k2 p_lx; omega)) (by have q0 := b0_3 hBc7; have q1 := b0_4 hBc7; (clear k2 k5 k6 gc7_lx k8; omega)) (by have q0 := (((hFc7.1 8 rfl).trans rfl) : Pc7 0 8 = (P 0 8)); have q1 := b0_8 hB; have q2 := (((hFc7.1 9 rfl).trans rfl) : Pc7 0 9 = (P 0 9)); have q3 := b0_9 hB; (clear k2 p_lx; omega)) (FP.fr (F := ([3, 4, 5, 6, 7, 12], [])) v_FP (FrM.c FrM.rf hFc7 rfl) rfl) ((fun h0 => by have hz8 := (((hFc7.1 8 rfl).trans rfl) : Pc7 0 8 = (P 0 8)); first | exact ec7_0 | (exfalso; (first | (clear p_lx k2 k5 k6 gc7_lx k8; omega) | (clear p_lx k2 k5 k6 gc7_lx; omega) | (clear p_lx k2 k5 k6 k8; omega) | (clear p_lx k2 k5 gc7_lx k8; omega) | (clear p_lx k2 k6 gc7_lx k8; omega) | (clear p_lx k5 k6 gc7_lx k8; omega) | (clear k2 k5 k6 gc7_lx k8; omega) | (clear p_lx k2 k5 k6; omega) | (clear k2 p_lx; omega) | omega)))))
    · have k5n : 1 ≤ a1 := by (clear p_lx k2; omega)
      clear k5
      refine g_aload_n dX12_isCounted_11 rfl ?_
      refine g_bipush dX12_isCounted_12 (by decide) ?_
      refine g_aload_n dX12_isCounted_14 rfl ?_
      refine m_g4 (z := (P 0 4)) rfl dX12_isCounted_15 rfl ?_
      have f9 := b0_4 hB
      refine g_vV (av := [vI 6, vI (P 0 4)]) (o := 0) (st := []) (f_X12_blame G P 6 (P 0 4) (by decide) ⟨by have q0 := b0_4 hB; (clear p_lx k2; omega), by have q0 := b0_4 hB; (clear p_lx k2; omega)⟩ hB (by have q0 := b0_4 hB; (clear p_lx k2; omega)) v_FP _ (fun Pc10 hBc10 hFc10 gc10_f gc10_pe gc10_b vc10_FP => ⟨rfl, ?_⟩)) cf_X12_blame t_1701 rfl (by decide) rfl rfl rfl (Nat.le_of_ble_eq_true rfl) (by decide) rfl dX12_isCounted_18
      refine g_aload_n dX12_isCounted_21 rfl ?_
      refine m_g8 (z := (Pc10 0 8)) rfl dX12_isCounted_22 rfl ?_
      have f11 := b0_8 hBc10
      refine g_if_ne (tgt := 32) dX12_isCounted_25 (by decide) ⟨by have q0 := b0_8 hBc10; (clear p_lx k2 gc10_f gc10_pe gc10_b; omega), by have q0 := b0_8 hBc10; (clear p_lx k2 gc10_f gc10_pe gc10_b; omega)⟩ (fun k12 => ?_) (fun k12 => by exfalso; have q0 := b0_8 hBc10; (clear p_lx k2 gc10_f gc10_pe; omega))
      skip
      skip
      have r_gc10_f := (gc10_f.resolve_right (by (clear p_lx k2 gc10_f gc10_pe gc10_b k12; omega)))
      refine g_aload_n dX12_isCounted_32 rfl ?_
      refine m_g8 (z := (Pc10 0 8)) rfl dX12_isCounted_33 rfl ?_
      refine g_if_ne (tgt := 43) dX12_isCounted_36 (by decide) ⟨by have q0 := b0_8 hBc10; (clear p_lx k2 gc10_f gc10_pe gc10_b k12; omega), by have q0 := b0_8 hBc10; (clear p_lx k2 gc10_f gc10_pe gc10_b k12; omega)⟩ (fun k13 => ?_) (fun k13 => by exfalso; have q0 := b0_8 hBc10; (clear p_lx k2 gc10_f gc10_pe gc10_b k12; omega))
      skip
      skip
      skip
      refine g_iconst dX12_isCounted_43 ?_
      exact g_retZ dX12_isCounted_44 rfl (by decide) (hQ 0 (by decide) _ hBc10 (FrM.c FrM.rf hFc10 rfl) (by have q0 := (((hFc10.1 3 rfl).trans rfl) : Pc10 0 3 = (P 0 3)); have q1 := b0_3 hB; have q2 := (((hFc10.1 4 rfl).trans rfl) : Pc10 0 4 = (P 0 4)); have q3 := b0_4 hB; have q4 := (((hFc10.1 5 rfl).trans rfl) : Pc10 0 5 = (P 0 5)); have q5 := b0_5 hB; (clear k2 gc10_f gc10_pe gc10_b k12 k13; omega)) (by have q0 := (((hFc10.1 4 rfl).trans rfl) : Pc10 0 4 = (P 0 4)); have q1 := b0_4 hB; (clear p_lx k2 gc10_f gc10_pe gc10_b k12 k13; omega)) (by have q0 := b0_8 hBc10; (clear p_lx k2 gc10_f gc10_pe gc10_b k12 k13; omega)) (by have q0 := b0_8 hBc10; (clear p_lx k2 gc10_f gc10_pe gc10_b k12 k13; omega)) (by have q0 := (((hFc10.1 3 rfl).trans rfl) : Pc10 0 3 = (P 0 3)); have q1 := b0_3 hB; have q2 := (((hFc10.1 4 rfl).trans rfl) : Pc10 0 4 = (P 0 4)); have q3 := b0_4 hB; (clear p_lx k2 gc10_f gc10_pe gc10_b k12 k13; omega)) (by have q0 := b0_8 hBc10; have q1 := b0_9 hBc10; (clear p_lx k2 gc10_f gc10_pe k12 k13; omega)) vc10_FP ((fun h0 => by first | exact (by first | (rw [show (tE T p) = p by (clear p_lx k2 gc10_f gc10_pe gc10_b k12 k13; omega)]; exact (MS.fr (F := ([8, 9], [])) z1 (FrM.c FrM.rf hFc10 rfl) rfl))) | (exfalso; (first | (clear p_lx k2 gc10_f gc10_pe gc10_b k12 k13; omega) | (clear p_lx k2 gc10_f gc10_pe gc10_b k12; omega) | (clear p_lx k2 gc10_f gc10_pe gc10_b k13; omega) | (clear p_lx k2 gc10_f gc10_pe k12 k13; omega) | (clear p_lx k2 gc10_f gc10_b k12 k13; omega) | (clear p_lx k2 gc10_pe gc10_b k12 k13; omega) | (clear p_lx gc10_f gc10_pe gc10_b k12 k13; omega) | (clear k2 gc10_f gc10_pe gc10_b k12 k13; omega) | (clear p_lx k2 gc10_f gc10_pe gc10_b; omega) | (clear gc10_f k2 p_lx; omega) | omega)))))
/-! What the reference answers: X12_kindNamed. -/
set_option maxRecDepth 100000 in
set_option maxHeartbeats 4000000 in
theorem f_X12_kindNamed (G : GT) (P : PH) (a1 : Int) (h_a1 : (-9223372036854775808) ≤ a1 ∧ a1 ≤ 9223372036854775807) (hB : BdM P) (Q : Option PV → PH → Prop) (hQ : ∀ (r : Int) (_ : (-1) ≤ r ∧ r ≤ 3) (_ : r < P 2 (P 0 37)) (_ : r = fxi (fun i => P 22 (4 * P 0 37 + i)) a1 (P 2 (P 0 37)).toNat), Q (some (vI r)) P) : Ct WSM G 1 iX12_kindNamed [vR 0, vL a1] P Q := by
  refine Ct.of (by decide) (l0 := [(0, vR 0), (1, vL a1)]) rfl (Nat.le_of_ble_eq_true rfl) ?_
  refine g_iconst dX12_kindNamed_0 ?_
  refine g_istore_n (l1 := [(3, vI 0), (0, vR 0), (1, vL a1)]) dX12_kindNamed_1 (by decide) rfl ?_
  have L2_0 : ∀ (n2_0 : Nat) (x2_3_0 : Int) (h_x2_3_0 : 0 ≤ x2_3_0 ∧ x2_3_0 ≤ 4) (i2_0_0 : ∀ q : Int, 0 ≤ q → q < x2_3_0 → P 22 (4 * P 0 37 + q) ≠ a1) (hm2_0 : ((5 - x2_3_0) : Int).toNat < n2_0), Go WSM G 1 iX12_kindNamed 2 [(0, vR 0), (1, vL a1), (3, vI x2_3_0)] [] P Q := by
    intro n2_0
    induction n2_0 with
    | zero => intro x2_3_0 h_x2_3_0 i2_0_0 hm2_0; exact absurd hm2_0 (Nat.not_lt_zero _)
    | succ n2_0 ih2_0 =>
    intro x2_3_0 h_x2_3_0 i2_0_0 hm2_0
    refine g_iload_n dX12_kindNamed_2 rfl ?_
    refine g_aload_n dX12_kindNamed_3 rfl ?_
    refine m_g14 rfl dX12_kindNamed_4 ?_
    refine g_aload_n dX12_kindNamed_7 rfl ?_
    refine m_g37 (z := (P 0 37)) rfl dX12_kindNamed_8 rfl ?_
    refine m_l2 (z := (P 2 (P 0 37))) dX12_kindNamed_11 ⟨by have q0 := b0_37 hB; omega, by have q0 := b0_37 hB; omega⟩ rfl ?_
    have f30 := bl_2 (k := (P 0 37)) hB
    refine g_icmp_ge (tgt := 41) dX12_kindNamed_12 (by decide) ⟨by omega, by omega⟩ ⟨by have q0 := bl_2 (k := (P 0 37)) hB; omega, by have q0 := bl_2 (k := (P 0 37)) hB; omega⟩ (fun k31 => ?_) (fun k31 => ?_)
    · refine g_iconst dX12_kindNamed_41 ?_
      exact g_retI dX12_kindNamed_42 rfl (hQ (-1) (by decide) (by have q0 := bl_2 (k := (P 0 37)) hB; omega) ((fxi_none (g := fun i => P 22 (4 * P 0 37 + i)) _ (fun q q0 q1 => i2_0_0 q q0 (by omega))).symm))
    · refine g_aload_n dX12_kindNamed_15 rfl ?_
      refine m_g34 rfl dX12_kindNamed_16 ?_
      refine g_iconst dX12_kindNamed_19 ?_
      refine g_aload_n dX12_kindNamed_20 rfl ?_
      refine m_g37 (z := (P 0 37)) rfl dX12_kindNamed_21 rfl ?_
      refine g_imul dX12_kindNamed_24 ?_
      refine g_iload_n dX12_kindNamed_25 rfl ?_
      refine g_iadd dX12_kindNamed_26 ?_
      refine m_l22 (z := (P 22 ((4 * (P 0 37)) + x2_3_0))) dX12_kindNamed_27 ⟨by have q0 := b0_37 hB; omega, by have q0 := b0_37 hB; omega⟩ rfl ?_
      refine g_lload_n dX12_kindNamed_28 rfl ?_
      refine g_lcmp dX12_kindNamed_29 ⟨by have q0 := bl_22 (k := ((4 * (P 0 37)) + x2_3_0)) hB; omega, by have q0 := bl_22 (k := ((4 * (P 0 37)) + x2_3_0)) hB; omega⟩ ⟨by omega, by omega⟩ ?_
      refine g_nm (fun b32 e_b32 => ?_)
      have h_b32 := lcmpv_b (P 22 ((4 * (P 0 37)) + x2_3_0)) a1
      have h0_b32 := lcmpv_0 (x := (P 22 ((4 * (P 0 37)) + x2_3_0))) (y := a1)
      have h1_b32 := lcmpv_lt (x := (P 22 ((4 * (P 0 37)) + x2_3_0))) (y := a1)
      have h2_b32 := lcmpv_gt (x := (P 22 ((4 * (P 0 37)) + x2_3_0))) (y := a1)
      rw [← e_b32] at h_b32 h0_b32 h1_b32 h2_b32
      refine g_if_ne (tgt := 35) dX12_kindNamed_30 (by decide) ⟨by (clear h0_b32 h1_b32 h2_b32; omega), by (clear h0_b32 h1_b32 h2_b32; omega)⟩ (fun k33 => ?_) (fun k33 => ?_)
      · have hnx : ∀ q : Int, 0 ≤ q → q < x2_3_0 + 1 → P 22 (4 * P 0 37 + q) ≠ a1 := by
          intro q q0 q1
          by_cases e : q = x2_3_0
          · rw [e]; (omega)
          · exact i2_0_0 q q0 (by (clear h0_b32 h1_b32 h2_b32 k33; omega))
        refine g_iinc (l1 := [(3, vI (x2_3_0 + 1)), (0, vR 0), (1, vL a1)]) dX12_kindNamed_35 rfl (by decide) rfl ?_
        refine g_goto (tgt := 2) dX12_kindNamed_38 (by decide) ?_
        refine g_forget (l1 := [(0, vR 0), (1, vL a1), (3, vI (x2_3_0 + 1))]) (by intro q hq; simp only [List.mem_cons, List.not_mem_nil, or_false] at hq ⊢; rcases hq with rfl | rfl | rfl <;> simp) ?_
        exact ih2_0 (x2_3_0 + 1) ⟨by (clear h0_b32 h1_b32 h2_b32 k33; omega), by (clear h0_b32 h1_b32 h2_b32 k33; omega)⟩ (by first | exact hnx | (intro q q0 q1; exfalso; (first | (clear h0_b32 h1_b32 h2_b32 k33; omega) | (clear h0_b32 h1_b32 h2_b32; omega) | (clear h0_b32 h1_b32 k33; omega) | (clear h0_b32 h2_b32 k33; omega) | (clear h1_b32 h2_b32 k33; omega) | (clear h0_b32 h1_b32; omega) | omega))) (by (clear h0_b32 h1_b32 h2_b32 k33; omega))
      · refine g_iload_n dX12_kindNamed_33 rfl ?_
        exact g_retI dX12_kindNamed_34 rfl (hQ x2_3_0 ⟨by (clear h0_b32 h1_b32 h2_b32 k33; omega), by (clear h0_b32 h1_b32 h2_b32 k33; omega)⟩ (by have q0 := bl_2 (k := (P 0 37)) hB; (clear h0_b32 h1_b32 h2_b32 k33; omega)) ((fxi_some (g := fun i => P 22 (4 * P 0 37 + i)) (by (clear h0_b32 h1_b32 h2_b32 k33; omega)) (by show P 22 (4 * P 0 37 + _) = a1; (omega)) (fun q q0 q1 => i2_0_0 q q0 q1) _ (by (clear h0_b32 h1_b32 h2_b32 k33; omega))).symm))
  refine g_forget (l1 := [(0, vR 0), (1, vL a1), (3, vI 0)]) (by intro q hq; simp only [List.mem_cons, List.not_mem_nil, or_false] at hq ⊢; rcases hq with rfl | rfl | rfl <;> simp) ?_
  exact L2_0 _ 0 (by decide) (by first | exact hnx | (intro q q0 q1; exfalso; omega)) (Nat.lt_succ_self _)
/-! What the reference answers: X12_conNamed. -/
set_option maxRecDepth 100000 in
set_option maxHeartbeats 4000000 in
theorem f_X12_conNamed (G : GT) (P : PH) (a1 : Int) (a2 : Int) (h_a1 : 0 ≤ a1 ∧ a1 ≤ 1) (h_a2 : (-9223372036854775808) ≤ a2 ∧ a2 ≤ 9223372036854775807) (hB : BdM P) (Q : Option PV → PH → Prop) (hQ : ∀ (r : Int) (_ : (-1) ≤ r ∧ r ≤ 23) (_ : r < P 5 a1 ∨ r = -1) (_ : r = fxi (fun i => P 23 (24 * a1 + i)) a2 (P 5 (a1)).toNat), Q (some (vI r)) P) : Ct WSM G 1 iX12_conNamed [vR 0, vI a1, vL a2] P Q := by
  refine Ct.of (by decide) (l0 := [(0, vR 0), (1, vI a1), (2, vL a2)]) rfl (Nat.le_of_ble_eq_true rfl) ?_
  refine g_iconst dX12_conNamed_0 ?_
  refine g_istore (l1 := [(4, vI 0), (0, vR 0), (1, vI a1), (2, vL a2)]) dX12_conNamed_1 (by decide) rfl ?_
  have L3_0 : ∀ (n3_0 : Nat) (x3_4_0 : Int) (h_x3_4_0 : 0 ≤ x3_4_0 ∧ x3_4_0 ≤ 24) (i3_0_0 : ∀ q : Int, 0 ≤ q → q < x3_4_0 → P 23 (24 * a1 + q) ≠ a2) (hm3_0 : ((25 - x3_4_0) : Int).toNat < n3_0), Go WSM G 1 iX12_conNamed 3 [(0, vR 0), (1, vI a1), (2, vL a2), (4, vI x3_4_0)] [] P Q := by
    intro n3_0
    induction n3_0 with
    | zero => intro x3_4_0 h_x3_4_0 i3_0_0 hm3_0; exact absurd hm3_0 (Nat.not_lt_zero _)
    | succ n3_0 ih3_0 =>
    intro x3_4_0 h_x3_4_0 i3_0_0 hm3_0
    refine g_iload dX12_conNamed_3 rfl ?_
    refine g_aload_n dX12_conNamed_5 rfl ?_
    refine m_g17 rfl dX12_conNamed_6 ?_
    refine g_iload_n dX12_conNamed_9 rfl ?_
    refine m_l5 (z := (P 5 a1)) dX12_conNamed_10 ⟨by omega, by omega⟩ rfl ?_
    have f42 := bl_5 (k := a1) hB
    refine g_icmp_ge (tgt := 40) dX12_conNamed_11 (by decide) ⟨by omega, by omega⟩ ⟨by have q0 := bl_5 (k := a1) hB; omega, by have q0 := bl_5 (k := a1) hB; omega⟩ (fun k43 => ?_) (fun k43 => ?_)
    · refine g_iconst dX12_conNamed_40 ?_
      exact g_retI dX12_conNamed_41 rfl (hQ (-1) (by decide) (by have q0 := bl_5 (k := a1) hB; omega) ((fxi_none (g := fun i => P 23 (24 * a1 + i)) _ (fun q q0 q1 => i3_0_0 q q0 (by omega))).symm))
    · refine g_aload_n dX12_conNamed_14 rfl ?_
      refine m_g35 rfl dX12_conNamed_15 ?_
      refine g_bipush dX12_conNamed_18 (by decide) ?_
      refine g_iload_n dX12_conNamed_20 rfl ?_
      refine g_imul dX12_conNamed_21 ?_
      refine g_iload dX12_conNamed_22 rfl ?_
      refine g_iadd dX12_conNamed_24 ?_
      refine m_l23 (z := (P 23 ((24 * a1) + x3_4_0))) dX12_conNamed_25 ⟨by omega, by omega⟩ rfl ?_
      refine g_lload_n dX12_conNamed_26 rfl ?_
      refine g_lcmp dX12_conNamed_27 ⟨by have q0 := bl_23 (k := ((24 * a1) + x3_4_0)) hB; omega, by have q0 := bl_23 (k := ((24 * a1) + x3_4_0)) hB; omega⟩ ⟨by omega, by omega⟩ ?_
      refine g_nm (fun b44 e_b44 => ?_)
      have h_b44 := lcmpv_b (P 23 ((24 * a1) + x3_4_0)) a2
      have h0_b44 := lcmpv_0 (x := (P 23 ((24 * a1) + x3_4_0))) (y := a2)
      have h1_b44 := lcmpv_lt (x := (P 23 ((24 * a1) + x3_4_0))) (y := a2)
      have h2_b44 := lcmpv_gt (x := (P 23 ((24 * a1) + x3_4_0))) (y := a2)
      rw [← e_b44] at h_b44 h0_b44 h1_b44 h2_b44
      refine g_if_ne (tgt := 34) dX12_conNamed_28 (by decide) ⟨by (clear h0_b44 h1_b44 h2_b44; omega), by (clear h0_b44 h1_b44 h2_b44; omega)⟩ (fun k45 => ?_) (fun k45 => ?_)
      · have hnx : ∀ q : Int, 0 ≤ q → q < x3_4_0 + 1 → P 23 (24 * a1 + q) ≠ a2 := by
          intro q q0 q1
          by_cases e : q = x3_4_0
          · rw [e]; (omega)
          · exact i3_0_0 q q0 (by (clear h0_b44 h1_b44 h2_b44 k45; omega))
        refine g_iinc (l1 := [(4, vI (x3_4_0 + 1)), (0, vR 0), (1, vI a1), (2, vL a2)]) dX12_conNamed_34 rfl (by decide) rfl ?_
        refine g_goto (tgt := 3) dX12_conNamed_37 (by decide) ?_
        refine g_forget (l1 := [(0, vR 0), (1, vI a1), (2, vL a2), (4, vI (x3_4_0 + 1))]) (by intro q hq; simp only [List.mem_cons, List.not_mem_nil, or_false] at hq ⊢; rcases hq with rfl | rfl | rfl | rfl <;> simp) ?_
        exact ih3_0 (x3_4_0 + 1) ⟨by (clear h0_b44 h1_b44 h2_b44 k45; omega), by (clear h0_b44 h1_b44 h2_b44 k45; omega)⟩ (by first | exact hnx | (intro q q0 q1; exfalso; (first | (clear h0_b44 h1_b44 h2_b44 k45; omega) | (clear h0_b44 h1_b44 h2_b44; omega) | (clear h0_b44 h1_b44 k45; omega) | (clear h0_b44 h2_b44 k45; omega) | (clear h1_b44 h2_b44 k45; omega) | (clear h0_b44 h1_b44; omega) | omega))) (by (clear h0_b44 h1_b44 h2_b44 k45; omega))
      · refine g_iload dX12_conNamed_31 rfl ?_
        exact g_retI dX12_conNamed_33 rfl (hQ x3_4_0 ⟨by (clear h0_b44 h1_b44 h2_b44 k45; omega), by (clear h0_b44 h1_b44 h2_b44 k45; omega)⟩ (by have q0 := bl_5 (k := a1) hB; (clear h0_b44 h1_b44 h2_b44 k45; omega)) ((fxi_some (g := fun i => P 23 (24 * a1 + i)) (by (clear h0_b44 h1_b44 h2_b44 k45; omega)) (by show P 23 (24 * a1 + _) = a2; (omega)) (fun q q0 q1 => i3_0_0 q q0 q1) _ (by (clear h0_b44 h1_b44 h2_b44 k45; omega))).symm))
  refine g_forget (l1 := [(0, vR 0), (1, vI a1), (2, vL a2), (4, vI 0)]) (by intro q hq; simp only [List.mem_cons, List.not_mem_nil, or_false] at hq ⊢; rcases hq with rfl | rfl | rfl | rfl <;> simp) ?_
  exact L3_0 _ 0 (by decide) (by first | exact hnx | (intro q q0 q1; exfalso; omega)) (Nat.lt_succ_self _)
