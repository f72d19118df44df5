/-! Contracts of the reference: md. -/
set_option maxRecDepth 100000 in
set_option maxHeartbeats 4000000 in
theorem m_X12_pattern (G : GT) (P : PH) (a1 : Int) (h_a1 : 0 ≤ a1 ∧ a1 ≤ 4) (hB : BdM P) (p_lx : (P 0 3 = 0 ∨ P 0 4 + 1 ≤ P 0 5) ∧ P 0 4 ≤ P 0 5) (p_po : 5 * P 0 36 ≤ 8 * P 0 4) (v_CF : CF P) (Q : Option PV → PH → Prop) (hQ : ∀ (P1 : PH) (_ : BdM P1) (_ : FrM ([3, 4, 5, 6, 7, 8, 9, 12, 36, 43], [19, 20, 21, 24, 25, 26, 27]) P P1) (_ : (P1 0 3 = 0 ∨ P1 0 4 + 1 ≤ P1 0 5) ∧ P1 0 4 ≤ P1 0 5) (_ : P 0 4 ≤ P1 0 4) (_ : P 0 8 ≤ 0 ∨ 0 < P1 0 8) (_ : LO P P1) (_ : 0 < P1 0 8 ∨ (WF P1 (P 0 37) (2800 * P 0 37 + P 0 36) (2800 * P 0 37 + P1 0 36) ∧ 5 * P1 0 36 ≤ 8 * P1 0 4)), Q none P1) : Ct WSM G 6 iX12_pattern [vR 0, vI a1] P Q := by
  refine Ct.of (by decide) (l0 := [(0, vR 0), (1, vI a1)]) rfl (Nat.le_of_ble_eq_true rfl) ?_
  have ivI_LO : LO P P := LO.rf
  obtain ⟨f, hf9⟩ : ∃ f, f = 2800 * P 0 37 + P 0 36 := ⟨_, rfl⟩
  refine g_aload_n dX12_pattern_0 rfl ?_
  refine g_iconst dX12_pattern_1 ?_
  refine m_p43 rfl dX12_pattern_2 ?_
  have hB1 := bs_43 (z := 0) hB (by decide)
  refine g_aload_n dX12_pattern_5 rfl ?_
  refine g_iload_n dX12_pattern_6 rfl ?_
  refine g_vV (av := [vI a1]) (o := 0) (st := []) (m_X12_opensPattern G (up P 0 43 0) a1 ⟨by omega, by omega⟩ hB1 (by have q0 := (up_same : (up P 0 43 0) 0 43 = 0); omega) _ (fun Pc2 hBc2 hFc2 gc2_o gc2_k gc2_z gc2_kq gc2_zq => ⟨rfl, ?_⟩)) cf_X12_opensPattern t_1780 rfl (by decide) rfl rfl rfl (Nat.le_of_ble_eq_true rfl) (by decide) rfl dX12_pattern_7
  have z3 : (up P 0 43 0) 0 43 = 0 := up_same
  have e43 := (up_same : (up P 0 43 0) 0 43 = 0)
  rw [e43] at gc2_o gc2_k gc2_z gc2_kq gc2_zq
  have hst := SX.start (P1 := Pc2) (kd := a1) hBc2 (by omega) gc2_k (by omega) gc2_z
  have hs37 := (((hFc2.1 37 rfl).trans ((up_k (by decide)).trans rfl)) : Pc2 0 37 = (P 0 37))
  have hs36 := (((hFc2.1 36 rfl).trans ((up_k (by decide)).trans rfl)) : Pc2 0 36 = (P 0 36))
  rw [hs37, hs36, ← hf9] at hst
  have iv4 : SX f 0 Pc2 := hst.1
  refine g_iconst dX12_pattern_10 ?_
  refine g_istore_n (l1 := [(2, vI 1), (0, vR 0), (1, vI a1)]) dX12_pattern_11 (by decide) rfl ?_
  have L12_4 : ∀ (n12_4 : Nat) (x12_2_4 : Int) (h_x12_2_4 : 0 ≤ x12_2_4 ∧ x12_2_4 ≤ 1) (H12_4 : PH) (hB12_4 : BdM H12_4) (hE12_4 : FrM ([3, 4, 5, 6, 7, 8, 9, 12, 36, 43], [19, 20, 21, 24, 25, 26, 27]) Pc2 H12_4) (i12_0_4 : 0 < H12_4 0 8 ∨ (x12_2_4 = 1 ∧ SX f 0 H12_4 ∧ pot H12_4 ≤ 8 * H12_4 0 4) ∨ (x12_2_4 = 0 ∧ WF H12_4 (P 0 37) f (2800 * P 0 37 + H12_4 0 36) ∧ 5 * H12_4 0 36 ≤ 8 * H12_4 0 4)) (i12_1_4 : P 0 8 ≤ 0 ∨ 0 < H12_4 0 8) (i12_2_4 : P 0 4 ≤ H12_4 0 4) (i12_3_4 : (H12_4 0 3 = 0 ∨ H12_4 0 4 + 1 ≤ H12_4 0 5) ∧ H12_4 0 4 ≤ H12_4 0 5) (w12_LO_4 : LO P H12_4) (hm12_4 : (1602 - H12_4 0 4 - 2000 * H12_4 0 8 : Int).toNat < n12_4), Go WSM G 6 iX12_pattern 12 [(0, vR 0), (2, vI x12_2_4)] [] H12_4 Q := by
    intro n12_4
    induction n12_4 with
    | zero => intro x12_2_4 h_x12_2_4 H12_4 hB12_4 hE12_4 i12_0_4 i12_1_4 i12_2_4 i12_3_4 w12_LO_4 hm12_4; exact absurd hm12_4 (Nat.not_lt_zero _)
    | succ n12_4 ih12_4 =>
    intro x12_2_4 h_x12_2_4 H12_4 hB12_4 hE12_4 i12_0_4 i12_1_4 i12_2_4 i12_3_4 w12_LO_4 hm12_4
    refine g_iload_n dX12_pattern_12 rfl ?_
    refine g_if_eq (tgt := 39) dX12_pattern_13 (by decide) ⟨by omega, by omega⟩ (fun k48 => ?_) (fun k48 => ?_)
    · exact g_retV dX12_pattern_39 rfl (hQ _ hB12_4 (FrM.c (FrM.c (FrM.s FrM.rf rfl) hFc2 rfl) hE12_4 rfl) (by have q0 := b0_3 hB12_4; have q1 := b0_4 hB12_4; have q2 := b0_5 hB12_4; omega) (by have q0 := b0_4 hB12_4; omega) (by have q0 := b0_8 hB12_4; omega) (w12_LO_4) (i12_0_4.elim Or.inl (fun h => h.elim (fun h => by first | (exfalso; omega) | (left; omega)) (fun h => Or.inr (by rw [hf9] at h; exact h.2)))))
    · refine g_aload_n dX12_pattern_16 rfl ?_
      refine m_g8 (z := (H12_4 0 8)) rfl dX12_pattern_17 rfl ?_
      have f49 := b0_8 hB12_4
      refine g_if_ne (tgt := 39) dX12_pattern_20 (by decide) ⟨by have q0 := b0_8 hB12_4; omega, by have q0 := b0_8 hB12_4; omega⟩ (fun k50 => ?_) (fun k50 => ?_)
      · exact g_retV dX12_pattern_39 rfl (hQ _ hB12_4 (FrM.c (FrM.c (FrM.s FrM.rf rfl) hFc2 rfl) hE12_4 rfl) (by have q0 := b0_3 hB12_4; have q1 := b0_4 hB12_4; have q2 := b0_5 hB12_4; omega) (by have q0 := b0_4 hB12_4; omega) (by have q0 := b0_8 hB12_4; omega) (w12_LO_4) (i12_0_4.elim Or.inl (fun h => h.elim (fun h => by first | (exfalso; omega) | (left; omega)) (fun h => Or.inr (by rw [hf9] at h; exact h.2)))))
      · have hs9 : SX f 0 H12_4 ∧ pot H12_4 ≤ 8 * H12_4 0 4 := by
          rcases i12_0_4 with h | h | h
          · exfalso; omega
          · exact h.2
          · exfalso; omega
        have iv51 : SX f 0 H12_4 := hs9.1
        refine g_aload_n dX12_pattern_23 rfl ?_
        have hlo : LO P H12_4 := w12_LO_4
        refine g_vI (av := []) (o := 0) (st := []) (m_X12_alternative G H12_4 (f)  hB12_4 (by have q0 := b0_3 hB12_4; have q1 := b0_4 hB12_4; have q2 := b0_5 hB12_4; omega) (hs9.2) (iv51) (CF.fr (F := ([3, 4, 5, 6, 7, 8, 9, 12, 36, 43], [19, 20, 21, 24, 25, 26, 27])) v_CF (FrM.c (FrM.c (FrM.s FrM.rf rfl) hFc2 rfl) hE12_4 rfl) rfl) _ (fun rc52 hc52 Pc52 hBc52 hFc52 gc52_lx gc52_mo gc52_pe gc52_lo gc52_ad gc52_sx => ⟨rc52, rfl, ?_⟩)) cf_X12_alternative t_1784 rfl (by decide) rfl rfl rfl (Nat.le_of_ble_eq_true rfl) (by decide) rfl dX12_pattern_24
        have hax := gc52_sx
        have iv53 : LO P Pc52 := hlo.trans gc52_lo
        refine g_if_eq (tgt := 12) dX12_pattern_27 (by decide) ⟨by omega, by omega⟩ (fun k54 => ?_) (fun k54 => ?_)
        · refine g_forget (l1 := [(0, vR 0), (2, vI x12_2_4)]) (by intro q hq; simp only [List.mem_cons, List.not_mem_nil, or_false] at hq ⊢; rcases hq with rfl | rfl <;> simp) ?_
          exact ih12_4 x12_2_4 ⟨by omega, by omega⟩ _ hBc52 (FrM.c (FrM.c FrM.rf hE12_4 rfl) hFc52 rfl) (by first | exact hgx | exact hax.elim Or.inl (fun h => h.elim (fun h => by exfalso; omega) (fun h => Or.inr (Or.inl ⟨by omega, h.2⟩))) | exact Or.inr (Or.inl ⟨rfl, hNONE, by have q4 := (rfl : Pc52 0 4 = (Pc52 0 4)); have q := hst.2; omega⟩)) (by have q0 := b0_8 hBc52; omega) (by have q0 := b0_4 hBc52; omega) (by have q0 := b0_3 hBc52; have q1 := b0_4 hBc52; have q2 := b0_5 hBc52; omega) iv53 (by have q0 := b0_4 hBc52; have q1 := b0_8 hBc52; omega)
        · refine g_aload_n dX12_pattern_30 rfl ?_
          refine g_iconst dX12_pattern_31 ?_
          have hlo : LO P Pc52 := iv53
          refine g_vI (av := [vI 0]) (o := 0) (st := []) (m_X12_goesOn G Pc52 (f) 0 (by decide) hBc52 (by have q0 := b0_3 hBc52; have q1 := b0_4 hBc52; have q2 := b0_5 hBc52; omega) (hax.elim Or.inl (fun h => h.elim (fun h => Or.inr h.2) (fun h => by exfalso; omega))) (CF.fr (F := ([3, 4, 5, 6, 7, 8, 9, 12, 36, 43], [19, 20, 21, 24, 25, 26, 27])) v_CF (FrM.c (FrM.c (FrM.c (FrM.s FrM.rf rfl) hFc2 rfl) hE12_4 rfl) hFc52 rfl) rfl) _ (fun rc55 hc55 Pc55 hBc55 hFc55 gc55_lx gc55_mo gc55_pe gc55_lo gc55_sx => ⟨rc55, rfl, ?_⟩)) cf_X12_goesOn t_1807 rfl (by decide) rfl rfl rfl (Nat.le_of_ble_eq_true rfl) (by decide) rfl dX12_pattern_32
          have z56 : Pc52 0 37 = (P 0 37) := ((hFc52.1 37 rfl).trans ((hE12_4.1 37 rfl).trans ((hFc2.1 37 rfl).trans ((up_k (by decide)).trans rfl))))
          have e37 := (((hFc52.1 37 rfl).trans ((hE12_4.1 37 rfl).trans ((hFc2.1 37 rfl).trans ((up_k (by decide)).trans rfl)))) : Pc52 0 37 = (P 0 37))
          have hgx := gc55_sx
          rw [e37] at hgx
          have iv57 : LO P Pc55 := hlo.trans gc55_lo
          refine g_istore_n (l1 := [(2, vI rc55), (0, vR 0)]) dX12_pattern_35 (by decide) rfl ?_
          refine g_goto (tgt := 12) dX12_pattern_36 (by decide) ?_
          refine g_forget (l1 := [(0, vR 0), (2, vI rc55)]) (by intro q hq; simp only [List.mem_cons, List.not_mem_nil, or_false] at hq ⊢; rcases hq with rfl | rfl <;> simp) ?_
          exact ih12_4 rc55 ⟨by omega, by omega⟩ _ hBc55 (FrM.c (FrM.c (FrM.c FrM.rf hE12_4 rfl) hFc52 rfl) hFc55 rfl) (by first | exact hgx | exact hax.elim Or.inl (fun h => h.elim (fun h => by exfalso; omega) (fun h => Or.inr (Or.inl ⟨by omega, h.2⟩))) | exact Or.inr (Or.inl ⟨rfl, hNONE, by have q4 := (rfl : Pc55 0 4 = (Pc55 0 4)); have q := hst.2; omega⟩)) (by have q0 := b0_8 hBc55; omega) (by have q0 := b0_4 hBc55; omega) (by have q0 := b0_3 hBc55; have q1 := b0_4 hBc55; have q2 := b0_5 hBc55; omega) iv57 (by have q0 := b0_4 hBc55; have q1 := b0_8 hBc55; omega)
  refine g_forget (l1 := [(0, vR 0), (2, vI 1)]) (by intro q hq; simp only [List.mem_cons, List.not_mem_nil, or_false] at hq ⊢; rcases hq with rfl | rfl <;> simp) ?_
  exact L12_4 _ 1 (by decide) _ hBc2 FrM.rf (by first | exact hgx | exact hax.elim Or.inl (fun h => h.elim (fun h => by exfalso; omega) (fun h => Or.inr (Or.inl ⟨by omega, h.2⟩))) | exact Or.inr (Or.inl ⟨rfl, iv4, by have q4 := (((hFc2.1 4 rfl).trans ((up_k (by decide)).trans rfl)) : Pc2 0 4 = (P 0 4)); have q := hst.2; omega⟩)) (by have q0 := (((hFc2.1 8 rfl).trans ((up_k (by decide)).trans rfl)) : Pc2 0 8 = (P 0 8)); have q1 := b0_8 hB; omega) (by have q0 := (((hFc2.1 4 rfl).trans ((up_k (by decide)).trans rfl)) : Pc2 0 4 = (P 0 4)); have q1 := b0_4 hB; omega) (by have q0 := (((hFc2.1 3 rfl).trans ((up_k (by decide)).trans rfl)) : Pc2 0 3 = (P 0 3)); have q1 := b0_3 hB; have q2 := (((hFc2.1 4 rfl).trans ((up_k (by decide)).trans rfl)) : Pc2 0 4 = (P 0 4)); have q3 := b0_4 hB; have q4 := (((hFc2.1 5 rfl).trans ((up_k (by decide)).trans rfl)) : Pc2 0 5 = (P 0 5)); have q5 := b0_5 hB; omega) (LO.fr (F := ([43], [24, 25])) ivI_LO (FrM.c (FrM.s FrM.rf rfl) hFc2 rfl) rfl) (Nat.lt_succ_self _)
