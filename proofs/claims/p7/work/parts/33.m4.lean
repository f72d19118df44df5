section
/-! Contracts of the reference: m4. -/
set_option maxRecDepth 100000 in
set_option maxHeartbeats 4000000 in
theorem m_X12_valuesIn (G : GT) (P : PH) (a1 : Int) (h_a1 : 0 ≤ a1 ∧ a1 ≤ 2147483647) (hB : BdM P) (v_okC : okC P) (Q : Option PV → PH → Prop) (hQ : ∀ (P1 : PH) (_ : BdM P1) (_ : FrM ([], [44]) P P1) (_ : ∀ c : Int, 0 ≤ c → c < P 11 (P 0 13) → 0 ≤ P1 44 c ∧ P1 44 c < vals P (P 0 13) (P 12 (4 * P 0 13 + c))), Q none P1) : Ct WSM G 3 iX12_valuesIn [vR 0, vI a1] P Q := by
  refine Ct.of (by decide) (l0 := [(0, vR 0), (1, vI a1)]) rfl (Nat.le_of_ble_eq_true rfl) ?_
  refine g_iload_n dX12_valuesIn_0 rfl ?_
  refine g_istore_n (l1 := [(2, vI a1), (0, vR 0), (1, vI a1)]) dX12_valuesIn_1 (by decide) rfl ?_
  refine g_aload_n dX12_valuesIn_2 rfl ?_
  refine g_vI (av := []) (o := 0) (st := []) (m_X12_columns G P  hB  _ (fun rc1 hc1 gc1_c => ⟨rc1, rfl, ?_⟩)) cf_X12_columns t_1827 rfl (by decide) rfl rfl rfl (Nat.le_of_ble_eq_true rfl) (by decide) rfl dX12_valuesIn_3
  refine g_iconst dX12_valuesIn_6 ?_
  refine g_isub dX12_valuesIn_7 ?_
  refine g_istore_n (l1 := [(3, vI (rc1 - 1)), (2, vI a1), (0, vR 0), (1, vI a1)]) dX12_valuesIn_8 (by decide) rfl ?_
  have L9_1 : ∀ (n9_1 : Nat) (x9_3_1 : Int) (h_x9_3_1 : (-1) ≤ x9_3_1 ∧ x9_3_1 ≤ 3) (x9_2_1 : Int) (h_x9_2_1 : 0 ≤ x9_2_1 ∧ x9_2_1 ≤ 2147483647) (H9_1 : PH) (hB9_1 : BdM H9_1) (hE9_1 : FrM ([], [44]) P H9_1) (i9_0_1 : x9_3_1 < P 11 (P 0 13)) (i9_1_1 : ∀ c : Int, x9_3_1 < c → c < P 11 (P 0 13) → 0 ≤ H9_1 44 c ∧ H9_1 44 c < vals P (P 0 13) (P 12 (4 * P 0 13 + c))) (hm9_1 : ((x9_3_1 - (-2)) : Int).toNat < n9_1), Go WSM G 3 iX12_valuesIn 9 [(0, vR 0), (2, vI x9_2_1), (3, vI x9_3_1)] [] H9_1 Q := by
    intro n9_1
    induction n9_1 with
    | zero => intro x9_3_1 h_x9_3_1 x9_2_1 h_x9_2_1 H9_1 hB9_1 hE9_1 i9_0_1 i9_1_1 hm9_1; exact absurd hm9_1 (Nat.not_lt_zero _)
    | succ n9_1 ih9_1 =>
    intro x9_3_1 h_x9_3_1 x9_2_1 h_x9_2_1 H9_1 hB9_1 hE9_1 i9_0_1 i9_1_1 hm9_1
    refine g_iload_n dX12_valuesIn_9 rfl ?_
    refine g_if_lt (tgt := 40) dX12_valuesIn_10 (by decide) ⟨by omega, by omega⟩ (fun k34 => ?_) (fun k34 => ?_)
    · exact g_retV dX12_valuesIn_40 rfl (hQ _ hB9_1 (FrM.c FrM.rf hE9_1 rfl) (fun c c0 c1 => i9_1_1 c (by omega) c1))
    · refine g_aload_n dX12_valuesIn_13 rfl ?_
      refine m_g67 rfl dX12_valuesIn_14 ?_
      refine g_iload_n dX12_valuesIn_17 rfl ?_
      refine g_iload_n dX12_valuesIn_18 rfl ?_
      refine g_aload_n dX12_valuesIn_19 rfl ?_
      refine g_iload_n dX12_valuesIn_20 rfl ?_
      refine g_vI (av := [vI x9_3_1]) (o := 0) (st := [vI x9_2_1, vI x9_3_1, vR 44]) (m_X12_columnValues G H9_1 x9_3_1 ⟨by omega, by omega⟩ hB9_1 (by have q0 := (((congrFun (hE9_1.2 11 rfl rfl) _).trans rfl) : H9_1 11 (H9_1 0 13) = (P 11 (H9_1 0 13))); have q1 := bl_11 (k := (H9_1 0 13)) hB; have q2 := ((congrArg (H9_1 11) ((hE9_1.1 13 rfl).trans rfl)).trans ((congrFun (hE9_1.2 11 rfl rfl) _).trans rfl) : H9_1 11 (H9_1 0 13) = (P 11 (P 0 13))); have q3 := bl_11 (k := (P 0 13)) hB; omega) (okC.fr (F := ([], [44])) v_okC (FrM.c FrM.rf hE9_1 rfl) rfl) _ (fun rc35 hc35 gc35_v => ⟨rc35, rfl, ?_⟩)) cf_X12_columnValues t_1831 rfl (by decide) rfl rfl rfl (Nat.le_of_ble_eq_true rfl) (by decide) rfl dX12_valuesIn_21
      have z36 : H9_1 0 13 = (P 0 13) := ((hE9_1.1 13 rfl).trans rfl)
      have hcv : rc35 = vals P (P 0 13) (P 12 (4 * P 0 13 + x9_3_1)) := by have q := gc35_v; rw [show H9_1 0 13 = _ from ((hE9_1.1 13 rfl).trans rfl), show H9_1 12 (4 * P 0 13 + x9_3_1) = _ from ((congrFun (hE9_1.2 12 rfl rfl) _).trans rfl), vals_eq (P := P) (fun _ => ((congrFun (hE9_1.2 3 rfl rfl) _).trans rfl))] at q; exact q
      refine g_irem dX12_valuesIn_24 ⟨⟨by omega, by omega⟩, by omega⟩ ?_
      refine g_nm (fun b37 e_b37 => ?_)
      have h_b37 := irem_b (x := x9_2_1) (y := rc35) ⟨by omega, by omega⟩ ⟨by omega, by omega⟩
      rw [← e_b37] at h_b37
      have hrm := h_b37
      refine m_s44 dX12_valuesIn_25 ⟨by omega, by omega⟩ ?_
      have hB38 := ba_44 (z := b37) (k := x9_3_1) hB9_1 ⟨by omega, by omega⟩
      have hv9 : ∀ c : Int, x9_3_1 + (-1) < c → c < P 11 (P 0 13) → 0 ≤ (up H9_1 44 x9_3_1 b37) 44 c ∧ (up H9_1 44 x9_3_1 b37) 44 c < vals P (P 0 13) (P 12 (4 * P 0 13 + c)) := by
        intro c c0 c1
        by_cases e : c = x9_3_1
        · rw [e, show (up H9_1 44 x9_3_1 b37) 44 x9_3_1 = _ from up_same]; omega
        · rw [show (up H9_1 44 x9_3_1 b37) 44 c = _ from ((up_k e).trans rfl)]; exact i9_1_1 c (by omega) c1
      refine g_iload_n dX12_valuesIn_26 rfl ?_
      refine g_aload_n dX12_valuesIn_27 rfl ?_
      refine g_iload_n dX12_valuesIn_28 rfl ?_
      refine g_vI (av := [vI x9_3_1]) (o := 0) (st := [vI x9_2_1]) (m_X12_columnValues G (up H9_1 44 x9_3_1 b37) x9_3_1 ⟨by omega, by omega⟩ hB38 (by have q0 := (((up_o (by decide)).trans ((congrFun (hE9_1.2 11 rfl rfl) _).trans rfl)) : (up H9_1 44 x9_3_1 b37) 11 ((up H9_1 44 x9_3_1 b37) 0 13) = (P 11 ((up H9_1 44 x9_3_1 b37) 0 13))); have q1 := bl_11 (k := ((up H9_1 44 x9_3_1 b37) 0 13)) hB; have q2 := ((congrArg ((up H9_1 44 x9_3_1 b37) 11) ((up_o (by decide)).trans ((hE9_1.1 13 rfl).trans rfl))).trans ((up_o (by decide)).trans ((congrFun (hE9_1.2 11 rfl rfl) _).trans rfl)) : (up H9_1 44 x9_3_1 b37) 11 ((up H9_1 44 x9_3_1 b37) 0 13) = (P 11 (P 0 13))); have q3 := bl_11 (k := (P 0 13)) hB; omega) (okC.fr (F := ([], [44])) v_okC (FrM.a (FrM.c FrM.rf hE9_1 rfl) rfl rfl) rfl) _ (fun rc39 hc39 gc39_v => ⟨rc39, rfl, ?_⟩)) cf_X12_columnValues t_1831 rfl (by decide) rfl rfl rfl (Nat.le_of_ble_eq_true rfl) (by decide) rfl dX12_valuesIn_29
      have z40 : (up H9_1 44 x9_3_1 b37) 0 13 = (P 0 13) := ((up_o (by decide)).trans ((hE9_1.1 13 rfl).trans rfl))
      refine g_idiv dX12_valuesIn_32 ⟨⟨by omega, by omega⟩, by omega⟩ ?_
      refine g_nm (fun b41 e_b41 => ?_)
      have h_b41 := idiv_b (x := x9_2_1) (y := rc39) ⟨by omega, by omega⟩ ⟨by omega, by omega⟩
      rw [← e_b41] at h_b41
      refine g_istore_n (l1 := [(2, vI b41), (0, vR 0), (3, vI x9_3_1)]) dX12_valuesIn_33 (by decide) rfl ?_
      refine g_iinc (l1 := [(3, vI (x9_3_1 + (-1))), (2, vI b41), (0, vR 0)]) dX12_valuesIn_34 rfl (by decide) rfl ?_
      refine g_goto (tgt := 9) dX12_valuesIn_37 (by decide) ?_
      refine g_forget (l1 := [(0, vR 0), (2, vI b41), (3, vI (x9_3_1 + (-1)))]) (by intro q hq; simp only [List.mem_cons, List.not_mem_nil, or_false] at hq ⊢; rcases hq with rfl | rfl | rfl <;> simp) ?_
      exact ih9_1 (x9_3_1 + (-1)) ⟨by omega, by omega⟩ b41 ⟨by omega, by omega⟩ _ hB38 (FrM.a (FrM.c FrM.rf hE9_1 rfl) rfl rfl) (by omega) (by first | exact hv9 | (intro c c0 c1; exfalso; omega)) (by omega)
  refine g_forget (l1 := [(0, vR 0), (2, vI a1), (3, vI (rc1 - 1))]) (by intro q hq; simp only [List.mem_cons, List.not_mem_nil, or_false] at hq ⊢; rcases hq with rfl | rfl | rfl <;> simp) ?_
  exact L9_1 _ (rc1 - 1) ⟨by omega, by omega⟩ a1 ⟨by omega, by omega⟩ _ hB FrM.rf (by omega) (by first | exact hv9 | (intro c c0 c1; exfalso; omega)) (Nat.lt_succ_self _)
set_option maxRecDepth 100000 in
set_option maxHeartbeats 4000000 in
theorem m_X12_fitting (G : GT) (P : PH) (a1 : Int) (h_a1 : 0 ≤ a1 ∧ a1 ≤ 2147483647) (hB : BdM P) (v_okC : okC P) (Q : Option PV → PH → Prop) (hQ : ∀ (r : Int) (_ : 0 ≤ r ∧ r ≤ 4095) (P1 : PH) (_ : BdM P1) (_ : FrM ([], [44]) P P1), Q (some (vI r)) P1) : Ct WSM G 4 iX12_fitting [vR 0, vI a1] P Q := by
  refine Ct.of (by decide) (l0 := [(0, vR 0), (1, vI a1)]) rfl (Nat.le_of_ble_eq_true rfl) ?_
  refine g_aload_n dX12_fitting_0 rfl ?_
  refine g_iload_n dX12_fitting_1 rfl ?_
  refine g_vV (av := [vI a1]) (o := 0) (st := []) (m_X12_valuesIn G P a1 ⟨by omega, by omega⟩ hB v_okC _ (fun Pc1 hBc1 hFc1 gc1_vv => ⟨rfl, ?_⟩)) cf_X12_valuesIn t_1903 rfl (by decide) rfl rfl rfl (Nat.le_of_ble_eq_true rfl) (by decide) rfl dX12_fitting_2
  refine g_iconst dX12_fitting_5 ?_
  refine g_aload_n dX12_fitting_6 rfl ?_
  refine m_g62 (z := (P 0 62)) rfl dX12_fitting_7 ((hFc1.1 62 rfl).trans rfl) ?_
  refine g_ishl dX12_fitting_10 ?_
  refine g_nm (fun b2 e_b2 => ?_)
  have h_b2 : 1 ≤ (ishl 1 (P 0 62)) ∧ (ishl 1 (P 0 62)) ≤ 4096 := (ishl1 12 (by decide) (y := (P 0 62)) ⟨by have q0 := b0_62 hB; omega, by have q0 := b0_62 hB; omega⟩).2
  rw [← e_b2] at h_b2
  refine g_iconst dX12_fitting_11 ?_
  refine g_isub dX12_fitting_12 ?_
  refine g_istore_n (l1 := [(2, vI (b2 - 1)), (0, vR 0), (1, vI a1)]) dX12_fitting_13 (by decide) rfl ?_
  refine g_iconst dX12_fitting_14 ?_
  refine g_istore_n (l1 := [(3, vI 0), (2, vI (b2 - 1)), (0, vR 0), (1, vI a1)]) dX12_fitting_15 (by decide) rfl ?_
  have L16_2 : ∀ (n16_2 : Nat) (x16_3_2 : Int) (h_x16_3_2 : 0 ≤ x16_3_2 ∧ x16_3_2 ≤ 4) (x16_2_2 : Int) (h_x16_2_2 : 0 ≤ x16_2_2 ∧ x16_2_2 ≤ 4095) (hm16_2 : ((5 - x16_3_2) : Int).toNat < n16_2), Go WSM G 4 iX12_fitting 16 [(0, vR 0), (2, vI x16_2_2), (3, vI x16_3_2)] [] Pc1 Q := by
    intro n16_2
    induction n16_2 with
    | zero => intro x16_3_2 h_x16_3_2 x16_2_2 h_x16_2_2 hm16_2; exact absurd hm16_2 (Nat.not_lt_zero _)
    | succ n16_2 ih16_2 =>
    intro x16_3_2 h_x16_3_2 x16_2_2 h_x16_2_2 hm16_2
    refine g_iload_n dX12_fitting_16 rfl ?_
    refine g_aload_n dX12_fitting_17 rfl ?_
    refine g_vI (av := []) (o := 0) (st := [vI x16_3_2]) (m_X12_columns G Pc1  hBc1  _ (fun rc46 hc46 gc46_c => ⟨rc46, rfl, ?_⟩)) cf_X12_columns t_1827 rfl (by decide) rfl rfl rfl (Nat.le_of_ble_eq_true rfl) (by decide) rfl dX12_fitting_18
    have z47 : Pc1 0 13 = (P 0 13) := ((hFc1.1 13 rfl).trans rfl)
    refine g_icmp_ge (tgt := 44) dX12_fitting_21 (by decide) ⟨by omega, by omega⟩ ⟨by omega, by omega⟩ (fun k48 => ?_) (fun k48 => ?_)
    · refine g_iload_n dX12_fitting_44 rfl ?_
      exact g_retI dX12_fitting_45 rfl (hQ x16_2_2 ⟨by omega, by omega⟩ _ hBc1 (FrM.c FrM.rf hFc1 rfl) )
    · refine g_iload_n dX12_fitting_24 rfl ?_
      refine g_aload_n dX12_fitting_25 rfl ?_
      refine g_iload_n dX12_fitting_26 rfl ?_
      refine g_aload_n dX12_fitting_27 rfl ?_
      refine m_g67 rfl dX12_fitting_28 ?_
      refine g_iload_n dX12_fitting_31 rfl ?_
      refine m_l44 (z := (Pc1 44 x16_3_2)) dX12_fitting_32 ⟨by omega, by omega⟩ rfl ?_
      have f49 := bl_44 (k := x16_3_2) hBc1
      refine g_vI (av := [vI x16_3_2, vI (Pc1 44 x16_3_2)]) (o := 0) (st := [vI x16_2_2]) (m_X12_setIn G Pc1 x16_3_2 (Pc1 44 x16_3_2) ⟨by omega, by omega⟩ ⟨by have q0 := bl_44 (k := x16_3_2) hBc1; omega, by have q0 := bl_44 (k := x16_3_2) hBc1; omega⟩ hBc1  _ (fun rc50 hc50 => ⟨rc50, rfl, ?_⟩)) cf_X12_setIn t_1907 rfl (by decide) rfl rfl rfl (Nat.le_of_ble_eq_true rfl) (by decide) rfl dX12_fitting_33
      refine g_iand dX12_fitting_36 ?_
      refine g_nm (fun b51 e_b51 => ?_)
      have h_b51 := iand_l (x := x16_2_2) (y := rc50) ⟨by omega, by omega⟩
      rw [← e_b51] at h_b51
      refine g_istore_n (l1 := [(2, vI b51), (0, vR 0), (3, vI x16_3_2)]) dX12_fitting_37 (by decide) rfl ?_
      refine g_iinc (l1 := [(3, vI (x16_3_2 + 1)), (2, vI b51), (0, vR 0)]) dX12_fitting_38 rfl (by decide) rfl ?_
      refine g_goto (tgt := 16) dX12_fitting_41 (by decide) ?_
      refine g_forget (l1 := [(0, vR 0), (2, vI b51), (3, vI (x16_3_2 + 1))]) (by intro q hq; simp only [List.mem_cons, List.not_mem_nil, or_false] at hq ⊢; rcases hq with rfl | rfl | rfl <;> simp) ?_
      exact ih16_2 (x16_3_2 + 1) ⟨by omega, by omega⟩ b51 ⟨by omega, by omega⟩ (by omega)
  refine g_forget (l1 := [(0, vR 0), (2, vI (b2 - 1)), (3, vI 0)]) (by intro q hq; simp only [List.mem_cons, List.not_mem_nil, or_false] at hq ⊢; rcases hq with rfl | rfl | rfl <;> simp) ?_
  exact L16_2 _ 0 (by decide) (b2 - 1) ⟨by omega, by omega⟩ (Nat.lt_succ_self _)
set_option maxRecDepth 100000 in
set_option maxHeartbeats 4000000 in
theorem m_X12_countsRows (G : GT) (P : PH) (hB : BdM P) (v_okC : okC P) (Q : Option PV → PH → Prop) (hQ : ∀ (P1 : PH) (_ : BdM P1) (_ : FrM ([], [44, 45]) P P1), Q none P1) : Ct WSM G 5 iX12_countsRows [vR 0] P Q := by
  refine Ct.of (by decide) (l0 := [(0, vR 0)]) rfl (Nat.le_of_ble_eq_true rfl) ?_
  refine g_iconst dX12_countsRows_0 ?_
  refine g_istore_n (l1 := [(1, vI 0), (0, vR 0)]) dX12_countsRows_1 (by decide) rfl ?_
  have L2_0 : ∀ (n2_0 : Nat) (x2_1_0 : Int) (h_x2_1_0 : 0 ≤ x2_1_0 ∧ x2_1_0 ≤ 4096) (H2_0 : PH) (hB2_0 : BdM H2_0) (hE2_0 : FrM ([], [45]) P H2_0) (hm2_0 : ((4097 - x2_1_0) : Int).toNat < n2_0), Go WSM G 5 iX12_countsRows 2 [(0, vR 0), (1, vI x2_1_0)] [] H2_0 Q := by
    intro n2_0
    induction n2_0 with
    | zero => intro x2_1_0 h_x2_1_0 H2_0 hB2_0 hE2_0 hm2_0; exact absurd hm2_0 (Nat.not_lt_zero _)
    | succ n2_0 ih2_0 =>
    intro x2_1_0 h_x2_1_0 H2_0 hB2_0 hE2_0 hm2_0
    refine g_iload_n dX12_countsRows_2 rfl ?_
    refine g_sipush dX12_countsRows_3 (by decide) ?_
    refine g_icmp_ge (tgt := 22) dX12_countsRows_6 (by decide) ⟨by omega, by omega⟩ (by decide) (fun k384 => ?_) (fun k384 => ?_)
    · refine g_iconst dX12_countsRows_22 ?_
      refine g_istore_n (l1 := [(1, vI 0), (0, vR 0)]) dX12_countsRows_23 (by decide) rfl ?_
      have L24_384 : ∀ (n24_384 : Nat) (x24_1_384 : Int) (h_x24_1_384 : 0 ≤ x24_1_384 ∧ x24_1_384 ≤ 20000) (H24_384 : PH) (hB24_384 : BdM H24_384) (hE24_384 : FrM ([], [44, 45]) H2_0 H24_384) (hm24_384 : ((20001 - x24_1_384) : Int).toNat < n24_384), Go WSM G 5 iX12_countsRows 24 [(0, vR 0), (1, vI x24_1_384)] [] H24_384 Q := by
        intro n24_384
        induction n24_384 with
        | zero => intro x24_1_384 h_x24_1_384 H24_384 hB24_384 hE24_384 hm24_384; exact absurd hm24_384 (Nat.not_lt_zero _)
        | succ n24_384 ih24_384 =>
        intro x24_1_384 h_x24_1_384 H24_384 hB24_384 hE24_384 hm24_384
        refine g_iload_n dX12_countsRows_24 rfl ?_
        refine g_aload_n dX12_countsRows_25 rfl ?_
        refine m_g52 (z := (P 0 52)) rfl dX12_countsRows_26 ((hE24_384.1 52 rfl).trans ((hE2_0.1 52 rfl).trans rfl)) ?_
        have f496 := b0_52 hB
        refine g_icmp_ge (tgt := 52) dX12_countsRows_29 (by decide) ⟨by omega, by omega⟩ ⟨by have q0 := b0_52 hB; omega, by have q0 := b0_52 hB; omega⟩ (fun k497 => ?_) (fun k497 => ?_)
        · exact g_retV dX12_countsRows_52 rfl (hQ _ hB24_384 (FrM.c (FrM.c FrM.rf hE2_0 rfl) hE24_384 rfl) )
        · refine g_aload_n dX12_countsRows_32 rfl ?_
          refine m_g68 rfl dX12_countsRows_33 ?_
          refine g_aload_n dX12_countsRows_36 rfl ?_
          refine g_iload_n dX12_countsRows_37 rfl ?_
          refine g_vI (av := [vI x24_1_384]) (o := 0) (st := [vR 45]) (m_X12_fitting G H24_384 x24_1_384 ⟨by omega, by omega⟩ hB24_384 (okC.fr (F := ([], [44, 45])) v_okC (FrM.c (FrM.c FrM.rf hE2_0 rfl) hE24_384 rfl) rfl) _ (fun rc498 hc498 Pc498 hBc498 hFc498 => ⟨rc498, rfl, ?_⟩)) cf_X12_fitting t_1899 rfl (by decide) rfl rfl rfl (Nat.le_of_ble_eq_true rfl) (by decide) rfl dX12_countsRows_38
          refine g_dup2 dX12_countsRows_41 rfl rfl ?_
          refine m_l45 (z := (H24_384 45 rc498)) dX12_countsRows_42 ⟨by omega, by omega⟩ ((congrFun (hFc498.2 45 rfl rfl) _).trans rfl) ?_
          refine g_iconst dX12_countsRows_43 ?_
          refine g_iadd dX12_countsRows_44 ?_
          refine g_norm (fun r499 h_r499 e_r499 => ?_)
          refine m_s45 dX12_countsRows_45 ⟨by omega, by omega⟩ ?_
          have hB500 := ba_45 (z := r499) (k := rc498) hBc498 ⟨by omega, by omega⟩
          refine g_iinc (l1 := [(1, vI (x24_1_384 + 1)), (0, vR 0)]) dX12_countsRows_46 rfl (by decide) rfl ?_
          refine g_goto (tgt := 24) dX12_countsRows_49 (by decide) ?_
          refine g_forget (l1 := [(0, vR 0), (1, vI (x24_1_384 + 1))]) (by intro q hq; simp only [List.mem_cons, List.not_mem_nil, or_false] at hq ⊢; rcases hq with rfl | rfl <;> simp) ?_
          exact ih24_384 (x24_1_384 + 1) ⟨by omega, by omega⟩ _ hB500 (FrM.a (FrM.c (FrM.c FrM.rf hE24_384 rfl) hFc498 rfl) rfl rfl) (by omega)
      refine g_forget (l1 := [(0, vR 0), (1, vI 0)]) (by intro q hq; simp only [List.mem_cons, List.not_mem_nil, or_false] at hq ⊢; rcases hq with rfl | rfl <;> simp) ?_
      exact L24_384 _ 0 (by decide) _ hB2_0 FrM.rf (Nat.lt_succ_self _)
    · refine g_aload_n dX12_countsRows_9 rfl ?_
      refine m_g68 rfl dX12_countsRows_10 ?_
      refine g_iload_n dX12_countsRows_13 rfl ?_
      refine g_iconst dX12_countsRows_14 ?_
      refine m_s45 dX12_countsRows_15 ⟨by omega, by omega⟩ ?_
      have hB501 := ba_45 (z := 0) (k := x2_1_0) hB2_0 (by decide)
      refine g_iinc (l1 := [(1, vI (x2_1_0 + 1)), (0, vR 0)]) dX12_countsRows_16 rfl (by decide) rfl ?_
      refine g_goto (tgt := 2) dX12_countsRows_19 (by decide) ?_
      refine g_forget (l1 := [(0, vR 0), (1, vI (x2_1_0 + 1))]) (by intro q hq; simp only [List.mem_cons, List.not_mem_nil, or_false] at hq ⊢; rcases hq with rfl | rfl <;> simp) ?_
      exact ih2_0 (x2_1_0 + 1) ⟨by omega, by omega⟩ _ hB501 (FrM.a (FrM.c FrM.rf hE2_0 rfl) rfl rfl) (by omega)
  refine g_forget (l1 := [(0, vR 0), (1, vI 0)]) (by intro q hq; simp only [List.mem_cons, List.not_mem_nil, or_false] at hq ⊢; rcases hq with rfl | rfl <;> simp) ?_
  exact L2_0 _ 0 (by decide) _ hB FrM.rf (Nat.lt_succ_self _)
set_option maxRecDepth 100000 in
set_option maxHeartbeats 4000000 in
theorem m_X12_arranges (G : GT) (P : PH) (a1 : Int) (h_a1 : 0 ≤ a1 ∧ a1 ≤ 21) (hB : BdM P) (p_st : P 0 74 ≤ 199999999) (v_MVw : MVw P) (v_RE : RE P) (Q : Option PV → PH → Prop) (hQ : ∀ (P1 : PH) (_ : BdM P1) (_ : FrM ([62, 66, 74], [41, 42, 43]) P P1) (_ : P1 0 74 = P 0 74 + 1) (_ : MV P1) (_ : RE P1) (_ : RLt P1), Q none P1) : Ct WSM G 2 iX12_arranges [vR 0, vI a1] P Q := by
  refine Ct.of (by decide) (l0 := [(0, vR 0), (1, vI a1)]) rfl (Nat.le_of_ble_eq_true rfl) ?_
  refine g_aload_n dX12_arranges_0 rfl ?_
  refine g_aload_n dX12_arranges_1 rfl ?_
  refine m_g53 rfl dX12_arranges_2 ?_
  refine g_iload_n dX12_arranges_5 rfl ?_
  refine m_l35 (z := (P 35 a1)) dX12_arranges_6 ⟨by omega, by omega⟩ rfl ?_
  refine m_p62 rfl dX12_arranges_7 ?_
  have hB1 := bs_62 (z := (P 35 a1)) hB ⟨by have q0 := bl_35 (k := a1) hB; omega, by have q0 := bl_35 (k := a1) hB; omega⟩
  refine g_aload_n dX12_arranges_10 rfl ?_
  refine g_iconst dX12_arranges_11 ?_
  refine m_p66 rfl dX12_arranges_12 ?_
  have hB2 := bs_66 (z := 0) hB1 (by decide)
  refine g_iconst dX12_arranges_15 ?_
  refine g_istore_n (l1 := [(2, vI 0), (0, vR 0), (1, vI a1)]) dX12_arranges_16 (by decide) rfl ?_
  have L17_2 : ∀ (n17_2 : Nat) (x17_2_2 : Int) (h_x17_2_2 : 0 ≤ x17_2_2 ∧ x17_2_2 ≤ 12) (H17_2 : PH) (hB17_2 : BdM H17_2) (hE17_2 : FrM ([66], [43]) (up (up P 0 62 (P 35 a1)) 0 66 0) H17_2) (hm17_2 : ((13 - x17_2_2) : Int).toNat < n17_2), Go WSM G 2 iX12_arranges 17 [(0, vR 0), (1, vI a1), (2, vI x17_2_2)] [] H17_2 Q := by
    intro n17_2
    induction n17_2 with
    | zero => intro x17_2_2 h_x17_2_2 H17_2 hB17_2 hE17_2 hm17_2; exact absurd hm17_2 (Nat.not_lt_zero _)
    | succ n17_2 ih17_2 =>
    intro x17_2_2 h_x17_2_2 H17_2 hB17_2 hE17_2 hm17_2
    refine g_iload_n dX12_arranges_17 rfl ?_
    refine g_aload_n dX12_arranges_18 rfl ?_
    refine m_g62 (z := (P 35 a1)) rfl dX12_arranges_19 ((hE17_2.1 62 rfl).trans ((up_k (by decide)).trans up_same)) ?_
    have f10903 := bl_35 (k := a1) hB
    refine g_icmp_ge (tgt := 87) dX12_arranges_22 (by decide) ⟨by omega, by omega⟩ ⟨by have q0 := bl_35 (k := a1) hB; omega, by have q0 := bl_35 (k := a1) hB; omega⟩ (fun k10904 => ?_) (fun k10904 => ?_)
    · refine g_iconst dX12_arranges_87 ?_
      refine g_istore_n (l1 := [(2, vI 0), (0, vR 0), (1, vI a1)]) dX12_arranges_88 (by decide) rfl ?_
      have L89_10904 : ∀ (n89_10904 : Nat) (x89_2_10904 : Int) (h_x89_2_10904 : 0 ≤ x89_2_10904 ∧ x89_2_10904 ≤ 4) (H89_10904 : PH) (hB89_10904 : BdM H89_10904) (hE89_10904 : FrM ([], [41, 42]) H17_2 H89_10904) (hm89_10904 : ((5 - x89_2_10904) : Int).toNat < n89_10904), Go WSM G 2 iX12_arranges 89 [(0, vR 0), (1, vI a1), (2, vI x89_2_10904)] [] H89_10904 Q := by
        intro n89_10904
        induction n89_10904 with
        | zero => intro x89_2_10904 h_x89_2_10904 H89_10904 hB89_10904 hE89_10904 hm89_10904; exact absurd hm89_10904 (Nat.not_lt_zero _)
        | succ n89_10904 ih89_10904 =>
        intro x89_2_10904 h_x89_2_10904 H89_10904 hB89_10904 hE89_10904 hm89_10904
        refine g_iload_n dX12_arranges_89 rfl ?_
        refine g_aload_n dX12_arranges_90 rfl ?_
        refine g_vI (av := []) (o := 0) (st := [vI x89_2_10904]) (m_X12_columns G H89_10904  hB89_10904  _ (fun rc11956 hc11956 gc11956_c => ⟨rc11956, rfl, ?_⟩)) cf_X12_columns t_1827 rfl (by decide) rfl rfl rfl (Nat.le_of_ble_eq_true rfl) (by decide) rfl dX12_arranges_91
        have z11957 : H89_10904 0 13 = (P 0 13) := ((hE89_10904.1 13 rfl).trans ((hE17_2.1 13 rfl).trans ((up_k (by decide)).trans ((up_k (by decide)).trans rfl))))
        refine g_icmp_ge (tgt := 185) dX12_arranges_94 (by decide) ⟨by omega, by omega⟩ ⟨by omega, by omega⟩ (fun k11958 => ?_) (fun k11958 => ?_)
        · refine g_aload_n dX12_arranges_185 rfl ?_
          refine g_dup dX12_arranges_186 rfl ?_
          refine m_g74 (z := (P 0 74)) rfl dX12_arranges_187 ((hE89_10904.1 74 rfl).trans ((hE17_2.1 74 rfl).trans ((up_k (by decide)).trans ((up_k (by decide)).trans rfl)))) ?_
          refine g_iconst dX12_arranges_190 ?_
          refine g_iadd dX12_arranges_191 ?_
          refine m_p74 rfl dX12_arranges_192 ?_
          have hB11959 := bs_74 (z := ((P 0 74) + 1)) hB89_10904 ⟨by have q0 := b0_74 hB; omega, by have q0 := b0_74 hB; omega⟩
          have iv11960 : MV (up H89_10904 0 74 ((P 0 74) + 1)) := v_MVw.next (F := ([62, 66, 74], [41, 42, 43])) (FrM.s (FrM.c (FrM.c (FrM.s (FrM.s FrM.rf rfl) rfl) hE17_2 rfl) hE89_10904 rfl) rfl) rfl (by have q := (up_same : (up H89_10904 0 74 ((P 0 74) + 1)) 0 74 = ((P 0 74) + 1)); omega)
          have iv11961 : RE (up H89_10904 0 74 ((P 0 74) + 1)) := v_RE.next (F := ([62, 66, 74], [41, 42, 43])) (FrM.s (FrM.c (FrM.c (FrM.s (FrM.s FrM.rf rfl) rfl) hE17_2 rfl) hE89_10904 rfl) rfl) rfl (by have q := (up_same : (up H89_10904 0 74 ((P 0 74) + 1)) 0 74 = ((P 0 74) + 1)); omega)
          have iv11962 : RLt (up H89_10904 0 74 ((P 0 74) + 1)) := v_RE.nextL (F := ([62, 66, 74], [41, 42, 43])) (FrM.s (FrM.c (FrM.c (FrM.s (FrM.s FrM.rf rfl) rfl) hE17_2 rfl) hE89_10904 rfl) rfl) rfl (by have q := (up_same : (up H89_10904 0 74 ((P 0 74) + 1)) 0 74 = ((P 0 74) + 1)); omega)
          exact g_retV dX12_arranges_195 rfl (hQ _ hB11959 (FrM.s (FrM.c (FrM.c (FrM.s (FrM.s FrM.rf rfl) rfl) hE17_2 rfl) hE89_10904 rfl) rfl) (by have q0 := (up_same : (up H89_10904 0 74 ((P 0 74) + 1)) 0 74 = ((P 0 74) + 1)); have q1 := b0_74 hB; omega) iv11960 iv11961 iv11962)
        · refine g_aload_n dX12_arranges_97 rfl ?_
          refine m_g64 rfl dX12_arranges_98 ?_
          refine g_iload_n dX12_arranges_101 rfl ?_
          refine g_iconst dX12_arranges_102 ?_
          refine g_aload_n dX12_arranges_103 rfl ?_
          refine m_g62 (z := (P 35 a1)) rfl dX12_arranges_104 ((hE89_10904.1 62 rfl).trans ((hE17_2.1 62 rfl).trans ((up_k (by decide)).trans up_same))) ?_
          refine g_ishl dX12_arranges_107 ?_
          refine g_nm (fun b11963 e_b11963 => ?_)
          have h_b11963 : 1 ≤ (ishl 1 (P 35 a1)) ∧ (ishl 1 (P 35 a1)) ≤ 4096 := (ishl1 12 (by decide) (y := (P 35 a1)) ⟨by have q0 := bl_35 (k := a1) hB; omega, by have q0 := bl_35 (k := a1) hB; omega⟩).2
          rw [← e_b11963] at h_b11963
          refine g_iconst dX12_arranges_108 ?_
          refine g_isub dX12_arranges_109 ?_
          refine m_s42 dX12_arranges_110 ⟨by omega, by omega⟩ ?_
          have hB11964 := ba_42 (z := (b11963 - 1)) (k := x89_2_10904) hB89_10904 ⟨by omega, by omega⟩
          refine g_iconst dX12_arranges_111 ?_
          refine g_istore_n (l1 := [(3, vI 0), (0, vR 0), (1, vI a1), (2, vI x89_2_10904)]) dX12_arranges_112 (by decide) rfl ?_
          have L113_11964 : ∀ (n113_11964 : Nat) (x113_3_11964 : Int) (h_x113_3_11964 : 0 ≤ x113_3_11964 ∧ x113_3_11964 ≤ 2009) (H113_11964 : PH) (hB113_11964 : BdM H113_11964) (hE113_11964 : FrM ([], [41, 42]) (up H89_10904 42 x89_2_10904 (b11963 - 1)) H113_11964) (hm113_11964 : ((2010 - x113_3_11964) : Int).toNat < n113_11964), Go WSM G 2 iX12_arranges 113 [(0, vR 0), (1, vI a1), (2, vI x89_2_10904), (3, vI x113_3_11964)] [] H113_11964 Q := by
            intro n113_11964
            induction n113_11964 with
            | zero => intro x113_3_11964 h_x113_3_11964 H113_11964 hB113_11964 hE113_11964 hm113_11964; exact absurd hm113_11964 (Nat.not_lt_zero _)
            | succ n113_11964 ih113_11964 =>
            intro x113_3_11964 h_x113_3_11964 H113_11964 hB113_11964 hE113_11964 hm113_11964
            refine g_iload_n dX12_arranges_113 rfl ?_
            refine g_aload_n dX12_arranges_114 rfl ?_
            refine m_g50 rfl dX12_arranges_115 ?_
            refine g_iload_n dX12_arranges_118 rfl ?_
            refine m_l33 (z := (P 33 x89_2_10904)) dX12_arranges_119 ⟨by omega, by omega⟩ ((congrFun (hE113_11964.2 33 rfl rfl) _).trans ((up_o (by decide)).trans ((congrFun (hE89_10904.2 33 rfl rfl) _).trans ((congrFun (hE17_2.2 33 rfl rfl) _).trans ((up_o (by decide)).trans ((up_o (by decide)).trans rfl)))))) ?_
            have f12099 := bl_33 (k := x89_2_10904) hB
            refine g_icmp_ge (tgt := 179) dX12_arranges_120 (by decide) ⟨by omega, by omega⟩ ⟨by have q0 := bl_33 (k := x89_2_10904) hB; omega, by have q0 := bl_33 (k := x89_2_10904) hB; omega⟩ (fun k12100 => ?_) (fun k12100 => ?_)
            · refine g_iinc (l1 := [(2, vI (x89_2_10904 + 1)), (0, vR 0), (1, vI a1), (3, vI x113_3_11964)]) dX12_arranges_179 rfl (by decide) rfl ?_
              refine g_goto (tgt := 89) dX12_arranges_182 (by decide) ?_
              refine g_forget (l1 := [(0, vR 0), (1, vI a1), (2, vI (x89_2_10904 + 1))]) (by intro q hq; simp only [List.mem_cons, List.not_mem_nil, or_false] at hq ⊢; rcases hq with rfl | rfl | rfl <;> simp) ?_
              exact ih89_10904 (x89_2_10904 + 1) ⟨by omega, by omega⟩ _ hB113_11964 (FrM.c (FrM.a (FrM.c FrM.rf hE89_10904 rfl) rfl rfl) hE113_11964 rfl) (by omega)
            · refine g_aload_n dX12_arranges_123 rfl ?_
              refine m_g63 rfl dX12_arranges_124 ?_
              refine g_sipush dX12_arranges_127 (by decide) ?_
              refine g_iload_n dX12_arranges_130 rfl ?_
              refine g_imul dX12_arranges_131 ?_
              refine g_iload_n dX12_arranges_132 rfl ?_
              refine g_iadd dX12_arranges_133 ?_
              refine g_aload_n dX12_arranges_134 rfl ?_
              refine g_iload_n dX12_arranges_135 rfl ?_
              refine g_aload_n dX12_arranges_136 rfl ?_
              refine m_g49 rfl dX12_arranges_137 ?_
              refine g_sipush dX12_arranges_140 (by decide) ?_
              refine g_iload_n dX12_arranges_143 rfl ?_
              refine g_imul dX12_arranges_144 ?_
              refine g_iload_n dX12_arranges_145 rfl ?_
              refine g_iadd dX12_arranges_146 ?_
              refine m_l32 (z := (P 32 ((2010 * x89_2_10904) + x113_3_11964))) dX12_arranges_147 ⟨by omega, by omega⟩ ((congrFun (hE113_11964.2 32 rfl rfl) _).trans ((up_o (by decide)).trans ((congrFun (hE89_10904.2 32 rfl rfl) _).trans ((congrFun (hE17_2.2 32 rfl rfl) _).trans ((up_o (by decide)).trans ((up_o (by decide)).trans rfl)))))) ?_
              have f12101 := bl_32 (k := ((2010 * x89_2_10904) + x113_3_11964)) hB
              refine g_vI (av := [vI a1, vI (P 32 ((2010 * x89_2_10904) + x113_3_11964))]) (o := 0) (st := [vI ((2010 * x89_2_10904) + x113_3_11964), vR 41]) (m_X12_placed G H113_11964 a1 (P 32 ((2010 * x89_2_10904) + x113_3_11964)) ⟨by omega, by omega⟩ ⟨by have q0 := bl_32 (k := ((2010 * x89_2_10904) + x113_3_11964)) hB; omega, by have q0 := bl_32 (k := ((2010 * x89_2_10904) + x113_3_11964)) hB; omega⟩ hB113_11964  _ (fun rc12102 hc12102 => ⟨rc12102, rfl, ?_⟩)) cf_X12_placed t_1891 rfl (by decide) rfl rfl rfl (Nat.le_of_ble_eq_true rfl) (by decide) rfl dX12_arranges_148
              refine m_s41 dX12_arranges_151 ⟨by omega, by omega⟩ ?_
              have hB12103 := ba_41 (z := rc12102) (k := ((2010 * x89_2_10904) + x113_3_11964)) hB113_11964 ⟨by omega, by omega⟩
              refine g_aload_n dX12_arranges_152 rfl ?_
              refine m_g64 rfl dX12_arranges_153 ?_
              refine g_iload_n dX12_arranges_156 rfl ?_
              refine g_dup2 dX12_arranges_157 rfl rfl ?_
              refine m_l42 (z := (H113_11964 42 x89_2_10904)) dX12_arranges_158 ⟨by omega, by omega⟩ ((up_o (by decide)).trans rfl) ?_
              refine g_aload_n dX12_arranges_159 rfl ?_
              refine m_g63 rfl dX12_arranges_160 ?_
              refine g_sipush dX12_arranges_163 (by decide) ?_
              refine g_iload_n dX12_arranges_166 rfl ?_
              refine g_imul dX12_arranges_167 ?_
              refine g_iload_n dX12_arranges_168 rfl ?_
              refine g_iadd dX12_arranges_169 ?_
              refine m_l41 (z := rc12102) dX12_arranges_170 ⟨by omega, by omega⟩ up_same ?_
              refine g_iand dX12_arranges_171 ?_
              refine g_nm (fun b12104 e_b12104 => ?_)
              have h_b12104 := iand_l (x := (H113_11964 42 x89_2_10904)) (y := rc12102) ⟨by have q0 := bl_42 (k := x89_2_10904) hB113_11964; omega, by have q0 := bl_42 (k := x89_2_10904) hB113_11964; omega⟩
              rw [← e_b12104] at h_b12104
              have f_b12104_0 := bl_42 (k := x89_2_10904) hB113_11964
              refine m_s42 dX12_arranges_172 ⟨by omega, by omega⟩ ?_
              have hB12105 := ba_42 (z := b12104) (k := x89_2_10904) hB12103 ⟨by omega, by omega⟩
              refine g_iinc (l1 := [(3, vI (x113_3_11964 + 1)), (0, vR 0), (1, vI a1), (2, vI x89_2_10904)]) dX12_arranges_173 rfl (by decide) rfl ?_
              refine g_goto (tgt := 113) dX12_arranges_176 (by decide) ?_
              refine g_forget (l1 := [(0, vR 0), (1, vI a1), (2, vI x89_2_10904), (3, vI (x113_3_11964 + 1))]) (by intro q hq; simp only [List.mem_cons, List.not_mem_nil, or_false] at hq ⊢; rcases hq with rfl | rfl | rfl | rfl <;> simp) ?_
              exact ih113_11964 (x113_3_11964 + 1) ⟨by omega, by omega⟩ _ hB12105 (FrM.a (FrM.a (FrM.c FrM.rf hE113_11964 rfl) rfl rfl) rfl rfl) (by omega)
          refine g_forget (l1 := [(0, vR 0), (1, vI a1), (2, vI x89_2_10904), (3, vI 0)]) (by intro q hq; simp only [List.mem_cons, List.not_mem_nil, or_false] at hq ⊢; rcases hq with rfl | rfl | rfl | rfl <;> simp) ?_
          exact L113_11964 _ 0 (by decide) _ hB11964 FrM.rf (Nat.lt_succ_self _)
      refine g_forget (l1 := [(0, vR 0), (1, vI a1), (2, vI 0)]) (by intro q hq; simp only [List.mem_cons, List.not_mem_nil, or_false] at hq ⊢; rcases hq with rfl | rfl | rfl <;> simp) ?_
      exact L89_10904 _ 0 (by decide) _ hB17_2 FrM.rf (Nat.lt_succ_self _)
    · refine g_aload_n dX12_arranges_25 rfl ?_
      refine m_g65 rfl dX12_arranges_26 ?_
      refine g_iload_n dX12_arranges_29 rfl ?_
      refine g_aload_n dX12_arranges_30 rfl ?_
      refine m_g26 rfl dX12_arranges_31 ?_
      refine g_bipush dX12_arranges_34 (by decide) ?_
      refine g_aload_n dX12_arranges_36 rfl ?_
      refine m_g13 (z := (P 0 13)) rfl dX12_arranges_37 ((hE17_2.1 13 rfl).trans ((up_k (by decide)).trans ((up_k (by decide)).trans rfl))) ?_
      refine g_imul dX12_arranges_40 ?_
      refine g_aload_n dX12_arranges_41 rfl ?_
      refine m_g54 rfl dX12_arranges_42 ?_
      refine g_bipush dX12_arranges_45 (by decide) ?_
      refine g_iload_n dX12_arranges_47 rfl ?_
      refine g_imul dX12_arranges_48 ?_
      refine g_iload_n dX12_arranges_49 rfl ?_
      refine g_iadd dX12_arranges_50 ?_
      refine m_l36 (z := (P 36 ((12 * a1) + x17_2_2))) dX12_arranges_51 ⟨by omega, by omega⟩ ((congrFun (hE17_2.2 36 rfl rfl) _).trans ((up_o (by decide)).trans ((up_o (by decide)).trans rfl))) ?_
      refine g_iadd dX12_arranges_52 ?_
      refine m_l14 (z := (P 14 ((12 * (P 0 13)) + (P 36 ((12 * a1) + x17_2_2))))) dX12_arranges_53 ⟨by have q0 := b0_13 hB; have q1 := bl_36 (k := ((12 * a1) + x17_2_2)) hB; omega, by have q0 := b0_13 hB; have q1 := bl_36 (k := ((12 * a1) + x17_2_2)) hB; omega⟩ ((congrFun (hE17_2.2 14 rfl rfl) _).trans ((up_o (by decide)).trans ((up_o (by decide)).trans rfl))) ?_
      refine m_s43 dX12_arranges_54 ⟨by omega, by omega⟩ ?_
      have hB12106 := ba_43 (z := (P 14 ((12 * (P 0 13)) + (P 36 ((12 * a1) + x17_2_2))))) (k := x17_2_2) hB17_2 ⟨by have q0 := bl_14 (k := ((12 * (P 0 13)) + (P 36 ((12 * a1) + x17_2_2)))) hB; omega, by have q0 := bl_14 (k := ((12 * (P 0 13)) + (P 36 ((12 * a1) + x17_2_2)))) hB; omega⟩
      refine g_aload_n dX12_arranges_55 rfl ?_
      refine g_dup dX12_arranges_56 rfl ?_
      refine m_g66 (z := (H17_2 0 66)) rfl dX12_arranges_57 ((up_o (by decide)).trans rfl) ?_
      refine g_aload_n dX12_arranges_60 rfl ?_
      refine m_g65 rfl dX12_arranges_61 ?_
      refine g_iload_n dX12_arranges_64 rfl ?_
      refine m_l43 (z := (P 14 ((12 * (P 0 13)) + (P 36 ((12 * a1) + x17_2_2))))) dX12_arranges_65 ⟨by omega, by omega⟩ up_same ?_
      refine g_iconst dX12_arranges_66 ?_
      have f12107 := bl_14 (k := ((12 * (P 0 13)) + (P 36 ((12 * a1) + x17_2_2)))) hB
      refine g_icmp_ne (tgt := 76) dX12_arranges_67 (by decide) ⟨by have q0 := bl_14 (k := ((12 * (P 0 13)) + (P 36 ((12 * a1) + x17_2_2)))) hB; omega, by have q0 := bl_14 (k := ((12 * (P 0 13)) + (P 36 ((12 * a1) + x17_2_2)))) hB; omega⟩ (by decide) (fun k12108 => ?_) (fun k12108 => ?_)
      · refine g_iconst dX12_arranges_76 ?_
        refine g_ior dX12_arranges_77 ?_
        refine g_nm (fun b12109 e_b12109 => ?_)
        have h_b12109 : 0 ≤ (ior (H17_2 0 66) 0) ∧ (ior (H17_2 0 66) 0) < 4096 := ior_b 12 (by decide) (x := (H17_2 0 66)) (y := 0) (show 0 ≤ (H17_2 0 66) ∧ (H17_2 0 66) < 4096 from ⟨by have q0 := b0_66 hB17_2; omega, by have q0 := b0_66 hB17_2; omega⟩) (show 0 ≤ 0 ∧ 0 < 4096 from ⟨by omega, by omega⟩)
        rw [← e_b12109] at h_b12109
        refine m_p66 rfl dX12_arranges_78 ?_
        have hB12110 := bs_66 (z := b12109) hB12106 ⟨by omega, by omega⟩
        refine g_iinc (l1 := [(2, vI (x17_2_2 + 1)), (0, vR 0), (1, vI a1)]) dX12_arranges_81 rfl (by decide) rfl ?_
        refine g_goto (tgt := 17) dX12_arranges_84 (by decide) ?_
        refine g_forget (l1 := [(0, vR 0), (1, vI a1), (2, vI (x17_2_2 + 1))]) (by intro q hq; simp only [List.mem_cons, List.not_mem_nil, or_false] at hq ⊢; rcases hq with rfl | rfl | rfl <;> simp) ?_
        exact ih17_2 (x17_2_2 + 1) ⟨by omega, by omega⟩ _ hB12110 (FrM.s (FrM.a (FrM.c FrM.rf hE17_2 rfl) rfl rfl) rfl) (by omega)
      · refine g_iconst dX12_arranges_70 ?_
        refine g_iload_n dX12_arranges_71 rfl ?_
        refine g_ishl dX12_arranges_72 ?_
        refine g_nm (fun b12111 e_b12111 => ?_)
        have h_b12111 : 1 ≤ (ishl 1 x17_2_2) ∧ (ishl 1 x17_2_2) ≤ 2048 := (ishl1 11 (by decide) (y := x17_2_2) ⟨by omega, by omega⟩).2
        rw [← e_b12111] at h_b12111
        refine g_goto (tgt := 77) dX12_arranges_73 (by decide) ?_
        refine g_ior dX12_arranges_77 ?_
        refine g_nm (fun b12112 e_b12112 => ?_)
        have h_b12112 : 0 ≤ (ior (H17_2 0 66) b12111) ∧ (ior (H17_2 0 66) b12111) < 4096 := ior_b 12 (by decide) (x := (H17_2 0 66)) (y := b12111) (show 0 ≤ (H17_2 0 66) ∧ (H17_2 0 66) < 4096 from ⟨by have q0 := b0_66 hB17_2; omega, by have q0 := b0_66 hB17_2; omega⟩) (show 0 ≤ b12111 ∧ b12111 < 4096 from ⟨by omega, by omega⟩)
        rw [← e_b12112] at h_b12112
        refine m_p66 rfl dX12_arranges_78 ?_
        have hB12113 := bs_66 (z := b12112) hB12106 ⟨by omega, by omega⟩
        refine g_iinc (l1 := [(2, vI (x17_2_2 + 1)), (0, vR 0), (1, vI a1)]) dX12_arranges_81 rfl (by decide) rfl ?_
        refine g_goto (tgt := 17) dX12_arranges_84 (by decide) ?_
        refine g_forget (l1 := [(0, vR 0), (1, vI a1), (2, vI (x17_2_2 + 1))]) (by intro q hq; simp only [List.mem_cons, List.not_mem_nil, or_false] at hq ⊢; rcases hq with rfl | rfl | rfl <;> simp) ?_
        exact ih17_2 (x17_2_2 + 1) ⟨by omega, by omega⟩ _ hB12113 (FrM.s (FrM.a (FrM.c FrM.rf hE17_2 rfl) rfl rfl) rfl) (by omega)
  refine g_forget (l1 := [(0, vR 0), (1, vI a1), (2, vI 0)]) (by intro q hq; simp only [List.mem_cons, List.not_mem_nil, or_false] at hq ⊢; rcases hq with rfl | rfl | rfl <;> simp) ?_
  exact L17_2 _ 0 (by decide) _ hB2 FrM.rf (Nat.lt_succ_self _)
set_option maxRecDepth 100000 in
set_option maxHeartbeats 4000000 in
theorem m_X12_fittingRows (G : GT) (P : PH) (a1 : Int) (h_a1 : 0 ≤ a1 ∧ a1 ≤ 11) (hB : BdM P) (Q : Option PV → PH → Prop) (hQ : ∀ (r : Int) (_ : (-2147483648) ≤ r ∧ r ≤ 2147483647), Q (some (vI r)) P) : Ct WSM G 1 iX12_fittingRows [vR 0, vI a1] P Q := by
  refine Ct.of (by decide) (l0 := [(0, vR 0), (1, vI a1)]) rfl (Nat.le_of_ble_eq_true rfl) ?_
  refine g_iconst dX12_fittingRows_0 ?_
  refine g_istore_n (l1 := [(2, vI 0), (0, vR 0), (1, vI a1)]) dX12_fittingRows_1 (by decide) rfl ?_
  refine g_iconst dX12_fittingRows_2 ?_
  refine g_istore_n (l1 := [(3, vI 0), (2, vI 0), (0, vR 0), (1, vI a1)]) dX12_fittingRows_3 (by decide) rfl ?_
  have L4_0 : ∀ (n4_0 : Nat) (x4_3_0 : Int) (h_x4_3_0 : 0 ≤ x4_3_0 ∧ x4_3_0 ≤ 4096) (x4_2_0 : Int) (h_x4_2_0 : (-2147483648) ≤ x4_2_0 ∧ x4_2_0 ≤ 2147483647) (hm4_0 : ((4097 - x4_3_0) : Int).toNat < n4_0), Go WSM G 1 iX12_fittingRows 4 [(0, vR 0), (1, vI a1), (2, vI x4_2_0), (3, vI x4_3_0)] [] P Q := by
    intro n4_0
    induction n4_0 with
    | zero => intro x4_3_0 h_x4_3_0 x4_2_0 h_x4_2_0 hm4_0; exact absurd hm4_0 (Nat.not_lt_zero _)
    | succ n4_0 ih4_0 =>
    intro x4_3_0 h_x4_3_0 x4_2_0 h_x4_2_0 hm4_0
    refine g_iload_n dX12_fittingRows_4 rfl ?_
    refine g_sipush dX12_fittingRows_5 (by decide) ?_
    refine g_icmp_ge (tgt := 39) dX12_fittingRows_8 (by decide) ⟨by omega, by omega⟩ (by decide) (fun k86 => ?_) (fun k86 => ?_)
    · refine g_iload_n dX12_fittingRows_39 rfl ?_
      exact g_retI dX12_fittingRows_40 rfl (hQ x4_2_0 ⟨by omega, by omega⟩ )
    · refine g_iload_n dX12_fittingRows_11 rfl ?_
      refine g_iload_n dX12_fittingRows_12 rfl ?_
      refine g_iload_n dX12_fittingRows_13 rfl ?_
      refine g_ishr dX12_fittingRows_14 ?_
      refine g_nm (fun b87 e_b87 => ?_)
      have h_b87 := ishr_ir x4_3_0 a1
      rw [← e_b87] at h_b87
      refine g_iconst dX12_fittingRows_15 ?_
      refine g_iand dX12_fittingRows_16 ?_
      refine g_nm (fun b88 e_b88 => ?_)
      have h_b88 := iand_r (x := b87) (y := 1) ⟨by omega, by omega⟩
      rw [← e_b88] at h_b88
      refine g_iconst dX12_fittingRows_17 ?_
      refine g_icmp_ne (tgt := 30) dX12_fittingRows_18 (by decide) ⟨by omega, by omega⟩ (by decide) (fun k89 => ?_) (fun k89 => ?_)
      · refine g_iconst dX12_fittingRows_30 ?_
        refine g_iadd dX12_fittingRows_31 ?_
        refine g_istore_n (l1 := [(2, vI (x4_2_0 + 0)), (0, vR 0), (1, vI a1), (3, vI x4_3_0)]) dX12_fittingRows_32 (by decide) rfl ?_
        refine g_iinc (l1 := [(3, vI (x4_3_0 + 1)), (2, vI (x4_2_0 + 0)), (0, vR 0), (1, vI a1)]) dX12_fittingRows_33 rfl (by decide) rfl ?_
        refine g_goto (tgt := 4) dX12_fittingRows_36 (by decide) ?_
        refine g_forget (l1 := [(0, vR 0), (1, vI a1), (2, vI (x4_2_0 + 0)), (3, vI (x4_3_0 + 1))]) (by intro q hq; simp only [List.mem_cons, List.not_mem_nil, or_false] at hq ⊢; rcases hq with rfl | rfl | rfl | rfl <;> simp) ?_
        exact ih4_0 (x4_3_0 + 1) ⟨by omega, by omega⟩ (x4_2_0 + 0) ⟨by omega, by omega⟩ (by omega)
      · refine g_aload_n dX12_fittingRows_21 rfl ?_
        refine m_g68 rfl dX12_fittingRows_22 ?_
        refine g_iload_n dX12_fittingRows_25 rfl ?_
        refine m_l45 (z := (P 45 x4_3_0)) dX12_fittingRows_26 ⟨by omega, by omega⟩ rfl ?_
        refine g_goto (tgt := 31) dX12_fittingRows_27 (by decide) ?_
        refine g_iadd dX12_fittingRows_31 ?_
        refine g_norm (fun r90 h_r90 e_r90 => ?_)
        refine g_istore_n (l1 := [(2, vI r90), (0, vR 0), (1, vI a1), (3, vI x4_3_0)]) dX12_fittingRows_32 (by decide) rfl ?_
        refine g_iinc (l1 := [(3, vI (x4_3_0 + 1)), (2, vI r90), (0, vR 0), (1, vI a1)]) dX12_fittingRows_33 rfl (by decide) rfl ?_
        refine g_goto (tgt := 4) dX12_fittingRows_36 (by decide) ?_
        refine g_forget (l1 := [(0, vR 0), (1, vI a1), (2, vI r90), (3, vI (x4_3_0 + 1))]) (by intro q hq; simp only [List.mem_cons, List.not_mem_nil, or_false] at hq ⊢; rcases hq with rfl | rfl | rfl | rfl <;> simp) ?_
        exact ih4_0 (x4_3_0 + 1) ⟨by omega, by omega⟩ r90 ⟨by omega, by omega⟩ (by omega)
  refine g_forget (l1 := [(0, vR 0), (1, vI a1), (2, vI 0), (3, vI 0)]) (by intro q hq; simp only [List.mem_cons, List.not_mem_nil, or_false] at hq ⊢; rcases hq with rfl | rfl | rfl | rfl <;> simp) ?_
  exact L4_0 _ 0 (by decide) 0 (by decide) (Nat.lt_succ_self _)
set_option maxRecDepth 100000 in
set_option maxHeartbeats 4000000 in
theorem m_X12_isUseful (G : GT) (P : PH) (a1 : Int) (h_a1 : 0 ≤ a1 ∧ a1 ≤ 11) (hB : BdM P) (Q : Option PV → PH → Prop) (hQ : ∀ (r : Int) (_ : 0 ≤ r ∧ r ≤ 1), Q (some (vI r)) P) : Ct WSM G 1 iX12_isUseful [vR 0, vI a1] P Q := by
  refine Ct.of (by decide) (l0 := [(0, vR 0), (1, vI a1)]) rfl (Nat.le_of_ble_eq_true rfl) ?_
  refine g_aload_n dX12_isUseful_0 rfl ?_
  refine m_g66 (z := (P 0 66)) rfl dX12_isUseful_1 rfl ?_
  refine g_iconst dX12_isUseful_4 ?_
  refine g_iload_n dX12_isUseful_5 rfl ?_
  refine g_ishl dX12_isUseful_6 ?_
  refine g_nm (fun b1 e_b1 => ?_)
  have h_b1 : 1 ≤ (ishl 1 a1) ∧ (ishl 1 a1) ≤ 2048 := (ishl1 11 (by decide) (y := a1) ⟨by omega, by omega⟩).2
  rw [← e_b1] at h_b1
  refine g_iconst dX12_isUseful_7 ?_
  refine g_isub dX12_isUseful_8 ?_
  refine g_iand dX12_isUseful_9 ?_
  refine g_nm (fun b2 e_b2 => ?_)
  have h_b2 := iand_r (x := (P 0 66)) (y := (b1 - 1)) ⟨by omega, by omega⟩
  rw [← e_b2] at h_b2
  refine g_istore_n (l1 := [(2, vI b2), (0, vR 0), (1, vI a1)]) dX12_isUseful_10 (by decide) rfl ?_
  refine g_iconst dX12_isUseful_11 ?_
  refine g_istore_n (l1 := [(3, vI 0), (2, vI b2), (0, vR 0), (1, vI a1)]) dX12_isUseful_12 (by decide) rfl ?_
  have L13_2 : ∀ (n13_2 : Nat) (x13_3_2 : Int) (h_x13_3_2 : 0 ≤ x13_3_2 ∧ x13_3_2 ≤ 4096) (hm13_2 : ((4097 - x13_3_2) : Int).toNat < n13_2), Go WSM G 1 iX12_isUseful 13 [(0, vR 0), (1, vI a1), (2, vI b2), (3, vI x13_3_2)] [] P Q := by
    intro n13_2
    induction n13_2 with
    | zero => intro x13_3_2 h_x13_3_2 hm13_2; exact absurd hm13_2 (Nat.not_lt_zero _)
    | succ n13_2 ih13_2 =>
    intro x13_3_2 h_x13_3_2 hm13_2
    refine g_iload_n dX12_isUseful_13 rfl ?_
    refine g_sipush dX12_isUseful_14 (by decide) ?_
    refine g_icmp_ge (tgt := 52) dX12_isUseful_17 (by decide) ⟨by omega, by omega⟩ (by decide) (fun k140 => ?_) (fun k140 => ?_)
    · refine g_iconst dX12_isUseful_52 ?_
      exact g_retI dX12_isUseful_53 rfl (hQ 0 (by decide) )
    · refine g_aload_n dX12_isUseful_20 rfl ?_
      refine m_g68 rfl dX12_isUseful_21 ?_
      refine g_iload_n dX12_isUseful_24 rfl ?_
      refine m_l45 (z := (P 45 x13_3_2)) dX12_isUseful_25 ⟨by omega, by omega⟩ rfl ?_
      have f141 := bl_45 (k := x13_3_2) hB
      refine g_if_le (tgt := 46) dX12_isUseful_26 (by decide) ⟨by have q0 := bl_45 (k := x13_3_2) hB; omega, by have q0 := bl_45 (k := x13_3_2) hB; omega⟩ (fun k142 => ?_) (fun k142 => ?_)
      · refine g_iinc (l1 := [(3, vI (x13_3_2 + 1)), (0, vR 0), (1, vI a1), (2, vI b2)]) dX12_isUseful_46 rfl (by decide) rfl ?_
        refine g_goto (tgt := 13) dX12_isUseful_49 (by decide) ?_
        refine g_forget (l1 := [(0, vR 0), (1, vI a1), (2, vI b2), (3, vI (x13_3_2 + 1))]) (by intro q hq; simp only [List.mem_cons, List.not_mem_nil, or_false] at hq ⊢; rcases hq with rfl | rfl | rfl | rfl <;> simp) ?_
        exact ih13_2 (x13_3_2 + 1) ⟨by omega, by omega⟩ (by omega)
      · refine g_iload_n dX12_isUseful_29 rfl ?_
        refine g_iload_n dX12_isUseful_30 rfl ?_
        refine g_ishr dX12_isUseful_31 ?_
        refine g_nm (fun b143 e_b143 => ?_)
        have h_b143 := ishr_ir x13_3_2 a1
        rw [← e_b143] at h_b143
        refine g_iconst dX12_isUseful_32 ?_
        refine g_iand dX12_isUseful_33 ?_
        refine g_nm (fun b144 e_b144 => ?_)
        have h_b144 := iand_r (x := b143) (y := 1) ⟨by omega, by omega⟩
        rw [← e_b144] at h_b144
        refine g_iconst dX12_isUseful_34 ?_
        refine g_icmp_ne (tgt := 46) dX12_isUseful_35 (by decide) ⟨by omega, by omega⟩ (by decide) (fun k145 => ?_) (fun k145 => ?_)
        · refine g_iinc (l1 := [(3, vI (x13_3_2 + 1)), (0, vR 0), (1, vI a1), (2, vI b2)]) dX12_isUseful_46 rfl (by decide) rfl ?_
          refine g_goto (tgt := 13) dX12_isUseful_49 (by decide) ?_
          refine g_forget (l1 := [(0, vR 0), (1, vI a1), (2, vI b2), (3, vI (x13_3_2 + 1))]) (by intro q hq; simp only [List.mem_cons, List.not_mem_nil, or_false] at hq ⊢; rcases hq with rfl | rfl | rfl | rfl <;> simp) ?_
          exact ih13_2 (x13_3_2 + 1) ⟨by omega, by omega⟩ (by omega)
        · refine g_iload_n dX12_isUseful_38 rfl ?_
          refine g_iload_n dX12_isUseful_39 rfl ?_
          refine g_iand dX12_isUseful_40 ?_
          refine g_nm (fun b146 e_b146 => ?_)
          have h_b146 := iand_r (x := x13_3_2) (y := b2) ⟨by omega, by omega⟩
          rw [← e_b146] at h_b146
          refine g_if_ne (tgt := 46) dX12_isUseful_41 (by decide) ⟨by omega, by omega⟩ (fun k147 => ?_) (fun k147 => ?_)
          · refine g_iinc (l1 := [(3, vI (x13_3_2 + 1)), (0, vR 0), (1, vI a1), (2, vI b2)]) dX12_isUseful_46 rfl (by decide) rfl ?_
            refine g_goto (tgt := 13) dX12_isUseful_49 (by decide) ?_
            refine g_forget (l1 := [(0, vR 0), (1, vI a1), (2, vI b2), (3, vI (x13_3_2 + 1))]) (by intro q hq; simp only [List.mem_cons, List.not_mem_nil, or_false] at hq ⊢; rcases hq with rfl | rfl | rfl | rfl <;> simp) ?_
            exact ih13_2 (x13_3_2 + 1) ⟨by omega, by omega⟩ (by omega)
          · refine g_iconst dX12_isUseful_44 ?_
            exact g_retI dX12_isUseful_45 rfl (hQ 1 (by decide) )
  refine g_forget (l1 := [(0, vR 0), (1, vI a1), (2, vI b2), (3, vI 0)]) (by intro q hq; simp only [List.mem_cons, List.not_mem_nil, or_false] at hq ⊢; rcases hq with rfl | rfl | rfl | rfl <;> simp) ?_
  exact L13_2 _ 0 (by decide) (Nat.lt_succ_self _)
set_option maxRecDepth 100000 in
set_option maxHeartbeats 4000000 in
theorem m_X12_takenRows (G : GT) (P : PH) (a1 : Int) (h_a1 : 0 ≤ a1 ∧ a1 ≤ 11) (hB : BdM P) (Q : Option PV → PH → Prop) (hQ : ∀ (r : Int) (_ : (-2147483648) ≤ r ∧ r ≤ 2147483647), Q (some (vI r)) P) : Ct WSM G 2 iX12_takenRows [vR 0, vI a1] P Q := by
  refine Ct.of (by decide) (l0 := [(0, vR 0), (1, vI a1)]) rfl (Nat.le_of_ble_eq_true rfl) ?_
  refine g_aload_n dX12_takenRows_0 rfl ?_
  refine g_aload_n dX12_takenRows_1 rfl ?_
  refine m_g55 rfl dX12_takenRows_2 ?_
  refine g_iconst dX12_takenRows_5 ?_
  refine m_l37 (z := (P 37 0)) dX12_takenRows_6 (by decide) rfl ?_
  have f1 := bl_37 (k := 0) hB
  refine g_vI (av := [vI (P 37 0)]) (o := 0) (st := []) (m_X12_openBy G P (P 37 0) ⟨by have q0 := bl_37 (k := 0) hB; omega, by have q0 := bl_37 (k := 0) hB; omega⟩ hB  _ (fun rc2 hc2 => ⟨rc2, rfl, ?_⟩)) cf_X12_openBy t_1923 rfl (by decide) rfl rfl rfl (Nat.le_of_ble_eq_true rfl) (by decide) rfl dX12_takenRows_7
  refine g_istore_n (l1 := [(2, vI rc2), (0, vR 0), (1, vI a1)]) dX12_takenRows_10 (by decide) rfl ?_
  refine g_iconst dX12_takenRows_11 ?_
  refine g_istore_n (l1 := [(3, vI 0), (2, vI rc2), (0, vR 0), (1, vI a1)]) dX12_takenRows_12 (by decide) rfl ?_
  refine g_iconst dX12_takenRows_13 ?_
  refine g_istore (l1 := [(4, vI 0), (3, vI 0), (2, vI rc2), (0, vR 0), (1, vI a1)]) dX12_takenRows_14 (by decide) rfl ?_
  have L16_2 : ∀ (n16_2 : Nat) (x16_4_2 : Int) (h_x16_4_2 : 0 ≤ x16_4_2 ∧ x16_4_2 ≤ 4096) (x16_3_2 : Int) (h_x16_3_2 : (-2147483648) ≤ x16_3_2 ∧ x16_3_2 ≤ 2147483647) (hm16_2 : ((4097 - x16_4_2) : Int).toNat < n16_2), Go WSM G 2 iX12_takenRows 16 [(0, vR 0), (1, vI a1), (2, vI rc2), (3, vI x16_3_2), (4, vI x16_4_2)] [] P Q := by
    intro n16_2
    induction n16_2 with
    | zero => intro x16_4_2 h_x16_4_2 x16_3_2 h_x16_3_2 hm16_2; exact absurd hm16_2 (Nat.not_lt_zero _)
    | succ n16_2 ih16_2 =>
    intro x16_4_2 h_x16_4_2 x16_3_2 h_x16_3_2 hm16_2
    refine g_iload dX12_takenRows_16 rfl ?_
    refine g_sipush dX12_takenRows_18 (by decide) ?_
    refine g_icmp_ge (tgt := 65) dX12_takenRows_21 (by decide) ⟨by omega, by omega⟩ (by decide) (fun k143 => ?_) (fun k143 => ?_)
    · refine g_iload_n dX12_takenRows_65 rfl ?_
      exact g_retI dX12_takenRows_66 rfl (hQ x16_3_2 ⟨by omega, by omega⟩ )
    · refine g_iload_n dX12_takenRows_24 rfl ?_
      refine g_aload_n dX12_takenRows_25 rfl ?_
      refine m_g68 rfl dX12_takenRows_26 ?_
      refine g_iload dX12_takenRows_29 rfl ?_
      refine m_l45 (z := (P 45 x16_4_2)) dX12_takenRows_31 ⟨by omega, by omega⟩ rfl ?_
      have f144 := bl_45 (k := x16_4_2) hB
      refine g_if_le (tgt := 56) dX12_takenRows_32 (by decide) ⟨by have q0 := bl_45 (k := x16_4_2) hB; omega, by have q0 := bl_45 (k := x16_4_2) hB; omega⟩ (fun k145 => ?_) (fun k145 => ?_)
      · refine g_iconst dX12_takenRows_56 ?_
        refine g_iadd dX12_takenRows_57 ?_
        refine g_istore_n (l1 := [(3, vI (x16_3_2 + 0)), (0, vR 0), (1, vI a1), (2, vI rc2), (4, vI x16_4_2)]) dX12_takenRows_58 (by decide) rfl ?_
        refine g_iinc (l1 := [(4, vI (x16_4_2 + 1)), (3, vI (x16_3_2 + 0)), (0, vR 0), (1, vI a1), (2, vI rc2)]) dX12_takenRows_59 rfl (by decide) rfl ?_
        refine g_goto (tgt := 16) dX12_takenRows_62 (by decide) ?_
        refine g_forget (l1 := [(0, vR 0), (1, vI a1), (2, vI rc2), (3, vI (x16_3_2 + 0)), (4, vI (x16_4_2 + 1))]) (by intro q hq; simp only [List.mem_cons, List.not_mem_nil, or_false] at hq ⊢; rcases hq with rfl | rfl | rfl | rfl | rfl <;> simp) ?_
        exact ih16_2 (x16_4_2 + 1) ⟨by omega, by omega⟩ (x16_3_2 + 0) ⟨by omega, by omega⟩ (by omega)
      · refine g_iload dX12_takenRows_35 rfl ?_
        refine g_iload_n dX12_takenRows_37 rfl ?_
        refine g_iand dX12_takenRows_38 ?_
        refine g_nm (fun b146 e_b146 => ?_)
        have h_b146 := iand_l (x := x16_4_2) (y := rc2) ⟨by omega, by omega⟩
        rw [← e_b146] at h_b146
        refine g_sI (av := [vI b146]) (st := [vI x16_3_2]) (m_X12_lowest G P b146 ⟨by omega, by omega⟩ hB  _ (fun rc147 hc147 gc147_l gc147_b => ⟨rc147, rfl, ?_⟩)) cf_X12_lowest t_1927 rfl (Nat.le_of_ble_eq_true rfl) (by decide) rfl dX12_takenRows_39
        refine g_iload_n dX12_takenRows_42 rfl ?_
        refine g_icmp_ne (tgt := 56) dX12_takenRows_43 (by decide) ⟨by omega, by omega⟩ ⟨by omega, by omega⟩ (fun k148 => ?_) (fun k148 => ?_)
        · refine g_iconst dX12_takenRows_56 ?_
          refine g_iadd dX12_takenRows_57 ?_
          refine g_istore_n (l1 := [(3, vI (x16_3_2 + 0)), (0, vR 0), (1, vI a1), (2, vI rc2), (4, vI x16_4_2)]) dX12_takenRows_58 (by decide) rfl ?_
          refine g_iinc (l1 := [(4, vI (x16_4_2 + 1)), (3, vI (x16_3_2 + 0)), (0, vR 0), (1, vI a1), (2, vI rc2)]) dX12_takenRows_59 rfl (by decide) rfl ?_
          refine g_goto (tgt := 16) dX12_takenRows_62 (by decide) ?_
          refine g_forget (l1 := [(0, vR 0), (1, vI a1), (2, vI rc2), (3, vI (x16_3_2 + 0)), (4, vI (x16_4_2 + 1))]) (by intro q hq; simp only [List.mem_cons, List.not_mem_nil, or_false] at hq ⊢; rcases hq with rfl | rfl | rfl | rfl | rfl <;> simp) ?_
          exact ih16_2 (x16_4_2 + 1) ⟨by omega, by omega⟩ (x16_3_2 + 0) ⟨by omega, by omega⟩ (by omega)
        · refine g_aload_n dX12_takenRows_46 rfl ?_
          refine m_g68 rfl dX12_takenRows_47 ?_
          refine g_iload dX12_takenRows_50 rfl ?_
          refine m_l45 (z := (P 45 x16_4_2)) dX12_takenRows_52 ⟨by omega, by omega⟩ rfl ?_
          refine g_goto (tgt := 57) dX12_takenRows_53 (by decide) ?_
          refine g_iadd dX12_takenRows_57 ?_
          refine g_norm (fun r149 h_r149 e_r149 => ?_)
          refine g_istore_n (l1 := [(3, vI r149), (0, vR 0), (1, vI a1), (2, vI rc2), (4, vI x16_4_2)]) dX12_takenRows_58 (by decide) rfl ?_
          refine g_iinc (l1 := [(4, vI (x16_4_2 + 1)), (3, vI r149), (0, vR 0), (1, vI a1), (2, vI rc2)]) dX12_takenRows_59 rfl (by decide) rfl ?_
          refine g_goto (tgt := 16) dX12_takenRows_62 (by decide) ?_
          refine g_forget (l1 := [(0, vR 0), (1, vI a1), (2, vI rc2), (3, vI r149), (4, vI (x16_4_2 + 1))]) (by intro q hq; simp only [List.mem_cons, List.not_mem_nil, or_false] at hq ⊢; rcases hq with rfl | rfl | rfl | rfl | rfl <;> simp) ?_
          exact ih16_2 (x16_4_2 + 1) ⟨by omega, by omega⟩ r149 ⟨by omega, by omega⟩ (by omega)
  refine g_forget (l1 := [(0, vR 0), (1, vI a1), (2, vI rc2), (3, vI 0), (4, vI 0)]) (by intro q hq; simp only [List.mem_cons, List.not_mem_nil, or_false] at hq ⊢; rcases hq with rfl | rfl | rfl | rfl | rfl <;> simp) ?_
  exact L16_2 _ 0 (by decide) 0 (by decide) (Nat.lt_succ_self _)
set_option maxRecDepth 100000 in
set_option maxHeartbeats 4000000 in
theorem m_X12_arm (G : GT) (P : PH) (a1 : Int) (a2 : Int) (h_a1 : (-2147483648) ≤ a1 ∧ a1 ≤ 2147483647) (h_a2 : (-2147483648) ≤ a2 ∧ a2 ≤ 2147483647) (hB : BdM P) (p_st : P 0 74 ≤ 199999999) (v_okC : okC P) (v_MVw : MVw P) (v_RE : RE P) (Q : Option PV → PH → Prop) (hQ : ∀ (r : Int) (_ : (-2147483648) ≤ r ∧ r ≤ 2147483647) (P1 : PH) (_ : BdM P1) (_ : FrM ([62, 66, 74], [41, 42, 43, 44, 45]) P P1) (_ : P1 0 74 ≤ P 0 74 + 1) (_ : MVw P1) (_ : RE P1), Q (some (vI r)) P1) : Ct WSM G 6 iX12_arm [vR 0, vI a1, vI a2] P Q := by
  refine Ct.of (by decide) (l0 := [(0, vR 0), (1, vI a1), (2, vI a2)]) rfl (Nat.le_of_ble_eq_true rfl) ?_
  refine g_aload_n dX12_arm_0 rfl ?_
  refine g_iload_n dX12_arm_1 rfl ?_
  refine g_vI (av := [vI a1]) (o := 0) (st := []) (m_X12_isPlace G P a1 ⟨by omega, by omega⟩ hB  _ (fun rc1 hc1 gc1_p => ⟨rc1, rfl, ?_⟩)) cf_X12_isPlace t_1883 rfl (by decide) rfl rfl rfl (Nat.le_of_ble_eq_true rfl) (by decide) rfl dX12_arm_2
  have f2 := b0_44 hB
  have f3 := bl_35 (k := 0) hB
  refine g_if_ne (tgt := 10) dX12_arm_5 (by decide) ⟨by omega, by omega⟩ (fun k4 => ?_) (fun k4 => ?_)
  · refine g_aload_n dX12_arm_10 rfl ?_
    refine g_iconst dX12_arm_11 ?_
    refine g_vV (av := [vI 0]) (o := 0) (st := []) (m_X12_arranges G P 0 (by decide) hB (by have q0 := b0_74 hB; omega) v_MVw v_RE _ (fun Pc5 hBc5 hFc5 gc5_st vc5_MV vc5_RE vc5_RLt => ⟨rfl, ?_⟩)) cf_X12_arranges t_1887 rfl (by decide) rfl rfl rfl (Nat.le_of_ble_eq_true rfl) (by decide) rfl dX12_arm_12
    refine g_iload_n dX12_arm_15 rfl ?_
    refine g_if_ne (tgt := 26) dX12_arm_16 (by decide) ⟨by omega, by omega⟩ (fun k6 => ?_) (fun k6 => ?_)
    · refine g_iload_n dX12_arm_26 rfl ?_
      refine g_iconst dX12_arm_27 ?_
      refine g_icmp_ne (tgt := 38) dX12_arm_28 (by decide) ⟨by omega, by omega⟩ (by decide) (fun k7 => ?_) (fun k7 => ?_)
      · refine g_iload_n dX12_arm_38 rfl ?_
        refine g_iconst dX12_arm_39 ?_
        refine g_iconst dX12_arm_40 ?_
        refine g_sI (av := [vI a2, vI 2, vI 4]) (st := []) (m_X12_is G Pc5 a2 2 4 ⟨by omega, by omega⟩ (by decide) (by decide) hBc5  _ (fun rc8 hc8 gc8_is => ⟨rc8, rfl, ?_⟩)) cf_X12_is t_1800 rfl (Nat.le_of_ble_eq_true rfl) (by decide) rfl dX12_arm_41
        refine g_if_ne (tgt := 49) dX12_arm_44 (by decide) ⟨by omega, by omega⟩ (fun k9 => ?_) (fun k9 => ?_)
        · refine g_aload_n dX12_arm_49 rfl ?_
          refine g_vV (av := []) (o := 0) (st := []) (m_X12_countsRows G Pc5  hBc5 (okC.fr (F := ([62, 66, 74], [41, 42, 43])) v_okC (FrM.c FrM.rf hFc5 rfl) rfl) _ (fun Pc10 hBc10 hFc10 => ⟨rfl, ?_⟩)) cf_X12_countsRows t_1895 rfl (by decide) rfl rfl rfl (Nat.le_of_ble_eq_true rfl) (by decide) rfl dX12_arm_50
          refine g_iload_n dX12_arm_53 rfl ?_
          refine g_iconst dX12_arm_54 ?_
          refine g_icmp_ne (tgt := 66) dX12_arm_55 (by decide) ⟨by omega, by omega⟩ (by decide) (fun k11 => ?_) (fun k11 => ?_)
          · refine g_iload_n dX12_arm_66 rfl ?_
            refine g_iconst dX12_arm_67 ?_
            refine g_icmp_ne (tgt := 79) dX12_arm_68 (by decide) ⟨by omega, by omega⟩ (by decide) (fun k12 => ?_) (fun k12 => ?_)
            · refine g_aload_n dX12_arm_79 rfl ?_
              refine g_iload_n dX12_arm_80 rfl ?_
              refine g_vI (av := [vI a1]) (o := 0) (st := []) (m_X12_takenRows G Pc10 a1 ⟨by omega, by omega⟩ hBc10  _ (fun rc13 hc13 => ⟨rc13, rfl, ?_⟩)) cf_X12_takenRows t_1919 rfl (by decide) rfl rfl rfl (Nat.le_of_ble_eq_true rfl) (by decide) rfl dX12_arm_81
              exact g_retI dX12_arm_84 rfl (hQ rc13 ⟨by omega, by omega⟩ _ hBc10 (FrM.c (FrM.c FrM.rf hFc5 rfl) hFc10 rfl) (by have q0 := (((hFc10.1 74 rfl).trans rfl) : Pc10 0 74 = (Pc5 0 74)); have q1 := b0_74 hBc5; omega) ((MV.fr (F := ([], [44, 45])) vc5_MV (FrM.c FrM.rf hFc10 rfl) rfl).w) (RE.fr (F := ([], [44, 45])) vc5_RE (FrM.c FrM.rf hFc10 rfl) rfl))
            · refine g_aload_n dX12_arm_71 rfl ?_
              refine g_iload_n dX12_arm_72 rfl ?_
              refine g_vI (av := [vI a1]) (o := 0) (st := []) (m_X12_fittingRows G Pc10 a1 ⟨by omega, by omega⟩ hBc10  _ (fun rc14 hc14 => ⟨rc14, rfl, ?_⟩)) cf_X12_fittingRows t_1915 rfl (by decide) rfl rfl rfl (Nat.le_of_ble_eq_true rfl) (by decide) rfl dX12_arm_73
              refine g_goto (tgt := 84) dX12_arm_76 (by decide) ?_
              exact g_retI dX12_arm_84 rfl (hQ rc14 ⟨by omega, by omega⟩ _ hBc10 (FrM.c (FrM.c FrM.rf hFc5 rfl) hFc10 rfl) (by have q0 := (((hFc10.1 74 rfl).trans rfl) : Pc10 0 74 = (Pc5 0 74)); have q1 := b0_74 hBc5; omega) ((MV.fr (F := ([], [44, 45])) vc5_MV (FrM.c FrM.rf hFc10 rfl) rfl).w) (RE.fr (F := ([], [44, 45])) vc5_RE (FrM.c FrM.rf hFc10 rfl) rfl))
          · refine g_aload_n dX12_arm_58 rfl ?_
            refine g_iload_n dX12_arm_59 rfl ?_
            refine g_vI (av := [vI a1]) (o := 0) (st := []) (m_X12_isUseful G Pc10 a1 ⟨by omega, by omega⟩ hBc10  _ (fun rc15 hc15 => ⟨rc15, rfl, ?_⟩)) cf_X12_isUseful t_1911 rfl (by decide) rfl rfl rfl (Nat.le_of_ble_eq_true rfl) (by decide) rfl dX12_arm_60
            refine g_goto (tgt := 84) dX12_arm_63 (by decide) ?_
            exact g_retI dX12_arm_84 rfl (hQ rc15 ⟨by omega, by omega⟩ _ hBc10 (FrM.c (FrM.c FrM.rf hFc5 rfl) hFc10 rfl) (by have q0 := (((hFc10.1 74 rfl).trans rfl) : Pc10 0 74 = (Pc5 0 74)); have q1 := b0_74 hBc5; omega) ((MV.fr (F := ([], [44, 45])) vc5_MV (FrM.c FrM.rf hFc10 rfl) rfl).w) (RE.fr (F := ([], [44, 45])) vc5_RE (FrM.c FrM.rf hFc10 rfl) rfl))
        · refine g_iconst dX12_arm_47 ?_
          exact g_retI dX12_arm_48 rfl (hQ (-1) (by decide) _ hBc5 (FrM.c FrM.rf hFc5 rfl) (by have q0 := b0_74 hBc5; omega) (vc5_MV.w) vc5_RE)
      · refine g_aload_n dX12_arm_31 rfl ?_
        refine m_g65 rfl dX12_arm_32 ?_
        refine g_iload_n dX12_arm_35 rfl ?_
        refine m_l43 (z := (Pc5 43 a1)) dX12_arm_36 ⟨by omega, by omega⟩ rfl ?_
        exact g_retI dX12_arm_37 rfl (hQ (Pc5 43 a1) ⟨by have q0 := bl_43 (k := a1) hBc5; omega, by have q0 := bl_43 (k := a1) hBc5; omega⟩ _ hBc5 (FrM.c FrM.rf hFc5 rfl) (by have q0 := bl_43 (k := a1) hBc5; have q1 := b0_74 hBc5; omega) (vc5_MV.w) vc5_RE)
    · refine g_aload_n dX12_arm_19 rfl ?_
      refine m_g54 rfl dX12_arm_20 ?_
      refine g_iload_n dX12_arm_23 rfl ?_
      refine m_l36 (z := (P 36 a1)) dX12_arm_24 ⟨by omega, by omega⟩ ((congrFun (hFc5.2 36 rfl rfl) _).trans rfl) ?_
      exact g_retI dX12_arm_25 rfl (hQ (P 36 a1) ⟨by have q0 := bl_36 (k := a1) hB; omega, by have q0 := bl_36 (k := a1) hB; omega⟩ _ hBc5 (FrM.c FrM.rf hFc5 rfl) (by have q0 := bl_36 (k := a1) hB; have q1 := b0_74 hBc5; omega) (vc5_MV.w) vc5_RE)
  · refine g_iconst dX12_arm_8 ?_
    exact g_retI dX12_arm_9 rfl (hQ (-1) (by decide) _ hB FrM.rf (by have q0 := b0_74 hB; omega) v_MVw v_RE)
set_option maxRecDepth 100000 in
set_option maxHeartbeats 4000000 in
theorem m_X12_fits (G : GT) (P : PH) (a1 : Int) (a2 : Int) (a3 : Int) (h_a1 : (-2147483648) ≤ a1 ∧ a1 ≤ 2147483647) (h_a2 : (-2147483648) ≤ a2 ∧ a2 ≤ 2147483647) (h_a3 : (-2147483648) ≤ a3 ∧ a3 ≤ 2147483647) (hB : BdM P) (p_st : P 0 74 ≤ 199999999) (v_okC : okC P) (v_MVw : MVw P) (v_RE : RE P) (Q : Option PV → PH → Prop) (hQ : ∀ (r : Int) (_ : (-2147483648) ≤ r ∧ r ≤ 2147483647) (P1 : PH) (_ : BdM P1) (_ : FrM ([62, 66, 74], [41, 42, 43]) P P1) (_ : P1 0 74 ≤ P 0 74 + 1) (_ : MVw P1) (_ : RE P1), Q (some (vI r)) P1) : Ct WSM G 3 iX12_fits [vR 0, vI a1, vI a2, vI a3] P Q := by
  refine Ct.of (by decide) (l0 := [(0, vR 0), (1, vI a1), (2, vI a2), (3, vI a3)]) rfl (Nat.le_of_ble_eq_true rfl) ?_
  refine g_aload_n dX12_fits_0 rfl ?_
  refine g_iload_n dX12_fits_1 rfl ?_
  refine g_vI (av := [vI a1]) (o := 0) (st := []) (m_X12_isPlace G P a1 ⟨by omega, by omega⟩ hB  _ (fun rc1 hc1 gc1_p => ⟨rc1, rfl, ?_⟩)) cf_X12_isPlace t_1883 rfl (by decide) rfl rfl rfl (Nat.le_of_ble_eq_true rfl) (by decide) rfl dX12_fits_2
  have f2 := b0_44 hB
  have f3 := bl_35 (k := 0) hB
  refine g_if_eq (tgt := 37) dX12_fits_5 (by decide) ⟨by omega, by omega⟩ (fun k4 => ?_) (fun k4 => ?_)
  · refine g_iconst dX12_fits_37 ?_
    exact g_retI dX12_fits_38 rfl (hQ (-1) (by decide) _ hB FrM.rf (by have q0 := b0_74 hB; omega) v_MVw v_RE)
  · refine g_iload_n dX12_fits_8 rfl ?_
    refine g_iconst dX12_fits_9 ?_
    refine g_aload_n dX12_fits_10 rfl ?_
    refine g_vI (av := []) (o := 0) (st := [vI 0, vI a2]) (m_X12_columns G P  hB  _ (fun rc5 hc5 gc5_c => ⟨rc5, rfl, ?_⟩)) cf_X12_columns t_1827 rfl (by decide) rfl rfl rfl (Nat.le_of_ble_eq_true rfl) (by decide) rfl dX12_fits_11
    refine g_iconst dX12_fits_14 ?_
    refine g_isub dX12_fits_15 ?_
    refine g_sI (av := [vI a2, vI 0, vI (rc5 - 1)]) (st := []) (m_X12_is G P a2 0 (rc5 - 1) ⟨by omega, by omega⟩ (by decide) ⟨by omega, by omega⟩ hB  _ (fun rc6 hc6 gc6_is => ⟨rc6, rfl, ?_⟩)) cf_X12_is t_1800 rfl (Nat.le_of_ble_eq_true rfl) (by decide) rfl dX12_fits_16
    refine g_if_eq (tgt := 37) dX12_fits_19 (by decide) ⟨by omega, by omega⟩ (fun k7 => ?_) (fun k7 => ?_)
    · refine g_iconst dX12_fits_37 ?_
      exact g_retI dX12_fits_38 rfl (hQ (-1) (by decide) _ hB FrM.rf (by have q0 := b0_74 hB; omega) v_MVw v_RE)
    · refine g_iload_n dX12_fits_22 rfl ?_
      refine g_iconst dX12_fits_23 ?_
      refine g_aload_n dX12_fits_24 rfl ?_
      refine g_iload_n dX12_fits_25 rfl ?_
      refine g_vI (av := [vI a2]) (o := 0) (st := [vI 0, vI a3]) (m_X12_columnValues G P a2 ⟨by omega, by omega⟩ hB (by have q0 := bl_11 (k := (P 0 13)) hB; omega) v_okC _ (fun rc8 hc8 gc8_v => ⟨rc8, rfl, ?_⟩)) cf_X12_columnValues t_1831 rfl (by decide) rfl rfl rfl (Nat.le_of_ble_eq_true rfl) (by decide) rfl dX12_fits_26
      refine g_iconst dX12_fits_29 ?_
      refine g_isub dX12_fits_30 ?_
      refine g_sI (av := [vI a3, vI 0, vI (rc8 - 1)]) (st := []) (m_X12_is G P a3 0 (rc8 - 1) ⟨by omega, by omega⟩ (by decide) ⟨by omega, by omega⟩ hB  _ (fun rc9 hc9 gc9_is => ⟨rc9, rfl, ?_⟩)) cf_X12_is t_1800 rfl (Nat.le_of_ble_eq_true rfl) (by decide) rfl dX12_fits_31
      refine g_if_ne (tgt := 39) dX12_fits_34 (by decide) ⟨by omega, by omega⟩ (fun k10 => ?_) (fun k10 => ?_)
      · refine g_aload_n dX12_fits_39 rfl ?_
        refine g_iconst dX12_fits_40 ?_
        refine g_vV (av := [vI 0]) (o := 0) (st := []) (m_X12_arranges G P 0 (by decide) hB (by have q0 := b0_74 hB; omega) v_MVw v_RE _ (fun Pc11 hBc11 hFc11 gc11_st vc11_MV vc11_RE vc11_RLt => ⟨rfl, ?_⟩)) cf_X12_arranges t_1887 rfl (by decide) rfl rfl rfl (Nat.le_of_ble_eq_true rfl) (by decide) rfl dX12_fits_41
        refine g_aload_n dX12_fits_44 rfl ?_
        refine g_iload_n dX12_fits_45 rfl ?_
        refine g_iload_n dX12_fits_46 rfl ?_
        refine g_vI (av := [vI a2, vI a3]) (o := 0) (st := []) (m_X12_setIn G Pc11 a2 a3 ⟨by omega, by omega⟩ ⟨by omega, by omega⟩ hBc11  _ (fun rc12 hc12 => ⟨rc12, rfl, ?_⟩)) cf_X12_setIn t_1907 rfl (by decide) rfl rfl rfl (Nat.le_of_ble_eq_true rfl) (by decide) rfl dX12_fits_47
        refine g_iload_n dX12_fits_50 rfl ?_
        refine g_ishr dX12_fits_51 ?_
        refine g_nm (fun b13 e_b13 => ?_)
        have h_b13 := ishr_ir rc12 a1
        rw [← e_b13] at h_b13
        refine g_iconst dX12_fits_52 ?_
        refine g_iand dX12_fits_53 ?_
        refine g_nm (fun b14 e_b14 => ?_)
        have h_b14 := iand_r (x := b13) (y := 1) ⟨by omega, by omega⟩
        rw [← e_b14] at h_b14
        exact g_retI dX12_fits_54 rfl (hQ b14 ⟨by omega, by omega⟩ _ hBc11 (FrM.c FrM.rf hFc11 rfl) (by have q0 := b0_74 hBc11; omega) (vc11_MV.w) vc11_RE)
      · refine g_iconst dX12_fits_37 ?_
        exact g_retI dX12_fits_38 rfl (hQ (-1) (by decide) _ hB FrM.rf (by have q0 := b0_74 hB; omega) v_MVw v_RE)
set_option maxRecDepth 100000 in
set_option maxHeartbeats 4000000 in
theorem m_X12_holds (G : GT) (P : PH) (a1 : Int) (a2 : Int) (h_a1 : (-2147483648) ≤ a1 ∧ a1 ≤ 2147483647) (h_a2 : (-2147483648) ≤ a2 ∧ a2 ≤ 2147483647) (hB : BdM P) (p_st : P 0 74 ≤ 199999999) (v_okC : okC P) (v_MVw : MVw P) (v_RE : RE P) (Q : Option PV → PH → Prop) (hQ : ∀ (r : Int) (_ : (-2147483648) ≤ r ∧ r ≤ 2147483647) (P1 : PH) (_ : BdM P1) (_ : FrM ([62, 66, 74], [41, 42, 43, 44, 45]) P P1) (_ : P1 0 74 ≤ P 0 74 + 1) (_ : MVw P1) (_ : RE P1), Q (some (vI r)) P1) : Ct WSM G 6 iX12_holds [vR 0, vI a1, vI a2] P Q := by
  refine Ct.of (by decide) (l0 := [(0, vR 0), (1, vI a1), (2, vI a2)]) rfl (Nat.le_of_ble_eq_true rfl) ?_
  refine g_aload_n dX12_holds_0 rfl ?_
  refine g_iload_n dX12_holds_1 rfl ?_
  refine g_vI (av := [vI a1]) (o := 0) (st := []) (m_X12_isPlace G P a1 ⟨by omega, by omega⟩ hB  _ (fun rc1 hc1 gc1_p => ⟨rc1, rfl, ?_⟩)) cf_X12_isPlace t_1883 rfl (by decide) rfl rfl rfl (Nat.le_of_ble_eq_true rfl) (by decide) rfl dX12_holds_2
  have f2 := b0_44 hB
  have f3 := bl_35 (k := 0) hB
  refine g_if_eq (tgt := 16) dX12_holds_5 (by decide) ⟨by omega, by omega⟩ (fun k4 => ?_) (fun k4 => ?_)
  · refine g_iconst dX12_holds_16 ?_
    exact g_retI dX12_holds_17 rfl (hQ (-1) (by decide) _ hB FrM.rf (by have q0 := b0_74 hB; omega) v_MVw v_RE)
  · refine g_aload_n dX12_holds_8 rfl ?_
    refine g_iload_n dX12_holds_9 rfl ?_
    refine g_vI (av := [vI a2]) (o := 0) (st := []) (m_X12_isPlace G P a2 ⟨by omega, by omega⟩ hB  _ (fun rc5 hc5 gc5_p => ⟨rc5, rfl, ?_⟩)) cf_X12_isPlace t_1883 rfl (by decide) rfl rfl rfl (Nat.le_of_ble_eq_true rfl) (by decide) rfl dX12_holds_10
    refine g_if_ne (tgt := 18) dX12_holds_13 (by decide) ⟨by omega, by omega⟩ (fun k6 => ?_) (fun k6 => ?_)
    · refine g_aload_n dX12_holds_18 rfl ?_
      refine g_iconst dX12_holds_19 ?_
      refine g_vV (av := [vI 0]) (o := 0) (st := []) (m_X12_arranges G P 0 (by decide) hB (by have q0 := b0_74 hB; omega) v_MVw v_RE _ (fun Pc7 hBc7 hFc7 gc7_st vc7_MV vc7_RE vc7_RLt => ⟨rfl, ?_⟩)) cf_X12_arranges t_1887 rfl (by decide) rfl rfl rfl (Nat.le_of_ble_eq_true rfl) (by decide) rfl dX12_holds_20
      refine g_aload_n dX12_holds_23 rfl ?_
      refine g_vV (av := []) (o := 0) (st := []) (m_X12_countsRows G Pc7  hBc7 (okC.fr (F := ([62, 66, 74], [41, 42, 43])) v_okC (FrM.c FrM.rf hFc7 rfl) rfl) _ (fun Pc8 hBc8 hFc8 => ⟨rfl, ?_⟩)) cf_X12_countsRows t_1895 rfl (by decide) rfl rfl rfl (Nat.le_of_ble_eq_true rfl) (by decide) rfl dX12_holds_24
      refine g_iconst dX12_holds_27 ?_
      refine g_istore_n (l1 := [(3, vI 0), (0, vR 0), (1, vI a1), (2, vI a2)]) dX12_holds_28 (by decide) rfl ?_
      have L29_8 : ∀ (n29_8 : Nat) (x29_3_8 : Int) (h_x29_3_8 : 0 ≤ x29_3_8 ∧ x29_3_8 ≤ 4096) (hm29_8 : ((4097 - x29_3_8) : Int).toNat < n29_8), Go WSM G 6 iX12_holds 29 [(0, vR 0), (1, vI a1), (2, vI a2), (3, vI x29_3_8)] [] Pc8 Q := by
        intro n29_8
        induction n29_8 with
        | zero => intro x29_3_8 h_x29_3_8 hm29_8; exact absurd hm29_8 (Nat.not_lt_zero _)
        | succ n29_8 ih29_8 =>
        intro x29_3_8 h_x29_3_8 hm29_8
        refine g_iload_n dX12_holds_29 rfl ?_
        refine g_sipush dX12_holds_30 (by decide) ?_
        refine g_icmp_ge (tgt := 70) dX12_holds_33 (by decide) ⟨by omega, by omega⟩ (by decide) (fun k163 => ?_) (fun k163 => ?_)
        · refine g_iconst dX12_holds_70 ?_
          exact g_retI dX12_holds_71 rfl (hQ 1 (by decide) _ hBc8 (FrM.c (FrM.c FrM.rf hFc7 rfl) hFc8 rfl) (by have q0 := (((hFc8.1 74 rfl).trans rfl) : Pc8 0 74 = (Pc7 0 74)); have q1 := b0_74 hBc7; omega) ((MV.fr (F := ([], [44, 45])) vc7_MV (FrM.c FrM.rf hFc8 rfl) rfl).w) (RE.fr (F := ([], [44, 45])) vc7_RE (FrM.c FrM.rf hFc8 rfl) rfl))
        · refine g_aload_n dX12_holds_36 rfl ?_
          refine m_g68 rfl dX12_holds_37 ?_
          refine g_iload_n dX12_holds_40 rfl ?_
          refine m_l45 (z := (Pc8 45 x29_3_8)) dX12_holds_41 ⟨by omega, by omega⟩ rfl ?_
          have f164 := bl_45 (k := x29_3_8) hBc8
          refine g_if_le (tgt := 64) dX12_holds_42 (by decide) ⟨by have q0 := bl_45 (k := x29_3_8) hBc8; omega, by have q0 := bl_45 (k := x29_3_8) hBc8; omega⟩ (fun k165 => ?_) (fun k165 => ?_)
          · refine g_iinc (l1 := [(3, vI (x29_3_8 + 1)), (0, vR 0), (1, vI a1), (2, vI a2)]) dX12_holds_64 rfl (by decide) rfl ?_
            refine g_goto (tgt := 29) dX12_holds_67 (by decide) ?_
            refine g_forget (l1 := [(0, vR 0), (1, vI a1), (2, vI a2), (3, vI (x29_3_8 + 1))]) (by intro q hq; simp only [List.mem_cons, List.not_mem_nil, or_false] at hq ⊢; rcases hq with rfl | rfl | rfl | rfl <;> simp) ?_
            exact ih29_8 (x29_3_8 + 1) ⟨by omega, by omega⟩ (by omega)
          · refine g_iload_n dX12_holds_45 rfl ?_
            refine g_iload_n dX12_holds_46 rfl ?_
            refine g_ishr dX12_holds_47 ?_
            refine g_nm (fun b166 e_b166 => ?_)
            have h_b166 := ishr_ir x29_3_8 a2
            rw [← e_b166] at h_b166
            refine g_iconst dX12_holds_48 ?_
            refine g_iand dX12_holds_49 ?_
            refine g_nm (fun b167 e_b167 => ?_)
            have h_b167 := iand_r (x := b166) (y := 1) ⟨by omega, by omega⟩
            rw [← e_b167] at h_b167
            refine g_iconst dX12_holds_50 ?_
            refine g_icmp_ne (tgt := 64) dX12_holds_51 (by decide) ⟨by omega, by omega⟩ (by decide) (fun k168 => ?_) (fun k168 => ?_)
            · refine g_iinc (l1 := [(3, vI (x29_3_8 + 1)), (0, vR 0), (1, vI a1), (2, vI a2)]) dX12_holds_64 rfl (by decide) rfl ?_
              refine g_goto (tgt := 29) dX12_holds_67 (by decide) ?_
              refine g_forget (l1 := [(0, vR 0), (1, vI a1), (2, vI a2), (3, vI (x29_3_8 + 1))]) (by intro q hq; simp only [List.mem_cons, List.not_mem_nil, or_false] at hq ⊢; rcases hq with rfl | rfl | rfl | rfl <;> simp) ?_
              exact ih29_8 (x29_3_8 + 1) ⟨by omega, by omega⟩ (by omega)
            · refine g_iload_n dX12_holds_54 rfl ?_
              refine g_iload_n dX12_holds_55 rfl ?_
              refine g_ishr dX12_holds_56 ?_
              refine g_nm (fun b169 e_b169 => ?_)
              have h_b169 := ishr_ir x29_3_8 a1
              rw [← e_b169] at h_b169
              refine g_iconst dX12_holds_57 ?_
              refine g_iand dX12_holds_58 ?_
              refine g_nm (fun b170 e_b170 => ?_)
              have h_b170 := iand_r (x := b169) (y := 1) ⟨by omega, by omega⟩
              rw [← e_b170] at h_b170
              refine g_if_ne (tgt := 64) dX12_holds_59 (by decide) ⟨by omega, by omega⟩ (fun k171 => ?_) (fun k171 => ?_)
              · refine g_iinc (l1 := [(3, vI (x29_3_8 + 1)), (0, vR 0), (1, vI a1), (2, vI a2)]) dX12_holds_64 rfl (by decide) rfl ?_
                refine g_goto (tgt := 29) dX12_holds_67 (by decide) ?_
                refine g_forget (l1 := [(0, vR 0), (1, vI a1), (2, vI a2), (3, vI (x29_3_8 + 1))]) (by intro q hq; simp only [List.mem_cons, List.not_mem_nil, or_false] at hq ⊢; rcases hq with rfl | rfl | rfl | rfl <;> simp) ?_
                exact ih29_8 (x29_3_8 + 1) ⟨by omega, by omega⟩ (by omega)
              · refine g_iconst dX12_holds_62 ?_
                exact g_retI dX12_holds_63 rfl (hQ 0 (by decide) _ hBc8 (FrM.c (FrM.c FrM.rf hFc7 rfl) hFc8 rfl) (by have q0 := (((hFc8.1 74 rfl).trans rfl) : Pc8 0 74 = (Pc7 0 74)); have q1 := b0_74 hBc7; omega) ((MV.fr (F := ([], [44, 45])) vc7_MV (FrM.c FrM.rf hFc8 rfl) rfl).w) (RE.fr (F := ([], [44, 45])) vc7_RE (FrM.c FrM.rf hFc8 rfl) rfl))
      refine g_forget (l1 := [(0, vR 0), (1, vI a1), (2, vI a2), (3, vI 0)]) (by intro q hq; simp only [List.mem_cons, List.not_mem_nil, or_false] at hq ⊢; rcases hq with rfl | rfl | rfl | rfl <;> simp) ?_
      exact L29_8 _ 0 (by decide) (Nat.lt_succ_self _)
    · refine g_iconst dX12_holds_16 ?_
      exact g_retI dX12_holds_17 rfl (hQ (-1) (by decide) _ hB FrM.rf (by have q0 := b0_74 hB; omega) v_MVw v_RE)
set_option maxRecDepth 100000 in
set_option maxHeartbeats 4000000 in
theorem m_X12_missing (G : GT) (P : PH) (a1 : Int) (h_a1 : (-2147483648) ≤ a1 ∧ a1 ≤ 2147483647) (hB : BdM P) (p_st : P 0 74 ≤ 199999999) (v_okC : okC P) (v_MVw : MVw P) (v_RE : RE P) (Q : Option PV → PH → Prop) (hQ : ∀ (r : Int) (_ : (-2147483648) ≤ r ∧ r ≤ 2147483647) (P1 : PH) (_ : BdM P1) (_ : FrM ([62, 66, 74], [41, 42, 43, 44]) P P1) (_ : P1 0 74 ≤ P 0 74 + 1) (_ : MVw P1) (_ : RE P1), Q (some (vI r)) P1) : Ct WSM G 5 iX12_missing [vR 0, vI a1] P Q := by
  refine Ct.of (by decide) (l0 := [(0, vR 0), (1, vI a1)]) rfl (Nat.le_of_ble_eq_true rfl) ?_
  refine g_aload_n dX12_missing_0 rfl ?_
  refine m_g44 (z := (P 0 44)) rfl dX12_missing_1 rfl ?_
  have f1 := b0_44 hB
  refine g_if_eq (tgt := 12) dX12_missing_4 (by decide) ⟨by have q0 := b0_44 hB; omega, by have q0 := b0_44 hB; omega⟩ (fun k2 => ?_) (fun k2 => ?_)
  · refine g_iconst dX12_missing_12 ?_
    exact g_retI dX12_missing_13 rfl (hQ (-1) (by decide) _ hB FrM.rf (by have q0 := b0_74 hB; omega) v_MVw v_RE)
  · refine g_iload_n dX12_missing_7 rfl ?_
    refine g_iconst dX12_missing_8 ?_
    refine g_icmp_ge (tgt := 14) dX12_missing_9 (by decide) ⟨by omega, by omega⟩ (by decide) (fun k3 => ?_) (fun k3 => ?_)
    · refine g_aload_n dX12_missing_14 rfl ?_
      refine g_iconst dX12_missing_15 ?_
      refine g_vV (av := [vI 0]) (o := 0) (st := []) (m_X12_arranges G P 0 (by decide) hB (by have q0 := b0_74 hB; omega) v_MVw v_RE _ (fun Pc4 hBc4 hFc4 gc4_st vc4_MV vc4_RE vc4_RLt => ⟨rfl, ?_⟩)) cf_X12_arranges t_1887 rfl (by decide) rfl rfl rfl (Nat.le_of_ble_eq_true rfl) (by decide) rfl dX12_missing_16
      refine g_iconst dX12_missing_19 ?_
      refine g_istore_n (l1 := [(2, vI 0), (0, vR 0), (1, vI a1)]) dX12_missing_20 (by decide) rfl ?_
      refine g_iconst dX12_missing_21 ?_
      refine g_istore_n (l1 := [(3, vI 0), (2, vI 0), (0, vR 0), (1, vI a1)]) dX12_missing_22 (by decide) rfl ?_
      have L23_4 : ∀ (n23_4 : Nat) (x23_3_4 : Int) (h_x23_3_4 : 0 ≤ x23_3_4 ∧ x23_3_4 ≤ 20000) (x23_2_4 : Int) (h_x23_2_4 : 0 ≤ x23_2_4 ∧ x23_2_4 ≤ 20000) (H23_4 : PH) (hB23_4 : BdM H23_4) (hE23_4 : FrM ([], [44]) Pc4 H23_4) (i23_0_4 : x23_2_4 ≤ x23_3_4) (hm23_4 : ((20001 - x23_3_4) : Int).toNat < n23_4), Go WSM G 5 iX12_missing 23 [(0, vR 0), (1, vI a1), (2, vI x23_2_4), (3, vI x23_3_4)] [] H23_4 Q := by
        intro n23_4
        induction n23_4 with
        | zero => intro x23_3_4 h_x23_3_4 x23_2_4 h_x23_2_4 H23_4 hB23_4 hE23_4 i23_0_4 hm23_4; exact absurd hm23_4 (Nat.not_lt_zero _)
        | succ n23_4 ih23_4 =>
        intro x23_3_4 h_x23_3_4 x23_2_4 h_x23_2_4 H23_4 hB23_4 hE23_4 i23_0_4 hm23_4
        refine g_iload_n dX12_missing_23 rfl ?_
        refine g_aload_n dX12_missing_24 rfl ?_
        refine m_g52 (z := (P 0 52)) rfl dX12_missing_25 ((hE23_4.1 52 rfl).trans ((hFc4.1 52 rfl).trans rfl)) ?_
        have f34 := b0_52 hB
        refine g_icmp_ge (tgt := 63) dX12_missing_28 (by decide) ⟨by omega, by omega⟩ ⟨by have q0 := b0_52 hB; omega, by have q0 := b0_52 hB; omega⟩ (fun k35 => ?_) (fun k35 => ?_)
        · refine g_iload_n dX12_missing_63 rfl ?_
          refine g_iconst dX12_missing_64 ?_
          refine g_icmp_ne (tgt := 72) dX12_missing_65 (by decide) ⟨by omega, by omega⟩ (by decide) (fun k36 => ?_) (fun k36 => ?_)
          · refine g_iconst dX12_missing_72 ?_
            exact g_retI dX12_missing_73 rfl (hQ (-1) (by decide) _ hB23_4 (FrM.c (FrM.c FrM.rf hFc4 rfl) hE23_4 rfl) (by have q0 := (((hE23_4.1 74 rfl).trans rfl) : H23_4 0 74 = (Pc4 0 74)); have q1 := b0_74 hBc4; omega) ((MV.fr (F := ([], [44])) vc4_MV (FrM.c FrM.rf hE23_4 rfl) rfl).w) (RE.fr (F := ([], [44])) vc4_RE (FrM.c FrM.rf hE23_4 rfl) rfl))
          · refine g_iload_n dX12_missing_68 rfl ?_
            refine g_goto (tgt := 73) dX12_missing_69 (by decide) ?_
            exact g_retI dX12_missing_73 rfl (hQ x23_2_4 ⟨by omega, by omega⟩ _ hB23_4 (FrM.c (FrM.c FrM.rf hFc4 rfl) hE23_4 rfl) (by have q0 := (((hE23_4.1 74 rfl).trans rfl) : H23_4 0 74 = (Pc4 0 74)); have q1 := b0_74 hBc4; omega) ((MV.fr (F := ([], [44])) vc4_MV (FrM.c FrM.rf hE23_4 rfl) rfl).w) (RE.fr (F := ([], [44])) vc4_RE (FrM.c FrM.rf hE23_4 rfl) rfl))
        · refine g_aload_n dX12_missing_31 rfl ?_
          refine g_iload_n dX12_missing_32 rfl ?_
          refine g_vI (av := [vI x23_3_4]) (o := 0) (st := []) (m_X12_fitting G H23_4 x23_3_4 ⟨by omega, by omega⟩ hB23_4 (okC.fr (F := ([62, 66, 74], [41, 42, 43, 44])) v_okC (FrM.c (FrM.c FrM.rf hFc4 rfl) hE23_4 rfl) rfl) _ (fun rc37 hc37 Pc37 hBc37 hFc37 => ⟨rc37, rfl, ?_⟩)) cf_X12_fitting t_1899 rfl (by decide) rfl rfl rfl (Nat.le_of_ble_eq_true rfl) (by decide) rfl dX12_missing_33
          refine g_aload_n dX12_missing_36 rfl ?_
          refine m_g66 (z := (Pc4 0 66)) rfl dX12_missing_37 ((hFc37.1 66 rfl).trans ((hE23_4.1 66 rfl).trans rfl)) ?_
          refine g_iand dX12_missing_40 ?_
          refine g_nm (fun b38 e_b38 => ?_)
          have h_b38 := iand_l (x := rc37) (y := (Pc4 0 66)) ⟨by omega, by omega⟩
          rw [← e_b38] at h_b38
          refine g_if_eq (tgt := 47) dX12_missing_41 (by decide) ⟨by omega, by omega⟩ (fun k39 => ?_) (fun k39 => ?_)
          · refine g_iload_n dX12_missing_47 rfl ?_
            refine g_iload_n dX12_missing_48 rfl ?_
            refine g_icmp_ne (tgt := 54) dX12_missing_49 (by decide) ⟨by omega, by omega⟩ ⟨by omega, by omega⟩ (fun k40 => ?_) (fun k40 => ?_)
            · refine g_iinc (l1 := [(2, vI (x23_2_4 + 1)), (0, vR 0), (1, vI a1), (3, vI x23_3_4)]) dX12_missing_54 rfl (by decide) rfl ?_
              refine g_iinc (l1 := [(3, vI (x23_3_4 + 1)), (2, vI (x23_2_4 + 1)), (0, vR 0), (1, vI a1)]) dX12_missing_57 rfl (by decide) rfl ?_
              refine g_goto (tgt := 23) dX12_missing_60 (by decide) ?_
              refine g_forget (l1 := [(0, vR 0), (1, vI a1), (2, vI (x23_2_4 + 1)), (3, vI (x23_3_4 + 1))]) (by intro q hq; simp only [List.mem_cons, List.not_mem_nil, or_false] at hq ⊢; rcases hq with rfl | rfl | rfl | rfl <;> simp) ?_
              exact ih23_4 (x23_3_4 + 1) ⟨by have q0 := b0_52 hB; omega, by have q0 := b0_52 hB; omega⟩ (x23_2_4 + 1) ⟨by have q0 := b0_52 hB; omega, by have q0 := b0_52 hB; omega⟩ _ hBc37 (FrM.c (FrM.c FrM.rf hE23_4 rfl) hFc37 rfl) (by omega) (by omega)
            · refine g_iload_n dX12_missing_52 rfl ?_
              exact g_retI dX12_missing_53 rfl (hQ x23_3_4 ⟨by omega, by omega⟩ _ hBc37 (FrM.c (FrM.c (FrM.c FrM.rf hFc4 rfl) hE23_4 rfl) hFc37 rfl) (by have q0 := (((hFc37.1 74 rfl).trans ((hE23_4.1 74 rfl).trans rfl)) : Pc37 0 74 = (Pc4 0 74)); have q1 := b0_74 hBc4; omega) ((MV.fr (F := ([], [44])) vc4_MV (FrM.c (FrM.c FrM.rf hE23_4 rfl) hFc37 rfl) rfl).w) (RE.fr (F := ([], [44])) vc4_RE (FrM.c (FrM.c FrM.rf hE23_4 rfl) hFc37 rfl) rfl))
          · refine g_goto (tgt := 57) dX12_missing_44 (by decide) ?_
            refine g_iinc (l1 := [(3, vI (x23_3_4 + 1)), (0, vR 0), (1, vI a1), (2, vI x23_2_4)]) dX12_missing_57 rfl (by decide) rfl ?_
            refine g_goto (tgt := 23) dX12_missing_60 (by decide) ?_
            refine g_forget (l1 := [(0, vR 0), (1, vI a1), (2, vI x23_2_4), (3, vI (x23_3_4 + 1))]) (by intro q hq; simp only [List.mem_cons, List.not_mem_nil, or_false] at hq ⊢; rcases hq with rfl | rfl | rfl | rfl <;> simp) ?_
            exact ih23_4 (x23_3_4 + 1) ⟨by have q0 := b0_52 hB; omega, by have q0 := b0_52 hB; omega⟩ x23_2_4 ⟨by have q0 := b0_52 hB; omega, by have q0 := b0_52 hB; omega⟩ _ hBc37 (FrM.c (FrM.c FrM.rf hE23_4 rfl) hFc37 rfl) (by omega) (by omega)
      refine g_forget (l1 := [(0, vR 0), (1, vI a1), (2, vI 0), (3, vI 0)]) (by intro q hq; simp only [List.mem_cons, List.not_mem_nil, or_false] at hq ⊢; rcases hq with rfl | rfl | rfl | rfl <;> simp) ?_
      exact L23_4 _ 0 (by decide) 0 (by decide) _ hBc4 FrM.rf (by omega) (Nat.lt_succ_self _)
    · refine g_iconst dX12_missing_12 ?_
      exact g_retI dX12_missing_13 rfl (hQ (-1) (by decide) _ hB FrM.rf (by have q0 := b0_74 hB; omega) v_MVw v_RE)
set_option maxRecDepth 100000 in
set_option maxHeartbeats 4000000 in
theorem m_X12_taken (G : GT) (P : PH) (a1 : Int) (h_a1 : (-2147483648) ≤ a1 ∧ a1 ≤ 2147483647) (hB : BdM P) (p_st : P 0 74 ≤ 199999999) (v_okC : okC P) (v_MVw : MVw P) (v_RE : RE P) (Q : Option PV → PH → Prop) (hQ : ∀ (r : Int) (_ : (-2147483648) ≤ r ∧ r ≤ 2147483647) (P1 : PH) (_ : BdM P1) (_ : FrM ([62, 66, 74], [41, 42, 43, 44]) P P1) (_ : P1 0 74 ≤ P 0 74 + 1) (_ : MVw P1) (_ : RE P1), Q (some (vI r)) P1) : Ct WSM G 5 iX12_taken [vR 0, vI a1] P Q := by
  refine Ct.of (by decide) (l0 := [(0, vR 0), (1, vI a1)]) rfl (Nat.le_of_ble_eq_true rfl) ?_
  refine g_aload_n dX12_taken_0 rfl ?_
  refine g_iload_n dX12_taken_1 rfl ?_
  refine g_vI (av := [vI a1]) (o := 0) (st := []) (m_X12_isRow G P a1 ⟨by omega, by omega⟩ hB  _ (fun rc1 hc1 gc1_p => ⟨rc1, rfl, ?_⟩)) cf_X12_isRow t_1946 rfl (by decide) rfl rfl rfl (Nat.le_of_ble_eq_true rfl) (by decide) rfl dX12_taken_2
  have f2 := b0_44 hB
  have f3 := b0_52 hB
  refine g_if_ne (tgt := 10) dX12_taken_5 (by decide) ⟨by omega, by omega⟩ (fun k4 => ?_) (fun k4 => ?_)
  · refine g_aload_n dX12_taken_10 rfl ?_
    refine g_iconst dX12_taken_11 ?_
    refine g_vV (av := [vI 0]) (o := 0) (st := []) (m_X12_arranges G P 0 (by decide) hB (by have q0 := b0_74 hB; omega) v_MVw v_RE _ (fun Pc5 hBc5 hFc5 gc5_st vc5_MV vc5_RE vc5_RLt => ⟨rfl, ?_⟩)) cf_X12_arranges t_1887 rfl (by decide) rfl rfl rfl (Nat.le_of_ble_eq_true rfl) (by decide) rfl dX12_taken_12
    refine g_aload_n dX12_taken_15 rfl ?_
    refine g_iload_n dX12_taken_16 rfl ?_
    refine g_vI (av := [vI a1]) (o := 0) (st := []) (m_X12_fitting G Pc5 a1 ⟨by omega, by omega⟩ hBc5 (okC.fr (F := ([62, 66, 74], [41, 42, 43])) v_okC (FrM.c FrM.rf hFc5 rfl) rfl) _ (fun rc6 hc6 Pc6 hBc6 hFc6 => ⟨rc6, rfl, ?_⟩)) cf_X12_fitting t_1899 rfl (by decide) rfl rfl rfl (Nat.le_of_ble_eq_true rfl) (by decide) rfl dX12_taken_17
    refine g_aload_n dX12_taken_20 rfl ?_
    refine g_aload_n dX12_taken_21 rfl ?_
    refine m_g55 rfl dX12_taken_22 ?_
    refine g_iconst dX12_taken_25 ?_
    refine m_l37 (z := (P 37 0)) dX12_taken_26 (by decide) ((congrFun (hFc6.2 37 rfl rfl) _).trans ((congrFun (hFc5.2 37 rfl rfl) _).trans rfl)) ?_
    have f7 := bl_37 (k := 0) hB
    refine g_vI (av := [vI (P 37 0)]) (o := 0) (st := [vI rc6]) (m_X12_openBy G Pc6 (P 37 0) ⟨by have q0 := bl_37 (k := 0) hB; omega, by have q0 := bl_37 (k := 0) hB; omega⟩ hBc6  _ (fun rc8 hc8 => ⟨rc8, rfl, ?_⟩)) cf_X12_openBy t_1923 rfl (by decide) rfl rfl rfl (Nat.le_of_ble_eq_true rfl) (by decide) rfl dX12_taken_27
    refine g_iand dX12_taken_30 ?_
    refine g_nm (fun b9 e_b9 => ?_)
    have h_b9 := iand_l (x := rc6) (y := rc8) ⟨by omega, by omega⟩
    rw [← e_b9] at h_b9
    refine g_sI (av := [vI b9]) (st := []) (m_X12_lowest G Pc6 b9 ⟨by omega, by omega⟩ hBc6  _ (fun rc10 hc10 gc10_l gc10_b => ⟨rc10, rfl, ?_⟩)) cf_X12_lowest t_1927 rfl (Nat.le_of_ble_eq_true rfl) (by decide) rfl dX12_taken_31
    exact g_retI dX12_taken_34 rfl (hQ rc10 ⟨by omega, by omega⟩ _ hBc6 (FrM.c (FrM.c FrM.rf hFc5 rfl) hFc6 rfl) (by have q0 := (((hFc6.1 74 rfl).trans rfl) : Pc6 0 74 = (Pc5 0 74)); have q1 := b0_74 hBc5; omega) ((MV.fr (F := ([], [44])) vc5_MV (FrM.c FrM.rf hFc6 rfl) rfl).w) (RE.fr (F := ([], [44])) vc5_RE (FrM.c FrM.rf hFc6 rfl) rfl))
  · refine g_iconst dX12_taken_8 ?_
    exact g_retI dX12_taken_9 rfl (hQ (-1) (by decide) _ hB FrM.rf (by have q0 := b0_74 hB; omega) v_MVw v_RE)
set_option maxRecDepth 100000 in
set_option maxHeartbeats 4000000 in
theorem m_X12_see (G : GT) (P : PH) (hB : BdM P) (Q : Option PV → PH → Prop) (hQ : ∀ (r : Int) (_ : (-2147483648) ≤ r ∧ r ≤ 2147483647) (P1 : PH) (_ : BdM P1) (_ : FrM ([1, 92], [28, 59, 60]) P P1) (_ : P1 0 1 = 0), Q (some (vI r)) P1) : Ct WSM G 2 iX12_see [vR 0] P Q := by
  refine Ct.of (by decide) (l0 := [(0, vR 0)]) rfl (Nat.le_of_ble_eq_true rfl) ?_
  refine g_aload_n dX12_see_0 rfl ?_
  refine m_g1 (z := (P 0 1)) rfl dX12_see_1 rfl ?_
  refine g_istore_n (l1 := [(1, vI (P 0 1)), (0, vR 0)]) dX12_see_4 (by decide) rfl ?_
  refine g_aload_n dX12_see_5 rfl ?_
  refine g_iconst dX12_see_6 ?_
  refine m_p1 rfl dX12_see_7 ?_
  have hB1 := bs_1 (z := 0) hB (by decide)
  refine g_aload_n dX12_see_10 rfl ?_
  refine m_g44 (z := (P 0 44)) rfl dX12_see_11 ((up_k (by decide)).trans rfl) ?_
  have f2 := b0_44 hB
  have J37_1165 : ∀ (_ : True), Go WSM G 2 iX12_see 37 [(0, vR 0), (1, vI (P 0 1))] [] (up P 0 1 0) Q := by
    intro _
    refine g_iconst dX12_see_37 ?_
    refine g_istore_n (l1 := [(2, vI 0), (0, vR 0), (1, vI (P 0 1))]) dX12_see_38 (by decide) rfl ?_
    refine g_iconst dX12_see_39 ?_
    refine g_istore_n (l1 := [(3, vI 0), (2, vI 0), (0, vR 0), (1, vI (P 0 1))]) dX12_see_40 (by decide) rfl ?_
    have L41_1166 : ∀ (n41_1166 : Nat) (i41_0_1166 : 0 = 0 ∨ (P 0 1) ≤ 48) (hm41_1166 : (1604 - 0 : Int).toNat < n41_1166), Go WSM G 2 iX12_see 41 [(0, vR 0), (1, vI (P 0 1)), (2, vI 0), (3, vI 0)] [] (up P 0 1 0) Q := by
      intro n41_1166
      induction n41_1166 with
      | zero => intro i41_0_1166 hm41_1166; exact absurd hm41_1166 (Nat.not_lt_zero _)
      | succ n41_1166 ih41_1166 =>
      intro i41_0_1166 hm41_1166
      refine g_iload_n dX12_see_41 rfl ?_
      refine g_iload_n dX12_see_42 rfl ?_
      have f1198 := b0_1 hB
      have J118_1202 : ∀ (_ : True), Go WSM G 2 iX12_see 118 [(0, vR 0), (1, vI (P 0 1)), (2, vI 0)] [] (up P 0 1 0) Q := by
        intro _
        refine g_iload_n dX12_see_118 rfl ?_
        refine g_if_ne (tgt := 128) dX12_see_119 (by decide) (by decide) (fun k1204 => by exfalso; omega) (fun k1204 => ?_)
        refine g_aload_n dX12_see_122 rfl ?_
        refine g_iconst dX12_see_123 ?_
        refine g_vI (av := [vI 5]) (o := 0) (st := []) (m_X12_refuses G (up P 0 1 0) 5 (by decide) hB1  _ (fun rc1205 hc1205 Pc1205 hBc1205 hFc1205 => ⟨rc1205, rfl, ?_⟩)) cf_X12_refuses t_1667 rfl (by decide) rfl rfl rfl (Nat.le_of_ble_eq_true rfl) (by decide) rfl dX12_see_124
        exact g_retI dX12_see_127 rfl (hQ rc1205 ⟨by omega, by omega⟩ _ hBc1205 (FrM.c (FrM.s FrM.rf rfl) hFc1205 rfl) (by have q0 := (((hFc1205.1 1 rfl).trans up_same) : Pc1205 0 1 = 0); omega))
      refine g_icmp_ge (tgt := 118) dX12_see_43 (by decide) (by decide) ⟨by have q0 := b0_1 hB; omega, by have q0 := b0_1 hB; omega⟩ (fun k1206 => ?_) (fun k1206 => ?_)
      · refine g_forget (l1 := [(0, vR 0), (1, vI (P 0 1)), (2, vI 0)]) (by intro q hq; simp only [List.mem_cons, List.not_mem_nil, or_false] at hq ⊢; rcases hq with rfl | rfl | rfl <;> simp) ?_
        exact J118_1202 trivial
      · refine g_iload_n dX12_see_46 rfl ?_
        refine g_if_eq (tgt := 118) dX12_see_47 (by decide) (by decide) (fun k1207 => ?_) (fun k1207 => by exfalso; omega)
        refine g_forget (l1 := [(0, vR 0), (1, vI (P 0 1)), (2, vI 0)]) (by intro q hq; simp only [List.mem_cons, List.not_mem_nil, or_false] at hq ⊢; rcases hq with rfl | rfl | rfl <;> simp) ?_
        exact J118_1202 trivial
    refine g_forget (l1 := [(0, vR 0), (1, vI (P 0 1)), (2, vI 0), (3, vI 0)]) (by intro q hq; simp only [List.mem_cons, List.not_mem_nil, or_false] at hq ⊢; rcases hq with rfl | rfl | rfl | rfl <;> simp) ?_
    exact L41_1166 _ (by omega) (Nat.lt_succ_self _)
  refine g_if_eq (tgt := 37) dX12_see_14 (by decide) ⟨by have q0 := b0_44 hB; omega, by have q0 := b0_44 hB; omega⟩ (fun k1208 => ?_) (fun k1208 => ?_)
  · refine g_forget (l1 := [(0, vR 0), (1, vI (P 0 1))]) (by intro q hq; simp only [List.mem_cons, List.not_mem_nil, or_false] at hq ⊢; rcases hq with rfl | rfl <;> simp) ?_
    exact J37_1165 trivial
  · refine g_iload_n dX12_see_17 rfl ?_
    have f1209 := b0_1 hB
    refine g_if_le (tgt := 37) dX12_see_18 (by decide) ⟨by have q0 := b0_1 hB; omega, by have q0 := b0_1 hB; omega⟩ (fun k1210 => ?_) (fun k1210 => ?_)
    · refine g_forget (l1 := [(0, vR 0), (1, vI (P 0 1))]) (by intro q hq; simp only [List.mem_cons, List.not_mem_nil, or_false] at hq ⊢; rcases hq with rfl | rfl <;> simp) ?_
      exact J37_1165 trivial
    · refine g_iload_n dX12_see_21 rfl ?_
      refine g_iconst dX12_see_22 ?_
      refine g_irem dX12_see_23 ⟨(by decide), by decide⟩ ?_
      refine g_nm (fun b1211 e_b1211 => ?_)
      have h_b1211 := irem_b (x := (P 0 1)) (y := 3) ⟨by have q0 := b0_1 hB; omega, by have q0 := b0_1 hB; omega⟩ ⟨by omega, by omega⟩
      rw [← e_b1211] at h_b1211
      have f_b1211_0 := b0_1 hB
      refine g_if_ne (tgt := 37) dX12_see_24 (by decide) ⟨by omega, by omega⟩ (fun k1212 => ?_) (fun k1212 => ?_)
      · refine g_forget (l1 := [(0, vR 0), (1, vI (P 0 1))]) (by intro q hq; simp only [List.mem_cons, List.not_mem_nil, or_false] at hq ⊢; rcases hq with rfl | rfl <;> simp) ?_
        exact J37_1165 trivial
      · refine g_iload_n dX12_see_27 rfl ?_
        refine g_bipush dX12_see_28 (by decide) ?_
        refine g_icmp_gt (tgt := 37) dX12_see_30 (by decide) ⟨by have q0 := b0_1 hB; omega, by have q0 := b0_1 hB; omega⟩ (by decide) (fun k1213 => ?_) (fun k1213 => ?_)
        · refine g_forget (l1 := [(0, vR 0), (1, vI (P 0 1))]) (by intro q hq; simp only [List.mem_cons, List.not_mem_nil, or_false] at hq ⊢; rcases hq with rfl | rfl <;> simp) ?_
          exact J37_1165 trivial
        · refine g_iconst dX12_see_33 ?_
          refine g_goto (tgt := 38) dX12_see_34 (by decide) ?_
          refine g_istore_n (l1 := [(2, vI 1), (1, vI (P 0 1)), (0, vR 0)]) dX12_see_38 (by decide) rfl ?_
          refine g_iconst dX12_see_39 ?_
          refine g_istore_n (l1 := [(3, vI 0), (2, vI 1), (1, vI (P 0 1)), (0, vR 0)]) dX12_see_40 (by decide) rfl ?_
          have L41_1213 : ∀ (n41_1213 : Nat) (x41_3_1213 : Int) (h_x41_3_1213 : 0 ≤ x41_3_1213 ∧ x41_3_1213 ≤ 1603) (x41_2_1213 : Int) (h_x41_2_1213 : 0 ≤ x41_2_1213 ∧ x41_2_1213 ≤ 1) (i41_0_1213 : x41_2_1213 = 0 ∨ (P 0 1) ≤ 48) (hm41_1213 : (1604 - x41_3_1213 : Int).toNat < n41_1213), Go WSM G 2 iX12_see 41 [(0, vR 0), (1, vI (P 0 1)), (2, vI x41_2_1213), (3, vI x41_3_1213)] [] (up P 0 1 0) Q := by
            intro n41_1213
            induction n41_1213 with
            | zero => intro x41_3_1213 h_x41_3_1213 x41_2_1213 h_x41_2_1213 i41_0_1213 hm41_1213; exact absurd hm41_1213 (Nat.not_lt_zero _)
            | succ n41_1213 ih41_1213 =>
            intro x41_3_1213 h_x41_3_1213 x41_2_1213 h_x41_2_1213 i41_0_1213 hm41_1213
            refine g_iload_n dX12_see_41 rfl ?_
            refine g_iload_n dX12_see_42 rfl ?_
            have J118_2195 : ∀ (_ : True), Go WSM G 2 iX12_see 118 [(0, vR 0), (1, vI (P 0 1)), (2, vI x41_2_1213)] [] (up P 0 1 0) Q := by
              intro _
              refine g_iload_n dX12_see_118 rfl ?_
              refine g_if_ne (tgt := 128) dX12_see_119 (by decide) ⟨by omega, by omega⟩ (fun k2197 => ?_) (fun k2197 => ?_)
              · refine g_aload_n dX12_see_128 rfl ?_
                refine g_iload_n dX12_see_129 rfl ?_
                refine g_iconst dX12_see_130 ?_
                refine g_idiv dX12_see_131 ⟨(by decide), by decide⟩ ?_
                refine g_nm (fun b2198 e_b2198 => ?_)
                have h_b2198 := idiv_p (x := (P 0 1)) (y := 3) ⟨by have q0 := b0_1 hB; omega, by have q0 := b0_1 hB; omega⟩ ⟨by omega, by omega⟩
                rw [← e_b2198] at h_b2198
                have f_b2198_0 := b0_1 hB
                refine m_p92 rfl dX12_see_132 ?_
                have hB2199 := bs_92 (z := b2198) hB1 ⟨by omega, by omega⟩
                refine g_iconst dX12_see_135 ?_
                refine g_istore_n (l1 := [(3, vI 0), (0, vR 0), (1, vI (P 0 1)), (2, vI x41_2_1213)]) dX12_see_136 (by decide) rfl ?_
                have L137_2199 : ∀ (n137_2199 : Nat) (x137_3_2199 : Int) (h_x137_3_2199 : 0 ≤ x137_3_2199 ∧ x137_3_2199 ≤ 16) (H137_2199 : PH) (hB137_2199 : BdM H137_2199) (hE137_2199 : FrM ([], [59, 60]) (up (up P 0 1 0) 0 92 b2198) H137_2199) (hm137_2199 : ((17 - x137_3_2199) : Int).toNat < n137_2199), Go WSM G 2 iX12_see 137 [(0, vR 0), (3, vI x137_3_2199)] [] H137_2199 Q := by
                  intro n137_2199
                  induction n137_2199 with
                  | zero => intro x137_3_2199 h_x137_3_2199 H137_2199 hB137_2199 hE137_2199 hm137_2199; exact absurd hm137_2199 (Nat.not_lt_zero _)
                  | succ n137_2199 ih137_2199 =>
                  intro x137_3_2199 h_x137_3_2199 H137_2199 hB137_2199 hE137_2199 hm137_2199
                  refine g_iload_n dX12_see_137 rfl ?_
                  refine g_aload_n dX12_see_138 rfl ?_
                  refine m_g92 (z := b2198) rfl dX12_see_139 ((hE137_2199.1 92 rfl).trans up_same) ?_
                  refine g_icmp_ge (tgt := 215) dX12_see_142 (by decide) ⟨by omega, by omega⟩ ⟨by omega, by omega⟩ (fun k2297 => ?_) (fun k2297 => ?_)
                  · refine g_aload_n dX12_see_215 rfl ?_
                    refine m_g92 (z := b2198) rfl dX12_see_216 ((hE137_2199.1 92 rfl).trans up_same) ?_
                    exact g_retI dX12_see_219 rfl (hQ b2198 ⟨by omega, by omega⟩ _ hB137_2199 (FrM.c (FrM.s (FrM.s FrM.rf rfl) rfl) hE137_2199 rfl) (by have q0 := (((hE137_2199.1 1 rfl).trans ((up_k (by decide)).trans up_same)) : H137_2199 0 1 = 0); omega))
                  · refine g_aload_n dX12_see_145 rfl ?_
                    refine m_g93 rfl dX12_see_146 ?_
                    refine g_iload_n dX12_see_149 rfl ?_
                    refine g_aload_n dX12_see_150 rfl ?_
                    refine m_g0 rfl dX12_see_151 ?_
                    refine g_iconst dX12_see_154 ?_
                    refine g_iload_n dX12_see_155 rfl ?_
                    refine g_imul dX12_see_156 ?_
                    refine m_l1 (z := (P 1 (3 * x137_3_2199))) dX12_see_157 ⟨by omega, by omega⟩ ((congrFun (hE137_2199.2 1 rfl rfl) _).trans ((up_o (by decide)).trans ((up_o (by decide)).trans rfl))) ?_
                    refine g_bipush dX12_see_158 (by decide) ?_
                    refine g_ishl dX12_see_160 ?_
                    refine g_nm (fun b2298 e_b2298 => ?_)
                    have h_b2298 : (ishl (P 1 (3 * x137_3_2199)) 8) = (P 1 (3 * x137_3_2199)) * 256 := ishl_c 8 (by decide) (x := (P 1 (3 * x137_3_2199))) (show IR ((P 1 (3 * x137_3_2199)) * 256) from ⟨by have q0 := bl_1 (k := (3 * x137_3_2199)) hB; omega, by have q0 := bl_1 (k := (3 * x137_3_2199)) hB; omega⟩)
                    rw [← e_b2298] at h_b2298
                    have f_b2298_0 := bl_1 (k := (3 * x137_3_2199)) hB
                    refine g_aload_n dX12_see_161 rfl ?_
                    refine m_g0 rfl dX12_see_162 ?_
                    refine g_iconst dX12_see_165 ?_
                    refine g_iload_n dX12_see_166 rfl ?_
                    refine g_imul dX12_see_167 ?_
                    refine g_iconst dX12_see_168 ?_
                    refine g_iadd dX12_see_169 ?_
                    refine m_l1 (z := (P 1 ((3 * x137_3_2199) + 1))) dX12_see_170 ⟨by omega, by omega⟩ ((congrFun (hE137_2199.2 1 rfl rfl) _).trans ((up_o (by decide)).trans ((up_o (by decide)).trans rfl))) ?_
                    refine g_ior dX12_see_171 ?_
                    refine g_nm (fun b2299 e_b2299 => ?_)
                    have h_b2299 : 0 ≤ (ior b2298 (P 1 ((3 * x137_3_2199) + 1))) ∧ (ior b2298 (P 1 ((3 * x137_3_2199) + 1))) < 65536 := ior_b 16 (by decide) (x := b2298) (y := (P 1 ((3 * x137_3_2199) + 1))) (show 0 ≤ b2298 ∧ b2298 < 65536 from ⟨by omega, by omega⟩) (show 0 ≤ (P 1 ((3 * x137_3_2199) + 1)) ∧ (P 1 ((3 * x137_3_2199) + 1)) < 65536 from ⟨by have q0 := bl_1 (k := ((3 * x137_3_2199) + 1)) hB; omega, by have q0 := bl_1 (k := ((3 * x137_3_2199) + 1)) hB; omega⟩)
                    rw [← e_b2299] at h_b2299
                    refine m_s59 dX12_see_172 ⟨by omega, by omega⟩ ?_
                    have hB2300 := ba_59 (z := b2299) (k := x137_3_2199) hB137_2199 ⟨by omega, by omega⟩
                    refine g_aload_n dX12_see_173 rfl ?_
                    refine m_g94 rfl dX12_see_174 ?_
                    refine g_iload_n dX12_see_177 rfl ?_
                    refine g_aload_n dX12_see_178 rfl ?_
                    refine m_g0 rfl dX12_see_179 ?_
                    refine g_iconst dX12_see_182 ?_
                    refine g_iload_n dX12_see_183 rfl ?_
                    refine g_imul dX12_see_184 ?_
                    refine g_iconst dX12_see_185 ?_
                    refine g_iadd dX12_see_186 ?_
                    refine m_l1 (z := (P 1 ((3 * x137_3_2199) + 2))) dX12_see_187 ⟨by omega, by omega⟩ ((up_o (by decide)).trans ((congrFun (hE137_2199.2 1 rfl rfl) _).trans ((up_o (by decide)).trans ((up_o (by decide)).trans rfl)))) ?_
                    refine g_sipush dX12_see_188 (by decide) ?_
                    have f2301 := bl_1 (k := ((3 * x137_3_2199) + 2)) hB
                    refine g_icmp_ne (tgt := 198) dX12_see_191 (by decide) ⟨by have q0 := bl_1 (k := ((3 * x137_3_2199) + 2)) hB; omega, by have q0 := bl_1 (k := ((3 * x137_3_2199) + 2)) hB; omega⟩ (by decide) (fun k2302 => ?_) (fun k2302 => ?_)
                    · refine g_aload_n dX12_see_198 rfl ?_
                      refine m_g0 rfl dX12_see_199 ?_
                      refine g_iconst dX12_see_202 ?_
                      refine g_iload_n dX12_see_203 rfl ?_
                      refine g_imul dX12_see_204 ?_
                      refine g_iconst dX12_see_205 ?_
                      refine g_iadd dX12_see_206 ?_
                      refine m_l1 (z := (P 1 ((3 * x137_3_2199) + 2))) dX12_see_207 ⟨by omega, by omega⟩ ((up_o (by decide)).trans ((congrFun (hE137_2199.2 1 rfl rfl) _).trans ((up_o (by decide)).trans ((up_o (by decide)).trans rfl)))) ?_
                      refine m_s60 dX12_see_208 ⟨by omega, by omega⟩ ?_
                      have hB2303 := ba_60 (z := (P 1 ((3 * x137_3_2199) + 2))) (k := x137_3_2199) hB2300 ⟨by have q0 := bl_1 (k := ((3 * x137_3_2199) + 2)) hB; omega, by have q0 := bl_1 (k := ((3 * x137_3_2199) + 2)) hB; omega⟩
                      refine g_iinc (l1 := [(3, vI (x137_3_2199 + 1)), (0, vR 0)]) dX12_see_209 rfl (by decide) rfl ?_
                      refine g_goto (tgt := 137) dX12_see_212 (by decide) ?_
                      refine g_forget (l1 := [(0, vR 0), (3, vI (x137_3_2199 + 1))]) (by intro q hq; simp only [List.mem_cons, List.not_mem_nil, or_false] at hq ⊢; rcases hq with rfl | rfl <;> simp) ?_
                      exact ih137_2199 (x137_3_2199 + 1) ⟨by omega, by omega⟩ _ hB2303 (FrM.a (FrM.a (FrM.c FrM.rf hE137_2199 rfl) rfl rfl) rfl rfl) (by omega)
                    · refine g_iconst dX12_see_194 ?_
                      refine g_goto (tgt := 208) dX12_see_195 (by decide) ?_
                      refine m_s60 dX12_see_208 ⟨by omega, by omega⟩ ?_
                      have hB2304 := ba_60 (z := (-1)) (k := x137_3_2199) hB2300 (by decide)
                      refine g_iinc (l1 := [(3, vI (x137_3_2199 + 1)), (0, vR 0)]) dX12_see_209 rfl (by decide) rfl ?_
                      refine g_goto (tgt := 137) dX12_see_212 (by decide) ?_
                      refine g_forget (l1 := [(0, vR 0), (3, vI (x137_3_2199 + 1))]) (by intro q hq; simp only [List.mem_cons, List.not_mem_nil, or_false] at hq ⊢; rcases hq with rfl | rfl <;> simp) ?_
                      exact ih137_2199 (x137_3_2199 + 1) ⟨by omega, by omega⟩ _ hB2304 (FrM.a (FrM.a (FrM.c FrM.rf hE137_2199 rfl) rfl rfl) rfl rfl) (by omega)
                refine g_forget (l1 := [(0, vR 0), (3, vI 0)]) (by intro q hq; simp only [List.mem_cons, List.not_mem_nil, or_false] at hq ⊢; rcases hq with rfl | rfl <;> simp) ?_
                exact L137_2199 _ 0 (by decide) _ hB2199 FrM.rf (Nat.lt_succ_self _)
              · refine g_aload_n dX12_see_122 rfl ?_
                refine g_iconst dX12_see_123 ?_
                refine g_vI (av := [vI 5]) (o := 0) (st := []) (m_X12_refuses G (up P 0 1 0) 5 (by decide) hB1  _ (fun rc2305 hc2305 Pc2305 hBc2305 hFc2305 => ⟨rc2305, rfl, ?_⟩)) cf_X12_refuses t_1667 rfl (by decide) rfl rfl rfl (Nat.le_of_ble_eq_true rfl) (by decide) rfl dX12_see_124
                exact g_retI dX12_see_127 rfl (hQ rc2305 ⟨by omega, by omega⟩ _ hBc2305 (FrM.c (FrM.s FrM.rf rfl) hFc2305 rfl) (by have q0 := (((hFc2305.1 1 rfl).trans up_same) : Pc2305 0 1 = 0); omega))
            refine g_icmp_ge (tgt := 118) dX12_see_43 (by decide) ⟨by omega, by omega⟩ ⟨by have q0 := b0_1 hB; omega, by have q0 := b0_1 hB; omega⟩ (fun k2306 => ?_) (fun k2306 => ?_)
            · refine g_forget (l1 := [(0, vR 0), (1, vI (P 0 1)), (2, vI x41_2_1213)]) (by intro q hq; simp only [List.mem_cons, List.not_mem_nil, or_false] at hq ⊢; rcases hq with rfl | rfl | rfl <;> simp) ?_
              exact J118_2195 trivial
            · refine g_iload_n dX12_see_46 rfl ?_
              refine g_if_eq (tgt := 118) dX12_see_47 (by decide) ⟨by omega, by omega⟩ (fun k2307 => ?_) (fun k2307 => ?_)
              · refine g_forget (l1 := [(0, vR 0), (1, vI (P 0 1)), (2, vI x41_2_1213)]) (by intro q hq; simp only [List.mem_cons, List.not_mem_nil, or_false] at hq ⊢; rcases hq with rfl | rfl | rfl <;> simp) ?_
                exact J118_2195 trivial
              · refine g_aload_n dX12_see_50 rfl ?_
                refine m_g0 rfl dX12_see_51 ?_
                refine g_iload_n dX12_see_54 rfl ?_
                refine m_l1 (z := (P 1 x41_3_1213)) dX12_see_55 ⟨by omega, by omega⟩ ((up_o (by decide)).trans rfl) ?_
                refine g_bipush dX12_see_56 (by decide) ?_
                refine g_ishl dX12_see_58 ?_
                refine g_nm (fun b2308 e_b2308 => ?_)
                have h_b2308 : (ishl (P 1 x41_3_1213) 8) = (P 1 x41_3_1213) * 256 := ishl_c 8 (by decide) (x := (P 1 x41_3_1213)) (show IR ((P 1 x41_3_1213) * 256) from ⟨by have q0 := bl_1 (k := x41_3_1213) hB; omega, by have q0 := bl_1 (k := x41_3_1213) hB; omega⟩)
                rw [← e_b2308] at h_b2308
                have f_b2308_0 := bl_1 (k := x41_3_1213) hB
                refine g_aload_n dX12_see_59 rfl ?_
                refine m_g0 rfl dX12_see_60 ?_
                refine g_iload_n dX12_see_63 rfl ?_
                refine g_iconst dX12_see_64 ?_
                refine g_iadd dX12_see_65 ?_
                refine m_l1 (z := (P 1 (x41_3_1213 + 1))) dX12_see_66 ⟨by omega, by omega⟩ ((up_o (by decide)).trans rfl) ?_
                refine g_ior dX12_see_67 ?_
                refine g_nm (fun b2309 e_b2309 => ?_)
                have h_b2309 : 0 ≤ (ior b2308 (P 1 (x41_3_1213 + 1))) ∧ (ior b2308 (P 1 (x41_3_1213 + 1))) < 65536 := ior_b 16 (by decide) (x := b2308) (y := (P 1 (x41_3_1213 + 1))) (show 0 ≤ b2308 ∧ b2308 < 65536 from ⟨by omega, by omega⟩) (show 0 ≤ (P 1 (x41_3_1213 + 1)) ∧ (P 1 (x41_3_1213 + 1)) < 65536 from ⟨by have q0 := bl_1 (k := (x41_3_1213 + 1)) hB; omega, by have q0 := bl_1 (k := (x41_3_1213 + 1)) hB; omega⟩)
                rw [← e_b2309] at h_b2309
                refine g_aload_n dX12_see_68 rfl ?_
                refine m_g52 (z := (P 0 52)) rfl dX12_see_69 ((up_k (by decide)).trans rfl) ?_
                have f2310 := b0_52 hB
                have J110_2319 : ∀ (_ : True), Go WSM G 2 iX12_see 110 [(0, vR 0), (1, vI (P 0 1)), (3, vI x41_3_1213)] [] (up P 0 1 0) Q := by
                  intro _
                  refine g_iconst dX12_see_110 ?_
                  refine g_istore_n (l1 := [(2, vI 0), (0, vR 0), (1, vI (P 0 1)), (3, vI x41_3_1213)]) dX12_see_111 (by decide) rfl ?_
                  refine g_iinc (l1 := [(3, vI (x41_3_1213 + 3)), (2, vI 0), (0, vR 0), (1, vI (P 0 1))]) dX12_see_112 rfl (by decide) rfl ?_
                  refine g_goto (tgt := 41) dX12_see_115 (by decide) ?_
                  refine g_forget (l1 := [(0, vR 0), (1, vI (P 0 1)), (2, vI 0), (3, vI (x41_3_1213 + 3))]) (by intro q hq; simp only [List.mem_cons, List.not_mem_nil, or_false] at hq ⊢; rcases hq with rfl | rfl | rfl | rfl <;> simp) ?_
                  exact ih41_1213 (x41_3_1213 + 3) ⟨by have q0 := b0_1 hB; omega, by have q0 := b0_1 hB; omega⟩ 0 (by decide) (by omega) (by omega)
                refine g_icmp_ge (tgt := 110) dX12_see_72 (by decide) ⟨by omega, by omega⟩ ⟨by have q0 := b0_52 hB; omega, by have q0 := b0_52 hB; omega⟩ (fun k2321 => ?_) (fun k2321 => ?_)
                · refine g_forget (l1 := [(0, vR 0), (1, vI (P 0 1)), (3, vI x41_3_1213)]) (by intro q hq; simp only [List.mem_cons, List.not_mem_nil, or_false] at hq ⊢; rcases hq with rfl | rfl | rfl <;> simp) ?_
                  exact J110_2319 trivial
                · refine g_aload_n dX12_see_75 rfl ?_
                  refine m_g0 rfl dX12_see_76 ?_
                  refine g_iload_n dX12_see_79 rfl ?_
                  refine g_iconst dX12_see_80 ?_
                  refine g_iadd dX12_see_81 ?_
                  refine m_l1 (z := (P 1 (x41_3_1213 + 2))) dX12_see_82 ⟨by omega, by omega⟩ ((up_o (by decide)).trans rfl) ?_
                  refine g_sipush dX12_see_83 (by decide) ?_
                  have f2322 := bl_1 (k := (x41_3_1213 + 2)) hB
                  have J106_2325 : ∀ (_ : True), Go WSM G 2 iX12_see 106 [(0, vR 0), (1, vI (P 0 1)), (3, vI x41_3_1213)] [] (up P 0 1 0) Q := by
                    intro _
                    refine g_iconst dX12_see_106 ?_
                    refine g_goto (tgt := 111) dX12_see_107 (by decide) ?_
                    refine g_istore_n (l1 := [(2, vI 1), (0, vR 0), (1, vI (P 0 1)), (3, vI x41_3_1213)]) dX12_see_111 (by decide) rfl ?_
                    refine g_iinc (l1 := [(3, vI (x41_3_1213 + 3)), (2, vI 1), (0, vR 0), (1, vI (P 0 1))]) dX12_see_112 rfl (by decide) rfl ?_
                    refine g_goto (tgt := 41) dX12_see_115 (by decide) ?_
                    refine g_forget (l1 := [(0, vR 0), (1, vI (P 0 1)), (2, vI 1), (3, vI (x41_3_1213 + 3))]) (by intro q hq; simp only [List.mem_cons, List.not_mem_nil, or_false] at hq ⊢; rcases hq with rfl | rfl | rfl | rfl <;> simp) ?_
                    exact ih41_1213 (x41_3_1213 + 3) ⟨by have q0 := b0_1 hB; omega, by have q0 := b0_1 hB; omega⟩ 1 (by decide) (by omega) (by omega)
                  refine g_icmp_eq (tgt := 106) dX12_see_86 (by decide) ⟨by have q0 := bl_1 (k := (x41_3_1213 + 2)) hB; omega, by have q0 := bl_1 (k := (x41_3_1213 + 2)) hB; omega⟩ (by decide) (fun k2327 => ?_) (fun k2327 => ?_)
                  · refine g_forget (l1 := [(0, vR 0), (1, vI (P 0 1)), (3, vI x41_3_1213)]) (by intro q hq; simp only [List.mem_cons, List.not_mem_nil, or_false] at hq ⊢; rcases hq with rfl | rfl | rfl <;> simp) ?_
                    exact J106_2325 trivial
                  · refine g_aload_n dX12_see_89 rfl ?_
                    refine m_g0 rfl dX12_see_90 ?_
                    refine g_iload_n dX12_see_93 rfl ?_
                    refine g_iconst dX12_see_94 ?_
                    refine g_iadd dX12_see_95 ?_
                    refine m_l1 (z := (P 1 (x41_3_1213 + 2))) dX12_see_96 ⟨by omega, by omega⟩ ((up_o (by decide)).trans rfl) ?_
                    refine g_aload_n dX12_see_97 rfl ?_
                    refine m_g53 rfl dX12_see_98 ?_
                    refine g_iconst dX12_see_101 ?_
                    refine m_l35 (z := (P 35 0)) dX12_see_102 (by decide) ((up_o (by decide)).trans rfl) ?_
                    have f2328 := bl_35 (k := 0) hB
                    refine g_icmp_ge (tgt := 110) dX12_see_103 (by decide) ⟨by have q0 := bl_1 (k := (x41_3_1213 + 2)) hB; omega, by have q0 := bl_1 (k := (x41_3_1213 + 2)) hB; omega⟩ ⟨by have q0 := bl_35 (k := 0) hB; omega, by have q0 := bl_35 (k := 0) hB; omega⟩ (fun k2329 => ?_) (fun k2329 => ?_)
                    · refine g_forget (l1 := [(0, vR 0), (1, vI (P 0 1)), (3, vI x41_3_1213)]) (by intro q hq; simp only [List.mem_cons, List.not_mem_nil, or_false] at hq ⊢; rcases hq with rfl | rfl | rfl <;> simp) ?_
                      exact J110_2319 trivial
                    · refine g_forget (l1 := [(0, vR 0), (1, vI (P 0 1)), (3, vI x41_3_1213)]) (by intro q hq; simp only [List.mem_cons, List.not_mem_nil, or_false] at hq ⊢; rcases hq with rfl | rfl | rfl <;> simp) ?_
                      exact J106_2325 trivial
          refine g_forget (l1 := [(0, vR 0), (1, vI (P 0 1)), (2, vI 1), (3, vI 0)]) (by intro q hq; simp only [List.mem_cons, List.not_mem_nil, or_false] at hq ⊢; rcases hq with rfl | rfl | rfl | rfl <;> simp) ?_
          exact L41_1213 _ 0 (by decide) 1 (by decide) (by omega) (Nat.lt_succ_self _)
set_option maxRecDepth 100000 in
set_option maxHeartbeats 4000000 in
theorem m_X12_leaves (G : GT) (P : PH) (hB : BdM P) (p_st : P 0 74 ≤ 199999999) (v_okC : okC P) (v_MVw : MVw P) (v_RE : RE P) (Q : Option PV → PH → Prop) (hQ : ∀ (r : Int) (_ : (-2147483648) ≤ r ∧ r ≤ 2147483647) (P1 : PH) (_ : BdM P1) (_ : FrM ([62, 66, 74], [41, 42, 43, 44, 61, 62]) P P1) (_ : P1 0 74 ≤ P 0 74 + 1) (_ : MVw P1) (_ : RE P1), Q (some (vI r)) P1) : Ct WSM G 5 iX12_leaves [vR 0] P Q := by
  refine Ct.of (by decide) (l0 := [(0, vR 0)]) rfl (Nat.le_of_ble_eq_true rfl) ?_
  refine g_aload_n dX12_leaves_0 rfl ?_
  refine g_iconst dX12_leaves_1 ?_
  refine g_vV (av := [vI 0]) (o := 0) (st := []) (m_X12_arranges G P 0 (by decide) hB (by have q0 := b0_74 hB; omega) v_MVw v_RE _ (fun Pc1 hBc1 hFc1 gc1_st vc1_MV vc1_RE vc1_RLt => ⟨rfl, ?_⟩)) cf_X12_arranges t_1887 rfl (by decide) rfl rfl rfl (Nat.le_of_ble_eq_true rfl) (by decide) rfl dX12_leaves_2
  refine g_iconst dX12_leaves_5 ?_
  refine g_istore_n (l1 := [(1, vI 0), (0, vR 0)]) dX12_leaves_6 (by decide) rfl ?_
  refine g_iconst dX12_leaves_7 ?_
  refine g_istore_n (l1 := [(2, vI 0), (1, vI 0), (0, vR 0)]) dX12_leaves_8 (by decide) rfl ?_
  have L9_1 : ∀ (n9_1 : Nat) (x9_2_1 : Int) (h_x9_2_1 : 0 ≤ x9_2_1 ∧ x9_2_1 ≤ 256) (H9_1 : PH) (hB9_1 : BdM H9_1) (hE9_1 : FrM ([], [61, 62]) Pc1 H9_1) (hm9_1 : ((257 - x9_2_1) : Int).toNat < n9_1), Go WSM G 5 iX12_leaves 9 [(0, vR 0), (1, vI 0), (2, vI x9_2_1)] [] H9_1 Q := by
    intro n9_1
    induction n9_1 with
    | zero => intro x9_2_1 h_x9_2_1 H9_1 hB9_1 hE9_1 hm9_1; exact absurd hm9_1 (Nat.not_lt_zero _)
    | succ n9_1 ih9_1 =>
    intro x9_2_1 h_x9_2_1 H9_1 hB9_1 hE9_1 hm9_1
    refine g_iload_n dX12_leaves_9 rfl ?_
    refine g_sipush dX12_leaves_10 (by decide) ?_
    refine g_icmp_ge (tgt := 40) dX12_leaves_13 (by decide) ⟨by omega, by omega⟩ (by decide) (fun k5556 => ?_) (fun k5556 => ?_)
    · refine g_iconst dX12_leaves_40 ?_
      refine g_istore_n (l1 := [(2, vI 0), (0, vR 0), (1, vI 0)]) dX12_leaves_41 (by decide) rfl ?_
      have L42_5556 : ∀ (n42_5556 : Nat) (x42_2_5556 : Int) (h_x42_2_5556 : 0 ≤ x42_2_5556 ∧ x42_2_5556 ≤ 16) (H42_5556 : PH) (hB42_5556 : BdM H42_5556) (hE42_5556 : FrM ([], [44, 61]) H9_1 H42_5556) (hm42_5556 : ((17 - x42_2_5556) : Int).toNat < n42_5556), Go WSM G 5 iX12_leaves 42 [(0, vR 0), (1, vI 0), (2, vI x42_2_5556)] [] H42_5556 Q := by
        intro n42_5556
        induction n42_5556 with
        | zero => intro x42_2_5556 h_x42_2_5556 H42_5556 hB42_5556 hE42_5556 hm42_5556; exact absurd hm42_5556 (Nat.not_lt_zero _)
        | succ n42_5556 ih42_5556 =>
        intro x42_2_5556 h_x42_2_5556 H42_5556 hB42_5556 hE42_5556 hm42_5556
        refine g_iload_n dX12_leaves_42 rfl ?_
        refine g_aload_n dX12_leaves_43 rfl ?_
        refine m_g92 (z := (P 0 92)) rfl dX12_leaves_44 ((hE42_5556.1 92 rfl).trans ((hE9_1.1 92 rfl).trans ((hFc1.1 92 rfl).trans rfl))) ?_
        have f7205 := b0_92 hB
        refine g_icmp_ge (tgt := 113) dX12_leaves_47 (by decide) ⟨by omega, by omega⟩ ⟨by have q0 := b0_92 hB; omega, by have q0 := b0_92 hB; omega⟩ (fun k7206 => ?_) (fun k7206 => ?_)
        · refine g_iconst dX12_leaves_113 ?_
          refine g_istore_n (l1 := [(2, vI 0), (0, vR 0), (1, vI 0)]) dX12_leaves_114 (by decide) rfl ?_
          have L115_7206 : ∀ (n115_7206 : Nat) (x115_2_7206 : Int) (h_x115_2_7206 : 0 ≤ x115_2_7206 ∧ x115_2_7206 ≤ 256) (x115_1_7206 : Int) (h_x115_1_7206 : (-2147483648) ≤ x115_1_7206 ∧ x115_1_7206 ≤ 2147483647) (hm115_7206 : ((257 - x115_2_7206) : Int).toNat < n115_7206), Go WSM G 5 iX12_leaves 115 [(0, vR 0), (1, vI x115_1_7206), (2, vI x115_2_7206)] [] H42_5556 Q := by
            intro n115_7206
            induction n115_7206 with
            | zero => intro x115_2_7206 h_x115_2_7206 x115_1_7206 h_x115_1_7206 hm115_7206; exact absurd hm115_7206 (Nat.not_lt_zero _)
            | succ n115_7206 ih115_7206 =>
            intro x115_2_7206 h_x115_2_7206 x115_1_7206 h_x115_1_7206 hm115_7206
            refine g_iload_n dX12_leaves_115 rfl ?_
            refine g_sipush dX12_leaves_116 (by decide) ?_
            refine g_icmp_ge (tgt := 137) dX12_leaves_119 (by decide) ⟨by omega, by omega⟩ (by decide) (fun k7239 => ?_) (fun k7239 => ?_)
            · refine g_iload_n dX12_leaves_137 rfl ?_
              exact g_retI dX12_leaves_138 rfl (hQ x115_1_7206 ⟨by omega, by omega⟩ _ hB42_5556 (FrM.c (FrM.c (FrM.c FrM.rf hFc1 rfl) hE9_1 rfl) hE42_5556 rfl) (by have q0 := (((hE42_5556.1 74 rfl).trans ((hE9_1.1 74 rfl).trans rfl)) : H42_5556 0 74 = (Pc1 0 74)); have q1 := b0_74 hBc1; omega) ((MV.fr (F := ([], [44, 61, 62])) vc1_MV (FrM.c (FrM.c FrM.rf hE9_1 rfl) hE42_5556 rfl) rfl).w) (RE.fr (F := ([], [44, 61, 62])) vc1_RE (FrM.c (FrM.c FrM.rf hE9_1 rfl) hE42_5556 rfl) rfl))
            · refine g_iload_n dX12_leaves_122 rfl ?_
              refine g_aload_n dX12_leaves_123 rfl ?_
              refine m_g95 rfl dX12_leaves_124 ?_
              refine g_iload_n dX12_leaves_127 rfl ?_
              refine m_l61 (z := (H42_5556 61 x115_2_7206)) dX12_leaves_128 ⟨by omega, by omega⟩ rfl ?_
              refine g_iadd dX12_leaves_129 ?_
              refine g_norm (fun r7240 h_r7240 e_r7240 => ?_)
              refine g_istore_n (l1 := [(1, vI r7240), (0, vR 0), (2, vI x115_2_7206)]) dX12_leaves_130 (by decide) rfl ?_
              refine g_iinc (l1 := [(2, vI (x115_2_7206 + 1)), (1, vI r7240), (0, vR 0)]) dX12_leaves_131 rfl (by decide) rfl ?_
              refine g_goto (tgt := 115) dX12_leaves_134 (by decide) ?_
              refine g_forget (l1 := [(0, vR 0), (1, vI r7240), (2, vI (x115_2_7206 + 1))]) (by intro q hq; simp only [List.mem_cons, List.not_mem_nil, or_false] at hq ⊢; rcases hq with rfl | rfl | rfl <;> simp) ?_
              exact ih115_7206 (x115_2_7206 + 1) ⟨by omega, by omega⟩ r7240 ⟨by omega, by omega⟩ (by omega)
          refine g_forget (l1 := [(0, vR 0), (1, vI 0), (2, vI 0)]) (by intro q hq; simp only [List.mem_cons, List.not_mem_nil, or_false] at hq ⊢; rcases hq with rfl | rfl | rfl <;> simp) ?_
          exact L115_7206 _ 0 (by decide) 0 (by decide) (Nat.lt_succ_self _)
        · refine g_aload_n dX12_leaves_50 rfl ?_
          refine g_aload_n dX12_leaves_51 rfl ?_
          refine m_g93 rfl dX12_leaves_52 ?_
          refine g_iload_n dX12_leaves_55 rfl ?_
          refine m_l59 (z := (P 59 x42_2_5556)) dX12_leaves_56 ⟨by omega, by omega⟩ ((congrFun (hE42_5556.2 59 rfl rfl) _).trans ((congrFun (hE9_1.2 59 rfl rfl) _).trans ((congrFun (hFc1.2 59 rfl rfl) _).trans rfl))) ?_
          have f7241 := bl_59 (k := x42_2_5556) hB
          refine g_vI (av := [vI (P 59 x42_2_5556)]) (o := 0) (st := []) (m_X12_fitting G H42_5556 (P 59 x42_2_5556) ⟨by have q0 := bl_59 (k := x42_2_5556) hB; omega, by have q0 := bl_59 (k := x42_2_5556) hB; omega⟩ hB42_5556 (okC.fr (F := ([62, 66, 74], [41, 42, 43, 44, 61, 62])) v_okC (FrM.c (FrM.c (FrM.c FrM.rf hFc1 rfl) hE9_1 rfl) hE42_5556 rfl) rfl) _ (fun rc7242 hc7242 Pc7242 hBc7242 hFc7242 => ⟨rc7242, rfl, ?_⟩)) cf_X12_fitting t_1899 rfl (by decide) rfl rfl rfl (Nat.le_of_ble_eq_true rfl) (by decide) rfl dX12_leaves_57
          refine g_istore_n (l1 := [(3, vI rc7242), (0, vR 0), (1, vI 0), (2, vI x42_2_5556)]) dX12_leaves_60 (by decide) rfl ?_
          refine g_iconst dX12_leaves_61 ?_
          refine g_istore (l1 := [(4, vI 0), (3, vI rc7242), (0, vR 0), (1, vI 0), (2, vI x42_2_5556)]) dX12_leaves_62 (by decide) rfl ?_
          have L64_7242 : ∀ (n64_7242 : Nat) (x64_4_7242 : Int) (h_x64_4_7242 : 0 ≤ x64_4_7242 ∧ x64_4_7242 ≤ 256) (H64_7242 : PH) (hB64_7242 : BdM H64_7242) (hE64_7242 : FrM ([], [61]) Pc7242 H64_7242) (hm64_7242 : ((257 - x64_4_7242) : Int).toNat < n64_7242), Go WSM G 5 iX12_leaves 64 [(0, vR 0), (1, vI 0), (2, vI x42_2_5556), (3, vI rc7242), (4, vI x64_4_7242)] [] H64_7242 Q := by
            intro n64_7242
            induction n64_7242 with
            | zero => intro x64_4_7242 h_x64_4_7242 H64_7242 hB64_7242 hE64_7242 hm64_7242; exact absurd hm64_7242 (Nat.not_lt_zero _)
            | succ n64_7242 ih64_7242 =>
            intro x64_4_7242 h_x64_4_7242 H64_7242 hB64_7242 hE64_7242 hm64_7242
            refine g_iload dX12_leaves_64 rfl ?_
            refine g_sipush dX12_leaves_66 (by decide) ?_
            refine g_icmp_ge (tgt := 107) dX12_leaves_69 (by decide) ⟨by omega, by omega⟩ (by decide) (fun k7379 => ?_) (fun k7379 => ?_)
            · refine g_iinc (l1 := [(2, vI (x42_2_5556 + 1)), (0, vR 0), (1, vI 0), (3, vI rc7242), (4, vI x64_4_7242)]) dX12_leaves_107 rfl (by decide) rfl ?_
              refine g_goto (tgt := 42) dX12_leaves_110 (by decide) ?_
              refine g_forget (l1 := [(0, vR 0), (1, vI 0), (2, vI (x42_2_5556 + 1))]) (by intro q hq; simp only [List.mem_cons, List.not_mem_nil, or_false] at hq ⊢; rcases hq with rfl | rfl | rfl <;> simp) ?_
              exact ih42_5556 (x42_2_5556 + 1) ⟨by omega, by omega⟩ _ hB64_7242 (FrM.c (FrM.c (FrM.c FrM.rf hE42_5556 rfl) hFc7242 rfl) hE64_7242 rfl) (by omega)
            · refine g_iload_n dX12_leaves_72 rfl ?_
              refine g_aload_n dX12_leaves_73 rfl ?_
              refine m_g96 rfl dX12_leaves_74 ?_
              refine g_iload dX12_leaves_77 rfl ?_
              refine m_l62 (z := (H9_1 62 x64_4_7242)) dX12_leaves_79 ⟨by omega, by omega⟩ ((congrFun (hE64_7242.2 62 rfl rfl) _).trans ((congrFun (hFc7242.2 62 rfl rfl) _).trans ((congrFun (hE42_5556.2 62 rfl rfl) _).trans rfl))) ?_
              refine g_iand dX12_leaves_80 ?_
              refine g_nm (fun b7380 e_b7380 => ?_)
              have h_b7380 := iand_l (x := rc7242) (y := (H9_1 62 x64_4_7242)) ⟨by omega, by omega⟩
              rw [← e_b7380] at h_b7380
              refine g_sI (av := [vI b7380]) (st := []) (m_X12_lowest G H64_7242 b7380 ⟨by omega, by omega⟩ hB64_7242  _ (fun rc7381 hc7381 gc7381_l gc7381_b => ⟨rc7381, rfl, ?_⟩)) cf_X12_lowest t_1927 rfl (Nat.le_of_ble_eq_true rfl) (by decide) rfl dX12_leaves_81
              refine g_aload_n dX12_leaves_84 rfl ?_
              refine m_g94 rfl dX12_leaves_85 ?_
              refine g_iload_n dX12_leaves_88 rfl ?_
              refine m_l60 (z := (P 60 x42_2_5556)) dX12_leaves_89 ⟨by omega, by omega⟩ ((congrFun (hE64_7242.2 60 rfl rfl) _).trans ((congrFun (hFc7242.2 60 rfl rfl) _).trans ((congrFun (hE42_5556.2 60 rfl rfl) _).trans ((congrFun (hE9_1.2 60 rfl rfl) _).trans ((congrFun (hFc1.2 60 rfl rfl) _).trans rfl))))) ?_
              have f7382 := bl_60 (k := x42_2_5556) hB
              have J101_7384 : ∀ (H101_7384 : PH) (hB101_7384 : BdM H101_7384) (hE101_7384 : FrM ([], [61]) H64_7242 H101_7384), Go WSM G 5 iX12_leaves 101 [(0, vR 0), (1, vI 0), (2, vI x42_2_5556), (3, vI rc7242), (4, vI x64_4_7242)] [] H101_7384 Q := by
                intro H101_7384 hB101_7384 hE101_7384
                refine g_iinc (l1 := [(4, vI (x64_4_7242 + 1)), (0, vR 0), (1, vI 0), (2, vI x42_2_5556), (3, vI rc7242)]) dX12_leaves_101 rfl (by decide) rfl ?_
                refine g_goto (tgt := 64) dX12_leaves_104 (by decide) ?_
                refine g_forget (l1 := [(0, vR 0), (1, vI 0), (2, vI x42_2_5556), (3, vI rc7242), (4, vI (x64_4_7242 + 1))]) (by intro q hq; simp only [List.mem_cons, List.not_mem_nil, or_false] at hq ⊢; rcases hq with rfl | rfl | rfl | rfl | rfl <;> simp) ?_
                exact ih64_7242 (x64_4_7242 + 1) ⟨by omega, by omega⟩ _ hB101_7384 (FrM.c (FrM.c FrM.rf hE64_7242 rfl) hE101_7384 rfl) (by omega)
              refine g_icmp_eq (tgt := 101) dX12_leaves_90 (by decide) ⟨by omega, by omega⟩ ⟨by have q0 := bl_60 (k := x42_2_5556) hB; omega, by have q0 := bl_60 (k := x42_2_5556) hB; omega⟩ (fun k7386 => ?_) (fun k7386 => ?_)
              · refine g_forget (l1 := [(0, vR 0), (1, vI 0), (2, vI x42_2_5556), (3, vI rc7242), (4, vI x64_4_7242)]) (by intro q hq; simp only [List.mem_cons, List.not_mem_nil, or_false] at hq ⊢; rcases hq with rfl | rfl | rfl | rfl | rfl <;> simp) ?_
                exact J101_7384 _ hB64_7242 FrM.rf
              · refine g_aload_n dX12_leaves_93 rfl ?_
                refine m_g95 rfl dX12_leaves_94 ?_
                refine g_iload dX12_leaves_97 rfl ?_
                refine g_iconst dX12_leaves_99 ?_
                refine m_s61 dX12_leaves_100 ⟨by omega, by omega⟩ ?_
                have hB7387 := ba_61 (z := 0) (k := x64_4_7242) hB64_7242 (by decide)
                refine g_forget (l1 := [(0, vR 0), (1, vI 0), (2, vI x42_2_5556), (3, vI rc7242), (4, vI x64_4_7242)]) (by intro q hq; simp only [List.mem_cons, List.not_mem_nil, or_false] at hq ⊢; rcases hq with rfl | rfl | rfl | rfl | rfl <;> simp) ?_
                exact J101_7384 _ hB7387 (FrM.a FrM.rf rfl rfl)
          refine g_forget (l1 := [(0, vR 0), (1, vI 0), (2, vI x42_2_5556), (3, vI rc7242), (4, vI 0)]) (by intro q hq; simp only [List.mem_cons, List.not_mem_nil, or_false] at hq ⊢; rcases hq with rfl | rfl | rfl | rfl | rfl <;> simp) ?_
          exact L64_7242 _ 0 (by decide) _ hBc7242 FrM.rf (Nat.lt_succ_self _)
      refine g_forget (l1 := [(0, vR 0), (1, vI 0), (2, vI 0)]) (by intro q hq; simp only [List.mem_cons, List.not_mem_nil, or_false] at hq ⊢; rcases hq with rfl | rfl | rfl <;> simp) ?_
      exact L42_5556 _ 0 (by decide) _ hB9_1 FrM.rf (Nat.lt_succ_self _)
    · refine g_aload_n dX12_leaves_16 rfl ?_
      refine m_g95 rfl dX12_leaves_17 ?_
      refine g_iload_n dX12_leaves_20 rfl ?_
      refine g_iconst dX12_leaves_21 ?_
      refine m_s61 dX12_leaves_22 ⟨by omega, by omega⟩ ?_
      have hB7388 := ba_61 (z := 1) (k := x9_2_1) hB9_1 (by decide)
      refine g_aload_n dX12_leaves_23 rfl ?_
      refine m_g96 rfl dX12_leaves_24 ?_
      refine g_iload_n dX12_leaves_27 rfl ?_
      refine g_aload_n dX12_leaves_28 rfl ?_
      refine g_iload_n dX12_leaves_29 rfl ?_
      refine g_vI (av := [vI x9_2_1]) (o := 0) (st := [vI x9_2_1, vR 62]) (m_X12_openBy G (up H9_1 61 x9_2_1 1) x9_2_1 ⟨by omega, by omega⟩ hB7388  _ (fun rc7389 hc7389 => ⟨rc7389, rfl, ?_⟩)) cf_X12_openBy t_1923 rfl (by decide) rfl rfl rfl (Nat.le_of_ble_eq_true rfl) (by decide) rfl dX12_leaves_30
      refine m_s62 dX12_leaves_33 ⟨by omega, by omega⟩ ?_
      have hB7390 := ba_62 (z := rc7389) (k := x9_2_1) hB7388 ⟨by omega, by omega⟩
      refine g_iinc (l1 := [(2, vI (x9_2_1 + 1)), (0, vR 0), (1, vI 0)]) dX12_leaves_34 rfl (by decide) rfl ?_
      refine g_goto (tgt := 9) dX12_leaves_37 (by decide) ?_
      refine g_forget (l1 := [(0, vR 0), (1, vI 0), (2, vI (x9_2_1 + 1))]) (by intro q hq; simp only [List.mem_cons, List.not_mem_nil, or_false] at hq ⊢; rcases hq with rfl | rfl | rfl <;> simp) ?_
      exact ih9_1 (x9_2_1 + 1) ⟨by omega, by omega⟩ _ hB7390 (FrM.a (FrM.a (FrM.c FrM.rf hE9_1 rfl) rfl rfl) rfl rfl) (by omega)
  refine g_forget (l1 := [(0, vR 0), (1, vI 0), (2, vI 0)]) (by intro q hq; simp only [List.mem_cons, List.not_mem_nil, or_false] at hq ⊢; rcases hq with rfl | rfl | rfl <;> simp) ?_
  exact L9_1 _ 0 (by decide) _ hBc1 FrM.rf (Nat.lt_succ_self _)
set_option maxRecDepth 100000 in
set_option maxHeartbeats 4000000 in
theorem m_X12_sets (G : GT) (P : PH) (a1 : Int) (h_a1 : (-2147483648) ≤ a1 ∧ a1 ≤ 2147483647) (hB : BdM P) (p_st : P 0 74 ≤ 199999999) (v_okC : okC P) (v_MVw : MVw P) (v_RE : RE P) (Q : Option PV → PH → Prop) (hQ : ∀ (r : Int) (_ : (-2147483648) ≤ r ∧ r ≤ 2147483647) (P1 : PH) (_ : BdM P1) (_ : FrM ([62, 66, 74], [41, 42, 43, 44, 61, 62]) P P1) (_ : P1 0 74 ≤ P 0 74 + 1) (_ : MVw P1) (_ : RE P1), Q (some (vI r)) P1) : Ct WSM G 6 iX12_sets [vR 0, vI a1] P Q := by
  refine Ct.of (by decide) (l0 := [(0, vR 0), (1, vI a1)]) rfl (Nat.le_of_ble_eq_true rfl) ?_
  refine g_aload_n dX12_sets_0 rfl ?_
  refine m_g44 (z := (P 0 44)) rfl dX12_sets_1 rfl ?_
  have f1 := b0_44 hB
  refine g_if_eq (tgt := 12) dX12_sets_4 (by decide) ⟨by have q0 := b0_44 hB; omega, by have q0 := b0_44 hB; omega⟩ (fun k2 => ?_) (fun k2 => ?_)
  · refine g_iconst dX12_sets_12 ?_
    exact g_retI dX12_sets_13 rfl (hQ (-1) (by decide) _ hB FrM.rf (by have q0 := b0_74 hB; omega) v_MVw v_RE)
  · refine g_iload_n dX12_sets_7 rfl ?_
    refine g_iconst dX12_sets_8 ?_
    refine g_icmp_ge (tgt := 14) dX12_sets_9 (by decide) ⟨by omega, by omega⟩ (by decide) (fun k3 => ?_) (fun k3 => ?_)
    · refine g_aload_n dX12_sets_14 rfl ?_
      refine g_vI (av := []) (o := 0) (st := []) (m_X12_leaves G P  hB (by have q0 := b0_74 hB; omega) v_okC v_MVw v_RE _ (fun rc4 hc4 Pc4 hBc4 hFc4 gc4_st vc4_MVw vc4_RE => ⟨rc4, rfl, ?_⟩)) cf_X12_leaves t_2115 rfl (by decide) rfl rfl rfl (Nat.le_of_ble_eq_true rfl) (by decide) rfl dX12_sets_15
      refine g_istore_n (l1 := [(2, vI rc4), (0, vR 0), (1, vI a1)]) dX12_sets_18 (by decide) rfl ?_
      refine g_iload_n dX12_sets_19 rfl ?_
      refine g_iconst dX12_sets_20 ?_
      refine g_icmp_ne (tgt := 26) dX12_sets_21 (by decide) ⟨by omega, by omega⟩ (by decide) (fun k5 => ?_) (fun k5 => ?_)
      · refine g_iconst dX12_sets_26 ?_
        refine g_istore_n (l1 := [(3, vI 0), (2, vI rc4), (0, vR 0), (1, vI a1)]) dX12_sets_27 (by decide) rfl ?_
        refine g_iconst dX12_sets_28 ?_
        refine g_istore (l1 := [(4, vI 0), (3, vI 0), (2, vI rc4), (0, vR 0), (1, vI a1)]) dX12_sets_29 (by decide) rfl ?_
        have L31_5 : ∀ (n31_5 : Nat) (x31_4_5 : Int) (h_x31_4_5 : 0 ≤ x31_4_5 ∧ x31_4_5 ≤ 256) (x31_3_5 : Int) (h_x31_3_5 : (-2147483648) ≤ x31_3_5 ∧ x31_3_5 ≤ 2147483647) (hm31_5 : ((257 - x31_4_5) : Int).toNat < n31_5), Go WSM G 6 iX12_sets 31 [(0, vR 0), (1, vI a1), (3, vI x31_3_5), (4, vI x31_4_5)] [] Pc4 Q := by
          intro n31_5
          induction n31_5 with
          | zero => intro x31_4_5 h_x31_4_5 x31_3_5 h_x31_3_5 hm31_5; exact absurd hm31_5 (Nat.not_lt_zero _)
          | succ n31_5 ih31_5 =>
          intro x31_4_5 h_x31_4_5 x31_3_5 h_x31_3_5 hm31_5
          refine g_iload dX12_sets_31 rfl ?_
          refine g_sipush dX12_sets_33 (by decide) ?_
          refine g_icmp_ge (tgt := 74) dX12_sets_36 (by decide) ⟨by omega, by omega⟩ (by decide) (fun k111 => ?_) (fun k111 => ?_)
          · refine g_iconst dX12_sets_74 ?_
            exact g_retI dX12_sets_75 rfl (hQ (-1) (by decide) _ hBc4 (FrM.c FrM.rf hFc4 rfl) (by have q0 := b0_74 hBc4; omega) vc4_MVw vc4_RE)
          · refine g_aload_n dX12_sets_39 rfl ?_
            refine m_g95 rfl dX12_sets_40 ?_
            refine g_iload dX12_sets_43 rfl ?_
            refine m_l61 (z := (Pc4 61 x31_4_5)) dX12_sets_45 ⟨by omega, by omega⟩ rfl ?_
            refine g_iconst dX12_sets_46 ?_
            have f112 := bl_61 (k := x31_4_5) hBc4
            refine g_icmp_ne (tgt := 58) dX12_sets_47 (by decide) ⟨by have q0 := bl_61 (k := x31_4_5) hBc4; omega, by have q0 := bl_61 (k := x31_4_5) hBc4; omega⟩ (by decide) (fun k113 => ?_) (fun k113 => ?_)
            · refine g_iload_n dX12_sets_58 rfl ?_
              refine g_aload_n dX12_sets_59 rfl ?_
              refine m_g95 rfl dX12_sets_60 ?_
              refine g_iload dX12_sets_63 rfl ?_
              refine m_l61 (z := (Pc4 61 x31_4_5)) dX12_sets_65 ⟨by omega, by omega⟩ rfl ?_
              refine g_iadd dX12_sets_66 ?_
              refine g_istore_n (l1 := [(3, vI (x31_3_5 + (Pc4 61 x31_4_5))), (0, vR 0), (1, vI a1), (4, vI x31_4_5)]) dX12_sets_67 (by decide) rfl ?_
              refine g_iinc (l1 := [(4, vI (x31_4_5 + 1)), (3, vI (x31_3_5 + (Pc4 61 x31_4_5))), (0, vR 0), (1, vI a1)]) dX12_sets_68 rfl (by decide) rfl ?_
              refine g_goto (tgt := 31) dX12_sets_71 (by decide) ?_
              refine g_forget (l1 := [(0, vR 0), (1, vI a1), (3, vI (x31_3_5 + (Pc4 61 x31_4_5))), (4, vI (x31_4_5 + 1))]) (by intro q hq; simp only [List.mem_cons, List.not_mem_nil, or_false] at hq ⊢; rcases hq with rfl | rfl | rfl | rfl <;> simp) ?_
              exact ih31_5 (x31_4_5 + 1) ⟨by omega, by omega⟩ (x31_3_5 + (Pc4 61 x31_4_5)) ⟨by have q0 := bl_61 (k := x31_4_5) hBc4; omega, by have q0 := bl_61 (k := x31_4_5) hBc4; omega⟩ (by have q0 := bl_61 (k := x31_4_5) hBc4; omega)
            · refine g_iload_n dX12_sets_50 rfl ?_
              refine g_iload_n dX12_sets_51 rfl ?_
              refine g_icmp_ne (tgt := 58) dX12_sets_52 (by decide) ⟨by omega, by omega⟩ ⟨by omega, by omega⟩ (fun k114 => ?_) (fun k114 => ?_)
              · refine g_iload_n dX12_sets_58 rfl ?_
                refine g_aload_n dX12_sets_59 rfl ?_
                refine m_g95 rfl dX12_sets_60 ?_
                refine g_iload dX12_sets_63 rfl ?_
                refine m_l61 (z := (Pc4 61 x31_4_5)) dX12_sets_65 ⟨by omega, by omega⟩ rfl ?_
                refine g_iadd dX12_sets_66 ?_
                refine g_norm (fun r115 h_r115 e_r115 => ?_)
                refine g_istore_n (l1 := [(3, vI r115), (0, vR 0), (1, vI a1), (4, vI x31_4_5)]) dX12_sets_67 (by decide) rfl ?_
                refine g_iinc (l1 := [(4, vI (x31_4_5 + 1)), (3, vI r115), (0, vR 0), (1, vI a1)]) dX12_sets_68 rfl (by decide) rfl ?_
                refine g_goto (tgt := 31) dX12_sets_71 (by decide) ?_
                refine g_forget (l1 := [(0, vR 0), (1, vI a1), (3, vI r115), (4, vI (x31_4_5 + 1))]) (by intro q hq; simp only [List.mem_cons, List.not_mem_nil, or_false] at hq ⊢; rcases hq with rfl | rfl | rfl | rfl <;> simp) ?_
                exact ih31_5 (x31_4_5 + 1) ⟨by omega, by omega⟩ r115 ⟨by omega, by omega⟩ (by omega)
              · refine g_iload dX12_sets_55 rfl ?_
                exact g_retI dX12_sets_57 rfl (hQ x31_4_5 ⟨by omega, by omega⟩ _ hBc4 (FrM.c FrM.rf hFc4 rfl) (by have q0 := b0_74 hBc4; omega) vc4_MVw vc4_RE)
        refine g_forget (l1 := [(0, vR 0), (1, vI a1), (3, vI 0), (4, vI 0)]) (by intro q hq; simp only [List.mem_cons, List.not_mem_nil, or_false] at hq ⊢; rcases hq with rfl | rfl | rfl | rfl <;> simp) ?_
        exact L31_5 _ 0 (by decide) 0 (by decide) (Nat.lt_succ_self _)
      · refine g_iload_n dX12_sets_24 rfl ?_
        exact g_retI dX12_sets_25 rfl (hQ rc4 ⟨by omega, by omega⟩ _ hBc4 (FrM.c FrM.rf hFc4 rfl) (by have q0 := b0_74 hBc4; omega) vc4_MVw vc4_RE)
    · refine g_iconst dX12_sets_12 ?_
      exact g_retI dX12_sets_13 rfl (hQ (-1) (by decide) _ hB FrM.rf (by have q0 := b0_74 hB; omega) v_MVw v_RE)
set_option maxRecDepth 100000 in
set_option maxHeartbeats 4000000 in
theorem m_X12_mostBy (G : GT) (P : PH) (a1 : Int) (h_a1 : 0 ≤ a1 ∧ a1 ≤ 2147483647) (hB : BdM P) (v_okC : okC P) (Q : Option PV → PH → Prop) (hQ : ∀ (r : Int) (_ : (-2147483648) ≤ r ∧ r ≤ 2147483647) (P1 : PH) (_ : BdM P1) (_ : FrM ([], [44, 63]) P P1), Q (some (vI r)) P1) : Ct WSM G 5 iX12_mostBy [vR 0, vI a1] P Q := by
  refine Ct.of (by decide) (l0 := [(0, vR 0), (1, vI a1)]) rfl (Nat.le_of_ble_eq_true rfl) ?_
  refine g_aload_n dX12_mostBy_0 rfl ?_
  refine g_iload_n dX12_mostBy_1 rfl ?_
  refine g_vI (av := [vI a1]) (o := 0) (st := []) (m_X12_fitting G P a1 ⟨by omega, by omega⟩ hB v_okC _ (fun rc1 hc1 Pc1 hBc1 hFc1 => ⟨rc1, rfl, ?_⟩)) cf_X12_fitting t_1899 rfl (by decide) rfl rfl rfl (Nat.le_of_ble_eq_true rfl) (by decide) rfl dX12_mostBy_2
  refine g_istore_n (l1 := [(2, vI rc1), (0, vR 0), (1, vI a1)]) dX12_mostBy_5 (by decide) rfl ?_
  refine g_iconst dX12_mostBy_6 ?_
  refine g_istore_n (l1 := [(3, vI 0), (2, vI rc1), (0, vR 0), (1, vI a1)]) dX12_mostBy_7 (by decide) rfl ?_
  have L8_1 : ∀ (n8_1 : Nat) (x8_3_1 : Int) (h_x8_3_1 : 0 ≤ x8_3_1 ∧ x8_3_1 ≤ 13) (H8_1 : PH) (hB8_1 : BdM H8_1) (hE8_1 : FrM ([], [63]) Pc1 H8_1) (hm8_1 : ((14 - x8_3_1) : Int).toNat < n8_1), Go WSM G 5 iX12_mostBy 8 [(0, vR 0), (2, vI rc1), (3, vI x8_3_1)] [] H8_1 Q := by
    intro n8_1
    induction n8_1 with
    | zero => intro x8_3_1 h_x8_3_1 H8_1 hB8_1 hE8_1 hm8_1; exact absurd hm8_1 (Nat.not_lt_zero _)
    | succ n8_1 ih8_1 =>
    intro x8_3_1 h_x8_3_1 H8_1 hB8_1 hE8_1 hm8_1
    refine g_iload_n dX12_mostBy_8 rfl ?_
    refine g_bipush dX12_mostBy_9 (by decide) ?_
    refine g_icmp_gt (tgt := 27) dX12_mostBy_11 (by decide) ⟨by omega, by omega⟩ (by decide) (fun k791 => ?_) (fun k791 => ?_)
    · refine g_iconst dX12_mostBy_27 ?_
      refine g_istore_n (l1 := [(3, vI 0), (0, vR 0), (2, vI rc1)]) dX12_mostBy_28 (by decide) rfl ?_
      refine g_iconst dX12_mostBy_29 ?_
      refine g_istore (l1 := [(4, vI 0), (3, vI 0), (0, vR 0), (2, vI rc1)]) dX12_mostBy_30 (by decide) rfl ?_
      have L32_791 : ∀ (n32_791 : Nat) (x32_4_791 : Int) (h_x32_4_791 : 0 ≤ x32_4_791 ∧ x32_4_791 ≤ 256) (x32_3_791 : Int) (h_x32_3_791 : 0 ≤ x32_3_791 ∧ x32_3_791 ≤ 2147483647) (H32_791 : PH) (hB32_791 : BdM H32_791) (hE32_791 : FrM ([], [63]) H8_1 H32_791) (hm32_791 : ((257 - x32_4_791) : Int).toNat < n32_791), Go WSM G 5 iX12_mostBy 32 [(0, vR 0), (2, vI rc1), (3, vI x32_3_791), (4, vI x32_4_791)] [] H32_791 Q := by
        intro n32_791
        induction n32_791 with
        | zero => intro x32_4_791 h_x32_4_791 x32_3_791 h_x32_3_791 H32_791 hB32_791 hE32_791 hm32_791; exact absurd hm32_791 (Nat.not_lt_zero _)
        | succ n32_791 ih32_791 =>
        intro x32_4_791 h_x32_4_791 x32_3_791 h_x32_3_791 H32_791 hB32_791 hE32_791 hm32_791
        refine g_iload dX12_mostBy_32 rfl ?_
        refine g_sipush dX12_mostBy_34 (by decide) ?_
        refine g_icmp_ge (tgt := 109) dX12_mostBy_37 (by decide) ⟨by omega, by omega⟩ (by decide) (fun k1033 => ?_) (fun k1033 => ?_)
        · refine g_iload_n dX12_mostBy_109 rfl ?_
          exact g_retI dX12_mostBy_110 rfl (hQ x32_3_791 ⟨by omega, by omega⟩ _ hB32_791 (FrM.c (FrM.c (FrM.c FrM.rf hFc1 rfl) hE8_1 rfl) hE32_791 rfl) )
        · refine g_aload_n dX12_mostBy_40 rfl ?_
          refine m_g95 rfl dX12_mostBy_41 ?_
          refine g_iload dX12_mostBy_44 rfl ?_
          refine m_l61 (z := (P 61 x32_4_791)) dX12_mostBy_46 ⟨by omega, by omega⟩ ((congrFun (hE32_791.2 61 rfl rfl) _).trans ((congrFun (hE8_1.2 61 rfl rfl) _).trans ((congrFun (hFc1.2 61 rfl rfl) _).trans rfl))) ?_
          have f1034 := bl_61 (k := x32_4_791) hB
          have J103_1040 : ∀ (x103_3_1040 : Int) (h_x103_3_1040 : 0 ≤ x103_3_1040 ∧ x103_3_1040 ≤ 2147483647) (H103_1040 : PH) (hB103_1040 : BdM H103_1040) (hE103_1040 : FrM ([], [63]) H32_791 H103_1040), Go WSM G 5 iX12_mostBy 103 [(0, vR 0), (2, vI rc1), (3, vI x103_3_1040), (4, vI x32_4_791)] [] H103_1040 Q := by
            intro x103_3_1040 h_x103_3_1040 H103_1040 hB103_1040 hE103_1040
            refine g_iinc (l1 := [(4, vI (x32_4_791 + 1)), (0, vR 0), (2, vI rc1), (3, vI x103_3_1040)]) dX12_mostBy_103 rfl (by decide) rfl ?_
            refine g_goto (tgt := 32) dX12_mostBy_106 (by decide) ?_
            refine g_forget (l1 := [(0, vR 0), (2, vI rc1), (3, vI x103_3_1040), (4, vI (x32_4_791 + 1))]) (by intro q hq; simp only [List.mem_cons, List.not_mem_nil, or_false] at hq ⊢; rcases hq with rfl | rfl | rfl | rfl <;> simp) ?_
            exact ih32_791 (x32_4_791 + 1) ⟨by omega, by omega⟩ x103_3_1040 ⟨by omega, by omega⟩ _ hB103_1040 (FrM.c (FrM.c FrM.rf hE32_791 rfl) hE103_1040 rfl) (by omega)
          refine g_if_ne (tgt := 53) dX12_mostBy_47 (by decide) ⟨by have q0 := bl_61 (k := x32_4_791) hB; omega, by have q0 := bl_61 (k := x32_4_791) hB; omega⟩ (fun k1042 => ?_) (fun k1042 => ?_)
          · refine g_iload_n dX12_mostBy_53 rfl ?_
            refine g_aload_n dX12_mostBy_54 rfl ?_
            refine m_g96 rfl dX12_mostBy_55 ?_
            refine g_iload dX12_mostBy_58 rfl ?_
            refine m_l62 (z := (P 62 x32_4_791)) dX12_mostBy_60 ⟨by omega, by omega⟩ ((congrFun (hE32_791.2 62 rfl rfl) _).trans ((congrFun (hE8_1.2 62 rfl rfl) _).trans ((congrFun (hFc1.2 62 rfl rfl) _).trans rfl))) ?_
            refine g_iand dX12_mostBy_61 ?_
            refine g_nm (fun b1043 e_b1043 => ?_)
            have h_b1043 := iand_l (x := rc1) (y := (P 62 x32_4_791)) ⟨by omega, by omega⟩
            rw [← e_b1043] at h_b1043
            refine g_sI (av := [vI b1043]) (st := []) (m_X12_lowest G H32_791 b1043 ⟨by omega, by omega⟩ hB32_791  _ (fun rc1044 hc1044 gc1044_l gc1044_b => ⟨rc1044, rfl, ?_⟩)) cf_X12_lowest t_1927 rfl (Nat.le_of_ble_eq_true rfl) (by decide) rfl dX12_mostBy_62
            refine g_iconst dX12_mostBy_65 ?_
            refine g_iadd dX12_mostBy_66 ?_
            refine g_istore (l1 := [(5, vI (rc1044 + 1)), (0, vR 0), (2, vI rc1), (3, vI x32_3_791), (4, vI x32_4_791)]) dX12_mostBy_67 (by decide) rfl ?_
            refine g_aload_n dX12_mostBy_69 rfl ?_
            refine m_g97 rfl dX12_mostBy_70 ?_
            refine g_iload dX12_mostBy_73 rfl ?_
            refine g_dup2 dX12_mostBy_75 rfl rfl ?_
            refine m_l63 (z := (H32_791 63 (rc1044 + 1))) dX12_mostBy_76 ⟨by omega, by omega⟩ rfl ?_
            refine g_iconst dX12_mostBy_77 ?_
            refine g_iadd dX12_mostBy_78 ?_
            refine g_norm (fun r1045 h_r1045 e_r1045 => ?_)
            refine m_s63 dX12_mostBy_79 ⟨by omega, by omega⟩ ?_
            have hB1046 := ba_63 (z := r1045) (k := (rc1044 + 1)) hB32_791 ⟨by omega, by omega⟩
            refine g_aload_n dX12_mostBy_80 rfl ?_
            refine m_g97 rfl dX12_mostBy_81 ?_
            refine g_iload dX12_mostBy_84 rfl ?_
            refine m_l63 (z := r1045) dX12_mostBy_86 ⟨by omega, by omega⟩ up_same ?_
            refine g_iload_n dX12_mostBy_87 rfl ?_
            refine g_icmp_le (tgt := 101) dX12_mostBy_88 (by decide) ⟨by omega, by omega⟩ ⟨by omega, by omega⟩ (fun k1047 => ?_) (fun k1047 => ?_)
            · refine g_iload_n dX12_mostBy_101 rfl ?_
              refine g_istore_n (l1 := [(3, vI x32_3_791), (5, vI (rc1044 + 1)), (0, vR 0), (2, vI rc1), (4, vI x32_4_791)]) dX12_mostBy_102 (by decide) rfl ?_
              refine g_forget (l1 := [(0, vR 0), (2, vI rc1), (3, vI x32_3_791), (4, vI x32_4_791)]) (by intro q hq; simp only [List.mem_cons, List.not_mem_nil, or_false] at hq ⊢; rcases hq with rfl | rfl | rfl | rfl <;> simp) ?_
              exact J103_1040 x32_3_791 ⟨by omega, by omega⟩ _ hB1046 (FrM.a FrM.rf rfl rfl)
            · refine g_aload_n dX12_mostBy_91 rfl ?_
              refine m_g97 rfl dX12_mostBy_92 ?_
              refine g_iload dX12_mostBy_95 rfl ?_
              refine m_l63 (z := r1045) dX12_mostBy_97 ⟨by omega, by omega⟩ up_same ?_
              refine g_goto (tgt := 102) dX12_mostBy_98 (by decide) ?_
              refine g_istore_n (l1 := [(3, vI r1045), (5, vI (rc1044 + 1)), (0, vR 0), (2, vI rc1), (4, vI x32_4_791)]) dX12_mostBy_102 (by decide) rfl ?_
              refine g_forget (l1 := [(0, vR 0), (2, vI rc1), (3, vI r1045), (4, vI x32_4_791)]) (by intro q hq; simp only [List.mem_cons, List.not_mem_nil, or_false] at hq ⊢; rcases hq with rfl | rfl | rfl | rfl <;> simp) ?_
              exact J103_1040 r1045 ⟨by omega, by omega⟩ _ hB1046 (FrM.a FrM.rf rfl rfl)
          · refine g_goto (tgt := 103) dX12_mostBy_50 (by decide) ?_
            refine g_forget (l1 := [(0, vR 0), (2, vI rc1), (3, vI x32_3_791), (4, vI x32_4_791)]) (by intro q hq; simp only [List.mem_cons, List.not_mem_nil, or_false] at hq ⊢; rcases hq with rfl | rfl | rfl | rfl <;> simp) ?_
            exact J103_1040 x32_3_791 ⟨by omega, by omega⟩ _ hB32_791 FrM.rf
      refine g_forget (l1 := [(0, vR 0), (2, vI rc1), (3, vI 0), (4, vI 0)]) (by intro q hq; simp only [List.mem_cons, List.not_mem_nil, or_false] at hq ⊢; rcases hq with rfl | rfl | rfl | rfl <;> simp) ?_
      exact L32_791 _ 0 (by decide) 0 (by decide) _ hB8_1 FrM.rf (Nat.lt_succ_self _)
    · refine g_aload_n dX12_mostBy_14 rfl ?_
      refine m_g97 rfl dX12_mostBy_15 ?_
      refine g_iload_n dX12_mostBy_18 rfl ?_
      refine g_iconst dX12_mostBy_19 ?_
      refine m_s63 dX12_mostBy_20 ⟨by omega, by omega⟩ ?_
      have hB1048 := ba_63 (z := 0) (k := x8_3_1) hB8_1 (by decide)
      refine g_iinc (l1 := [(3, vI (x8_3_1 + 1)), (0, vR 0), (2, vI rc1)]) dX12_mostBy_21 rfl (by decide) rfl ?_
      refine g_goto (tgt := 8) dX12_mostBy_24 (by decide) ?_
      refine g_forget (l1 := [(0, vR 0), (2, vI rc1), (3, vI (x8_3_1 + 1))]) (by intro q hq; simp only [List.mem_cons, List.not_mem_nil, or_false] at hq ⊢; rcases hq with rfl | rfl | rfl <;> simp) ?_
      exact ih8_1 (x8_3_1 + 1) ⟨by omega, by omega⟩ _ hB1048 (FrM.a (FrM.c FrM.rf hE8_1 rfl) rfl rfl) (by omega)
  refine g_forget (l1 := [(0, vR 0), (2, vI rc1), (3, vI 0)]) (by intro q hq; simp only [List.mem_cons, List.not_mem_nil, or_false] at hq ⊢; rcases hq with rfl | rfl | rfl <;> simp) ?_
  exact L8_1 _ 0 (by decide) _ hBc1 FrM.rf (Nat.lt_succ_self _)
set_option maxRecDepth 100000 in
set_option maxHeartbeats 4000000 in
theorem m_X12_tells (G : GT) (P : PH) (a1 : Int) (h_a1 : (-2147483648) ≤ a1 ∧ a1 ≤ 2147483647) (hB : BdM P) (p_st : P 0 74 ≤ 199999999) (v_okC : okC P) (v_MVw : MVw P) (v_RE : RE P) (Q : Option PV → PH → Prop) (hQ : ∀ (r : Int) (_ : (-2147483648) ≤ r ∧ r ≤ 2147483647) (P1 : PH) (_ : BdM P1) (_ : FrM ([62, 66, 74], [41, 42, 43, 44, 61, 62, 63]) P P1) (_ : P1 0 74 ≤ P 0 74 + 1) (_ : MVw P1) (_ : RE P1), Q (some (vI r)) P1) : Ct WSM G 6 iX12_tells [vR 0, vI a1] P Q := by
  refine Ct.of (by decide) (l0 := [(0, vR 0), (1, vI a1)]) rfl (Nat.le_of_ble_eq_true rfl) ?_
  refine g_aload_n dX12_tells_0 rfl ?_
  refine m_g44 (z := (P 0 44)) rfl dX12_tells_1 rfl ?_
  have f1 := b0_44 hB
  refine g_if_eq (tgt := 16) dX12_tells_4 (by decide) ⟨by have q0 := b0_44 hB; omega, by have q0 := b0_44 hB; omega⟩ (fun k2 => ?_) (fun k2 => ?_)
  · refine g_iconst dX12_tells_16 ?_
    exact g_retI dX12_tells_17 rfl (hQ (-1) (by decide) _ hB FrM.rf (by have q0 := b0_74 hB; omega) v_MVw v_RE)
  · refine g_iload_n dX12_tells_7 rfl ?_
    refine g_iconst dX12_tells_8 ?_
    refine g_iconst dX12_tells_9 ?_
    refine g_sI (av := [vI a1, vI 0, vI 1]) (st := []) (m_X12_is G P a1 0 1 ⟨by omega, by omega⟩ (by decide) (by decide) hB  _ (fun rc3 hc3 gc3_is => ⟨rc3, rfl, ?_⟩)) cf_X12_is t_1800 rfl (Nat.le_of_ble_eq_true rfl) (by decide) rfl dX12_tells_10
    refine g_if_ne (tgt := 18) dX12_tells_13 (by decide) ⟨by omega, by omega⟩ (fun k4 => ?_) (fun k4 => ?_)
    · refine g_aload_n dX12_tells_18 rfl ?_
      refine g_vI (av := []) (o := 0) (st := []) (m_X12_leaves G P  hB (by have q0 := b0_74 hB; omega) v_okC v_MVw v_RE _ (fun rc5 hc5 Pc5 hBc5 hFc5 gc5_st vc5_MVw vc5_RE => ⟨rc5, rfl, ?_⟩)) cf_X12_leaves t_2115 rfl (by decide) rfl rfl rfl (Nat.le_of_ble_eq_true rfl) (by decide) rfl dX12_tells_19
      refine g_istore_n (l1 := [(2, vI rc5), (0, vR 0), (1, vI a1)]) dX12_tells_22 (by decide) rfl ?_
      refine g_iconst dX12_tells_23 ?_
      refine g_istore_n (l1 := [(3, vI (-1)), (2, vI rc5), (0, vR 0), (1, vI a1)]) dX12_tells_24 (by decide) rfl ?_
      refine g_ldcw (z := 100000000) dX12_tells_25 t_2123 (by decide) ?_
      refine g_istore (l1 := [(4, vI 100000000), (3, vI (-1)), (2, vI rc5), (0, vR 0), (1, vI a1)]) dX12_tells_28 (by decide) rfl ?_
      refine g_iconst dX12_tells_30 ?_
      refine g_istore (l1 := [(5, vI 0), (4, vI 100000000), (3, vI (-1)), (2, vI rc5), (0, vR 0), (1, vI a1)]) dX12_tells_31 (by decide) rfl ?_
      have L33_5 : ∀ (n33_5 : Nat) (x33_5_5 : Int) (h_x33_5_5 : 0 ≤ x33_5_5 ∧ x33_5_5 ≤ 1000) (x33_4_5 : Int) (h_x33_4_5 : (-2147483648) ≤ x33_4_5 ∧ x33_4_5 ≤ 100000000) (x33_3_5 : Int) (h_x33_3_5 : (-1) ≤ x33_3_5 ∧ x33_3_5 ≤ 999) (H33_5 : PH) (hB33_5 : BdM H33_5) (hE33_5 : FrM ([], [44, 63]) Pc5 H33_5) (hm33_5 : ((1001 - x33_5_5) : Int).toNat < n33_5), Go WSM G 6 iX12_tells 33 [(0, vR 0), (1, vI a1), (2, vI rc5), (3, vI x33_3_5), (4, vI x33_4_5), (5, vI x33_5_5)] [] H33_5 Q := by
        intro n33_5
        induction n33_5 with
        | zero => intro x33_5_5 h_x33_5_5 x33_4_5 h_x33_4_5 x33_3_5 h_x33_3_5 H33_5 hB33_5 hE33_5 hm33_5; exact absurd hm33_5 (Nat.not_lt_zero _)
        | succ n33_5 ih33_5 =>
        intro x33_5_5 h_x33_5_5 x33_4_5 h_x33_4_5 x33_3_5 h_x33_3_5 H33_5 hB33_5 hE33_5 hm33_5
        refine g_iload dX12_tells_33 rfl ?_
        refine g_aload_n dX12_tells_35 rfl ?_
        refine m_g52 (z := (P 0 52)) rfl dX12_tells_36 ((hE33_5.1 52 rfl).trans ((hFc5.1 52 rfl).trans rfl)) ?_
        have f161 := b0_52 hB
        refine g_icmp_ge (tgt := 85) dX12_tells_39 (by decide) ⟨by omega, by omega⟩ ⟨by have q0 := b0_52 hB; omega, by have q0 := b0_52 hB; omega⟩ (fun k162 => ?_) (fun k162 => ?_)
        · refine g_iload_n dX12_tells_85 rfl ?_
          refine g_iconst dX12_tells_86 ?_
          refine g_icmp_eq (tgt := 94) dX12_tells_87 (by decide) ⟨by omega, by omega⟩ (by decide) (fun k163 => ?_) (fun k163 => ?_)
          · refine g_iload_n dX12_tells_94 rfl ?_
            refine g_goto (tgt := 100) dX12_tells_95 (by decide) ?_
            exact g_retI dX12_tells_100 rfl (hQ x33_3_5 ⟨by omega, by omega⟩ _ hB33_5 (FrM.c (FrM.c FrM.rf hFc5 rfl) hE33_5 rfl) (by have q0 := (((hE33_5.1 74 rfl).trans rfl) : H33_5 0 74 = (Pc5 0 74)); have q1 := b0_74 hBc5; omega) (MVw.fr (F := ([], [44, 63])) vc5_MVw (FrM.c FrM.rf hE33_5 rfl) rfl) (RE.fr (F := ([], [44, 63])) vc5_RE (FrM.c FrM.rf hE33_5 rfl) rfl))
          · refine g_iload_n dX12_tells_90 rfl ?_
            refine g_if_ne (tgt := 98) dX12_tells_91 (by decide) ⟨by omega, by omega⟩ (fun k164 => ?_) (fun k164 => ?_)
            · refine g_iload dX12_tells_98 rfl ?_
              exact g_retI dX12_tells_100 rfl (hQ x33_4_5 ⟨by omega, by omega⟩ _ hB33_5 (FrM.c (FrM.c FrM.rf hFc5 rfl) hE33_5 rfl) (by have q0 := (((hE33_5.1 74 rfl).trans rfl) : H33_5 0 74 = (Pc5 0 74)); have q1 := b0_74 hBc5; omega) (MVw.fr (F := ([], [44, 63])) vc5_MVw (FrM.c FrM.rf hE33_5 rfl) rfl) (RE.fr (F := ([], [44, 63])) vc5_RE (FrM.c FrM.rf hE33_5 rfl) rfl))
            · refine g_iload_n dX12_tells_94 rfl ?_
              refine g_goto (tgt := 100) dX12_tells_95 (by decide) ?_
              exact g_retI dX12_tells_100 rfl (hQ x33_3_5 ⟨by omega, by omega⟩ _ hB33_5 (FrM.c (FrM.c FrM.rf hFc5 rfl) hE33_5 rfl) (by have q0 := (((hE33_5.1 74 rfl).trans rfl) : H33_5 0 74 = (Pc5 0 74)); have q1 := b0_74 hBc5; omega) (MVw.fr (F := ([], [44, 63])) vc5_MVw (FrM.c FrM.rf hE33_5 rfl) rfl) (RE.fr (F := ([], [44, 63])) vc5_RE (FrM.c FrM.rf hE33_5 rfl) rfl))
        · refine g_iload dX12_tells_42 rfl ?_
          refine g_sipush dX12_tells_44 (by decide) ?_
          refine g_icmp_ge (tgt := 85) dX12_tells_47 (by decide) ⟨by omega, by omega⟩ (by decide) (fun k165 => ?_) (fun k165 => ?_)
          · refine g_iload_n dX12_tells_85 rfl ?_
            refine g_iconst dX12_tells_86 ?_
            refine g_icmp_eq (tgt := 94) dX12_tells_87 (by decide) ⟨by omega, by omega⟩ (by decide) (fun k166 => ?_) (fun k166 => ?_)
            · refine g_iload_n dX12_tells_94 rfl ?_
              refine g_goto (tgt := 100) dX12_tells_95 (by decide) ?_
              exact g_retI dX12_tells_100 rfl (hQ x33_3_5 ⟨by omega, by omega⟩ _ hB33_5 (FrM.c (FrM.c FrM.rf hFc5 rfl) hE33_5 rfl) (by have q0 := (((hE33_5.1 74 rfl).trans rfl) : H33_5 0 74 = (Pc5 0 74)); have q1 := b0_74 hBc5; omega) (MVw.fr (F := ([], [44, 63])) vc5_MVw (FrM.c FrM.rf hE33_5 rfl) rfl) (RE.fr (F := ([], [44, 63])) vc5_RE (FrM.c FrM.rf hE33_5 rfl) rfl))
            · refine g_iload_n dX12_tells_90 rfl ?_
              refine g_if_ne (tgt := 98) dX12_tells_91 (by decide) ⟨by omega, by omega⟩ (fun k167 => ?_) (fun k167 => ?_)
              · refine g_iload dX12_tells_98 rfl ?_
                exact g_retI dX12_tells_100 rfl (hQ x33_4_5 ⟨by omega, by omega⟩ _ hB33_5 (FrM.c (FrM.c FrM.rf hFc5 rfl) hE33_5 rfl) (by have q0 := (((hE33_5.1 74 rfl).trans rfl) : H33_5 0 74 = (Pc5 0 74)); have q1 := b0_74 hBc5; omega) (MVw.fr (F := ([], [44, 63])) vc5_MVw (FrM.c FrM.rf hE33_5 rfl) rfl) (RE.fr (F := ([], [44, 63])) vc5_RE (FrM.c FrM.rf hE33_5 rfl) rfl))
              · refine g_iload_n dX12_tells_94 rfl ?_
                refine g_goto (tgt := 100) dX12_tells_95 (by decide) ?_
                exact g_retI dX12_tells_100 rfl (hQ x33_3_5 ⟨by omega, by omega⟩ _ hB33_5 (FrM.c (FrM.c FrM.rf hFc5 rfl) hE33_5 rfl) (by have q0 := (((hE33_5.1 74 rfl).trans rfl) : H33_5 0 74 = (Pc5 0 74)); have q1 := b0_74 hBc5; omega) (MVw.fr (F := ([], [44, 63])) vc5_MVw (FrM.c FrM.rf hE33_5 rfl) rfl) (RE.fr (F := ([], [44, 63])) vc5_RE (FrM.c FrM.rf hE33_5 rfl) rfl))
          · refine g_iload_n dX12_tells_50 rfl ?_
            refine g_if_le (tgt := 85) dX12_tells_51 (by decide) ⟨by omega, by omega⟩ (fun k168 => ?_) (fun k168 => ?_)
            · refine g_iload_n dX12_tells_85 rfl ?_
              refine g_iconst dX12_tells_86 ?_
              refine g_icmp_eq (tgt := 94) dX12_tells_87 (by decide) ⟨by omega, by omega⟩ (by decide) (fun k169 => ?_) (fun k169 => ?_)
              · refine g_iload_n dX12_tells_94 rfl ?_
                refine g_goto (tgt := 100) dX12_tells_95 (by decide) ?_
                exact g_retI dX12_tells_100 rfl (hQ x33_3_5 ⟨by omega, by omega⟩ _ hB33_5 (FrM.c (FrM.c FrM.rf hFc5 rfl) hE33_5 rfl) (by have q0 := (((hE33_5.1 74 rfl).trans rfl) : H33_5 0 74 = (Pc5 0 74)); have q1 := b0_74 hBc5; omega) (MVw.fr (F := ([], [44, 63])) vc5_MVw (FrM.c FrM.rf hE33_5 rfl) rfl) (RE.fr (F := ([], [44, 63])) vc5_RE (FrM.c FrM.rf hE33_5 rfl) rfl))
              · refine g_iload_n dX12_tells_90 rfl ?_
                refine g_if_ne (tgt := 98) dX12_tells_91 (by decide) ⟨by omega, by omega⟩ (fun k170 => ?_) (fun k170 => ?_)
                · refine g_iload dX12_tells_98 rfl ?_
                  exact g_retI dX12_tells_100 rfl (hQ x33_4_5 ⟨by omega, by omega⟩ _ hB33_5 (FrM.c (FrM.c FrM.rf hFc5 rfl) hE33_5 rfl) (by have q0 := (((hE33_5.1 74 rfl).trans rfl) : H33_5 0 74 = (Pc5 0 74)); have q1 := b0_74 hBc5; omega) (MVw.fr (F := ([], [44, 63])) vc5_MVw (FrM.c FrM.rf hE33_5 rfl) rfl) (RE.fr (F := ([], [44, 63])) vc5_RE (FrM.c FrM.rf hE33_5 rfl) rfl))
                · refine g_iload_n dX12_tells_94 rfl ?_
                  refine g_goto (tgt := 100) dX12_tells_95 (by decide) ?_
                  exact g_retI dX12_tells_100 rfl (hQ x33_3_5 ⟨by omega, by omega⟩ _ hB33_5 (FrM.c (FrM.c FrM.rf hFc5 rfl) hE33_5 rfl) (by have q0 := (((hE33_5.1 74 rfl).trans rfl) : H33_5 0 74 = (Pc5 0 74)); have q1 := b0_74 hBc5; omega) (MVw.fr (F := ([], [44, 63])) vc5_MVw (FrM.c FrM.rf hE33_5 rfl) rfl) (RE.fr (F := ([], [44, 63])) vc5_RE (FrM.c FrM.rf hE33_5 rfl) rfl))
            · refine g_aload_n dX12_tells_54 rfl ?_
              refine g_iload dX12_tells_55 rfl ?_
              refine g_vI (av := [vI x33_5_5]) (o := 0) (st := []) (m_X12_mostBy G H33_5 x33_5_5 ⟨by omega, by omega⟩ hB33_5 (okC.fr (F := ([62, 66, 74], [41, 42, 43, 44, 61, 62, 63])) v_okC (FrM.c (FrM.c FrM.rf hFc5 rfl) hE33_5 rfl) rfl) _ (fun rc171 hc171 Pc171 hBc171 hFc171 => ⟨rc171, rfl, ?_⟩)) cf_X12_mostBy t_2124 rfl (by decide) rfl rfl rfl (Nat.le_of_ble_eq_true rfl) (by decide) rfl dX12_tells_57
              refine g_istore (l1 := [(6, vI rc171), (0, vR 0), (1, vI a1), (2, vI rc5), (3, vI x33_3_5), (4, vI x33_4_5), (5, vI x33_5_5)]) dX12_tells_60 (by decide) rfl ?_
              refine g_iload dX12_tells_62 rfl ?_
              refine g_iload dX12_tells_64 rfl ?_
              refine g_icmp_lt (tgt := 72) dX12_tells_66 (by decide) ⟨by omega, by omega⟩ ⟨by omega, by omega⟩ (fun k172 => ?_) (fun k172 => ?_)
              · refine g_iload dX12_tells_72 rfl ?_
                refine g_istore (l1 := [(4, vI rc171), (6, vI rc171), (0, vR 0), (1, vI a1), (2, vI rc5), (3, vI x33_3_5), (5, vI x33_5_5)]) dX12_tells_74 (by decide) rfl ?_
                refine g_iload dX12_tells_76 rfl ?_
                refine g_istore_n (l1 := [(3, vI x33_5_5), (4, vI rc171), (6, vI rc171), (0, vR 0), (1, vI a1), (2, vI rc5), (5, vI x33_5_5)]) dX12_tells_78 (by decide) rfl ?_
                refine g_iinc (l1 := [(5, vI (x33_5_5 + 1)), (3, vI x33_5_5), (4, vI rc171), (6, vI rc171), (0, vR 0), (1, vI a1), (2, vI rc5)]) dX12_tells_79 rfl (by decide) rfl ?_
                refine g_goto (tgt := 33) dX12_tells_82 (by decide) ?_
                refine g_forget (l1 := [(0, vR 0), (1, vI a1), (2, vI rc5), (3, vI x33_5_5), (4, vI rc171), (5, vI (x33_5_5 + 1))]) (by intro q hq; simp only [List.mem_cons, List.not_mem_nil, or_false] at hq ⊢; rcases hq with rfl | rfl | rfl | rfl | rfl | rfl <;> simp) ?_
                exact ih33_5 (x33_5_5 + 1) ⟨by omega, by omega⟩ rc171 ⟨by omega, by omega⟩ x33_5_5 ⟨by omega, by omega⟩ _ hBc171 (FrM.c (FrM.c FrM.rf hE33_5 rfl) hFc171 rfl) (by omega)
              · refine g_goto (tgt := 79) dX12_tells_69 (by decide) ?_
                refine g_iinc (l1 := [(5, vI (x33_5_5 + 1)), (6, vI rc171), (0, vR 0), (1, vI a1), (2, vI rc5), (3, vI x33_3_5), (4, vI x33_4_5)]) dX12_tells_79 rfl (by decide) rfl ?_
                refine g_goto (tgt := 33) dX12_tells_82 (by decide) ?_
                refine g_forget (l1 := [(0, vR 0), (1, vI a1), (2, vI rc5), (3, vI x33_3_5), (4, vI x33_4_5), (5, vI (x33_5_5 + 1))]) (by intro q hq; simp only [List.mem_cons, List.not_mem_nil, or_false] at hq ⊢; rcases hq with rfl | rfl | rfl | rfl | rfl | rfl <;> simp) ?_
                exact ih33_5 (x33_5_5 + 1) ⟨by omega, by omega⟩ x33_4_5 ⟨by omega, by omega⟩ x33_3_5 ⟨by omega, by omega⟩ _ hBc171 (FrM.c (FrM.c FrM.rf hE33_5 rfl) hFc171 rfl) (by omega)
      refine g_forget (l1 := [(0, vR 0), (1, vI a1), (2, vI rc5), (3, vI (-1)), (4, vI 100000000), (5, vI 0)]) (by intro q hq; simp only [List.mem_cons, List.not_mem_nil, or_false] at hq ⊢; rcases hq with rfl | rfl | rfl | rfl | rfl | rfl <;> simp) ?_
      exact L33_5 _ 0 (by decide) 100000000 (by decide) (-1) (by decide) _ hBc5 FrM.rf (Nat.lt_succ_self _)
    · refine g_iconst dX12_tells_16 ?_
      exact g_retI dX12_tells_17 rfl (hQ (-1) (by decide) _ hB FrM.rf (by have q0 := b0_74 hB; omega) v_MVw v_RE)
set_option maxRecDepth 100000 in
set_option maxHeartbeats 4000000 in
theorem m_X12_isSafe (G : GT) (P : PH) (a1 : Int) (a2 : Int) (h_a1 : 0 ≤ a1 ∧ a1 ≤ 11) (h_a2 : 0 ≤ a2 ∧ a2 ≤ 11) (hB : BdM P) (Q : Option PV → PH → Prop) (hQ : ∀ (r : Int) (_ : 0 ≤ r ∧ r ≤ 1), Q (some (vI r)) P) : Ct WSM G 2 iX12_isSafe [vR 0, vI a1, vI a2] P Q := by
  refine Ct.of (by decide) (l0 := [(0, vR 0), (1, vI a1), (2, vI a2)]) rfl (Nat.le_of_ble_eq_true rfl) ?_
  refine g_iconst dX12_isSafe_0 ?_
  refine g_istore_n (l1 := [(3, vI 0), (0, vR 0), (1, vI a1), (2, vI a2)]) dX12_isSafe_1 (by decide) rfl ?_
  have L2_0 : ∀ (n2_0 : Nat) (x2_3_0 : Int) (h_x2_3_0 : 0 ≤ x2_3_0 ∧ x2_3_0 ≤ 256) (hm2_0 : ((257 - x2_3_0) : Int).toNat < n2_0), Go WSM G 2 iX12_isSafe 2 [(0, vR 0), (1, vI a1), (2, vI a2), (3, vI x2_3_0)] [] P Q := by
    intro n2_0
    induction n2_0 with
    | zero => intro x2_3_0 h_x2_3_0 hm2_0; exact absurd hm2_0 (Nat.not_lt_zero _)
    | succ n2_0 ih2_0 =>
    intro x2_3_0 h_x2_3_0 hm2_0
    refine g_iload_n dX12_isSafe_2 rfl ?_
    refine g_sipush dX12_isSafe_3 (by decide) ?_
    refine g_icmp_ge (tgt := 101) dX12_isSafe_6 (by decide) ⟨by omega, by omega⟩ (by decide) (fun k3161 => ?_) (fun k3161 => ?_)
    · refine g_iconst dX12_isSafe_101 ?_
      exact g_retZ dX12_isSafe_102 rfl (by decide) (hQ 1 (by decide) )
    · refine g_aload_n dX12_isSafe_9 rfl ?_
      refine g_iload_n dX12_isSafe_10 rfl ?_
      refine g_vI (av := [vI x2_3_0]) (o := 0) (st := []) (m_X12_openBy G P x2_3_0 ⟨by omega, by omega⟩ hB  _ (fun rc3162 hc3162 => ⟨rc3162, rfl, ?_⟩)) cf_X12_openBy t_1923 rfl (by decide) rfl rfl rfl (Nat.le_of_ble_eq_true rfl) (by decide) rfl dX12_isSafe_11
      refine g_istore (l1 := [(4, vI rc3162), (0, vR 0), (1, vI a1), (2, vI a2), (3, vI x2_3_0)]) dX12_isSafe_14 (by decide) rfl ?_
      refine g_iconst dX12_isSafe_16 ?_
      refine g_istore (l1 := [(5, vI 0), (4, vI rc3162), (0, vR 0), (1, vI a1), (2, vI a2), (3, vI x2_3_0)]) dX12_isSafe_17 (by decide) rfl ?_
      have L19_3162 : ∀ (n19_3162 : Nat) (x19_5_3162 : Int) (h_x19_5_3162 : 0 ≤ x19_5_3162 ∧ x19_5_3162 ≤ 4096) (hm19_3162 : ((4097 - x19_5_3162) : Int).toNat < n19_3162), Go WSM G 2 iX12_isSafe 19 [(0, vR 0), (1, vI a1), (2, vI a2), (3, vI x2_3_0), (4, vI rc3162), (5, vI x19_5_3162)] [] P Q := by
        intro n19_3162
        induction n19_3162 with
        | zero => intro x19_5_3162 h_x19_5_3162 hm19_3162; exact absurd hm19_3162 (Nat.not_lt_zero _)
        | succ n19_3162 ih19_3162 =>
        intro x19_5_3162 h_x19_5_3162 hm19_3162
        refine g_iload dX12_isSafe_19 rfl ?_
        refine g_sipush dX12_isSafe_21 (by decide) ?_
        refine g_icmp_ge (tgt := 95) dX12_isSafe_24 (by decide) ⟨by omega, by omega⟩ (by decide) (fun k3392 => ?_) (fun k3392 => ?_)
        · refine g_iinc (l1 := [(3, vI (x2_3_0 + 1)), (0, vR 0), (1, vI a1), (2, vI a2), (4, vI rc3162), (5, vI x19_5_3162)]) dX12_isSafe_95 rfl (by decide) rfl ?_
          refine g_goto (tgt := 2) dX12_isSafe_98 (by decide) ?_
          refine g_forget (l1 := [(0, vR 0), (1, vI a1), (2, vI a2), (3, vI (x2_3_0 + 1))]) (by intro q hq; simp only [List.mem_cons, List.not_mem_nil, or_false] at hq ⊢; rcases hq with rfl | rfl | rfl | rfl <;> simp) ?_
          exact ih2_0 (x2_3_0 + 1) ⟨by omega, by omega⟩ (by omega)
        · refine g_aload_n dX12_isSafe_27 rfl ?_
          refine m_g68 rfl dX12_isSafe_28 ?_
          refine g_iload dX12_isSafe_31 rfl ?_
          refine m_l45 (z := (P 45 x19_5_3162)) dX12_isSafe_33 ⟨by omega, by omega⟩ rfl ?_
          have f3393 := bl_45 (k := x19_5_3162) hB
          refine g_if_ne (tgt := 40) dX12_isSafe_34 (by decide) ⟨by have q0 := bl_45 (k := x19_5_3162) hB; omega, by have q0 := bl_45 (k := x19_5_3162) hB; omega⟩ (fun k3394 => ?_) (fun k3394 => ?_)
          · refine g_iload dX12_isSafe_40 rfl ?_
            refine g_iload dX12_isSafe_42 rfl ?_
            refine g_iand dX12_isSafe_44 ?_
            refine g_nm (fun b3395 e_b3395 => ?_)
            have h_b3395 := iand_l (x := x19_5_3162) (y := rc3162) ⟨by omega, by omega⟩
            rw [← e_b3395] at h_b3395
            refine g_sI (av := [vI b3395]) (st := []) (m_X12_lowest G P b3395 ⟨by omega, by omega⟩ hB  _ (fun rc3396 hc3396 gc3396_l gc3396_b => ⟨rc3396, rfl, ?_⟩)) cf_X12_lowest t_1927 rfl (Nat.le_of_ble_eq_true rfl) (by decide) rfl dX12_isSafe_45
            refine g_istore (l1 := [(6, vI rc3396), (0, vR 0), (1, vI a1), (2, vI a2), (3, vI x2_3_0), (4, vI rc3162), (5, vI x19_5_3162)]) dX12_isSafe_48 (by decide) rfl ?_
            refine g_iload dX12_isSafe_50 rfl ?_
            refine g_iload dX12_isSafe_52 rfl ?_
            refine g_iand dX12_isSafe_54 ?_
            refine g_nm (fun b3397 e_b3397 => ?_)
            have h_b3397 := iand_l (x := x19_5_3162) (y := rc3162) ⟨by omega, by omega⟩
            rw [← e_b3397] at h_b3397
            refine g_iload_n dX12_isSafe_55 rfl ?_
            refine g_iload_n dX12_isSafe_56 rfl ?_
            refine g_sI (av := [vI b3397, vI a1, vI a2]) (st := []) (m_X12_swapped G P b3397 a1 a2 ⟨by omega, by omega⟩ ⟨by omega, by omega⟩ ⟨by omega, by omega⟩ hB  _ (fun rc3398 hc3398 => ⟨rc3398, rfl, ?_⟩)) cf_X12_swapped t_2093 rfl (Nat.le_of_ble_eq_true rfl) (by decide) rfl dX12_isSafe_57
            refine g_sI (av := [vI rc3398]) (st := []) (m_X12_lowest G P rc3398 ⟨by omega, by omega⟩ hB  _ (fun rc3399 hc3399 gc3399_l gc3399_b => ⟨rc3399, rfl, ?_⟩)) cf_X12_lowest t_1927 rfl (Nat.le_of_ble_eq_true rfl) (by decide) rfl dX12_isSafe_60
            refine g_istore (l1 := [(7, vI rc3399), (6, vI rc3396), (0, vR 0), (1, vI a1), (2, vI a2), (3, vI x2_3_0), (4, vI rc3162), (5, vI x19_5_3162)]) dX12_isSafe_63 (by decide) rfl ?_
            refine g_iload dX12_isSafe_65 rfl ?_
            refine g_iload dX12_isSafe_67 rfl ?_
            refine g_iconst dX12_isSafe_69 ?_
            refine g_icmp_ne (tgt := 77) dX12_isSafe_70 (by decide) ⟨by omega, by omega⟩ (by decide) (fun k3400 => ?_) (fun k3400 => ?_)
            · refine g_iload dX12_isSafe_77 rfl ?_
              refine g_iload_n dX12_isSafe_79 rfl ?_
              refine g_iload_n dX12_isSafe_80 rfl ?_
              refine g_sI (av := [vI rc3399, vI a1, vI a2]) (st := [vI rc3396]) (m_X12_moved G P rc3399 a1 a2 ⟨by omega, by omega⟩ ⟨by omega, by omega⟩ ⟨by omega, by omega⟩ hB  _ (fun rc3401 hc3401 => ⟨rc3401, rfl, ?_⟩)) cf_X12_moved t_2096 rfl (Nat.le_of_ble_eq_true rfl) (by decide) rfl dX12_isSafe_81
              refine g_icmp_eq (tgt := 89) dX12_isSafe_84 (by decide) ⟨by omega, by omega⟩ ⟨by omega, by omega⟩ (fun k3402 => ?_) (fun k3402 => ?_)
              · refine g_iinc (l1 := [(5, vI (x19_5_3162 + 1)), (7, vI rc3399), (6, vI rc3396), (0, vR 0), (1, vI a1), (2, vI a2), (3, vI x2_3_0), (4, vI rc3162)]) dX12_isSafe_89 rfl (by decide) rfl ?_
                refine g_goto (tgt := 19) dX12_isSafe_92 (by decide) ?_
                refine g_forget (l1 := [(0, vR 0), (1, vI a1), (2, vI a2), (3, vI x2_3_0), (4, vI rc3162), (5, vI (x19_5_3162 + 1))]) (by intro q hq; simp only [List.mem_cons, List.not_mem_nil, or_false] at hq ⊢; rcases hq with rfl | rfl | rfl | rfl | rfl | rfl <;> simp) ?_
                exact ih19_3162 (x19_5_3162 + 1) ⟨by omega, by omega⟩ (by omega)
              · refine g_iconst dX12_isSafe_87 ?_
                exact g_retZ dX12_isSafe_88 rfl (by decide) (hQ 0 (by decide) )
            · refine g_iconst dX12_isSafe_73 ?_
              refine g_goto (tgt := 84) dX12_isSafe_74 (by decide) ?_
              refine g_icmp_eq (tgt := 89) dX12_isSafe_84 (by decide) ⟨by omega, by omega⟩ (by decide) (fun k3403 => ?_) (fun k3403 => ?_)
              · refine g_iinc (l1 := [(5, vI (x19_5_3162 + 1)), (7, vI rc3399), (6, vI rc3396), (0, vR 0), (1, vI a1), (2, vI a2), (3, vI x2_3_0), (4, vI rc3162)]) dX12_isSafe_89 rfl (by decide) rfl ?_
                refine g_goto (tgt := 19) dX12_isSafe_92 (by decide) ?_
                refine g_forget (l1 := [(0, vR 0), (1, vI a1), (2, vI a2), (3, vI x2_3_0), (4, vI rc3162), (5, vI (x19_5_3162 + 1))]) (by intro q hq; simp only [List.mem_cons, List.not_mem_nil, or_false] at hq ⊢; rcases hq with rfl | rfl | rfl | rfl | rfl | rfl <;> simp) ?_
                exact ih19_3162 (x19_5_3162 + 1) ⟨by omega, by omega⟩ (by omega)
              · refine g_iconst dX12_isSafe_87 ?_
                exact g_retZ dX12_isSafe_88 rfl (by decide) (hQ 0 (by decide) )
          · refine g_goto (tgt := 89) dX12_isSafe_37 (by decide) ?_
            refine g_iinc (l1 := [(5, vI (x19_5_3162 + 1)), (0, vR 0), (1, vI a1), (2, vI a2), (3, vI x2_3_0), (4, vI rc3162)]) dX12_isSafe_89 rfl (by decide) rfl ?_
            refine g_goto (tgt := 19) dX12_isSafe_92 (by decide) ?_
            refine g_forget (l1 := [(0, vR 0), (1, vI a1), (2, vI a2), (3, vI x2_3_0), (4, vI rc3162), (5, vI (x19_5_3162 + 1))]) (by intro q hq; simp only [List.mem_cons, List.not_mem_nil, or_false] at hq ⊢; rcases hq with rfl | rfl | rfl | rfl | rfl | rfl <;> simp) ?_
            exact ih19_3162 (x19_5_3162 + 1) ⟨by omega, by omega⟩ (by omega)
      refine g_forget (l1 := [(0, vR 0), (1, vI a1), (2, vI a2), (3, vI x2_3_0), (4, vI rc3162), (5, vI 0)]) (by intro q hq; simp only [List.mem_cons, List.not_mem_nil, or_false] at hq ⊢; rcases hq with rfl | rfl | rfl | rfl | rfl | rfl <;> simp) ?_
      exact L19_3162 _ 0 (by decide) (Nat.lt_succ_self _)
  refine g_forget (l1 := [(0, vR 0), (1, vI a1), (2, vI a2), (3, vI 0)]) (by intro q hq; simp only [List.mem_cons, List.not_mem_nil, or_false] at hq ⊢; rcases hq with rfl | rfl | rfl | rfl <;> simp) ?_
  exact L2_0 _ 0 (by decide) (Nat.lt_succ_self _)
set_option maxRecDepth 100000 in
set_option maxHeartbeats 4000000 in
theorem m_X12_safe (G : GT) (P : PH) (a1 : Int) (a2 : Int) (h_a1 : (-2147483648) ≤ a1 ∧ a1 ≤ 2147483647) (h_a2 : (-2147483648) ≤ a2 ∧ a2 ≤ 2147483647) (hB : BdM P) (p_st : P 0 74 ≤ 199999999) (v_okC : okC P) (v_MVw : MVw P) (v_RE : RE P) (Q : Option PV → PH → Prop) (hQ : ∀ (r : Int) (_ : (-2147483648) ≤ r ∧ r ≤ 2147483647) (P1 : PH) (_ : BdM P1) (_ : FrM ([62, 66, 74], [41, 42, 43, 44, 45]) P P1) (_ : P1 0 74 ≤ P 0 74 + 1) (_ : MVw P1) (_ : RE P1), Q (some (vI r)) P1) : Ct WSM G 6 iX12_safe [vR 0, vI a1, vI a2] P Q := by
  refine Ct.of (by decide) (l0 := [(0, vR 0), (1, vI a1), (2, vI a2)]) rfl (Nat.le_of_ble_eq_true rfl) ?_
  refine g_aload_n dX12_safe_0 rfl ?_
  refine g_iload_n dX12_safe_1 rfl ?_
  refine g_vI (av := [vI a1]) (o := 0) (st := []) (m_X12_isPlace G P a1 ⟨by omega, by omega⟩ hB  _ (fun rc1 hc1 gc1_p => ⟨rc1, rfl, ?_⟩)) cf_X12_isPlace t_1883 rfl (by decide) rfl rfl rfl (Nat.le_of_ble_eq_true rfl) (by decide) rfl dX12_safe_2
  have f2 := b0_44 hB
  have f3 := bl_35 (k := 0) hB
  refine g_if_eq (tgt := 16) dX12_safe_5 (by decide) ⟨by omega, by omega⟩ (fun k4 => ?_) (fun k4 => ?_)
  · refine g_iconst dX12_safe_16 ?_
    exact g_retI dX12_safe_17 rfl (hQ (-1) (by decide) _ hB FrM.rf (by have q0 := b0_74 hB; omega) v_MVw v_RE)
  · refine g_aload_n dX12_safe_8 rfl ?_
    refine g_iload_n dX12_safe_9 rfl ?_
    refine g_vI (av := [vI a2]) (o := 0) (st := []) (m_X12_isPlace G P a2 ⟨by omega, by omega⟩ hB  _ (fun rc5 hc5 gc5_p => ⟨rc5, rfl, ?_⟩)) cf_X12_isPlace t_1883 rfl (by decide) rfl rfl rfl (Nat.le_of_ble_eq_true rfl) (by decide) rfl dX12_safe_10
    refine g_if_ne (tgt := 18) dX12_safe_13 (by decide) ⟨by omega, by omega⟩ (fun k6 => ?_) (fun k6 => ?_)
    · refine g_aload_n dX12_safe_18 rfl ?_
      refine g_iconst dX12_safe_19 ?_
      refine g_vV (av := [vI 0]) (o := 0) (st := []) (m_X12_arranges G P 0 (by decide) hB (by have q0 := b0_74 hB; omega) v_MVw v_RE _ (fun Pc7 hBc7 hFc7 gc7_st vc7_MV vc7_RE vc7_RLt => ⟨rfl, ?_⟩)) cf_X12_arranges t_1887 rfl (by decide) rfl rfl rfl (Nat.le_of_ble_eq_true rfl) (by decide) rfl dX12_safe_20
      refine g_aload_n dX12_safe_23 rfl ?_
      refine g_vV (av := []) (o := 0) (st := []) (m_X12_countsRows G Pc7  hBc7 (okC.fr (F := ([62, 66, 74], [41, 42, 43])) v_okC (FrM.c FrM.rf hFc7 rfl) rfl) _ (fun Pc8 hBc8 hFc8 => ⟨rfl, ?_⟩)) cf_X12_countsRows t_1895 rfl (by decide) rfl rfl rfl (Nat.le_of_ble_eq_true rfl) (by decide) rfl dX12_safe_24
      refine g_aload_n dX12_safe_27 rfl ?_
      refine g_iload_n dX12_safe_28 rfl ?_
      refine g_iload_n dX12_safe_29 rfl ?_
      refine g_vI (av := [vI a1, vI a2]) (o := 0) (st := []) (m_X12_isSafe G Pc8 a1 a2 ⟨by omega, by omega⟩ ⟨by omega, by omega⟩ hBc8  _ (fun rc9 hc9 => ⟨rc9, rfl, ?_⟩)) cf_X12_isSafe t_2089 rfl (by decide) rfl rfl rfl (Nat.le_of_ble_eq_true rfl) (by decide) rfl dX12_safe_30
      refine g_if_eq (tgt := 40) dX12_safe_33 (by decide) ⟨by omega, by omega⟩ (fun k10 => ?_) (fun k10 => ?_)
      · refine g_iconst dX12_safe_40 ?_
        exact g_retI dX12_safe_41 rfl (hQ 0 (by decide) _ hBc8 (FrM.c (FrM.c FrM.rf hFc7 rfl) hFc8 rfl) (by have q0 := (((hFc8.1 74 rfl).trans rfl) : Pc8 0 74 = (Pc7 0 74)); have q1 := b0_74 hBc7; omega) ((MV.fr (F := ([], [44, 45])) vc7_MV (FrM.c FrM.rf hFc8 rfl) rfl).w) (RE.fr (F := ([], [44, 45])) vc7_RE (FrM.c FrM.rf hFc8 rfl) rfl))
      · refine g_iconst dX12_safe_36 ?_
        refine g_goto (tgt := 41) dX12_safe_37 (by decide) ?_
        exact g_retI dX12_safe_41 rfl (hQ 1 (by decide) _ hBc8 (FrM.c (FrM.c FrM.rf hFc7 rfl) hFc8 rfl) (by have q0 := (((hFc8.1 74 rfl).trans rfl) : Pc8 0 74 = (Pc7 0 74)); have q1 := b0_74 hBc7; omega) ((MV.fr (F := ([], [44, 45])) vc7_MV (FrM.c FrM.rf hFc8 rfl) rfl).w) (RE.fr (F := ([], [44, 45])) vc7_RE (FrM.c FrM.rf hFc8 rfl) rfl))
    · refine g_iconst dX12_safe_16 ?_
      exact g_retI dX12_safe_17 rfl (hQ (-1) (by decide) _ hB FrM.rf (by have q0 := b0_74 hB; omega) v_MVw v_RE)
set_option maxRecDepth 100000 in
set_option maxHeartbeats 4000000 in
theorem m_X12_plants (G : GT) (P : PH) (a1 : Int) (a2 : Int) (h_a1 : 0 ≤ a1 ∧ a1 ≤ 21) (h_a2 : (-2147483648) ≤ a2 ∧ a2 ≤ 2147483647) (hB : BdM P) (p_st : P 0 74 ≤ 199999999) (v_MVw : MVw P) (v_RE : RE P) (Q : Option PV → PH → Prop) (hQ : ∀ (P1 : PH) (_ : BdM P1) (_ : FrM ([62, 66, 74, 76], [41, 42, 43]) P P1) (_ : P1 0 74 = P 0 74 + 1) (_ : MV P1) (_ : RE P1) (_ : RLt P1), Q none P1) : Ct WSM G 3 iX12_plants [vR 0, vI a1, vI a2] P Q := by
  refine Ct.of (by decide) (l0 := [(0, vR 0), (1, vI a1), (2, vI a2)]) rfl (Nat.le_of_ble_eq_true rfl) ?_
  refine g_aload_n dX12_plants_0 rfl ?_
  refine g_iload_n dX12_plants_1 rfl ?_
  refine g_vV (av := [vI a1]) (o := 0) (st := []) (m_X12_arranges G P a1 ⟨by omega, by omega⟩ hB (by have q0 := b0_74 hB; omega) v_MVw v_RE _ (fun Pc1 hBc1 hFc1 gc1_st vc1_MV vc1_RE vc1_RLt => ⟨rfl, ?_⟩)) cf_X12_arranges t_1887 rfl (by decide) rfl rfl rfl (Nat.le_of_ble_eq_true rfl) (by decide) rfl dX12_plants_2
  refine g_aload_n dX12_plants_5 rfl ?_
  refine g_iload_n dX12_plants_6 rfl ?_
  refine m_p76 rfl dX12_plants_7 ?_
  have hB2 := bs_76 (z := a2) hBc1 ⟨by omega, by omega⟩
  exact g_retV dX12_plants_10 rfl (hQ _ hB2 (FrM.s (FrM.c FrM.rf hFc1 rfl) rfl) (by have q0 := (((up_k (by decide)).trans rfl) : (up Pc1 0 76 a2) 0 74 = (Pc1 0 74)); have q1 := b0_74 hBc1; omega) (MV.fr (F := ([76], [])) vc1_MV (FrM.s FrM.rf rfl) rfl) (RE.fr (F := ([76], [])) vc1_RE (FrM.s FrM.rf rfl) rfl) (RLt.fr (F := ([76], [])) vc1_RLt (FrM.s FrM.rf rfl) rfl))
set_option maxRecDepth 100000 in
set_option maxHeartbeats 4000000 in
theorem m_X12_writesName (G : GT) (P : PH) (a1 : Int) (h_a1 : (-9223372036854775808) ≤ a1 ∧ a1 ≤ 9223372036854775807) (hB : BdM P) (p_o : P 0 70 ≤ 1792) (Q : Option PV → PH → Prop) (hQ : ∀ (P1 : PH) (_ : BdM P1) (_ : FrM ([70], [46]) P P1) (_ : P1 0 70 ≤ P 0 70 + 8), Q none P1) : Ct WSM G 2 iX12_writesName [vR 0, vL a1] P Q := by
  refine Ct.of (by decide) (l0 := [(0, vR 0), (1, vL a1)]) rfl (Nat.le_of_ble_eq_true rfl) ?_
  refine g_lload_n dX12_writesName_0 rfl ?_
  refine g_sI (av := [vL a1]) (st := []) (m_X12_lettersOf G P a1 ⟨by omega, by omega⟩ hB  _ (fun rc1 hc1 => ⟨rc1, rfl, ?_⟩)) cf_X12_lettersOf t_1871 rfl (Nat.le_of_ble_eq_true rfl) (by decide) rfl dX12_writesName_1
  refine g_iconst dX12_writesName_4 ?_
  refine g_isub dX12_writesName_5 ?_
  refine g_istore_n (l1 := [(3, vI (rc1 - 1)), (0, vR 0), (1, vL a1)]) dX12_writesName_6 (by decide) rfl ?_
  have L7_1 : ∀ (n7_1 : Nat) (x7_3_1 : Int) (h_x7_3_1 : (-1) ≤ x7_3_1 ∧ x7_3_1 ≤ 7) (H7_1 : PH) (hB7_1 : BdM H7_1) (hE7_1 : FrM ([70], [46]) P H7_1) (i7_0_1 : H7_1 0 70 + x7_3_1 + 1 ≤ P 0 70 + 8) (hm7_1 : ((x7_3_1 - (-2)) : Int).toNat < n7_1), Go WSM G 2 iX12_writesName 7 [(0, vR 0), (1, vL a1), (3, vI x7_3_1)] [] H7_1 Q := by
    intro n7_1
    induction n7_1 with
    | zero => intro x7_3_1 h_x7_3_1 H7_1 hB7_1 hE7_1 i7_0_1 hm7_1; exact absurd hm7_1 (Nat.not_lt_zero _)
    | succ n7_1 ih7_1 =>
    intro x7_3_1 h_x7_3_1 H7_1 hB7_1 hE7_1 i7_0_1 hm7_1
    refine g_iload_n dX12_writesName_7 rfl ?_
    refine g_if_lt (tgt := 32) dX12_writesName_8 (by decide) ⟨by omega, by omega⟩ (fun k19 => ?_) (fun k19 => ?_)
    · exact g_retV dX12_writesName_32 rfl (hQ _ hB7_1 (FrM.c FrM.rf hE7_1 rfl) (by have q0 := b0_70 hB7_1; omega))
    · refine g_aload_n dX12_writesName_11 rfl ?_
      refine g_lload_n dX12_writesName_12 rfl ?_
      refine g_bipush dX12_writesName_13 (by decide) ?_
      refine g_iload_n dX12_writesName_15 rfl ?_
      refine g_imul dX12_writesName_16 ?_
      refine g_lshr dX12_writesName_17 ?_
      refine g_nm (fun b20 e_b20 => ?_)
      have h_b20 := llshr_ir a1 (8 * x7_3_1)
      rw [← e_b20] at h_b20
      refine g_ldc2 (z := 255) dX12_writesName_18 t_1874 (by decide) ?_
      refine g_land dX12_writesName_21 ?_
      refine g_nm (fun b21 e_b21 => ?_)
      have h_b21 := lland_r (x := b20) (y := 255) ⟨by omega, by omega⟩
      rw [← e_b21] at h_b21
      refine g_l2i dX12_writesName_22 ?_
      refine g_vV (av := [vI b21]) (o := 0) (st := []) (m_X12_writes G H7_1 b21 ⟨by omega, by omega⟩ hB7_1 (by have q0 := b0_70 hB7_1; omega) _ (fun Pc22 hBc22 hFc22 gc22_o => ⟨rfl, ?_⟩)) cf_X12_writes t_1974 rfl (by decide) rfl rfl rfl (Nat.le_of_ble_eq_true rfl) (by decide) rfl dX12_writesName_23
      refine g_iinc (l1 := [(3, vI (x7_3_1 + (-1))), (0, vR 0), (1, vL a1)]) dX12_writesName_26 rfl (by decide) rfl ?_
      refine g_goto (tgt := 7) dX12_writesName_29 (by decide) ?_
      refine g_forget (l1 := [(0, vR 0), (1, vL a1), (3, vI (x7_3_1 + (-1)))]) (by intro q hq; simp only [List.mem_cons, List.not_mem_nil, or_false] at hq ⊢; rcases hq with rfl | rfl | rfl <;> simp) ?_
      exact ih7_1 (x7_3_1 + (-1)) ⟨by omega, by omega⟩ _ hBc22 (FrM.c (FrM.c FrM.rf hE7_1 rfl) hFc22 rfl) (by have q0 := b0_70 hBc22; omega) (by omega)
  refine g_forget (l1 := [(0, vR 0), (1, vL a1), (3, vI (rc1 - 1))]) (by intro q hq; simp only [List.mem_cons, List.not_mem_nil, or_false] at hq ⊢; rcases hq with rfl | rfl | rfl <;> simp) ?_
  exact L7_1 _ (rc1 - 1) ⟨by omega, by omega⟩ _ hB FrM.rf (by have q0 := b0_70 hB; omega) (Nat.lt_succ_self _)
set_option maxRecDepth 100000 in
set_option maxHeartbeats 4000000 in
theorem m_X12_draw (G : GT) (P : PH) (a1 : Int) (h_a1 : 1 ≤ a1 ∧ a1 ≤ 2147483647) (hB : BdM P) (Q : Option PV → PH → Prop) (hQ : ∀ (r : Int) (_ : 0 ≤ r ∧ r ≤ 2147483646) (P1 : PH) (_ : BdM P1) (_ : FrM ([61], []) P P1) (_ : r < a1), Q (some (vI r)) P1) : Ct WSM G 1 iX12_draw [vR 0, vI a1] P Q := by
  refine Ct.of (by decide) (l0 := [(0, vR 0), (1, vI a1)]) rfl (Nat.le_of_ble_eq_true rfl) ?_
  refine g_aload_n dX12_draw_0 rfl ?_
  refine g_ldc2 (z := 1103515245) dX12_draw_1 t_2148 (by decide) ?_
  refine g_aload_n dX12_draw_4 rfl ?_
  refine m_g61 (z := (P 0 61)) rfl dX12_draw_5 rfl ?_
  refine g_lmul dX12_draw_8 ?_
  refine g_ldc2 (z := 12345) dX12_draw_9 t_2149 (by decide) ?_
  refine g_ladd dX12_draw_12 ?_
  refine g_ldc2 (z := 2147483648) dX12_draw_13 t_2150 (by decide) ?_
  refine g_lrem dX12_draw_16 ⟨(by decide), by decide⟩ ?_
  refine g_nm (fun b1 e_b1 => ?_)
  have h_b1 := llrem_b (x := ((1103515245 * (P 0 61)) + 12345)) (y := 2147483648) ⟨by have q0 := b0_61 hB; omega, by have q0 := b0_61 hB; omega⟩ ⟨by omega, by omega⟩
  rw [← e_b1] at h_b1
  refine m_p61 rfl dX12_draw_17 ?_
  have hB2 := bs_61 (z := b1) hB ⟨by omega, by omega⟩
  refine g_aload_n dX12_draw_20 rfl ?_
  refine m_g61 (z := b1) rfl dX12_draw_21 up_same ?_
  refine g_ldc2 (z := 64) dX12_draw_24 t_2151 (by decide) ?_
  refine g_ldiv dX12_draw_27 ⟨(by decide), by decide⟩ ?_
  refine g_nm (fun b3 e_b3 => ?_)
  have h_b3 := lldiv_p (x := b1) (y := 64) ⟨by omega, by omega⟩ ⟨by omega, by omega⟩
  rw [← e_b3] at h_b3
  refine g_iload_n dX12_draw_28 rfl ?_
  refine g_i2l dX12_draw_29 ⟨by omega, by omega⟩ ?_
  refine g_lrem dX12_draw_30 ⟨⟨by omega, by omega⟩, by omega⟩ ?_
  refine g_nm (fun b4 e_b4 => ?_)
  have h_b4 := llrem_b (x := b3) (y := a1) ⟨by omega, by omega⟩ ⟨by omega, by omega⟩
  rw [← e_b4] at h_b4
  refine g_l2i dX12_draw_31 ?_
  exact g_retI dX12_draw_32 rfl (hQ b4 ⟨by omega, by omega⟩ _ hB2 (FrM.s FrM.rf rfl) (by omega))
set_option maxRecDepth 100000 in
set_option maxHeartbeats 4000000 in
theorem m_X12_opensScope (G : GT) (P : PH) (a1 : Int) (a2 : Int) (h_a1 : 0 ≤ a1 ∧ a1 ≤ 39) (h_a2 : 0 ≤ a2 ∧ a2 ≤ 65535) (hB : BdM P) (p_s : P 0 87 ≤ 999) (Q : Option PV → PH → Prop) (hQ : ∀ (P1 : PH) (_ : BdM P1) (_ : FrM ([87, 89], [54, 55, 56]) P P1) (_ : P1 0 87 = P 0 87 + 1) (_ : P1 55 a1 = 0) (_ : P1 54 a1 = a2) (_ : ∀ j : Int, j ≠ a1 → P1 55 j = P 55 j) (_ : ∀ j : Int, j ≠ a1 → P1 54 j = P 54 j), Q none P1) : Ct WSM G 1 iX12_opensScope [vR 0, vI a1, vI a2] P Q := by
  refine Ct.of (by decide) (l0 := [(0, vR 0), (1, vI a1), (2, vI a2)]) rfl (Nat.le_of_ble_eq_true rfl) ?_
  refine g_aload_n dX12_opensScope_0 rfl ?_
  refine m_g83 rfl dX12_opensScope_1 ?_
  refine g_iload_n dX12_opensScope_4 rfl ?_
  refine g_iload_n dX12_opensScope_5 rfl ?_
  refine m_s54 dX12_opensScope_6 ⟨by omega, by omega⟩ ?_
  have hB1 := ba_54 (z := a2) (k := a1) hB ⟨by omega, by omega⟩
  refine g_aload_n dX12_opensScope_7 rfl ?_
  refine m_g84 rfl dX12_opensScope_8 ?_
  refine g_iload_n dX12_opensScope_11 rfl ?_
  refine g_iconst dX12_opensScope_12 ?_
  refine m_s55 dX12_opensScope_13 ⟨by omega, by omega⟩ ?_
  have hB2 := ba_55 (z := 0) (k := a1) hB1 (by decide)
  refine g_aload_n dX12_opensScope_14 rfl ?_
  refine m_g85 rfl dX12_opensScope_15 ?_
  refine g_iload_n dX12_opensScope_18 rfl ?_
  refine g_aload_n dX12_opensScope_19 rfl ?_
  refine m_g87 (z := (P 0 87)) rfl dX12_opensScope_20 ((up_o (by decide)).trans ((up_o (by decide)).trans rfl)) ?_
  refine m_s56 dX12_opensScope_23 ⟨by omega, by omega⟩ ?_
  have hB3 := ba_56 (z := (P 0 87)) (k := a1) hB2 ⟨by have q0 := b0_87 hB; omega, by have q0 := b0_87 hB; omega⟩
  refine g_aload_n dX12_opensScope_24 rfl ?_
  refine g_dup dX12_opensScope_25 rfl ?_
  refine m_g87 (z := (P 0 87)) rfl dX12_opensScope_26 ((up_o (by decide)).trans ((up_o (by decide)).trans ((up_o (by decide)).trans rfl))) ?_
  refine g_iconst dX12_opensScope_29 ?_
  refine g_iadd dX12_opensScope_30 ?_
  refine m_p87 rfl dX12_opensScope_31 ?_
  have hB4 := bs_87 (z := ((P 0 87) + 1)) hB3 ⟨by have q0 := b0_87 hB; omega, by have q0 := b0_87 hB; omega⟩
  refine g_aload_n dX12_opensScope_34 rfl ?_
  refine g_iload_n dX12_opensScope_35 rfl ?_
  refine g_iconst dX12_opensScope_36 ?_
  refine g_iadd dX12_opensScope_37 ?_
  refine g_aload_n dX12_opensScope_38 rfl ?_
  refine m_g89 (z := (P 0 89)) rfl dX12_opensScope_39 ((up_k (by decide)).trans ((up_o (by decide)).trans ((up_o (by decide)).trans ((up_o (by decide)).trans rfl)))) ?_
  have f5 := b0_89 hB
  refine g_icmp_le (tgt := 51) dX12_opensScope_42 (by decide) ⟨by omega, by omega⟩ ⟨by have q0 := b0_89 hB; omega, by have q0 := b0_89 hB; omega⟩ (fun k6 => ?_) (fun k6 => ?_)
  · refine g_aload_n dX12_opensScope_51 rfl ?_
    refine m_g89 (z := (P 0 89)) rfl dX12_opensScope_52 ((up_k (by decide)).trans ((up_o (by decide)).trans ((up_o (by decide)).trans ((up_o (by decide)).trans rfl)))) ?_
    refine m_p89 rfl dX12_opensScope_55 ?_
    have hB7 := bs_89 (z := (P 0 89)) hB4 ⟨by have q0 := b0_89 hB; omega, by have q0 := b0_89 hB; omega⟩
    exact g_retV dX12_opensScope_58 rfl (hQ _ hB7 (FrM.s (FrM.s (FrM.a (FrM.a (FrM.a FrM.rf rfl rfl) rfl rfl) rfl rfl) rfl) rfl) (by have q0 := (((up_k (by decide)).trans up_same) : (up (up (up (up (up P 54 a1 a2) 55 a1 0) 56 a1 (P 0 87)) 0 87 ((P 0 87) + 1)) 0 89 (P 0 89)) 0 87 = ((P 0 87) + 1)); have q1 := b0_87 hB; omega) (((up_o (by decide)).trans ((up_o (by decide)).trans ((up_o (by decide)).trans up_same)))) (((up_o (by decide)).trans ((up_o (by decide)).trans ((up_o (by decide)).trans ((up_o (by decide)).trans up_same))))) (fun j hj => ((up_o (by decide)).trans ((up_o (by decide)).trans ((up_o (by decide)).trans ((up_k hj).trans ((up_o (by decide)).trans rfl)))))) (fun j hj => ((up_o (by decide)).trans ((up_o (by decide)).trans ((up_o (by decide)).trans ((up_o (by decide)).trans ((up_k hj).trans rfl)))))))
  · refine g_iload_n dX12_opensScope_45 rfl ?_
    refine g_iconst dX12_opensScope_46 ?_
    refine g_iadd dX12_opensScope_47 ?_
    refine g_goto (tgt := 55) dX12_opensScope_48 (by decide) ?_
    refine m_p89 rfl dX12_opensScope_55 ?_
    have hB8 := bs_89 (z := (a1 + 1)) hB4 ⟨by omega, by omega⟩
    exact g_retV dX12_opensScope_58 rfl (hQ _ hB8 (FrM.s (FrM.s (FrM.a (FrM.a (FrM.a FrM.rf rfl rfl) rfl rfl) rfl rfl) rfl) rfl) (by have q0 := (((up_k (by decide)).trans up_same) : (up (up (up (up (up P 54 a1 a2) 55 a1 0) 56 a1 (P 0 87)) 0 87 ((P 0 87) + 1)) 0 89 (a1 + 1)) 0 87 = ((P 0 87) + 1)); have q1 := b0_87 hB; omega) (((up_o (by decide)).trans ((up_o (by decide)).trans ((up_o (by decide)).trans up_same)))) (((up_o (by decide)).trans ((up_o (by decide)).trans ((up_o (by decide)).trans ((up_o (by decide)).trans up_same))))) (fun j hj => ((up_o (by decide)).trans ((up_o (by decide)).trans ((up_o (by decide)).trans ((up_k hj).trans ((up_o (by decide)).trans rfl)))))) (fun j hj => ((up_o (by decide)).trans ((up_o (by decide)).trans ((up_o (by decide)).trans ((up_o (by decide)).trans ((up_k hj).trans rfl)))))))
set_option maxRecDepth 100000 in
set_option maxHeartbeats 4000000 in
theorem m_X12_isNewSet (G : GT) (P : PH) (a1 : Int) (a2 : Int) (a3 : Int) (h_a1 : 0 ≤ a1 ∧ a1 ≤ 4095) (h_a2 : 0 ≤ a2 ∧ a2 ≤ 3) (h_a3 : 0 ≤ a3 ∧ a3 ≤ 2009) (hB : BdM P) (Q : Option PV → PH → Prop) (hQ : ∀ (r : Int) (_ : 0 ≤ r ∧ r ≤ 1), Q (some (vI r)) P) : Ct WSM G 1 iX12_isNewSet [vR 0, vI a1, vI a2, vI a3] P Q := by
  refine Ct.of (by decide) (l0 := [(0, vR 0), (1, vI a1), (2, vI a2), (3, vI a3)]) rfl (Nat.le_of_ble_eq_true rfl) ?_
  refine g_iconst dX12_isNewSet_0 ?_
  refine g_istore (l1 := [(4, vI 0), (0, vR 0), (1, vI a1), (2, vI a2), (3, vI a3)]) dX12_isNewSet_1 (by decide) rfl ?_
  have L3_0 : ∀ (n3_0 : Nat) (x3_4_0 : Int) (h_x3_4_0 : 0 ≤ x3_4_0 ∧ x3_4_0 ≤ 2009) (hm3_0 : ((2010 - x3_4_0) : Int).toNat < n3_0), Go WSM G 1 iX12_isNewSet 3 [(0, vR 0), (1, vI a1), (2, vI a2), (3, vI a3), (4, vI x3_4_0)] [] P Q := by
    intro n3_0
    induction n3_0 with
    | zero => intro x3_4_0 h_x3_4_0 hm3_0; exact absurd hm3_0 (Nat.not_lt_zero _)
    | succ n3_0 ih3_0 =>
    intro x3_4_0 h_x3_4_0 hm3_0
    refine g_iload dX12_isNewSet_3 rfl ?_
    refine g_iload_n dX12_isNewSet_5 rfl ?_
    refine g_icmp_ge (tgt := 49) dX12_isNewSet_6 (by decide) ⟨by omega, by omega⟩ ⟨by omega, by omega⟩ (fun k66 => ?_) (fun k66 => ?_)
    · refine g_iconst dX12_isNewSet_49 ?_
      exact g_retZ dX12_isNewSet_50 rfl (by decide) (hQ 1 (by decide) )
    · refine g_aload_n dX12_isNewSet_9 rfl ?_
      refine m_g63 rfl dX12_isNewSet_10 ?_
      refine g_sipush dX12_isNewSet_13 (by decide) ?_
      refine g_iload_n dX12_isNewSet_16 rfl ?_
      refine g_imul dX12_isNewSet_17 ?_
      refine g_iload dX12_isNewSet_18 rfl ?_
      refine g_iadd dX12_isNewSet_20 ?_
      refine m_l41 (z := (P 41 ((2010 * a2) + x3_4_0))) dX12_isNewSet_21 ⟨by omega, by omega⟩ rfl ?_
      refine g_iload_n dX12_isNewSet_22 rfl ?_
      refine g_iand dX12_isNewSet_23 ?_
      refine g_nm (fun b67 e_b67 => ?_)
      have h_b67 := iand_l (x := (P 41 ((2010 * a2) + x3_4_0))) (y := a1) ⟨by have q0 := bl_41 (k := ((2010 * a2) + x3_4_0)) hB; omega, by have q0 := bl_41 (k := ((2010 * a2) + x3_4_0)) hB; omega⟩
      rw [← e_b67] at h_b67
      have f_b67_0 := bl_41 (k := ((2010 * a2) + x3_4_0)) hB
      refine g_aload_n dX12_isNewSet_24 rfl ?_
      refine m_g63 rfl dX12_isNewSet_25 ?_
      refine g_sipush dX12_isNewSet_28 (by decide) ?_
      refine g_iload_n dX12_isNewSet_31 rfl ?_
      refine g_imul dX12_isNewSet_32 ?_
      refine g_iload_n dX12_isNewSet_33 rfl ?_
      refine g_iadd dX12_isNewSet_34 ?_
      refine m_l41 (z := (P 41 ((2010 * a2) + a3))) dX12_isNewSet_35 ⟨by omega, by omega⟩ rfl ?_
      refine g_iload_n dX12_isNewSet_36 rfl ?_
      refine g_iand dX12_isNewSet_37 ?_
      refine g_nm (fun b68 e_b68 => ?_)
      have h_b68 := iand_l (x := (P 41 ((2010 * a2) + a3))) (y := a1) ⟨by have q0 := bl_41 (k := ((2010 * a2) + a3)) hB; omega, by have q0 := bl_41 (k := ((2010 * a2) + a3)) hB; omega⟩
      rw [← e_b68] at h_b68
      have f_b68_0 := bl_41 (k := ((2010 * a2) + a3)) hB
      refine g_icmp_ne (tgt := 43) dX12_isNewSet_38 (by decide) ⟨by omega, by omega⟩ ⟨by omega, by omega⟩ (fun k69 => ?_) (fun k69 => ?_)
      · refine g_iinc (l1 := [(4, vI (x3_4_0 + 1)), (0, vR 0), (1, vI a1), (2, vI a2), (3, vI a3)]) dX12_isNewSet_43 rfl (by decide) rfl ?_
        refine g_goto (tgt := 3) dX12_isNewSet_46 (by decide) ?_
        refine g_forget (l1 := [(0, vR 0), (1, vI a1), (2, vI a2), (3, vI a3), (4, vI (x3_4_0 + 1))]) (by intro q hq; simp only [List.mem_cons, List.not_mem_nil, or_false] at hq ⊢; rcases hq with rfl | rfl | rfl | rfl | rfl <;> simp) ?_
        exact ih3_0 (x3_4_0 + 1) ⟨by omega, by omega⟩ (by omega)
      · refine g_iconst dX12_isNewSet_41 ?_
        exact g_retZ dX12_isNewSet_42 rfl (by decide) (hQ 0 (by decide) )
  refine g_forget (l1 := [(0, vR 0), (1, vI a1), (2, vI a2), (3, vI a3), (4, vI 0)]) (by intro q hq; simp only [List.mem_cons, List.not_mem_nil, or_false] at hq ⊢; rcases hq with rfl | rfl | rfl | rfl | rfl <;> simp) ?_
  exact L3_0 _ 0 (by decide) (Nat.lt_succ_self _)
end
section
/-! The weight of a node: how many arms and columns are left. -/
def popN : Nat → Nat → Nat
  | 0, _ => 0
  | f + 1, n => n % 2 + popN f (n / 2)
theorem popN_and (f : Nat) : ∀ x y : Nat, popN f (x &&& y) ≤ popN f x := by
  induction f with
  | zero => intro x y; exact Nat.le_refl _
  | succ f ih =>
    intro x y
    unfold popN
    have h1 : (x &&& y) / 2 = x / 2 &&& y / 2 := Nat.and_div_two
    have h2 : (x &&& y) % 2 ≤ x % 2 := by
      have h := Nat.testBit_and x y 0
      simp only [Nat.testBit_zero] at h
      rcases Nat.mod_two_eq_zero_or_one (x &&& y) with e | e
      · omega
      · rcases Nat.mod_two_eq_zero_or_one x with e1 | e1
        · rw [e, e1] at h; simp at h
        · omega
    rw [h1]
    have := ih (x / 2) (y / 2)
    omega
theorem popN_le (f : Nat) : ∀ x : Nat, popN f x ≤ f := by
  induction f with
  | zero => intro x; exact Nat.le_refl _
  | succ f ih => intro x; unfold popN; have := ih (x / 2); omega
def pop (z : Int) : Int := (popN 12 z.toNat : Nat)
theorem pop_b (z : Int) : 0 ≤ pop z ∧ pop z ≤ 12 := by unfold pop; have := popN_le 12 z.toNat; omega
theorem iand_nat {x y : Int} (hx : 0 ≤ x ∧ x ≤ 2147483647) (hy : 0 ≤ y ∧ y ≤ 2147483647) : iand x y = ((x.toNat &&& y.toNat : Nat) : Int) := by
  unfold iand
  rw [i32_bv, Int32.toBitVec_and]
  have e1 := bv_of (z := x) hx
  have e2 := bv_of (z := y) hy
  have hv : ((Int32.ofInt x).toBitVec &&& (Int32.ofInt y).toBitVec).toNat = x.toNat &&& y.toNat := by
    rw [BitVec.toNat_and, e1, e2]
  have hle : x.toNat &&& y.toNat ≤ x.toNat := Nat.and_le_left
  rw [bv_small (n := 2147483648) (by rw [hv]; omega) (by omega), hv]
theorem pop_and {x y : Int} (hx : 0 ≤ x ∧ x ≤ 2147483647) (hy : 0 ≤ y ∧ y ≤ 2147483647) : pop (iand x y) ≤ pop x := by
  rw [iand_nat hx hy]
  unfold pop
  rw [Int.toNat_natCast]
  have := popN_and 12 x.toNat y.toNat
  omega
theorem pop_low_all : ∀ a : Nat, a < 64 → ∀ b : Nat, b < 64 → 64 * a + b = 0 ∨ popN 12 ((64 * a + b) &&& (64 * a + b - 1)) + 1 ≤ popN 12 (64 * a + b) := by decide +kernel
theorem pop_low {x : Int} (hx : 1 ≤ x ∧ x ≤ 4095) : pop (iand x (x - 1)) + 1 ≤ pop x := by
  rw [iand_nat ⟨by omega, by omega⟩ ⟨by omega, by omega⟩]
  have h := pop_low_all (x.toNat / 64) (by omega) (x.toNat % 64) (by omega)
  rw [show 64 * (x.toNat / 64) + x.toNat % 64 = x.toNat by omega] at h
  unfold pop
  rw [Int.toNat_natCast, show (x - 1).toNat = x.toNat - 1 by omega]
  omega
theorem pop_clr_all : ∀ a : Nat, a < 16 → ∀ c : Nat, c < 4 → iand (ishr (a : Int) (c : Int)) 1 = 1 → pop (iand (a : Int) (ixor (ishl 1 (c : Int)) (-1))) + 1 ≤ pop (a : Int) := by decide +kernel
theorem pop_clr {a c : Int} (ha : 0 ≤ a ∧ a ≤ 15) (hc : 0 ≤ c ∧ c ≤ 3) (h : iand (ishr a c) 1 = 1) : pop (iand a (ixor (ishl 1 c) (-1))) + 1 ≤ pop a := by
  have e1 : ((a.toNat : Nat) : Int) = a := Int.toNat_of_nonneg ha.1
  have e2 : ((c.toNat : Nat) : Int) = c := Int.toNat_of_nonneg hc.1
  have := pop_clr_all a.toNat (by omega) c.toNat (by omega)
  rw [e1, e2] at this
  exact this h
def wgt (l : Int) : Int := pop (l % 4096) + pop (l / 4096)
theorem wgt_b (l : Int) : 0 ≤ wgt l ∧ wgt l ≤ 24 := by unfold wgt; have := pop_b (l % 4096); have := pop_b (l / 4096); omega
theorem wgt_of {r a c : Int} (hr : r = a + 4096 * c) (ha : 0 ≤ a ∧ a ≤ 4095) : wgt r = pop a + pop c := by
  unfold wgt
  rw [show r % 4096 = a by omega, show r / 4096 = c by omega]
/-- the committed budget is one -/
def okB (P : PH) : Prop := P 0 44 = 0 ∨ (1 ≤ P 16 (P 0 13) ∧ P 16 (P 0 13) ≤ 999)
theorem okB.fr {P P1 : PH} {F : FS} (h : okB P) (hf : FrM F P P1) (hd : disF F ([13, 44], [16]) = true) : okB P1 := by
  unfold disF at hd
  simp only [List.all_cons, List.all_nil, Bool.and_true, Bool.and_eq_true, Bool.not_eq_true'] at hd
  unfold okB at h ⊢
  rw [hf.1 13 hd.1.1, hf.1 44 hd.1.2, hf.2 16 rfl hd.2]
  exact h
end
