section
section
/-! Contracts of the reference: m4. -/
set_option maxRecDepth 100000 in
set_option maxHeartbeats 4000000 in
theorem m_X12_valuesIn (G : GT) (P : PH) (a1 : Int) (h_a1 : 0 ≤ a1 ∧ a1 ≤ 2147483647) (hB : BdM P) (v_okC : okC P) (Q : Option PV → PH → Prop) (hQ : ∀ (P1 : PH) (_ : BdM P1) (_ : FrM ([], [44]) P P1) (_ : ∀ c : Int, 0 ≤ c → c < P 11 (P 0 13) → 0 ≤ P1 44 c ∧ P1 44 c < vals P (P 0 13) (P 12 (4 * P 0 13 + c))), Q none P1) : Ct WSM G 3 iX12_valuesIn [vR 0, vI a1] P Q := by
  refine Ct.of (by decide) (l0 := [(0, vR 0), (1, vI a1)]) rfl (Nat.le_of_ble_eq_true rfl) ?_
  refine g_iload_n dX12_valuesIn_0 rfl ?_
  refine g_istore_n (l1 := [(2, vI a1), (0, vR 0), (1, vI a1)]) dX12_valuesIn_1 (by decide) rfl ?_
  refine g_aload_n dX12_valuesIn_2 rfl ?_
  refine g_vI (av := []) (o := 0) (st := []) (m_X12_columns G P  hB  _ (fun rc1 hc1 gc1_c => ⟨rc1, rfl, ?_⟩)) cf_X12_columns t_1827 rfl (by decide) rfl rfl rfl (Nat.le_of_ble_eq_true rfl) (by decide) rfl dX12_valuesIn_3
  refine g_iconst dX12_valuesIn_6 ?_
  refine g_isub dX12_valuesIn_7 ?_
  refine g_istore_n (l1 := [(3, vI (rc1 - 1)), (2, vI a1), (0, vR 0), (1, vI a1)]) dX12_valuesIn_8 (by decide) rfl ?_
  have L9_1 : ∀ (n9_1 : Nat) (x9_3_1 : Int) (h_x9_3_1 : (-1) ≤ x9_3_1 ∧ x9_3_1 ≤ 3) (x9_2_1 : Int) (h_x9_2_1 : 0 ≤ x9_2_1 ∧ x9_2_1 ≤ 2147483647) (H9_1 : PH) (hB9_1 : BdM H9_1) (hE9_1 : FrM ([], [44]) P H9_1) (i9_0_1 : x9_3_1 < P 11 (P 0 13)) (i9_1_1 : ∀ c : Int, x9_3_1 < c → c < P 11 (P 0 13) → 0 ≤ H9_1 44 c ∧ H9_1 44 c < vals P (P 0 13) (P 12 (4 * P 0 13 + c))) (hm9_1 : ((x9_3_1 - (-2)) : Int).toNat < n9_1), Go WSM G 3 iX12_valuesIn 9 [(0, vR 0), (2, vI x9_2_1), (3, vI x9_3_1)] [] H9_1 Q := by
    intro n9_1
    induction n9_1 with
    | zero => intro x9_3_1 h_x9_3_1 x9_2_1 h_x9_2_1 H9_1 hB9_1 hE9_1 i9_0_1 i9_1_1 hm9_1; exact absurd hm9_1 (Nat.not_lt_zero _)
    | succ n9_1 ih9_1 =>
    intro x9_3_1 h_x9_3_1 x9_2_1 h_x9_2_1 H9_1 hB9_1 hE9_1 i9_0_1 i9_1_1 hm9_1
    refine g_iload_n dX12_valuesIn_9 rfl ?_
    refine g_if_lt (tgt := 40) dX12_valuesIn_10 (by decide) ⟨by omega, by omega⟩ (fun k34 => ?_) (fun k34 => ?_)
    · exact g_retV dX12_valuesIn_40 rfl (hQ _ hB9_1 (FrM.c FrM.rf hE9_1 rfl) (fun c c0 c1 => i9_1_1 c (by omega) c1))
    · refine g_aload_n dX12_valuesIn_13 rfl ?_
      refine m_g67 rfl dX12_valuesIn_14 ?_
      refine g_iload_n dX12_valuesIn_17 rfl ?_
      refine g_iload_n dX12_valuesIn_18 rfl ?_
      refine g_aload_n dX12_valuesIn_19 rfl ?_
      refine g_iload_n dX12_valuesIn_20 rfl ?_
      refine g_vI (av := [vI x9_3_1]) (o := 0) (st := [vI x9_2_1, vI x9_3_1, vR 44]) (m_X12_columnValues G H9_1 x9_3_1 ⟨by omega, by omega⟩ hB9_1 (by have q0 := (((congrFun (hE9_1.2 11 rfl rfl) _).trans rfl) : H9_1 11 (H9_1 0 13) = (P 11 (H9_1 0 13))); have q1 := bl_11 (k := (H9_1 0 13)) hB; have q2 := ((congrArg (H9_1 11) ((hE9_1.1 13 rfl).trans rfl)).trans ((congrFun (hE9_1.2 11 rfl rfl) _).trans rfl) : H9_1 11 (H9_1 0 13) = (P 11 (P 0 13))); have q3 := bl_11 (k := (P 0 13)) hB; omega) (okC.fr (F := ([], [44])) v_okC (FrM.c FrM.rf hE9_1 rfl) rfl) _ (fun rc35 hc35 gc35_v => ⟨rc35, rfl, ?_⟩)) cf_X12_columnValues t_1831 rfl (by decide) rfl rfl rfl (Nat.le_of_ble_eq_true rfl) (by decide) rfl dX12_valuesIn_21
      have z36 : H9_1 0 13 = (P 0 13) := ((hE9_1.1 13 rfl).trans rfl)
      have hcv : rc35 = vals P (P 0 13) (P 12 (4 * P 0 13 + x9_3_1)) := by have q := gc35_v; rw [show H9_1 0 13 = _ from ((hE9_1.1 13 rfl).trans rfl), show H9_1 12 (4 * P 0 13 + x9_3_1) = _ from ((congrFun (hE9_1.2 12 rfl rfl) _).trans rfl), vals_eq (P := P) (fun _ => ((congrFun (hE9_1.2 3 rfl rfl) _).trans rfl))] at q; exact q
      refine g_irem dX12_valuesIn_24 ⟨⟨by omega, by omega⟩, by omega⟩ ?_
      refine g_nm (fun b37 e_b37 => ?_)
      have h_b37 := irem_b (x := x9_2_1) (y := rc35) ⟨by omega, by omega⟩ ⟨by omega, by omega⟩
      rw [← e_b37] at h_b37
      have hrm := h_b37
      refine m_s44 dX12_valuesIn_25 ⟨by omega, by omega⟩ ?_
      have hB38 := ba_44 (z := b37) (k := x9_3_1) hB9_1 ⟨by omega, by omega⟩
      have hv9 : ∀ c : Int, x9_3_1 + (-1) < c → c < P 11 (P 0 13) → 0 ≤ (up H9_1 44 x9_3_1 b37) 44 c ∧ (up H9_1 44 x9_3_1 b37) 44 c < vals P (P 0 13) (P 12 (4 * P 0 13 + c)) := by
        intro c c0 c1
        by_cases e : c = x9_3_1
        · rw [e, show (up H9_1 44 x9_3_1 b37) 44 x9_3_1 = _ from up_same]; omega
        · rw [show (up H9_1 44 x9_3_1 b37) 44 c = _ from ((up_k e).trans rfl)]; exact i9_1_1 c (by omega) c1
      refine g_iload_n dX12_valuesIn_26 rfl ?_
      refine g_aload_n dX12_valuesIn_27 rfl ?_
      refine g_iload_n dX12_valuesIn_28 rfl ?_
      refine g_vI (av := [vI x9_3_1]) (o := 0) (st := [vI x9_2_1]) (m_X12_columnValues G (up H9_1 44 x9_3_1 b37) x9_3_1 ⟨by omega, by omega⟩ hB38 (by have q0 := (((up_o (by decide)).trans ((congrFun (hE9_1.2 11 rfl rfl) _).trans rfl)) : (up H9_1 44 x9_3_1 b37) 11 ((up H9_1 44 x9_3_1 b37) 0 13) = (P 11 ((up H9_1 44 x9_3_1 b37) 0 13))); have q1 := bl_11 (k := ((up H9_1 44 x9_3_1 b37) 0 13)) hB; have q2 := ((congrArg ((up H9_1 44 x9_3_1 b37) 11) ((up_o (by decide)).trans ((hE9_1.1 13 rfl).trans rfl))).trans ((up_o (by decide)).trans ((congrFun (hE9_1.2 11 rfl rfl) _).trans rfl)) : (up H9_1 44 x9_3_1 b37) 11 ((up H9_1 44 x9_3_1 b37) 0 13) = (P 11 (P 0 13))); have q3 := bl_11 (k := (P 0 13)) hB; omega) (okC.fr (F := ([], [44])) v_okC (FrM.a (FrM.c FrM.rf hE9_1 rfl) rfl rfl) rfl) _ (fun rc39 hc39 gc39_v => ⟨rc39, rfl, ?_⟩)) cf_X12_columnValues t_1831 rfl (by decide) rfl rfl rfl (Nat.le_of_ble_eq_true rfl) (by decide) rfl dX12_valuesIn_29
      have z40 : (up H9_1 44 x9_3_1 b37) 0 13 = (P 0 13) := ((up_o (by decide)).trans ((hE9_1.1 13 rfl).trans rfl))
      refine g_idiv dX12_valuesIn_32 ⟨⟨by omega, by omega⟩, by omega⟩ ?_
      refine g_nm (fun b41 e_b41 => ?_)
      have h_b41 := idiv_b (x := x9_2_1) (y := rc39) ⟨by omega, by omega⟩ ⟨by omega, by omega⟩
      rw [← e_b41] at h_b41
      refine g_istore_n (l1 := [(2, vI b41), (0, vR 0), (3, vI x9_3_1)]) dX12_valuesIn_33 (by decide) rfl ?_
      refine g_iinc (l1 := [(3, vI (x9_3_1 + (-1))), (2, vI b41), (0, vR 0)]) dX12_valuesIn_34 rfl (by decide) rfl ?_
      refine g_goto (tgt := 9) dX12_valuesIn_37 (by decide) ?_
      refine g_forget (l1 := [(0, vR 0), (2, vI b41), (3, vI (x9_3_1 + (-1)))]) (by intro q hq; simp only [List.mem_cons, List.not_mem_nil, or_false] at hq ⊢; rcases hq with rfl | rfl | rfl <;> simp) ?_
      exact ih9_1 (x9_3_1 + (-1)) ⟨by omega, by omega⟩ b41 ⟨by omega, by omega⟩ _ hB38 (FrM.a (FrM.c FrM.rf hE9_1 rfl) rfl rfl) (by omega) (by first | exact hv9 | (intro c c0 c1; exfalso; omega)) (by omega)
  refine g_forget (l1 := [(0, vR 0), (2, vI a1), (3, vI (rc1 - 1))]) (by intro q hq; simp only [List.mem_cons, List.not_mem_nil, or_false] at hq ⊢; rcases hq with rfl | rfl | rfl <;> simp) ?_
  exact L9_1 _ (rc1 - 1) ⟨by omega, by omega⟩ a1 ⟨by omega, by omega⟩ _ hB FrM.rf (by omega) (by first | exact hv9 | (intro c c0 c1; exfalso; omega)) (Nat.lt_succ_self _)
set_option maxRecDepth 100000 in
set_option maxHeartbeats 4000000 in
theorem m_X12_fitting (G : GT) (P : PH) (a1 : Int) (h_a1 : 0 ≤ a1 ∧ a1 ≤ 2147483647) (hB : BdM P) (v_okC : okC P) (Q : Option PV → PH → Prop) (hQ : ∀ (r : Int) (_ : 0 ≤ r ∧ r ≤ 4095) (P1 : PH) (_ : BdM P1) (_ : FrM ([], [44]) P P1), Q (some (vI r)) P1) : Ct WSM G 4 iX12_fitting [vR 0, vI a1] P Q := by
  refine Ct.of (by decide) (l0 := [(0, vR 0), (1, vI a1)]) rfl (Nat.le_of_ble_eq_true rfl) ?_
  refine g_aload_n dX12_fitting_0 rfl ?_
  refine g_iload_n dX12_fitting_1 rfl ?_
  refine g_vV (av := [vI a1]) (o := 0) (st := []) (m_X12_valuesIn G P a1 ⟨by omega, by omega⟩ hB v_okC _ (fun Pc1 hBc1 hFc1 gc1_vv => ⟨rfl, ?_⟩)) cf_X12_valuesIn t_1903 rfl (by decide) rfl rfl rfl (Nat.le_of_ble_eq_true rfl) (by decide) rfl dX12_fitting_2
  refine g_iconst dX12_fitting_5 ?_
  refine g_aload_n dX12_fitting_6 rfl ?_
  refine m_g62 (z := (P 0 62)) rfl dX12_fitting_7 ((hFc1.1 62 rfl).trans rfl) ?_
  refine g_ishl dX12_fitting_10 ?_
  refine g_nm (fun b2 e_b2 => ?_)
  have h_b2 : 1 ≤ (ishl 1 (P 0 62)) ∧ (ishl 1 (P 0 62)) ≤ 4096 := (ishl1 12 (by decide) (y := (P 0 62)) ⟨by have q0 := b0_62 hB; omega, by have q0 := b0_62 hB; omega⟩).2
  rw [← e_b2] at h_b2
  refine g_iconst dX12_fitting_11 ?_
  refine g_isub dX12_fitting_12 ?_
  refine g_istore_n (l1 := [(2, vI (b2 - 1)), (0, vR 0), (1, vI a1)]) dX12_fitting_13 (by decide) rfl ?_
  refine g_iconst dX12_fitting_14 ?_
  refine g_istore_n (l1 := [(3, vI 0), (2, vI (b2 - 1)), (0, vR 0), (1, vI a1)]) dX12_fitting_15 (by decide) rfl ?_
  have L16_2 : ∀ (n16_2 : Nat) (x16_3_2 : Int) (h_x16_3_2 : 0 ≤ x16_3_2 ∧ x16_3_2 ≤ 4) (x16_2_2 : Int) (h_x16_2_2 : 0 ≤ x16_2_2 ∧ x16_2_2 ≤ 4095) (hm16_2 : ((5 - x16_3_2) : Int).toNat < n16_2), Go WSM G 4 iX12_fitting 16 [(0, vR 0), (2, vI x16_2_2), (3, vI x16_3_2)] [] Pc1 Q := by
    intro n16_2
    induction n16_2 with
    | zero => intro x16_3_2 h_x16_3_2 x16_2_2 h_x16_2_2 hm16_2; exact absurd hm16_2 (Nat.not_lt_zero _)
    | succ n16_2 ih16_2 =>
    intro x16_3_2 h_x16_3_2 x16_2_2 h_x16_2_2 hm16_2
    refine g_iload_n dX12_fitting_16 rfl ?_
    refine g_aload_n dX12_fitting_17 rfl ?_
    refine g_vI (av := []) (o := 0) (st := [vI x16_3_2]) (m_X12_columns G Pc1  hBc1  _ (fun rc46 hc46 gc46_c => ⟨rc46, rfl, ?_⟩)) cf_X12_columns t_1827 rfl (by decide) rfl rfl rfl (Nat.le_of_ble_eq_true rfl) (by decide) rfl dX12_fitting_18
    have z47 : Pc1 0 13 = (P 0 13) := ((hFc1.1 13 rfl).trans rfl)
    refine g_icmp_ge (tgt := 44) dX12_fitting_21 (by decide) ⟨by omega, by omega⟩ ⟨by omega, by omega⟩ (fun k48 => ?_) (fun k48 => ?_)
    · refine g_iload_n dX12_fitting_44 rfl ?_
      exact g_retI dX12_fitting_45 rfl (hQ x16_2_2 ⟨by omega, by omega⟩ _ hBc1 (FrM.c FrM.rf hFc1 rfl) )
    · refine g_iload_n dX12_fitting_24 rfl ?_
      refine g_aload_n dX12_fitting_25 rfl ?_
      refine g_iload_n dX12_fitting_26 rfl ?_
      refine g_aload_n dX12_fitting_27 rfl ?_
      refine m_g67 rfl dX12_fitting_28 ?_
      refine g_iload_n dX12_fitting_31 rfl ?_
      refine m_l44 (z := (Pc1 44 x16_3_2)) dX12_fitting_32 ⟨by omega, by omega⟩ rfl ?_
      have f49 := bl_44 (k := x16_3_2) hBc1
      refine g_vI (av := [vI x16_3_2, vI (Pc1 44 x16_3_2)]) (o := 0) (st := [vI x16_2_2]) (m_X12_setIn G Pc1 x16_3_2 (Pc1 44 x16_3_2) ⟨by omega, by omega⟩ ⟨by have q0 := bl_44 (k := x16_3_2) hBc1; omega, by have q0 := bl_44 (k := x16_3_2) hBc1; omega⟩ hBc1  _ (fun rc50 hc50 => ⟨rc50, rfl, ?_⟩)) cf_X12_setIn t_1907 rfl (by decide) rfl rfl rfl (Nat.le_of_ble_eq_true rfl) (by decide) rfl dX12_fitting_33
      refine g_iand dX12_fitting_36 ?_
      refine g_nm (fun b51 e_b51 => ?_)
      have h_b51 := iand_l (x := x16_2_2) (y := rc50) ⟨by omega, by omega⟩
      rw [← e_b51] at h_b51
      refine g_istore_n (l1 := [(2, vI b51), (0, vR 0), (3, vI x16_3_2)]) dX12_fitting_37 (by decide) rfl ?_
      refine g_iinc (l1 := [(3, vI (x16_3_2 + 1)), (2, vI b51), (0, vR 0)]) dX12_fitting_38 rfl (by decide) rfl ?_
      refine g_goto (tgt := 16) dX12_fitting_41 (by decide) ?_
      refine g_forget (l1 := [(0, vR 0), (2, vI b51), (3, vI (x16_3_2 + 1))]) (by intro q hq; simp only [List.mem_cons, List.not_mem_nil, or_false] at hq ⊢; rcases hq with rfl | rfl | rfl <;> simp) ?_
      exact ih16_2 (x16_3_2 + 1) ⟨by omega, by omega⟩ b51 ⟨by omega, by omega⟩ (by omega)
  refine g_forget (l1 := [(0, vR 0), (2, vI (b2 - 1)), (3, vI 0)]) (by intro q hq; simp only [List.mem_cons, List.not_mem_nil, or_false] at hq ⊢; rcases hq with rfl | rfl | rfl <;> simp) ?_
  exact L16_2 _ 0 (by decide) (b2 - 1) ⟨by omega, by omega⟩ (Nat.lt_succ_self _)
set_option maxRecDepth 100000 in
set_option maxHeartbeats 4000000 in
theorem m_X12_countsRows (G : GT) (P : PH) (hB : BdM P) (v_okC : okC P) (Q : Option PV → PH → Prop) (hQ : ∀ (P1 : PH) (_ : BdM P1) (_ : FrM ([], [44, 45]) P P1), Q none P1) : Ct WSM G 5 iX12_countsRows [vR 0] P Q := by
  refine Ct.of (by decide) (l0 := [(0, vR 0)]) rfl (Nat.le_of_ble_eq_true rfl) ?_
  refine g_iconst dX12_countsRows_0 ?_
  refine g_istore_n (l1 := [(1, vI 0), (0, vR 0)]) dX12_countsRows_1 (by decide) rfl ?_
  have L2_0 : ∀ (n2_0 : Nat) (x2_1_0 : Int) (h_x2_1_0 : 0 ≤ x2_1_0 ∧ x2_1_0 ≤ 4096) (H2_0 : PH) (hB2_0 : BdM H2_0) (hE2_0 : FrM ([], [45]) P H2_0) (hm2_0 : ((4097 - x2_1_0) : Int).toNat < n2_0), Go WSM G 5 iX12_countsRows 2 [(0, vR 0), (1, vI x2_1_0)] [] H2_0 Q := by
    intro n2_0
    induction n2_0 with
    | zero => intro x2_1_0 h_x2_1_0 H2_0 hB2_0 hE2_0 hm2_0; exact absurd hm2_0 (Nat.not_lt_zero _)
    | succ n2_0 ih2_0 =>
    intro x2_1_0 h_x2_1_0 H2_0 hB2_0 hE2_0 hm2_0
    refine g_iload_n dX12_countsRows_2 rfl ?_
    refine g_sipush dX12_countsRows_3 (by decide) ?_
    refine g_icmp_ge (tgt := 22) dX12_countsRows_6 (by decide) ⟨by omega, by omega⟩ (by decide) (fun k384 => ?_) (fun k384 => ?_)
    · refine g_iconst dX12_countsRows_22 ?_
      refine g_istore_n (l1 := [(1, vI 0), (0, vR 0)]) dX12_countsRows_23 (by decide) rfl ?_
      have L24_384 : ∀ (n24_384 : Nat) (x24_1_384 : Int) (h_x24_1_384 : 0 ≤ x24_1_384 ∧ x24_1_384 ≤ 20000) (H24_384 : PH) (hB24_384 : BdM H24_384) (hE24_384 : FrM ([], [44, 45]) H2_0 H24_384) (hm24_384 : ((20001 - x24_1_384) : Int).toNat < n24_384), Go WSM G 5 iX12_countsRows 24 [(0, vR 0), (1, vI x24_1_384)] [] H24_384 Q := by
        intro n24_384
        induction n24_384 with
        | zero => intro x24_1_384 h_x24_1_384 H24_384 hB24_384 hE24_384 hm24_384; exact absurd hm24_384 (Nat.not_lt_zero _)
        | succ n24_384 ih24_384 =>
        intro x24_1_384 h_x24_1_384 H24_384 hB24_384 hE24_384 hm24_384
        refine g_iload_n dX12_countsRows_24 rfl ?_
        refine g_aload_n dX12_countsRows_25 rfl ?_
        refine m_g52 (z := (P 0 52)) rfl dX12_countsRows_26 ((hE24_384.1 52 rfl).trans ((hE2_0.1 52 rfl).trans rfl)) ?_
        have f496 := b0_52 hB
        refine g_icmp_ge (tgt := 52) dX12_countsRows_29 (by decide) ⟨by omega, by omega⟩ ⟨by have q0 := b0_52 hB; omega, by have q0 := b0_52 hB; omega⟩ (fun k497 => ?_) (fun k497 => ?_)
        · exact g_retV dX12_countsRows_52 rfl (hQ _ hB24_384 (FrM.c (FrM.c FrM.rf hE2_0 rfl) hE24_384 rfl) )
        · refine g_aload_n dX12_countsRows_32 rfl ?_
          refine m_g68 rfl dX12_countsRows_33 ?_
          refine g_aload_n dX12_countsRows_36 rfl ?_
          refine g_iload_n dX12_countsRows_37 rfl ?_
          refine g_vI (av := [vI x24_1_384]) (o := 0) (st := [vR 45]) (m_X12_fitting G H24_384 x24_1_384 ⟨by omega, by omega⟩ hB24_384 (okC.fr (F := ([], [44, 45])) v_okC (FrM.c (FrM.c FrM.rf hE2_0 rfl) hE24_384 rfl) rfl) _ (fun rc498 hc498 Pc498 hBc498 hFc498 => ⟨rc498, rfl, ?_⟩)) cf_X12_fitting t_1899 rfl (by decide) rfl rfl rfl (Nat.le_of_ble_eq_true rfl) (by decide) rfl dX12_countsRows_38
          refine g_dup2 dX12_countsRows_41 rfl rfl ?_
          refine m_l45 (z := (H24_384 45 rc498)) dX12_countsRows_42 ⟨by omega, by omega⟩ ((congrFun (hFc498.2 45 rfl rfl) _).trans rfl) ?_
          refine g_iconst dX12_countsRows_43 ?_
          refine g_iadd dX12_countsRows_44 ?_
          refine g_norm (fun r499 h_r499 e_r499 => ?_)
          refine m_s45 dX12_countsRows_45 ⟨by omega, by omega⟩ ?_
          have hB500 := ba_45 (z := r499) (k := rc498) hBc498 ⟨by omega, by omega⟩
          refine g_iinc (l1 := [(1, vI (x24_1_384 + 1)), (0, vR 0)]) dX12_countsRows_46 rfl (by decide) rfl ?_
          refine g_goto (tgt := 24) dX12_countsRows_49 (by decide) ?_
          refine g_forget (l1 := [(0, vR 0), (1, vI (x24_1_384 + 1))]) (by intro q hq; simp only [List.mem_cons, List.not_mem_nil, or_false] at hq ⊢; rcases hq with rfl | rfl <;> simp) ?_
          exact ih24_384 (x24_1_384 + 1) ⟨by omega, by omega⟩ _ hB500 (FrM.a (FrM.c (FrM.c FrM.rf hE24_384 rfl) hFc498 rfl) rfl rfl) (by omega)
      refine g_forget (l1 := [(0, vR 0), (1, vI 0)]) (by intro q hq; simp only [List.mem_cons, List.not_mem_nil, or_false] at hq ⊢; rcases hq with rfl | rfl <;> simp) ?_
      exact L24_384 _ 0 (by decide) _ hB2_0 FrM.rf (Nat.lt_succ_self _)
    · refine g_aload_n dX12_countsRows_9 rfl ?_
      refine m_g68 rfl dX12_countsRows_10 ?_
      refine g_iload_n dX12_countsRows_13 rfl ?_
      refine g_iconst dX12_countsRows_14 ?_
      refine m_s45 dX12_countsRows_15 ⟨by omega, by omega⟩ ?_
      have hB501 := ba_45 (z := 0) (k := x2_1_0) hB2_0 (by decide)
      refine g_iinc (l1 := [(1, vI (x2_1_0 + 1)), (0, vR 0)]) dX12_countsRows_16 rfl (by decide) rfl ?_
      refine g_goto (tgt := 2) dX12_countsRows_19 (by decide) ?_
      refine g_forget (l1 := [(0, vR 0), (1, vI (x2_1_0 + 1))]) (by intro q hq; simp only [List.mem_cons, List.not_mem_nil, or_false] at hq ⊢; rcases hq with rfl | rfl <;> simp) ?_
      exact ih2_0 (x2_1_0 + 1) ⟨by omega, by omega⟩ _ hB501 (FrM.a (FrM.c FrM.rf hE2_0 rfl) rfl rfl) (by omega)
  refine g_forget (l1 := [(0, vR 0), (1, vI 0)]) (by intro q hq; simp only [List.mem_cons, List.not_mem_nil, or_false] at hq ⊢; rcases hq with rfl | rfl <;> simp) ?_
  exact L2_0 _ 0 (by decide) _ hB FrM.rf (Nat.lt_succ_self _)
set_option maxRecDepth 100000 in
set_option maxHeartbeats 4000000 in
theorem m_X12_arranges (G : GT) (P : PH) (a1 : Int) (h_a1 : 0 ≤ a1 ∧ a1 ≤ 21) (hB : BdM P) (p_st : P 0 74 ≤ 199999999) (v_MVw : MVw P) (v_RE : RE P) (Q : Option PV → PH → Prop) (hQ : ∀ (P1 : PH) (_ : BdM P1) (_ : FrM ([62, 66, 74], [41, 42, 43]) P P1) (_ : P1 0 74 = P 0 74 + 1) (_ : MV P1) (_ : RE P1) (_ : RLt P1), Q none P1) : Ct WSM G 2 iX12_arranges [vR 0, vI a1] P Q := by
  refine Ct.of (by decide) (l0 := [(0, vR 0), (1, vI a1)]) rfl (Nat.le_of_ble_eq_true rfl) ?_
  refine g_aload_n dX12_arranges_0 rfl ?_
  refine g_aload_n dX12_arranges_1 rfl ?_
  refine m_g53 rfl dX12_arranges_2 ?_
  refine g_iload_n dX12_arranges_5 rfl ?_
  refine m_l35 (z := (P 35 a1)) dX12_arranges_6 ⟨by omega, by omega⟩ rfl ?_
  refine m_p62 rfl dX12_arranges_7 ?_
  have hB1 := bs_62 (z := (P 35 a1)) hB ⟨by have q0 := bl_35 (k := a1) hB; omega, by have q0 := bl_35 (k := a1) hB; omega⟩
  refine g_aload_n dX12_arranges_10 rfl ?_
  refine g_iconst dX12_arranges_11 ?_
  refine m_p66 rfl dX12_arranges_12 ?_
  have hB2 := bs_66 (z := 0) hB1 (by decide)
  refine g_iconst dX12_arranges_15 ?_
  refine g_istore_n (l1 := [(2, vI 0), (0, vR 0), (1, vI a1)]) dX12_arranges_16 (by decide) rfl ?_
  have L17_2 : ∀ (n17_2 : Nat) (x17_2_2 : Int) (h_x17_2_2 : 0 ≤ x17_2_2 ∧ x17_2_2 ≤ 12) (H17_2 : PH) (hB17_2 : BdM H17_2) (hE17_2 : FrM ([66], [43]) (up (up P 0 62 (P 35 a1)) 0 66 0) H17_2) (hm17_2 : ((13 - x17_2_2) : Int).toNat < n17_2), Go WSM G 2 iX12_arranges 17 [(0, vR 0), (1, vI a1), (2, vI x17_2_2)] [] H17_2 Q := by
    intro n17_2
    induction n17_2 with
    | zero => intro x17_2_2 h_x17_2_2 H17_2 hB17_2 hE17_2 hm17_2; exact absurd hm17_2 (Nat.not_lt_zero _)
    | succ n17_2 ih17_2 =>
    intro x17_2_2 h_x17_2_2 H17_2 hB17_2 hE17_2 hm17_2
    refine g_iload_n dX12_arranges_17 rfl ?_
    refine g_aload_n dX12_arranges_18 rfl ?_
    refine m_g62 (z := (P 35 a1)) rfl dX12_arranges_19 ((hE17_2.1 62 rfl).trans ((up_k (by decide)).trans up_same)) ?_
    have f10903 := bl_35 (k := a1) hB
    refine g_icmp_ge (tgt := 87) dX12_arranges_22 (by decide) ⟨by omega, by omega⟩ ⟨by have q0 := bl_35 (k := a1) hB; omega, by have q0 := bl_35 (k := a1) hB; omega⟩ (fun k10904 => ?_) (fun k10904 => ?_)
    · refine g_iconst dX12_arranges_87 ?_
      refine g_istore_n (l1 := [(2, vI 0), (0, vR 0), (1, vI a1)]) dX12_arranges_88 (by decide) rfl ?_
      have L89_10904 : ∀ (n89_10904 : Nat) (x89_2_10904 : Int) (h_x89_2_10904 : 0 ≤ x89_2_10904 ∧ x89_2_10904 ≤ 4) (H89_10904 : PH) (hB89_10904 : BdM H89_10904) (hE89_10904 : FrM ([], [41, 42]) H17_2 H89_10904) (hm89_10904 : ((5 - x89_2_10904) : Int).toNat < n89_10904), Go WSM G 2 iX12_arranges 89 [(0, vR 0), (1, vI a1), (2, vI x89_2_10904)] [] H89_10904 Q := by
        intro n89_10904
        induction n89_10904 with
        | zero => intro x89_2_10904 h_x89_2_10904 H89_10904 hB89_10904 hE89_10904 hm89_10904; exact absurd hm89_10904 (Nat.not_lt_zero _)
        | succ n89_10904 ih89_10904 =>
        intro x89_2_10904 h_x89_2_10904 H89_10904 hB89_10904 hE89_10904 hm89_10904
        refine g_iload_n dX12_arranges_89 rfl ?_
        refine g_aload_n dX12_arranges_90 rfl ?_
        refine g_vI (av := []) (o := 0) (st := [vI x89_2_10904]) (m_X12_columns G H89_10904  hB89_10904  _ (fun rc11956 hc11956 gc11956_c => ⟨rc11956, rfl, ?_⟩)) cf_X12_columns t_1827 rfl (by decide) rfl rfl rfl (Nat.le_of_ble_eq_true rfl) (by decide) rfl dX12_arranges_91
        have z11957 : H89_10904 0 13 = (P 0 13) := ((hE89_10904.1 13 rfl).trans ((hE17_2.1 13 rfl).trans ((up_k (by decide)).trans ((up_k (by decide)).trans rfl))))
        refine g_icmp_ge (tgt := 185) dX12_arranges_94 (by decide) ⟨by omega, by omega⟩ ⟨by omega, by omega⟩ (fun k11958 => ?_) (fun k11958 => ?_)
        · refine g_aload_n dX12_arranges_185 rfl ?_
          refine g_dup dX12_arranges_186 rfl ?_
          refine m_g74 (z := (P 0 74)) rfl dX12_arranges_187 ((hE89_10904.1 74 rfl).trans ((hE17_2.1 74 rfl).trans ((up_k (by decide)).trans ((up_k (by decide)).trans rfl)))) ?_
          refine g_iconst dX12_arranges_190 ?_
          refine g_iadd dX12_arranges_191 ?_
          refine m_p74 rfl dX12_arranges_192 ?_
          have hB11959 := bs_74 (z := ((P 0 74) + 1)) hB89_10904 ⟨by have q0 := b0_74 hB; omega, by have q0 := b0_74 hB; omega⟩
          have iv11960 : MV (up H89_10904 0 74 ((P 0 74) + 1)) := v_MVw.next (F := ([62, 66, 74], [41, 42, 43])) (FrM.s (FrM.c (FrM.c (FrM.s (FrM.s FrM.rf rfl) rfl) hE17_2 rfl) hE89_10904 rfl) rfl) rfl (by have q := (up_same : (up H89_10904 0 74 ((P 0 74) + 1)) 0 74 = ((P 0 74) + 1)); omega)
          have iv11961 : RE (up H89_10904 0 74 ((P 0 74) + 1)) := v_RE.next (F := ([62, 66, 74], [41, 42, 43])) (FrM.s (FrM.c (FrM.c (FrM.s (FrM.s FrM.rf rfl) rfl) hE17_2 rfl) hE89_10904 rfl) rfl) rfl (by have q := (up_same : (up H89_10904 0 74 ((P 0 74) + 1)) 0 74 = ((P 0 74) + 1)); omega)
          have iv11962 : RLt (up H89_10904 0 74 ((P 0 74) + 1)) := v_RE.nextL (F := ([62, 66, 74], [41, 42, 43])) (FrM.s (FrM.c (FrM.c (FrM.s (FrM.s FrM.rf rfl) rfl) hE17_2 rfl) hE89_10904 rfl) rfl) rfl (by have q := (up_same : (up H89_10904 0 74 ((P 0 74) + 1)) 0 74 = ((P 0 74) + 1)); omega)
          exact g_retV dX12_arranges_195 rfl (hQ _ hB11959 (FrM.s (FrM.c (FrM.c (FrM.s (FrM.s FrM.rf rfl) rfl) hE17_2 rfl) hE89_10904 rfl) rfl) (by have q0 := (up_same : (up H89_10904 0 74 ((P 0 74) + 1)) 0 74 = ((P 0 74) + 1)); have q1 := b0_74 hB; omega) iv11960 iv11961 iv11962)
        · refine g_aload_n dX12_arranges_97 rfl ?_
          refine m_g64 rfl dX12_arranges_98 ?_
          refine g_iload_n dX12_arranges_101 rfl ?_
          refine g_iconst dX12_arranges_102 ?_
          refine g_aload_n dX12_arranges_103 rfl ?_
          refine m_g62 (z := (P 35 a1)) rfl dX12_arranges_104 ((hE89_10904.1 62 rfl).trans ((hE17_2.1 62 rfl).trans ((up_k (by decide)).trans up_same))) ?_
          refine g_ishl dX12_arranges_107 ?_
          refine g_nm (fun b11963 e_b11963 => ?_)
          have h_b11963 : 1 ≤ (ishl 1 (P 35 a1)) ∧ (ishl 1 (P 35 a1)) ≤ 4096 := (ishl1 12 (by decide) (y := (P 35 a1)) ⟨by have q0 := bl_35 (k := a1) hB; omega, by have q0 := bl_35 (k := a1) hB; omega⟩).2
          rw [← e_b11963] at h_b11963
          refine g_iconst dX12_arranges_108 ?_
          refine g_isub dX12_arranges_109 ?_
          refine m_s42 dX12_arranges_110 ⟨by omega, by omega⟩ ?_
          have hB11964 := ba_42 (z := (b11963 - 1)) (k := x89_2_10904) hB89_10904 ⟨by omega, by omega⟩
          refine g_iconst dX12_arranges_111 ?_
          refine g_istore_n (l1 := [(3, vI 0), (0, vR 0), (1, vI a1), (2, vI x89_2_10904)]) dX12_arranges_112 (by decide) rfl ?_
          have L113_11964 : ∀ (n113_11964 : Nat) (x113_3_11964 : Int) (h_x113_3_11964 : 0 ≤ x113_3_11964 ∧ x113_3_11964 ≤ 2009) (H113_11964 : PH) (hB113_11964 : BdM H113_11964) (hE113_11964 : FrM ([], [41, 42]) (up H89_10904 42 x89_2_10904 (b11963 - 1)) H113_11964) (hm113_11964 : ((2010 - x113_3_11964) : Int).toNat < n113_11964), Go WSM G 2 iX12_arranges 113 [(0, vR 0), (1, vI a1), (2, vI x89_2_10904), (3, vI x113_3_11964)] [] H113_11964 Q := by
            intro n113_11964
            induction n113_11964 with
            | zero => intro x113_3_11964 h_x113_3_11964 H113_11964 hB113_11964 hE113_11964 hm113_11964; exact absurd hm113_11964 (Nat.not_lt_zero _)
            | succ n113_11964 ih113_11964 =>
            intro x113_3_11964 h_x113_3_11964 H113_11964 hB113_11964 hE113_11964 hm113_11964
            refine g_iload_n dX12_arranges_113 rfl ?_
            refine g_aload_n dX12_arranges_114 rfl ?_
            refine m_g50 rfl dX12_arranges_115 ?_
            refine g_iload_n dX12_arranges_118 rfl ?_
            refine m_l33 (z := (P 33 x89_2_10904)) dX12_arranges_119 ⟨by omega, by omega⟩ ((congrFun (hE113_11964.2 33 rfl rfl) _).trans ((up_o (by decide)).trans ((congrFun (hE89_10904.2 33 rfl rfl) _).trans ((congrFun (hE17_2.2 33 rfl rfl) _).trans ((up_o (by decide)).trans ((up_o (by decide)).trans rfl)))))) ?_
            have f12099 := bl_33 (k := x89_2_10904) hB
            refine g_icmp_ge (tgt := 179) dX12_arranges_120 (by decide) ⟨by omega, by omega⟩ ⟨by have q0 := bl_33 (k := x89_2_10904) hB; omega, by have q0 := bl_33 (k := x89_2_10904) hB; omega⟩ (fun k12100 => ?_) (fun k12100 => ?_)
            · refine g_iinc (l1 := [(2, vI (x89_2_10904 + 1)), (0, vR 0), (1, vI a1), (3, vI x113_3_11964)]) dX12_arranges_179 rfl (by decide) rfl ?_
              refine g_goto (tgt := 89) dX12_arranges_182 (by decide) ?_
              refine g_forget (l1 := [(0, vR 0), (1, vI a1), (2, vI (x89_2_10904 + 1))]) (by intro q hq; simp only [List.mem_cons, List.not_mem_nil, or_false] at hq ⊢; rcases hq with rfl | rfl | rfl <;> simp) ?_
              exact ih89_10904 (x89_2_10904 + 1) ⟨by omega, by omega⟩ _ hB113_11964 (FrM.c (FrM.a (FrM.c FrM.rf hE89_10904 rfl) rfl rfl) hE113_11964 rfl) (by omega)
            · refine g_aload_n dX12_arranges_123 rfl ?_
              refine m_g63 rfl dX12_arranges_124 ?_
              refine g_sipush dX12_arranges_127 (by decide) ?_
              refine g_iload_n dX12_arranges_130 rfl ?_
              refine g_imul dX12_arranges_131 ?_
              refine g_iload_n dX12_arranges_132 rfl ?_
              refine g_iadd dX12_arranges_133 ?_
              refine g_aload_n dX12_arranges_134 rfl ?_
              refine g_iload_n dX12_arranges_135 rfl ?_
              refine g_aload_n dX12_arranges_136 rfl ?_
              refine m_g49 rfl dX12_arranges_137 ?_
              refine g_sipush dX12_arranges_140 (by decide) ?_
              refine g_iload_n dX12_arranges_143 rfl ?_
              refine g_imul dX12_arranges_144 ?_
              refine g_iload_n dX12_arranges_145 rfl ?_
              refine g_iadd dX12_arranges_146 ?_
              refine m_l32 (z := (P 32 ((2010 * x89_2_10904) + x113_3_11964))) dX12_arranges_147 ⟨by omega, by omega⟩ ((congrFun (hE113_11964.2 32 rfl rfl) _).trans ((up_o (by decide)).trans ((congrFun (hE89_10904.2 32 rfl rfl) _).trans ((congrFun (hE17_2.2 32 rfl rfl) _).trans ((up_o (by decide)).trans ((up_o (by decide)).trans rfl)))))) ?_
              have f12101 := bl_32 (k := ((2010 * x89_2_10904) + x113_3_11964)) hB
              refine g_vI (av := [vI a1, vI (P 32 ((2010 * x89_2_10904) + x113_3_11964))]) (o := 0) (st := [vI ((2010 * x89_2_10904) + x113_3_11964), vR 41]) (m_X12_placed G H113_11964 a1 (P 32 ((2010 * x89_2_10904) + x113_3_11964)) ⟨by omega, by omega⟩ ⟨by have q0 := bl_32 (k := ((2010 * x89_2_10904) + x113_3_11964)) hB; omega, by have q0 := bl_32 (k := ((2010 * x89_2_10904) + x113_3_11964)) hB; omega⟩ hB113_11964  _ (fun rc12102 hc12102 => ⟨rc12102, rfl, ?_⟩)) cf_X12_placed t_1891 rfl (by decide) rfl rfl rfl (Nat.le_of_ble_eq_true rfl) (by decide) rfl dX12_arranges_148
              refine m_s41 dX12_arranges_151 ⟨by omega, by omega⟩ ?_
              have hB12103 := ba_41 (z := rc12102) (k := ((2010 * x89_2_10904) + x113_3_11964)) hB113_11964 ⟨by omega, by omega⟩
              refine g_aload_n dX12_arranges_152 rfl ?_
              refine m_g64 rfl dX12_arranges_153 ?_
              refine g_iload_n dX12_arranges_156 rfl ?_
              refine g_dup2 dX12_arranges_157 rfl rfl ?_
              refine m_l42 (z := (H113_11964 42 x89_2_10904)) dX12_arranges_158 ⟨by omega, by omega⟩ ((up_o (by decide)).trans rfl) ?_
              refine g_aload_n dX12_arranges_159 rfl ?_
              refine m_g63 rfl dX12_arranges_160 ?_
              refine g_sipush dX12_arranges_163 (by decide) ?_
              refine g_iload_n dX12_arranges_166 rfl ?_
              refine g_imul dX12_arranges_167 ?_
              refine g_iload_n dX12_arranges_168 rfl ?_
              refine g_iadd dX12_arranges_169 ?_
              refine m_l41 (z := rc12102) dX12_arranges_170 ⟨by omega, by omega⟩ up_same ?_
              refine g_iand dX12_arranges_171 ?_
              refine g_nm (fun b12104 e_b12104 => ?_)
              have h_b12104 := iand_l (x := (H113_11964 42 x89_2_10904)) (y := rc12102) ⟨by have q0 := bl_42 (k := x89_2_10904) hB113_11964; omega, by have q0 := bl_42 (k := x89_2_10904) hB113_11964; omega⟩
              rw [← e_b12104] at h_b12104
              have f_b12104_0 := bl_42 (k := x89_2_10904) hB113_11964
              refine m_s42 dX12_arranges_172 ⟨by omega, by omega⟩ ?_
              have hB12105 := ba_42 (z := b12104) (k := x89_2_10904) hB12103 ⟨by omega, by omega⟩
              refine g_iinc (l1 := [(3, vI (x113_3_11964 + 1)), (0, vR 0), (1, vI a1), (2, vI x89_2_10904)]) dX12_arranges_173 rfl (by decide) rfl ?_
              refine g_goto (tgt := 113) dX12_arranges_176 (by decide) ?_
              refine g_forget (l1 := [(0, vR 0), (1, vI a1), (2, vI x89_2_10904), (3, vI (x113_3_11964 + 1))]) (by intro q hq; simp only [List.mem_cons, List.not_mem_nil, or_false] at hq ⊢; rcases hq with rfl | rfl | rfl | rfl <;> simp) ?_
              exact ih113_11964 (x113_3_11964 + 1) ⟨by omega, by omega⟩ _ hB12105 (FrM.a (FrM.a (FrM.c FrM.rf hE113_11964 rfl) rfl rfl) rfl rfl) (by omega)
          refine g_forget (l1 := [(0, vR 0), (1, vI a1), (2, vI x89_2_10904), (3, vI 0)]) (by intro q hq; simp only [List.mem_cons, List.not_mem_nil, or_false] at hq ⊢; rcases hq with rfl | rfl | rfl | rfl <;> simp) ?_
          exact L113_11964 _ 0 (by decide) _ hB11964 FrM.rf (Nat.lt_succ_self _)
      refine g_forget (l1 := [(0, vR 0), (1, vI a1), (2, vI 0)]) (by intro q hq; simp only [List.mem_cons, List.not_mem_nil, or_false] at hq ⊢; rcases hq with rfl | rfl | rfl <;> simp) ?_
      exact L89_10904 _ 0 (by decide) _ hB17_2 FrM.rf (Nat.lt_succ_self _)
    · refine g_aload_n dX12_arranges_25 rfl ?_
      refine m_g65 rfl dX12_arranges_26 ?_
      refine g_iload_n dX12_arranges_29 rfl ?_
      refine g_aload_n dX12_arranges_30 rfl ?_
      refine m_g26 rfl dX12_arranges_31 ?_
      refine g_bipush dX12_arranges_34 (by decide) ?_
      refine g_aload_n dX12_arranges_36 rfl ?_
      refine m_g13 (z := (P 0 13)) rfl dX12_arranges_37 ((hE17_2.1 13 rfl).trans ((up_k (by decide)).trans ((up_k (by decide)).trans rfl))) ?_
      refine g_imul dX12_arranges_40 ?_
      refine g_aload_n dX12_arranges_41 rfl ?_
      refine m_g54 rfl dX12_arranges_42 ?_
      refine g_bipush dX12_arranges_45 (by decide) ?_
      refine g_iload_n dX12_arranges_47 rfl ?_
      refine g_imul dX12_arranges_48 ?_
      refine g_iload_n dX12_arranges_49 rfl ?_
      refine g_iadd dX12_arranges_50 ?_
      refine m_l36 (z := (P 36 ((12 * a1) + x17_2_2))) dX12_arranges_51 ⟨by omega, by omega⟩ ((congrFun (hE17_2.2 36 rfl rfl) _).trans ((up_o (by decide)).trans ((up_o (by decide)).trans rfl))) ?_
      refine g_iadd dX12_arranges_52 ?_
      refine m_l14 (z := (P 14 ((12 * (P 0 13)) + (P 36 ((12 * a1) + x17_2_2))))) dX12_arranges_53 ⟨by have q0 := b0_13 hB; have q1 := bl_36 (k := ((12 * a1) + x17_2_2)) hB; omega, by have q0 := b0_13 hB; have q1 := bl_36 (k := ((12 * a1) + x17_2_2)) hB; omega⟩ ((congrFun (hE17_2.2 14 rfl rfl) _).trans ((up_o (by decide)).trans ((up_o (by decide)).trans rfl))) ?_
      refine m_s43 dX12_arranges_54 ⟨by omega, by omega⟩ ?_
      have hB12106 := ba_43 (z := (P 14 ((12 * (P 0 13)) + (P 36 ((12 * a1) + x17_2_2))))) (k := x17_2_2) hB17_2 ⟨by have q0 := bl_14 (k := ((12 * (P 0 13)) + (P 36 ((12 * a1) + x17_2_2)))) hB; omega, by have q0 := bl_14 (k := ((12 * (P 0 13)) + (P 36 ((12 * a1) + x17_2_2)))) hB; omega⟩
      refine g_aload_n dX12_arranges_55 rfl ?_
      refine g_dup dX12_arranges_56 rfl ?_
      refine m_g66 (z := (H17_2 0 66)) rfl dX12_arranges_57 ((up_o (by decide)).trans rfl) ?_
      refine g_aload_n dX12_arranges_60 rfl ?_
      refine m_g65 rfl dX12_arranges_61 ?_
      refine g_iload_n dX12_arranges_64 rfl ?_
      refine m_l43 (z := (P 14 ((12 * (P 0 13)) + (P 36 ((12 * a1) + x17_2_2))))) dX12_arranges_65 ⟨by omega, by omega⟩ up_same ?_
      refine g_iconst dX12_arranges_66 ?_
      have f12107 := bl_14 (k := ((12 * (P 0 13)) + (P 36 ((12 * a1) + x17_2_2)))) hB
      refine g_icmp_ne (tgt := 76) dX12_arranges_67 (by decide) ⟨by have q0 := bl_14 (k := ((12 * (P 0 13)) + (P 36 ((12 * a1) + x17_2_2)))) hB; omega, by have q0 := bl_14 (k := ((12 * (P 0 13)) + (P 36 ((12 * a1) + x17_2_2)))) hB; omega⟩ (by decide) (fun k12108 => ?_) (fun k12108 => ?_)
      · refine g_iconst dX12_arranges_76 ?_
        refine g_ior dX12_arranges_77 ?_
        refine g_nm (fun b12109 e_b12109 => ?_)
        have h_b12109 : 0 ≤ (ior (H17_2 0 66) 0) ∧ (ior (H17_2 0 66) 0) < 4096 := ior_b 12 (by decide) (x := (H17_2 0 66)) (y := 0) (show 0 ≤ (H17_2 0 66) ∧ (H17_2 0 66) < 4096 from ⟨by have q0 := b0_66 hB17_2; omega, by have q0 := b0_66 hB17_2; omega⟩) (show 0 ≤ 0 ∧ 0 < 4096 from ⟨by omega, by omega⟩)
        rw [← e_b12109] at h_b12109
        refine m_p66 rfl dX12_arranges_78 ?_
        have hB12110 := bs_66 (z := b12109) hB12106 ⟨by omega, by omega⟩
        refine g_iinc (l1 := [(2, vI (x17_2_2 + 1)), (0, vR 0), (1, vI a1)]) dX12_arranges_81 rfl (by decide) rfl ?_
        refine g_goto (tgt := 17) dX12_arranges_84 (by decide) ?_
        refine g_forget (l1 := [(0, vR 0), (1, vI a1), (2, vI (x17_2_2 + 1))]) (by intro q hq; simp only [List.mem_cons, List.not_mem_nil, or_false] at hq ⊢; rcases hq with rfl | rfl | rfl <;> simp) ?_
        exact ih17_2 (x17_2_2 + 1) ⟨by omega, by omega⟩ _ hB12110 (FrM.s (FrM.a (FrM.c FrM.rf hE17_2 rfl) rfl rfl) rfl) (by omega)
      · refine g_iconst dX12_arranges_70 ?_
        refine g_iload_n dX12_arranges_71 rfl ?_
        refine g_ishl dX12_arranges_72 ?_
        refine g_nm (fun b12111 e_b12111 => ?_)
        have h_b12111 : 1 ≤ (ishl 1 x17_2_2) ∧ (ishl 1 x17_2_2) ≤ 2048 := (ishl1 11 (by decide) (y := x17_2_2) ⟨by omega, by omega⟩).2
        rw [← e_b12111] at h_b12111
        refine g_goto (tgt := 77) dX12_arranges_73 (by decide) ?_
        refine g_ior dX12_arranges_77 ?_
        refine g_nm (fun b12112 e_b12112 => ?_)
        have h_b12112 : 0 ≤ (ior (H17_2 0 66) b12111) ∧ (ior (H17_2 0 66) b12111) < 4096 := ior_b 12 (by decide) (x := (H17_2 0 66)) (y := b12111) (show 0 ≤ (H17_2 0 66) ∧ (H17_2 0 66) < 4096 from ⟨by have q0 := b0_66 hB17_2; omega, by have q0 := b0_66 hB17_2; omega⟩) (show 0 ≤ b12111 ∧ b12111 < 4096 from ⟨by omega, by omega⟩)
        rw [← e_b12112] at h_b12112
        refine m_p66 rfl dX12_arranges_78 ?_
        have hB12113 := bs_66 (z := b12112) hB12106 ⟨by omega, by omega⟩
        refine g_iinc (l1 := [(2, vI (x17_2_2 + 1)), (0, vR 0), (1, vI a1)]) dX12_arranges_81 rfl (by decide) rfl ?_
        refine g_goto (tgt := 17) dX12_arranges_84 (by decide) ?_
        refine g_forget (l1 := [(0, vR 0), (1, vI a1), (2, vI (x17_2_2 + 1))]) (by intro q hq; simp only [List.mem_cons, List.not_mem_nil, or_false] at hq ⊢; rcases hq with rfl | rfl | rfl <;> simp) ?_
        exact ih17_2 (x17_2_2 + 1) ⟨by omega, by omega⟩ _ hB12113 (FrM.s (FrM.a (FrM.c FrM.rf hE17_2 rfl) rfl rfl) rfl) (by omega)
  refine g_forget (l1 := [(0, vR 0), (1, vI a1), (2, vI 0)]) (by intro q hq; simp only [List.mem_cons, List.not_mem_nil, or_false] at hq ⊢; rcases hq with rfl | rfl | rfl <;> simp) ?_
  exact L17_2 _ 0 (by decide) _ hB2 FrM.rf (Nat.lt_succ_self _)
set_option maxRecDepth 100000 in
set_option maxHeartbeats 4000000 in
theorem m_X12_fittingRows (G : GT) (P : PH) (a1 : Int) (h_a1 : 0 ≤ a1 ∧ a1 ≤ 11) (hB : BdM P) (Q : Option PV → PH → Prop) (hQ : ∀ (r : Int) (_ : (-2147483648) ≤ r ∧ r ≤ 2147483647), Q (some (vI r)) P) : Ct WSM G 1 iX12_fittingRows [vR 0, vI a1] P Q := by
  refine Ct.of (by decide) (l0 := [(0, vR 0), (1, vI a1)]) rfl (Nat.le_of_ble_eq_true rfl) ?_
  refine g_iconst dX12_fittingRows_0 ?_
  refine g_istore_n (l1 := [(2, vI 0), (0, vR 0), (1, vI a1)]) dX12_fittingRows_1 (by decide) rfl ?_
  refine g_iconst dX12_fittingRows_2 ?_
  refine g_istore_n (l1 := [(3, vI 0), (2, vI 0), (0, vR 0), (1, vI a1)]) dX12_fittingRows_3 (by decide) rfl ?_
  have L4_0 : ∀ (n4_0 : Nat) (x4_3_0 : Int) (h_x4_3_0 : 0 ≤ x4_3_0 ∧ x4_3_0 ≤ 4096) (x4_2_0 : Int) (h_x4_2_0 : (-2147483648) ≤ x4_2_0 ∧ x4_2_0 ≤ 2147483647) (hm4_0 : ((4097 - x4_3_0) : Int).toNat < n4_0), Go WSM G 1 iX12_fittingRows 4 [(0, vR 0), (1, vI a1), (2, vI x4_2_0), (3, vI x4_3_0)] [] P Q := by
    intro n4_0
    induction n4_0 with
    | zero => intro x4_3_0 h_x4_3_0 x4_2_0 h_x4_2_0 hm4_0; exact absurd hm4_0 (Nat.not_lt_zero _)
    | succ n4_0 ih4_0 =>
    intro x4_3_0 h_x4_3_0 x4_2_0 h_x4_2_0 hm4_0
    refine g_iload_n dX12_fittingRows_4 rfl ?_
    refine g_sipush dX12_fittingRows_5 (by decide) ?_
    refine g_icmp_ge (tgt := 39) dX12_fittingRows_8 (by decide) ⟨by omega, by omega⟩ (by decide) (fun k86 => ?_) (fun k86 => ?_)
    · refine g_iload_n dX12_fittingRows_39 rfl ?_
      exact g_retI dX12_fittingRows_40 rfl (hQ x4_2_0 ⟨by omega, by omega⟩ )
    · refine g_iload_n dX12_fittingRows_11 rfl ?_
      refine g_iload_n dX12_fittingRows_12 rfl ?_
      refine g_iload_n dX12_fittingRows_13 rfl ?_
      refine g_ishr dX12_fittingRows_14 ?_
      refine g_nm (fun b87 e_b87 => ?_)
      have h_b87 := ishr_ir x4_3_0 a1
      rw [← e_b87] at h_b87
      refine g_iconst dX12_fittingRows_15 ?_
      refine g_iand dX12_fittingRows_16 ?_
      refine g_nm (fun b88 e_b88 => ?_)
      have h_b88 := iand_r (x := b87) (y := 1) ⟨by omega, by omega⟩
      rw [← e_b88] at h_b88
      refine g_iconst dX12_fittingRows_17 ?_
      refine g_icmp_ne (tgt := 30) dX12_fittingRows_18 (by decide) ⟨by omega, by omega⟩ (by decide) (fun k89 => ?_) (fun k89 => ?_)
      · refine g_iconst dX12_fittingRows_30 ?_
        refine g_iadd dX12_fittingRows_31 ?_
        refine g_istore_n (l1 := [(2, vI (x4_2_0 + 0)), (0, vR 0), (1, vI a1), (3, vI x4_3_0)]) dX12_fittingRows_32 (by decide) rfl ?_
        refine g_iinc (l1 := [(3, vI (x4_3_0 + 1)), (2, vI (x4_2_0 + 0)), (0, vR 0), (1, vI a1)]) dX12_fittingRows_33 rfl (by decide) rfl ?_
        refine g_goto (tgt := 4) dX12_fittingRows_36 (by decide) ?_
        refine g_forget (l1 := [(0, vR 0), (1, vI a1), (2, vI (x4_2_0 + 0)), (3, vI (x4_3_0 + 1))]) (by intro q hq; simp only [List.mem_cons, List.not_mem_nil, or_false] at hq ⊢; rcases hq with rfl | rfl | rfl | rfl <;> simp) ?_
        exact ih4_0 (x4_3_0 + 1) ⟨by omega, by omega⟩ (x4_2_0 + 0) ⟨by omega, by omega⟩ (by omega)
      · refine g_aload_n dX12_fittingRows_21 rfl ?_
        refine m_g68 rfl dX12_fittingRows_22 ?_
        refine g_iload_n dX12_fittingRows_25 rfl ?_
        refine m_l45 (z := (P 45 x4_3_0)) dX12_fittingRows_26 ⟨by omega, by omega⟩ rfl ?_
        refine g_goto (tgt := 31) dX12_fittingRows_27 (by decide) ?_
        refine g_iadd dX12_fittingRows_31 ?_
        refine g_norm (fun r90 h_r90 e_r90 => ?_)
        refine g_istore_n (l1 := [(2, vI r90), (0, vR 0), (1, vI a1), (3, vI x4_3_0)]) dX12_fittingRows_32 (by decide) rfl ?_
        refine g_iinc (l1 := [(3, vI (x4_3_0 + 1)), (2, vI r90), (0, vR 0), (1, vI a1)]) dX12_fittingRows_33 rfl (by decide) rfl ?_
        refine g_goto (tgt := 4) dX12_fittingRows_36 (by decide) ?_
        refine g_forget (l1 := [(0, vR 0), (1, vI a1), (2, vI r90), (3, vI (x4_3_0 + 1))]) (by intro q hq; simp only [List.mem_cons, List.not_mem_nil, or_false] at hq ⊢; rcases hq with rfl | rfl | rfl | rfl <;> simp) ?_
        exact ih4_0 (x4_3_0 + 1) ⟨by omega, by omega⟩ r90 ⟨by omega, by omega⟩ (by omega)
  refine g_forget (l1 := [(0, vR 0), (1, vI a1), (2, vI 0), (3, vI 0)]) (by intro q hq; simp only [List.mem_cons, List.not_mem_nil, or_false] at hq ⊢; rcases hq with rfl | rfl | rfl | rfl <;> simp) ?_
  exact L4_0 _ 0 (by decide) 0 (by decide) (Nat.lt_succ_self _)
set_option maxRecDepth 100000 in
set_option maxHeartbeats 4000000 in
theorem m_X12_isUseful (G : GT) (P : PH) (a1 : Int) (h_a1 : 0 ≤ a1 ∧ a1 ≤ 11) (hB : BdM P) (Q : Option PV → PH → Prop) (hQ : ∀ (r : Int) (_ : 0 ≤ r ∧ r ≤ 1), Q (some (vI r)) P) : Ct WSM G 1 iX12_isUseful [vR 0, vI a1] P Q := by
  refine Ct.of (by decide) (l0 := [(0, vR 0), (1, vI a1)]) rfl (Nat.le_of_ble_eq_true rfl) ?_
  refine g_aload_n dX12_isUseful_0 rfl ?_
  refine m_g66 (z := (P 0 66)) rfl dX12_isUseful_1 rfl ?_
  refine g_iconst dX12_isUseful_4 ?_
  refine g_iload_n dX12_isUseful_5 rfl ?_
  refine g_ishl dX12_isUseful_6 ?_
  refine g_nm (fun b1 e_b1 => ?_)
  have h_b1 : 1 ≤ (ishl 1 a1) ∧ (ishl 1 a1) ≤ 2048 := (ishl1 11 (by decide) (y := a1) ⟨by omega, by omega⟩).2
  rw [← e_b1] at h_b1
  refine g_iconst dX12_isUseful_7 ?_
  refine g_isub dX12_isUseful_8 ?_
  refine g_iand dX12_isUseful_9 ?_
  refine g_nm (fun b2 e_b2 => ?_)
  have h_b2 := iand_r (x := (P 0 66)) (y := (b1 - 1)) ⟨by omega, by omega⟩
  rw [← e_b2] at h_b2
  refine g_istore_n (l1 := [(2, vI b2), (0, vR 0), (1, vI a1)]) dX12_isUseful_10 (by decide) rfl ?_
  refine g_iconst dX12_isUseful_11 ?_
  refine g_istore_n (l1 := [(3, vI 0), (2, vI b2), (0, vR 0), (1, vI a1)]) dX12_isUseful_12 (by decide) rfl ?_
  have L13_2 : ∀ (n13_2 : Nat) (x13_3_2 : Int) (h_x13_3_2 : 0 ≤ x13_3_2 ∧ x13_3_2 ≤ 4096) (hm13_2 : ((4097 - x13_3_2) : Int).toNat < n13_2), Go WSM G 1 iX12_isUseful 13 [(0, vR 0), (1, vI a1), (2, vI b2), (3, vI x13_3_2)] [] P Q := by
    intro n13_2
    induction n13_2 with
    | zero => intro x13_3_2 h_x13_3_2 hm13_2; exact absurd hm13_2 (Nat.not_lt_zero _)
    | succ n13_2 ih13_2 =>
    intro x13_3_2 h_x13_3_2 hm13_2
    refine g_iload_n dX12_isUseful_13 rfl ?_
    refine g_sipush dX12_isUseful_14 (by decide) ?_
    refine g_icmp_ge (tgt := 52) dX12_isUseful_17 (by decide) ⟨by omega, by omega⟩ (by decide) (fun k140 => ?_) (fun k140 => ?_)
    · refine g_iconst dX12_isUseful_52 ?_
      exact g_retI dX12_isUseful_53 rfl (hQ 0 (by decide) )
    · refine g_aload_n dX12_isUseful_20 rfl ?_
      refine m_g68 rfl dX12_isUseful_21 ?_
      refine g_iload_n dX12_isUseful_24 rfl ?_
      refine m_l45 (z := (P 45 x13_3_2)) dX12_isUseful_25 ⟨by omega, by omega⟩ rfl ?_
      have f141 := bl_45 (k := x13_3_2) hB
      refine g_if_le (tgt := 46) dX12_isUseful_26 (by decide) ⟨by have q0 := bl_45 (k := x13_3_2) hB; omega, by have q0 := bl_45 (k := x13_3_2) hB; omega⟩ (fun k142 => ?_) (fun k142 => ?_)
      · refine g_iinc (l1 := [(3, vI (x13_3_2 + 1)), (0, vR 0), (1, vI a1), (2, vI b2)]) dX12_isUseful_46 rfl (by decide) rfl ?_
        refine g_goto (tgt := 13) dX12_isUseful_49 (by decide) ?_
        refine g_forget (l1 := [(0, vR 0), (1, vI a1), (2, vI b2), (3, vI (x13_3_2 + 1))]) (by intro q hq; simp only [List.mem_cons, List.not_mem_nil, or_false] at hq ⊢; rcases hq with rfl | rfl | rfl | rfl <;> simp) ?_
        exact ih13_2 (x13_3_2 + 1) ⟨by omega, by omega⟩ (by omega)
      · refine g_iload_n dX12_isUseful_29 rfl ?_
        refine g_iload_n dX12_isUseful_30 rfl ?_
        refine g_ishr dX12_isUseful_31 ?_
        refine g_nm (fun b143 e_b143 => ?_)
        have h_b143 := ishr_ir x13_3_2 a1
        rw [← e_b143] at h_b143
        refine g_iconst dX12_isUseful_32 ?_
        refine g_iand dX12_isUseful_33 ?_
        refine g_nm (fun b144 e_b144 => ?_)
        have h_b144 := iand_r (x := b143) (y := 1) ⟨by omega, by omega⟩
        rw [← e_b144] at h_b144
        refine g_iconst dX12_isUseful_34 ?_
        refine g_icmp_ne (tgt := 46) dX12_isUseful_35 (by decide) ⟨by omega, by omega⟩ (by decide) (fun k145 => ?_) (fun k145 => ?_)
        · refine g_iinc (l1 := [(3, vI (x13_3_2 + 1)), (0, vR 0), (1, vI a1), (2, vI b2)]) dX12_isUseful_46 rfl (by decide) rfl ?_
          refine g_goto (tgt := 13) dX12_isUseful_49 (by decide) ?_
          refine g_forget (l1 := [(0, vR 0), (1, vI a1), (2, vI b2), (3, vI (x13_3_2 + 1))]) (by intro q hq; simp only [List.mem_cons, List.not_mem_nil, or_false] at hq ⊢; rcases hq with rfl | rfl | rfl | rfl <;> simp) ?_
          exact ih13_2 (x13_3_2 + 1) ⟨by omega, by omega⟩ (by omega)
        · refine g_iload_n dX12_isUseful_38 rfl ?_
          refine g_iload_n dX12_isUseful_39 rfl ?_
          refine g_iand dX12_isUseful_40 ?_
          refine g_nm (fun b146 e_b146 => ?_)
          have h_b146 := iand_r (x := x13_3_2) (y := b2) ⟨by omega, by omega⟩
          rw [← e_b146] at h_b146
          refine g_if_ne (tgt := 46) dX12_isUseful_41 (by decide) ⟨by omega, by omega⟩ (fun k147 => ?_) (fun k147 => ?_)
          · refine g_iinc (l1 := [(3, vI (x13_3_2 + 1)), (0, vR 0), (1, vI a1), (2, vI b2)]) dX12_isUseful_46 rfl (by decide) rfl ?_
            refine g_goto (tgt := 13) dX12_isUseful_49 (by decide) ?_
            refine g_forget (l1 := [(0, vR 0), (1, vI a1), (2, vI b2), (3, vI (x13_3_2 + 1))]) (by intro q hq; simp only [List.mem_cons, List.not_mem_nil, or_false] at hq ⊢; rcases hq with rfl | rfl | rfl | rfl <;> simp) ?_
            exact ih13_2 (x13_3_2 + 1) ⟨by omega, by omega⟩ (by omega)
          · refine g_iconst dX12_isUseful_44 ?_
            exact g_retI dX12_isUseful_45 rfl (hQ 1 (by decide) )
  refine g_forget (l1 := [(0, vR 0), (1, vI a1), (2, vI b2), (3, vI 0)]) (by intro q hq; simp only [List.mem_cons, List.not_mem_nil, or_false] at hq ⊢; rcases hq with rfl | rfl | rfl | rfl <;> simp) ?_
  exact L13_2 _ 0 (by decide) (Nat.lt_succ_self _)
set_option maxRecDepth 100000 in
set_option maxHeartbeats 4000000 in
theorem m_X12_takenRows (G : GT) (P : PH) (a1 : Int) (h_a1 : 0 ≤ a1 ∧ a1 ≤ 11) (hB : BdM P) (Q : Option PV → PH → Prop) (hQ : ∀ (r : Int) (_ : (-2147483648) ≤ r ∧ r ≤ 2147483647), Q (some (vI r)) P) : Ct WSM G 2 iX12_takenRows [vR 0, vI a1] P Q := by
  refine Ct.of (by decide) (l0 := [(0, vR 0), (1, vI a1)]) rfl (Nat.le_of_ble_eq_true rfl) ?_
  refine g_aload_n dX12_takenRows_0 rfl ?_
  refine g_aload_n dX12_takenRows_1 rfl ?_
  refine m_g55 rfl dX12_takenRows_2 ?_
  refine g_iconst dX12_takenRows_5 ?_
  refine m_l37 (z := (P 37 0)) dX12_takenRows_6 (by decide) rfl ?_
  have f1 := bl_37 (k := 0) hB
  refine g_vI (av := [vI (P 37 0)]) (o := 0) (st := []) (m_X12_openBy G P (P 37 0) ⟨by have q0 := bl_37 (k := 0) hB; omega, by have q0 := bl_37 (k := 0) hB; omega⟩ hB  _ (fun rc2 hc2 => ⟨rc2, rfl, ?_⟩)) cf_X12_openBy t_1923 rfl (by decide) rfl rfl rfl (Nat.le_of_ble_eq_true rfl) (by decide) rfl dX12_takenRows_7
  refine g_istore_n (l1 := [(2, vI rc2), (0, vR 0), (1, vI a1)]) dX12_takenRows_10 (by decide) rfl ?_
  refine g_iconst dX12_takenRows_11 ?_
  refine g_istore_n (l1 := [(3, vI 0), (2, vI rc2), (0, vR 0), (1, vI a1)]) dX12_takenRows_12 (by decide) rfl ?_
  refine g_iconst dX12_takenRows_13 ?_
  refine g_istore (l1 := [(4, vI 0), (3, vI 0), (2, vI rc2), (0, vR 0), (1, vI a1)]) dX12_takenRows_14 (by decide) rfl ?_
  have L16_2 : ∀ (n16_2 : Nat) (x16_4_2 : Int) (h_x16_4_2 : 0 ≤ x16_4_2 ∧ x16_4_2 ≤ 4096) (x16_3_2 : Int) (h_x16_3_2 : (-2147483648) ≤ x16_3_2 ∧ x16_3_2 ≤ 2147483647) (hm16_2 : ((4097 - x16_4_2) : Int).toNat < n16_2), Go WSM G 2 iX12_takenRows 16 [(0, vR 0), (1, vI a1), (2, vI rc2), (3, vI x16_3_2), (4, vI x16_4_2)] [] P Q := by
    intro n16_2
    induction n16_2 with
    | zero => intro x16_4_2 h_x16_4_2 x16_3_2 h_x16_3_2 hm16_2; exact absurd hm16_2 (Nat.not_lt_zero _)
    | succ n16_2 ih16_2 =>
    intro x16_4_2 h_x16_4_2 x16_3_2 h_x16_3_2 hm16_2
    refine g_iload dX12_takenRows_16 rfl ?_
    refine g_sipush dX12_takenRows_18 (by decide) ?_
    refine g_icmp_ge (tgt := 65) dX12_takenRows_21 (by decide) ⟨by omega, by omega⟩ (by decide) (fun k143 => ?_) (fun k143 => ?_)
    · refine g_iload_n dX12_takenRows_65 rfl ?_
      exact g_retI dX12_takenRows_66 rfl (hQ x16_3_2 ⟨by omega, by omega⟩ )
    · refine g_iload_n dX12_takenRows_24 rfl ?_
      refine g_aload_n dX12_takenRows_25 rfl ?_
      refine m_g68 rfl dX12_takenRows_26 ?_
      refine g_iload dX12_takenRows_29 rfl ?_
      refine m_l45 (z := (P 45 x16_4_2)) dX12_takenRows_31 ⟨by omega, by omega⟩ rfl ?_
      have f144 := bl_45 (k := x16_4_2) hB
      refine g_if_le (tgt := 56) dX12_takenRows_32 (by decide) ⟨by have q0 := bl_45 (k := x16_4_2) hB; omega, by have q0 := bl_45 (k := x16_4_2) hB; omega⟩ (fun k145 => ?_) (fun k145 => ?_)
      · refine g_iconst dX12_takenRows_56 ?_
        refine g_iadd dX12_takenRows_57 ?_
        refine g_istore_n (l1 := [(3, vI (x16_3_2 + 0)), (0, vR 0), (1, vI a1), (2, vI rc2), (4, vI x16_4_2)]) dX12_takenRows_58 (by decide) rfl ?_
        refine g_iinc (l1 := [(4, vI (x16_4_2 + 1)), (3, vI (x16_3_2 + 0)), (0, vR 0), (1, vI a1), (2, vI rc2)]) dX12_takenRows_59 rfl (by decide) rfl ?_
        refine g_goto (tgt := 16) dX12_takenRows_62 (by decide) ?_
        refine g_forget (l1 := [(0, vR 0), (1, vI a1), (2, vI rc2), (3, vI (x16_3_2 + 0)), (4, vI (x16_4_2 + 1))]) (by intro q hq; simp only [List.mem_cons, List.not_mem_nil, or_false] at hq ⊢; rcases hq with rfl | rfl | rfl | rfl | rfl <;> simp) ?_
        exact ih16_2 (x16_4_2 + 1) ⟨by omega, by omega⟩ (x16_3_2 + 0) ⟨by omega, by omega⟩ (by omega)
      · refine g_iload dX12_takenRows_35 rfl ?_
        refine g_iload_n dX12_takenRows_37 rfl ?_
        refine g_iand dX12_takenRows_38 ?_
        refine g_nm (fun b146 e_b146 => ?_)
        have h_b146 := iand_l (x := x16_4_2) (y := rc2) ⟨by omega, by omega⟩
        rw [← e_b146] at h_b146
        refine g_sI (av := [vI b146]) (st := [vI x16_3_2]) (m_X12_lowest G P b146 ⟨by omega, by omega⟩ hB  _ (fun rc147 hc147 gc147_l gc147_b => ⟨rc147, rfl, ?_⟩)) cf_X12_lowest t_1927 rfl (Nat.le_of_ble_eq_true rfl) (by decide) rfl dX12_takenRows_39
        refine g_iload_n dX12_takenRows_42 rfl ?_
        refine g_icmp_ne (tgt := 56) dX12_takenRows_43 (by decide) ⟨by omega, by omega⟩ ⟨by omega, by omega⟩ (fun k148 => ?_) (fun k148 => ?_)
        · refine g_iconst dX12_takenRows_56 ?_
          refine g_iadd dX12_takenRows_57 ?_
          refine g_istore_n (l1 := [(3, vI (x16_3_2 + 0)), (0, vR 0), (1, vI a1), (2, vI rc2), (4, vI x16_4_2)]) dX12_takenRows_58 (by decide) rfl ?_
          refine g_iinc (l1 := [(4, vI (x16_4_2 + 1)), (3, vI (x16_3_2 + 0)), (0, vR 0), (1, vI a1), (2, vI rc2)]) dX12_takenRows_59 rfl (by decide) rfl ?_
          refine g_goto (tgt := 16) dX12_takenRows_62 (by decide) ?_
          refine g_forget (l1 := [(0, vR 0), (1, vI a1), (2, vI rc2), (3, vI (x16_3_2 + 0)), (4, vI (x16_4_2 + 1))]) (by intro q hq; simp only [List.mem_cons, List.not_mem_nil, or_false] at hq ⊢; rcases hq with rfl | rfl | rfl | rfl | rfl <;> simp) ?_
          exact ih16_2 (x16_4_2 + 1) ⟨by omega, by omega⟩ (x16_3_2 + 0) ⟨by omega, by omega⟩ (by omega)
        · refine g_aload_n dX12_takenRows_46 rfl ?_
          refine m_g68 rfl dX12_takenRows_47 ?_
          refine g_iload dX12_takenRows_50 rfl ?_
          refine m_l45 (z := (P 45 x16_4_2)) dX12_takenRows_52 ⟨by omega, by omega⟩ rfl ?_
          refine g_goto (tgt := 57) dX12_takenRows_53 (by decide) ?_
          refine g_iadd dX12_takenRows_57 ?_
          refine g_norm (fun r149 h_r149 e_r149 => ?_)
          refine g_istore_n (l1 := [(3, vI r149), (0, vR 0), (1, vI a1), (2, vI rc2), (4, vI x16_4_2)]) dX12_takenRows_58 (by decide) rfl ?_
          refine g_iinc (l1 := [(4, vI (x16_4_2 + 1)), (3, vI r149), (0, vR 0), (1, vI a1), (2, vI rc2)]) dX12_takenRows_59 rfl (by decide) rfl ?_
          refine g_goto (tgt := 16) dX12_takenRows_62 (by decide) ?_
          refine g_forget (l1 := [(0, vR 0), (1, vI a1), (2, vI rc2), (3, vI r149), (4, vI (x16_4_2 + 1))]) (by intro q hq; simp only [List.mem_cons, List.not_mem_nil, or_false] at hq ⊢; rcases hq with rfl | rfl | rfl | rfl | rfl <;> simp) ?_
          exact ih16_2 (x16_4_2 + 1) ⟨by omega, by omega⟩ r149 ⟨by omega, by omega⟩ (by omega)
  refine g_forget (l1 := [(0, vR 0), (1, vI a1), (2, vI rc2), (3, vI 0), (4, vI 0)]) (by intro q hq; simp only [List.mem_cons, List.not_mem_nil, or_false] at hq ⊢; rcases hq with rfl | rfl | rfl | rfl | rfl <;> simp) ?_
  exact L16_2 _ 0 (by decide) 0 (by decide) (Nat.lt_succ_self _)
set_option maxRecDepth 100000 in
set_option maxHeartbeats 4000000 in
theorem m_X12_arm (G : GT) (P : PH) (a1 : Int) (a2 : Int) (h_a1 : (-2147483648) ≤ a1 ∧ a1 ≤ 2147483647) (h_a2 : (-2147483648) ≤ a2 ∧ a2 ≤ 2147483647) (hB : BdM P) (p_st : P 0 74 ≤ 199999999) (v_okC : okC P) (v_MVw : MVw P) (v_RE : RE P) (Q : Option PV → PH → Prop) (hQ : ∀ (r : Int) (_ : (-2147483648) ≤ r ∧ r ≤ 2147483647) (P1 : PH) (_ : BdM P1) (_ : FrM ([62, 66, 74], [41, 42, 43, 44, 45]) P P1) (_ : P1 0 74 ≤ P 0 74 + 1) (_ : MVw P1) (_ : RE P1), Q (some (vI r)) P1) : Ct WSM G 6 iX12_arm [vR 0, vI a1, vI a2] P Q := by
  refine Ct.of (by decide) (l0 := [(0, vR 0), (1, vI a1), (2, vI a2)]) rfl (Nat.le_of_ble_eq_true rfl) ?_
  refine g_aload_n dX12_arm_0 rfl ?_
  refine g_iload_n dX12_arm_1 rfl ?_
  refine g_vI (av := [vI a1]) (o := 0) (st := []) (m_X12_isPlace G P a1 ⟨by omega, by omega⟩ hB  _ (fun rc1 hc1 gc1_p => ⟨rc1, rfl, ?_⟩)) cf_X12_isPlace t_1883 rfl (by decide) rfl rfl rfl (Nat.le_of_ble_eq_true rfl) (by decide) rfl dX12_arm_2
  have f2 := b0_44 hB
  have f3 := bl_35 (k := 0) hB
  refine g_if_ne (tgt := 10) dX12_arm_5 (by decide) ⟨by omega, by omega⟩ (fun k4 => ?_) (fun k4 => ?_)
  · refine g_aload_n dX12_arm_10 rfl ?_
    refine g_iconst dX12_arm_11 ?_
    refine g_vV (av := [vI 0]) (o := 0) (st := []) (m_X12_arranges G P 0 (by decide) hB (by have q0 := b0_74 hB; omega) v_MVw v_RE _ (fun Pc5 hBc5 hFc5 gc5_st vc5_MV vc5_RE vc5_RLt => ⟨rfl, ?_⟩)) cf_X12_arranges t_1887 rfl (by decide) rfl rfl rfl (Nat.le_of_ble_eq_true rfl) (by decide) rfl dX12_arm_12
    refine g_iload_n dX12_arm_15 rfl ?_
    refine g_if_ne (tgt := 26) dX12_arm_16 (by decide) ⟨by omega, by omega⟩ (fun k6 => ?_) (fun k6 => ?_)
    · refine g_iload_n dX12_arm_26 rfl ?_
      refine g_iconst dX12_arm_27 ?_
      refine g_icmp_ne (tgt := 38) dX12_arm_28 (by decide) ⟨by omega, by omega⟩ (by decide) (fun k7 => ?_) (fun k7 => ?_)
      · refine g_iload_n dX12_arm_38 rfl ?_
        refine g_iconst dX12_arm_39 ?_
        refine g_iconst dX12_arm_40 ?_
        refine g_sI (av := [vI a2, vI 2, vI 4]) (st := []) (m_X12_is G Pc5 a2 2 4 ⟨by omega, by omega⟩ (by decide) (by decide) hBc5  _ (fun rc8 hc8 gc8_is => ⟨rc8, rfl, ?_⟩)) cf_X12_is t_1800 rfl (Nat.le_of_ble_eq_true rfl) (by decide) rfl dX12_arm_41
        refine g_if_ne (tgt := 49) dX12_arm_44 (by decide) ⟨by omega, by omega⟩ (fun k9 => ?_) (fun k9 => ?_)
        · refine g_aload_n dX12_arm_49 rfl ?_
          refine g_vV (av := []) (o := 0) (st := []) (m_X12_countsRows G Pc5  hBc5 (okC.fr (F := ([62, 66, 74], [41, 42, 43])) v_okC (FrM.c FrM.rf hFc5 rfl) rfl) _ (fun Pc10 hBc10 hFc10 => ⟨rfl, ?_⟩)) cf_X12_countsRows t_1895 rfl (by decide) rfl rfl rfl (Nat.le_of_ble_eq_true rfl) (by decide) rfl dX12_arm_50
          refine g_iload_n dX12_arm_53 rfl ?_
          refine g_iconst dX12_arm_54 ?_
          refine g_icmp_ne (tgt := 66) dX12_arm_55 (by decide) ⟨by omega, by omega⟩ (by decide) (fun k11 => ?_) (fun k11 => ?_)
          · refine g_iload_n dX12_arm_66 rfl ?_
            refine g_iconst dX12_arm_67 ?_
            refine g_icmp_ne (tgt := 79) dX12_arm_68 (by decide) ⟨by omega, by omega⟩ (by decide) (fun k12 => ?_) (fun k12 => ?_)
            · refine g_aload_n dX12_arm_79 rfl ?_
              refine g_iload_n dX12_arm_80 rfl ?_
              refine g_vI (av := [vI a1]) (o := 0) (st := []) (m_X12_takenRows G Pc10 a1 ⟨by omega, by omega⟩ hBc10  _ (fun rc13 hc13 => ⟨rc13, rfl, ?_⟩)) cf_X12_takenRows t_1919 rfl (by decide) rfl rfl rfl (Nat.le_of_ble_eq_true rfl) (by decide) rfl dX12_arm_81
              exact g_retI dX12_arm_84 rfl (hQ rc13 ⟨by omega, by omega⟩ _ hBc10 (FrM.c (FrM.c FrM.rf hFc5 rfl) hFc10 rfl) (by have q0 := (((hFc10.1 74 rfl).trans rfl) : Pc10 0 74 = (Pc5 0 74)); have q1 := b0_74 hBc5; omega) ((MV.fr (F := ([], [44, 45])) vc5_MV (FrM.c FrM.rf hFc10 rfl) rfl).w) (RE.fr (F := ([], [44, 45])) vc5_RE (FrM.c FrM.rf hFc10 rfl) rfl))
            · refine g_aload_n dX12_arm_71 rfl ?_
              refine g_iload_n dX12_arm_72 rfl ?_
              refine g_vI (av := [vI a1]) (o := 0) (st := []) (m_X12_fittingRows G Pc10 a1 ⟨by omega, by omega⟩ hBc10  _ (fun rc14 hc14 => ⟨rc14, rfl, ?_⟩)) cf_X12_fittingRows t_1915 rfl (by decide) rfl rfl rfl (Nat.le_of_ble_eq_true rfl) (by decide) rfl dX12_arm_73
              refine g_goto (tgt := 84) dX12_arm_76 (by decide) ?_
              exact g_retI dX12_arm_84 rfl (hQ rc14 ⟨by omega, by omega⟩ _ hBc10 (FrM.c (FrM.c FrM.rf hFc5 rfl) hFc10 rfl) (by have q0 := (((hFc10.1 74 rfl).trans rfl) : Pc10 0 74 = (Pc5 0 74)); have q1 := b0_74 hBc5; omega) ((MV.fr (F := ([], [44, 45])) vc5_MV (FrM.c FrM.rf hFc10 rfl) rfl).w) (RE.fr (F := ([], [44, 45])) vc5_RE (FrM.c FrM.rf hFc10 rfl) rfl))
          · refine g_aload_n dX12_arm_58 rfl ?_
            refine g_iload_n dX12_arm_59 rfl ?_
            refine g_vI (av := [vI a1]) (o := 0) (st := []) (m_X12_isUseful G Pc10 a1 ⟨by omega, by omega⟩ hBc10  _ (fun rc15 hc15 => ⟨rc15, rfl, ?_⟩)) cf_X12_isUseful t_1911 rfl (by decide) rfl rfl rfl (Nat.le_of_ble_eq_true rfl) (by decide) rfl dX12_arm_60
            refine g_goto (tgt := 84) dX12_arm_63 (by decide) ?_
            exact g_retI dX12_arm_84 rfl (hQ rc15 ⟨by omega, by omega⟩ _ hBc10 (FrM.c (FrM.c FrM.rf hFc5 rfl) hFc10 rfl) (by have q0 := (((hFc10.1 74 rfl).trans rfl) : Pc10 0 74 = (Pc5 0 74)); have q1 := b0_74 hBc5; omega) ((MV.fr (F := ([], [44, 45])) vc5_MV (FrM.c FrM.rf hFc10 rfl) rfl).w) (RE.fr (F := ([], [44, 45])) vc5_RE (FrM.c FrM.rf hFc10 rfl) rfl))
        · refine g_iconst dX12_arm_47 ?_
          exact g_retI dX12_arm_48 rfl (hQ (-1) (by decide) _ hBc5 (FrM.c FrM.rf hFc5 rfl) (by have q0 := b0_74 hBc5; omega) (vc5_MV.w) vc5_RE)
      · refine g_aload_n dX12_arm_31 rfl ?_
        refine m_g65 rfl dX12_arm_32 ?_
        refine g_iload_n dX12_arm_35 rfl ?_
        refine m_l43 (z := (Pc5 43 a1)) dX12_arm_36 ⟨by omega, by omega⟩ rfl ?_
        exact g_retI dX12_arm_37 rfl (hQ (Pc5 43 a1) ⟨by have q0 := bl_43 (k := a1) hBc5; omega, by have q0 := bl_43 (k := a1) hBc5; omega⟩ _ hBc5 (FrM.c FrM.rf hFc5 rfl) (by have q0 := bl_43 (k := a1) hBc5; have q1 := b0_74 hBc5; omega) (vc5_MV.w) vc5_RE)
    · refine g_aload_n dX12_arm_19 rfl ?_
      refine m_g54 rfl dX12_arm_20 ?_
      refine g_iload_n dX12_arm_23 rfl ?_
      refine m_l36 (z := (P 36 a1)) dX12_arm_24 ⟨by omega, by omega⟩ ((congrFun (hFc5.2 36 rfl rfl) _).trans rfl) ?_
      exact g_retI dX12_arm_25 rfl (hQ (P 36 a1) ⟨by have q0 := bl_36 (k := a1) hB; omega, by have q0 := bl_36 (k := a1) hB; omega⟩ _ hBc5 (FrM.c FrM.rf hFc5 rfl) (by have q0 := bl_36 (k := a1) hB; have q1 := b0_74 hBc5; omega) (vc5_MV.w) vc5_RE)
  · refine g_iconst dX12_arm_8 ?_
    exact g_retI dX12_arm_9 rfl (hQ (-1) (by decide) _ hB FrM.rf (by have q0 := b0_74 hB; omega) v_MVw v_RE)
set_option maxRecDepth 100000 in
set_option maxHeartbeats 4000000 in
theorem m_X12_fits (G : GT) (P : PH) (a1 : Int) (a2 : Int) (a3 : Int) (h_a1 : (-2147483648) ≤ a1 ∧ a1 ≤ 2147483647) (h_a2 : (-2147483648) ≤ a2 ∧ a2 ≤ 2147483647) (h_a3 : (-2147483648) ≤ a3 ∧ a3 ≤ 2147483647) (hB : BdM P) (p_st : P 0 74 ≤ 199999999) (v_okC : okC P) (v_MVw : MVw P) (v_RE : RE P) (Q : Option PV → PH → Prop) (hQ : ∀ (r : Int) (_ : (-2147483648) ≤ r ∧ r ≤ 2147483647) (P1 : PH) (_ : BdM P1) (_ : FrM ([62, 66, 74], [41, 42, 43]) P P1) (_ : P1 0 74 ≤ P 0 74 + 1) (_ : MVw P1) (_ : RE P1), Q (some (vI r)) P1) : Ct WSM G 3 iX12_fits [vR 0, vI a1, vI a2, vI a3] P Q := by
  refine Ct.of (by decide) (l0 := [(0, vR 0), (1, vI a1), (2, vI a2), (3, vI a3)]) rfl (Nat.le_of_ble_eq_true rfl) ?_
  refine g_aload_n dX12_fits_0 rfl ?_
  refine g_iload_n dX12_fits_1 rfl ?_
  refine g_vI (av := [vI a1]) (o := 0) (st := []) (m_X12_isPlace G P a1 ⟨by omega, by omega⟩ hB  _ (fun rc1 hc1 gc1_p => ⟨rc1, rfl, ?_⟩)) cf_X12_isPlace t_1883 rfl (by decide) rfl rfl rfl (Nat.le_of_ble_eq_true rfl) (by decide) rfl dX12_fits_2
  have f2 := b0_44 hB
  have f3 := bl_35 (k := 0) hB
  refine g_if_eq (tgt := 37) dX12_fits_5 (by decide) ⟨by omega, by omega⟩ (fun k4 => ?_) (fun k4 => ?_)
  · refine g_iconst dX12_fits_37 ?_
    exact g_retI dX12_fits_38 rfl (hQ (-1) (by decide) _ hB FrM.rf (by have q0 := b0_74 hB; omega) v_MVw v_RE)
  · refine g_iload_n dX12_fits_8 rfl ?_
    refine g_iconst dX12_fits_9 ?_
    refine g_aload_n dX12_fits_10 rfl ?_
    refine g_vI (av := []) (o := 0) (st := [vI 0, vI a2]) (m_X12_columns G P  hB  _ (fun rc5 hc5 gc5_c => ⟨rc5, rfl, ?_⟩)) cf_X12_columns t_1827 rfl (by decide) rfl rfl rfl (Nat.le_of_ble_eq_true rfl) (by decide) rfl dX12_fits_11
    refine g_iconst dX12_fits_14 ?_
    refine g_isub dX12_fits_15 ?_
    refine g_sI (av := [vI a2, vI 0, vI (rc5 - 1)]) (st := []) (m_X12_is G P a2 0 (rc5 - 1) ⟨by omega, by omega⟩ (by decide) ⟨by omega, by omega⟩ hB  _ (fun rc6 hc6 gc6_is => ⟨rc6, rfl, ?_⟩)) cf_X12_is t_1800 rfl (Nat.le_of_ble_eq_true rfl) (by decide) rfl dX12_fits_16
    refine g_if_eq (tgt := 37) dX12_fits_19 (by decide) ⟨by omega, by omega⟩ (fun k7 => ?_) (fun k7 => ?_)
    · refine g_iconst dX12_fits_37 ?_
      exact g_retI dX12_fits_38 rfl (hQ (-1) (by decide) _ hB FrM.rf (by have q0 := b0_74 hB; omega) v_MVw v_RE)
    · refine g_iload_n dX12_fits_22 rfl ?_
      refine g_iconst dX12_fits_23 ?_
      refine g_aload_n dX12_fits_24 rfl ?_
      refine g_iload_n dX12_fits_25 rfl ?_
      refine g_vI (av := [vI a2]) (o := 0) (st := [vI 0, vI a3]) (m_X12_columnValues G P a2 ⟨by omega, by omega⟩ hB (by have q0 := bl_11 (k := (P 0 13)) hB; omega) v_okC _ (fun rc8 hc8 gc8_v => ⟨rc8, rfl, ?_⟩)) cf_X12_columnValues t_1831 rfl (by decide) rfl rfl rfl (Nat.le_of_ble_eq_true rfl) (by decide) rfl dX12_fits_26
      refine g_iconst dX12_fits_29 ?_
      refine g_isub dX12_fits_30 ?_
      refine g_sI (av := [vI a3, vI 0, vI (rc8 - 1)]) (st := []) (m_X12_is G P a3 0 (rc8 - 1) ⟨by omega, by omega⟩ (by decide) ⟨by omega, by omega⟩ hB  _ (fun rc9 hc9 gc9_is => ⟨rc9, rfl, ?_⟩)) cf_X12_is t_1800 rfl (Nat.le_of_ble_eq_true rfl) (by decide) rfl dX12_fits_31
      refine g_if_ne (tgt := 39) dX12_fits_34 (by decide) ⟨by omega, by omega⟩ (fun k10 => ?_) (fun k10 => ?_)
      · refine g_aload_n dX12_fits_39 rfl ?_
        refine g_iconst dX12_fits_40 ?_
        refine g_vV (av := [vI 0]) (o := 0) (st := []) (m_X12_arranges G P 0 (by decide) hB (by have q0 := b0_74 hB; omega) v_MVw v_RE _ (fun Pc11 hBc11 hFc11 gc11_st vc11_MV vc11_RE vc11_RLt => ⟨rfl, ?_⟩)) cf_X12_arranges t_1887 rfl (by decide) rfl rfl rfl (Nat.le_of_ble_eq_true rfl) (by decide) rfl dX12_fits_41
        refine g_aload_n dX12_fits_44 rfl ?_
        refine g_iload_n dX12_fits_45 rfl ?_
        refine g_iload_n dX12_fits_46 rfl ?_
        refine g_vI (av := [vI a2, vI a3]) (o := 0) (st := []) (m_X12_setIn G Pc11 a2 a3 ⟨by omega, by omega⟩ ⟨by omega, by omega⟩ hBc11  _ (fun rc12 hc12 => ⟨rc12, rfl, ?_⟩)) cf_X12_setIn t_1907 rfl (by decide) rfl rfl rfl (Nat.le_of_ble_eq_true rfl) (by decide) rfl dX12_fits_47
        refine g_iload_n dX12_fits_50 rfl ?_
        refine g_ishr dX12_fits_51 ?_
        refine g_nm (fun b13 e_b13 => ?_)
        have h_b13 := ishr_ir rc12 a1
        rw [← e_b13] at h_b13
        refine g_iconst dX12_fits_52 ?_
        refine g_iand dX12_fits_53 ?_
        refine g_nm (fun b14 e_b14 => ?_)
        have h_b14 := iand_r (x := b13) (y := 1) ⟨by omega, by omega⟩
        rw [← e_b14] at h_b14
        exact g_retI dX12_fits_54 rfl (hQ b14 ⟨by omega, by omega⟩ _ hBc11 (FrM.c FrM.rf hFc11 rfl) (by have q0 := b0_74 hBc11; omega) (vc11_MV.w) vc11_RE)
      · refine g_iconst dX12_fits_37 ?_
        exact g_retI dX12_fits_38 rfl (hQ (-1) (by decide) _ hB FrM.rf (by have q0 := b0_74 hB; omega) v_MVw v_RE)
set_option maxRecDepth 100000 in
set_option maxHeartbeats 4000000 in
theorem m_X12_holds (G : GT) (P : PH) (a1 : Int) (a2 : Int) (h_a1 : (-2147483648) ≤ a1 ∧ a1 ≤ 2147483647) (h_a2 : (-2147483648) ≤ a2 ∧ a2 ≤ 2147483647) (hB : BdM P) (p_st : P 0 74 ≤ 199999999) (v_okC : okC P) (v_MVw : MVw P) (v_RE : RE P) (Q : Option PV → PH → Prop) (hQ : ∀ (r : Int) (_ : (-2147483648) ≤ r ∧ r ≤ 2147483647) (P1 : PH) (_ : BdM P1) (_ : FrM ([62, 66, 74], [41, 42, 43, 44, 45]) P P1) (_ : P1 0 74 ≤ P 0 74 + 1) (_ : MVw P1) (_ : RE P1), Q (some (vI r)) P1) : Ct WSM G 6 iX12_holds [vR 0, vI a1, vI a2] P Q := by
  refine Ct.of (by decide) (l0 := [(0, vR 0), (1, vI a1), (2, vI a2)]) rfl (Nat.le_of_ble_eq_true rfl) ?_
  refine g_aload_n dX12_holds_0 rfl ?_
  refine g_iload_n dX12_holds_1 rfl ?_
  refine g_vI (av := [vI a1]) (o := 0) (st := []) (m_X12_isPlace G P a1 ⟨by omega, by omega⟩ hB  _ (fun rc1 hc1 gc1_p => ⟨rc1, rfl, ?_⟩)) cf_X12_isPlace t_1883 rfl (by decide) rfl rfl rfl (Nat.le_of_ble_eq_true rfl) (by decide) rfl dX12_holds_2
  have f2 := b0_44 hB
  have f3 := bl_35 (k := 0) hB
  refine g_if_eq (tgt := 16) dX12_holds_5 (by decide) ⟨by omega, by omega⟩ (fun k4 => ?_) (fun k4 => ?_)
  · refine g_iconst dX12_holds_16 ?_
    exact g_retI dX12_holds_17 rfl (hQ (-1) (by decide) _ hB FrM.rf (by have q0 := b0_74 hB; omega) v_MVw v_RE)
  · refine g_aload_n dX12_holds_8 rfl ?_
    refine g_iload_n dX12_holds_9 rfl ?_
    refine g_vI (av := [vI a2]) (o := 0) (st := []) (m_X12_isPlace G P a2 ⟨by omega, by omega⟩ hB  _ (fun rc5 hc5 gc5_p => ⟨rc5, rfl, ?_⟩)) cf_X12_isPlace t_1883 rfl (by decide) rfl rfl rfl (Nat.le_of_ble_eq_true rfl) (by decide) rfl dX12_holds_10
    refine g_if_ne (tgt := 18) dX12_holds_13 (by decide) ⟨by omega, by omega⟩ (fun k6 => ?_) (fun k6 => ?_)
    · refine g_aload_n dX12_holds_18 rfl ?_
      refine g_iconst dX12_holds_19 ?_
      refine g_vV (av := [vI 0]) (o := 0) (st := []) (m_X12_arranges G P 0 (by decide) hB (by have q0 := b0_74 hB; omega) v_MVw v_RE _ (fun Pc7 hBc7 hFc7 gc7_st vc7_MV vc7_RE vc7_RLt => ⟨rfl, ?_⟩)) cf_X12_arranges t_1887 rfl (by decide) rfl rfl rfl (Nat.le_of_ble_eq_true rfl) (by decide) rfl dX12_holds_20
      refine g_aload_n dX12_holds_23 rfl ?_
      refine g_vV (av := []) (o := 0) (st := []) (m_X12_countsRows G Pc7  hBc7 (okC.fr (F := ([62, 66, 74], [41, 42, 43])) v_okC (FrM.c FrM.rf hFc7 rfl) rfl) _ (fun Pc8 hBc8 hFc8 => ⟨rfl, ?_⟩)) cf_X12_countsRows t_1895 rfl (by decide) rfl rfl rfl (Nat.le_of_ble_eq_true rfl) (by decide) rfl dX12_holds_24
      refine g_iconst dX12_holds_27 ?_
      refine g_istore_n (l1 := [(3, vI 0), (0, vR 0), (1, vI a1), (2, vI a2)]) dX12_holds_28 (by decide) rfl ?_
      have L29_8 : ∀ (n29_8 : Nat) (x29_3_8 : Int) (h_x29_3_8 : 0 ≤ x29_3_8 ∧ x29_3_8 ≤ 4096) (hm29_8 : ((4097 - x29_3_8) : Int).toNat < n29_8), Go WSM G 6 iX12_holds 29 [(0, vR 0), (1, vI a1), (2, vI a2), (3, vI x29_3_8)] [] Pc8 Q := by
        intro n29_8
        induction n29_8 with
        | zero => intro x29_3_8 h_x29_3_8 hm29_8; exact absurd hm29_8 (Nat.not_lt_zero _)
        | succ n29_8 ih29_8 =>
        intro x29_3_8 h_x29_3_8 hm29_8
        refine g_iload_n dX12_holds_29 rfl ?_
        refine g_sipush dX12_holds_30 (by decide) ?_
        refine g_icmp_ge (tgt := 70) dX12_holds_33 (by decide) ⟨by omega, by omega⟩ (by decide) (fun k163 => ?_) (fun k163 => ?_)
        · refine g_iconst dX12_holds_70 ?_
          exact g_retI dX12_holds_71 rfl (hQ 1 (by decide) _ hBc8 (FrM.c (FrM.c FrM.rf hFc7 rfl) hFc8 rfl) (by have q0 := (((hFc8.1 74 rfl).trans rfl) : Pc8 0 74 = (Pc7 0 74)); have q1 := b0_74 hBc7; omega) ((MV.fr (F := ([], [44, 45])) vc7_MV (FrM.c FrM.rf hFc8 rfl) rfl).w) (RE.fr (F := ([], [44, 45])) vc7_RE (FrM.c FrM.rf hFc8 rfl) rfl))
        · refine g_aload_n dX12_holds_36 rfl ?_
          refine m_g68 rfl dX12_holds_37 ?_
          refine g_iload_n dX12_holds_40 rfl ?_
          refine m_l45 (z := (Pc8 45 x29_3_8)) dX12_holds_41 ⟨by omega, by omega⟩ rfl ?_
          have f164 := bl_45 (k := x29_3_8) hBc8
          refine g_if_le (tgt := 64) dX12_holds_42 (by decide) ⟨by have q0 := bl_45 (k := x29_3_8) hBc8; omega, by have q0 := bl_45 (k := x29_3_8) hBc8; omega⟩ (fun k165 => ?_) (fun k165 => ?_)
          · refine g_iinc (l1 := [(3, vI (x29_3_8 + 1)), (0, vR 0), (1, vI a1), (2, vI a2)]) dX12_holds_64 rfl (by decide) rfl ?_
            refine g_goto (tgt := 29) dX12_holds_67 (by decide) ?_
            refine g_forget (l1 := [(0, vR 0), (1, vI a1), (2, vI a2), (3, vI (x29_3_8 + 1))]) (by intro q hq; simp only [List.mem_cons, List.not_mem_nil, or_false] at hq ⊢; rcases hq with rfl | rfl | rfl | rfl <;> simp) ?_
            exact ih29_8 (x29_3_8 + 1) ⟨by omega, by omega⟩ (by omega)
          · refine g_iload_n dX12_holds_45 rfl ?_
            refine g_iload_n dX12_holds_46 rfl ?_
            refine g_ishr dX12_holds_47 ?_
            refine g_nm (fun b166 e_b166 => ?_)
            have h_b166 := ishr_ir x29_3_8 a2
            rw [← e_b166] at h_b166
            refine g_iconst dX12_holds_48 ?_
            refine g_iand dX12_holds_49 ?_
            refine g_nm (fun b167 e_b167 => ?_)
            have h_b167 := iand_r (x := b166) (y := 1) ⟨by omega, by omega⟩
            rw [← e_b167] at h_b167
            refine g_iconst dX12_holds_50 ?_
            refine g_icmp_ne (tgt := 64) dX12_holds_51 (by decide) ⟨by omega, by omega⟩ (by decide) (fun k168 => ?_) (fun k168 => ?_)
            · refine g_iinc (l1 := [(3, vI (x29_3_8 + 1)), (0, vR 0), (1, vI a1), (2, vI a2)]) dX12_holds_64 rfl (by decide) rfl ?_
              refine g_goto (tgt := 29) dX12_holds_67 (by decide) ?_
              refine g_forget (l1 := [(0, vR 0), (1, vI a1), (2, vI a2), (3, vI (x29_3_8 + 1))]) (by intro q hq; simp only [List.mem_cons, List.not_mem_nil, or_false] at hq ⊢; rcases hq with rfl | rfl | rfl | rfl <;> simp) ?_
              exact ih29_8 (x29_3_8 + 1) ⟨by omega, by omega⟩ (by omega)
            · refine g_iload_n dX12_holds_54 rfl ?_
              refine g_iload_n dX12_holds_55 rfl ?_
              refine g_ishr dX12_holds_56 ?_
              refine g_nm (fun b169 e_b169 => ?_)
              have h_b169 := ishr_ir x29_3_8 a1
              rw [← e_b169] at h_b169
              refine g_iconst dX12_holds_57 ?_
              refine g_iand dX12_holds_58 ?_
              refine g_nm (fun b170 e_b170 => ?_)
              have h_b170 := iand_r (x := b169) (y := 1) ⟨by omega, by omega⟩
              rw [← e_b170] at h_b170
              refine g_if_ne (tgt := 64) dX12_holds_59 (by decide) ⟨by omega, by omega⟩ (fun k171 => ?_) (fun k171 => ?_)
              · refine g_iinc (l1 := [(3, vI (x29_3_8 + 1)), (0, vR 0), (1, vI a1), (2, vI a2)]) dX12_holds_64 rfl (by decide) rfl ?_
                refine g_goto (tgt := 29) dX12_holds_67 (by decide) ?_
                refine g_forget (l1 := [(0, vR 0), (1, vI a1), (2, vI a2), (3, vI (x29_3_8 + 1))]) (by intro q hq; simp only [List.mem_cons, List.not_mem_nil, or_false] at hq ⊢; rcases hq with rfl | rfl | rfl | rfl <;> simp) ?_
                exact ih29_8 (x29_3_8 + 1) ⟨by omega, by omega⟩ (by omega)
              · refine g_iconst dX12_holds_62 ?_
                exact g_retI dX12_holds_63 rfl (hQ 0 (by decide) _ hBc8 (FrM.c (FrM.c FrM.rf hFc7 rfl) hFc8 rfl) (by have q0 := (((hFc8.1 74 rfl).trans rfl) : Pc8 0 74 = (Pc7 0 74)); have q1 := b0_74 hBc7; omega) ((MV.fr (F := ([], [44, 45])) vc7_MV (FrM.c FrM.rf hFc8 rfl) rfl).w) (RE.fr (F := ([], [44, 45])) vc7_RE (FrM.c FrM.rf hFc8 rfl) rfl))
      refine g_forget (l1 := [(0, vR 0), (1, vI a1), (2, vI a2), (3, vI 0)]) (by intro q hq; simp only [List.mem_cons, List.not_mem_nil, or_false] at hq ⊢; rcases hq with rfl | rfl | rfl | rfl <;> simp) ?_
      exact L29_8 _ 0 (by decide) (Nat.lt_succ_self _)
    · refine g_iconst dX12_holds_16 ?_
      exact g_retI dX12_holds_17 rfl (hQ (-1) (by decide) _ hB FrM.rf (by have q0 := b0_74 hB; omega) v_MVw v_RE)
set_option maxRecDepth 100000 in
set_option maxHeartbeats 4000000 in
theorem m_X12_missing (G : GT) (P : PH) (a1 : Int) (h_a1 : (-2147483648) ≤ a1 ∧ a1 ≤ 2147483647) (hB : BdM P) (p_st : P 0 74 ≤ 199999999) (v_okC : okC P) (v_MVw : MVw P) (v_RE : RE P) (Q : Option PV → PH → Prop) (hQ : ∀ (r : Int) (_ : (-2147483648) ≤ r ∧ r ≤ 2147483647) (P1 : PH) (_ : BdM P1) (_ : FrM ([62, 66, 74], [41, 42, 43, 44]) P P1) (_ : P1 0 74 ≤ P 0 74 + 1) (_ : MVw P1) (_ : RE P1), Q (some (vI r)) P1) : Ct WSM G 5 iX12_missing [vR 0, vI a1] P Q := by
  refine Ct.of (by decide) (l0 := [(0, vR 0), (1, vI a1)]) rfl (Nat.le_of_ble_eq_true rfl) ?_
  refine g_aload_n dX12_missing_0 rfl ?_
  refine m_g44 (z := (P 0 44)) rfl dX12_missing_1 rfl ?_
  have f1 := b0_44 hB
  refine g_if_eq (tgt := 12) dX12_missing_4 (by decide) ⟨by have q0 := b0_44 hB; omega, by have q0 := b0_44 hB; omega⟩ (fun k2 => ?_) (fun k2 => ?_)
  · refine g_iconst dX12_missing_12 ?_
    exact g_retI dX12_missing_13 rfl (hQ (-1) (by decide) _ hB FrM.rf (by have q0 := b0_74 hB; omega) v_MVw v_RE)
  · refine g_iload_n dX12_missing_7 rfl ?_
    refine g_iconst dX12_missing_8 ?_
    refine g_icmp_ge (tgt := 14) dX12_missing_9 (by decide) ⟨by omega, by omega⟩ (by decide) (fun k3 => ?_) (fun k3 => ?_)
    · refine g_aload_n dX12_missing_14 rfl ?_
      refine g_iconst dX12_missing_15 ?_
      refine g_vV (av := [vI 0]) (o := 0) (st := []) (m_X12_arranges G P 0 (by decide) hB (by have q0 := b0_74 hB; omega) v_MVw v_RE _ (fun Pc4 hBc4 hFc4 gc4_st vc4_MV vc4_RE vc4_RLt => ⟨rfl, ?_⟩)) cf_X12_arranges t_1887 rfl (by decide) rfl rfl rfl (Nat.le_of_ble_eq_true rfl) (by decide) rfl dX12_missing_16
      refine g_iconst dX12_missing_19 ?_
      refine g_istore_n (l1 := [(2, vI 0), (0, vR 0), (1, vI a1)]) dX12_missing_20 (by decide) rfl ?_
      refine g_iconst dX12_missing_21 ?_
      refine g_istore_n (l1 := [(3, vI 0), (2, vI 0), (0, vR 0), (1, vI a1)]) dX12_missing_22 (by decide) rfl ?_
      have L23_4 : ∀ (n23_4 : Nat) (x23_3_4 : Int) (h_x23_3_4 : 0 ≤ x23_3_4 ∧ x23_3_4 ≤ 20000) (x23_2_4 : Int) (h_x23_2_4 : 0 ≤ x23_2_4 ∧ x23_2_4 ≤ 20000) (H23_4 : PH) (hB23_4 : BdM H23_4) (hE23_4 : FrM ([], [44]) Pc4 H23_4) (i23_0_4 : x23_2_4 ≤ x23_3_4) (hm23_4 : ((20001 - x23_3_4) : Int).toNat < n23_4), Go WSM G 5 iX12_missing 23 [(0, vR 0), (1, vI a1), (2, vI x23_2_4), (3, vI x23_3_4)] [] H23_4 Q := by
        intro n23_4
        induction n23_4 with
        | zero => intro x23_3_4 h_x23_3_4 x23_2_4 h_x23_2_4 H23_4 hB23_4 hE23_4 i23_0_4 hm23_4; exact absurd hm23_4 (Nat.not_lt_zero _)
        | succ n23_4 ih23_4 =>
        intro x23_3_4 h_x23_3_4 x23_2_4 h_x23_2_4 H23_4 hB23_4 hE23_4 i23_0_4 hm23_4
        refine g_iload_n dX12_missing_23 rfl ?_
        refine g_aload_n dX12_missing_24 rfl ?_
        refine m_g52 (z := (P 0 52)) rfl dX12_missing_25 ((hE23_4.1 52 rfl).trans ((hFc4.1 52 rfl).trans rfl)) ?_
        have f34 := b0_52 hB
        refine g_icmp_ge (tgt := 63) dX12_missing_28 (by decide) ⟨by omega, by omega⟩ ⟨by have q0 := b0_52 hB; omega, by have q0 := b0_52 hB; omega⟩ (fun k35 => ?_) (fun k35 => ?_)
        · refine g_iload_n dX12_missing_63 rfl ?_
          refine g_iconst dX12_missing_64 ?_
          refine g_icmp_ne (tgt := 72) dX12_missing_65 (by decide) ⟨by omega, by omega⟩ (by decide) (fun k36 => ?_) (fun k36 => ?_)
          · refine g_iconst dX12_missing_72 ?_
            exact g_retI dX12_missing_73 rfl (hQ (-1) (by decide) _ hB23_4 (FrM.c (FrM.c FrM.rf hFc4 rfl) hE23_4 rfl) (by have q0 := (((hE23_4.1 74 rfl).trans rfl) : H23_4 0 74 = (Pc4 0 74)); have q1 := b0_74 hBc4; omega) ((MV.fr (F := ([], [44])) vc4_MV (FrM.c FrM.rf hE23_4 rfl) rfl).w) (RE.fr (F := ([], [44])) vc4_RE (FrM.c FrM.rf hE23_4 rfl) rfl))
          · refine g_iload_n dX12_missing_68 rfl ?_
            refine g_goto (tgt := 73) dX12_missing_69 (by decide) ?_
            exact g_retI dX12_missing_73 rfl (hQ x23_2_4 ⟨by omega, by omega⟩ _ hB23_4 (FrM.c (FrM.c FrM.rf hFc4 rfl) hE23_4 rfl) (by have q0 := (((hE23_4.1 74 rfl).trans rfl) : H23_4 0 74 = (Pc4 0 74)); have q1 := b0_74 hBc4; omega) ((MV.fr (F := ([], [44])) vc4_MV (FrM.c FrM.rf hE23_4 rfl) rfl).w) (RE.fr (F := ([], [44])) vc4_RE (FrM.c FrM.rf hE23_4 rfl) rfl))
        · refine g_aload_n dX12_missing_31 rfl ?_
          refine g_iload_n dX12_missing_32 rfl ?_
          refine g_vI (av := [vI x23_3_4]) (o := 0) (st := []) (m_X12_fitting G H23_4 x23_3_4 ⟨by omega, by omega⟩ hB23_4 (okC.fr (F := ([62, 66, 74], [41, 42, 43, 44])) v_okC (FrM.c (FrM.c FrM.rf hFc4 rfl) hE23_4 rfl) rfl) _ (fun rc37 hc37 Pc37 hBc37 hFc37 => ⟨rc37, rfl, ?_⟩)) cf_X12_fitting t_1899 rfl (by decide) rfl rfl rfl (Nat.le_of_ble_eq_true rfl) (by decide) rfl dX12_missing_33
          refine g_aload_n dX12_missing_36 rfl ?_
          refine m_g66 (z := (Pc4 0 66)) rfl dX12_missing_37 ((hFc37.1 66 rfl).trans ((hE23_4.1 66 rfl).trans rfl)) ?_
          refine g_iand dX12_missing_40 ?_
          refine g_nm (fun b38 e_b38 => ?_)
          have h_b38 := iand_l (x := rc37) (y := (Pc4 0 66)) ⟨by omega, by omega⟩
          rw [← e_b38] at h_b38
          refine g_if_eq (tgt := 47) dX12_missing_41 (by decide) ⟨by omega, by omega⟩ (fun k39 => ?_) (fun k39 => ?_)
          · refine g_iload_n dX12_missing_47 rfl ?_
            refine g_iload_n dX12_missing_48 rfl ?_
            refine g_icmp_ne (tgt := 54) dX12_missing_49 (by decide) ⟨by omega, by omega⟩ ⟨by omega, by omega⟩ (fun k40 => ?_) (fun k40 => ?_)
            · refine g_iinc (l1 := [(2, vI (x23_2_4 + 1)), (0, vR 0), (1, vI a1), (3, vI x23_3_4)]) dX12_missing_54 rfl (by decide) rfl ?_
              refine g_iinc (l1 := [(3, vI (x23_3_4 + 1)), (2, vI (x23_2_4 + 1)), (0, vR 0), (1, vI a1)]) dX12_missing_57 rfl (by decide) rfl ?_
              refine g_goto (tgt := 23) dX12_missing_60 (by decide) ?_
              refine g_forget (l1 := [(0, vR 0), (1, vI a1), (2, vI (x23_2_4 + 1)), (3, vI (x23_3_4 + 1))]) (by intro q hq; simp only [List.mem_cons, List.not_mem_nil, or_false] at hq ⊢; rcases hq with rfl | rfl | rfl | rfl <;> simp) ?_
              exact ih23_4 (x23_3_4 + 1) ⟨by have q0 := b0_52 hB; omega, by have q0 := b0_52 hB; omega⟩ (x23_2_4 + 1) ⟨by have q0 := b0_52 hB; omega, by have q0 := b0_52 hB; omega⟩ _ hBc37 (FrM.c (FrM.c FrM.rf hE23_4 rfl) hFc37 rfl) (by omega) (by omega)
            · refine g_iload_n dX12_missing_52 rfl ?_
              exact g_retI dX12_missing_53 rfl (hQ x23_3_4 ⟨by omega, by omega⟩ _ hBc37 (FrM.c (FrM.c (FrM.c FrM.rf hFc4 rfl) hE23_4 rfl) hFc37 rfl) (by have q0 := (((hFc37.1 74 rfl).trans ((hE23_4.1 74 rfl).trans rfl)) : Pc37 0 74 = (Pc4 0 74)); have q1 := b0_74 hBc4; omega) ((MV.fr (F := ([], [44])) vc4_MV (FrM.c (FrM.c FrM.rf hE23_4 rfl) hFc37 rfl) rfl).w) (RE.fr (F := ([], [44])) vc4_RE (FrM.c (FrM.c FrM.rf hE23_4 rfl) hFc37 rfl) rfl))
          · refine g_goto (tgt := 57) dX12_missing_44 (by decide) ?_
            refine g_iinc (l1 := [(3, vI (x23_3_4 + 1)), (0, vR 0), (1, vI a1), (2, vI x23_2_4)]) dX12_missing_57 rfl (by decide) rfl ?_
            refine g_goto (tgt := 23) dX12_missing_60 (by decide) ?_
            refine g_forget (l1 := [(0, vR 0), (1, vI a1), (2, vI x23_2_4), (3, vI (x23_3_4 + 1))]) (by intro q hq; simp only [List.mem_cons, List.not_mem_nil, or_false] at hq ⊢; rcases hq with rfl | rfl | rfl | rfl <;> simp) ?_
            exact ih23_4 (x23_3_4 + 1) ⟨by have q0 := b0_52 hB; omega, by have q0 := b0_52 hB; omega⟩ x23_2_4 ⟨by have q0 := b0_52 hB; omega, by have q0 := b0_52 hB; omega⟩ _ hBc37 (FrM.c (FrM.c FrM.rf hE23_4 rfl) hFc37 rfl) (by omega) (by omega)
      refine g_forget (l1 := [(0, vR 0), (1, vI a1), (2, vI 0), (3, vI 0)]) (by intro q hq; simp only [List.mem_cons, List.not_mem_nil, or_false] at hq ⊢; rcases hq with rfl | rfl | rfl | rfl <;> simp) ?_
      exact L23_4 _ 0 (by decide) 0 (by decide) _ hBc4 FrM.rf (by omega) (Nat.lt_succ_self _)
    · refine g_iconst dX12_missing_12 ?_
      exact g_retI dX12_missing_13 rfl (hQ (-1) (by decide) _ hB FrM.rf (by have q0 := b0_74 hB; omega) v_MVw v_RE)
set_option maxRecDepth 100000 in
set_option maxHeartbeats 4000000 in
theorem m_X12_taken (G : GT) (P : PH) (a1 : Int) (h_a1 : (-2147483648) ≤ a1 ∧ a1 ≤ 2147483647) (hB : BdM P) (p_st : P 0 74 ≤ 199999999) (v_okC : okC P) (v_MVw : MVw P) (v_RE : RE P) (Q : Option PV → PH → Prop) (hQ : ∀ (r : Int) (_ : (-2147483648) ≤ r ∧ r ≤ 2147483647) (P1 : PH) (_ : BdM P1) (_ : FrM ([62, 66, 74], [41, 42, 43, 44]) P P1) (_ : P1 0 74 ≤ P 0 74 + 1) (_ : MVw P1) (_ : RE P1), Q (some (vI r)) P1) : Ct WSM G 5 iX12_taken [vR 0, vI a1] P Q := by
  refine Ct.of (by decide) (l0 := [(0, vR 0), (1, vI a1)]) rfl (Nat.le_of_ble_eq_true rfl) ?_
  refine g_aload_n dX12_taken_0 rfl ?_
  refine g_iload_n dX12_taken_1 rfl ?_
  refine g_vI (av := [vI a1]) (o := 0) (st := []) (m_X12_isRow G P a1 ⟨by omega, by omega⟩ hB  _ (fun rc1 hc1 gc1_p => ⟨rc1, rfl, ?_⟩)) cf_X12_isRow t_1946 rfl (by decide) rfl rfl rfl (Nat.le_of_ble_eq_true rfl) (by decide) rfl dX12_taken_2
  have f2 := b0_44 hB
  have f3 := b0_52 hB
  refine g_if_ne (tgt := 10) dX12_taken_5 (by decide) ⟨by omega, by omega⟩ (fun k4 => ?_) (fun k4 => ?_)
  · refine g_aload_n dX12_taken_10 rfl ?_
    refine g_iconst dX12_taken_11 ?_
    refine g_vV (av := [vI 0]) (o := 0) (st := []) (m_X12_arranges G P 0 (by decide) hB (by have q0 := b0_74 hB; omega) v_MVw v_RE _ (fun Pc5 hBc5 hFc5 gc5_st vc5_MV vc5_RE vc5_RLt => ⟨rfl, ?_⟩)) cf_X12_arranges t_1887 rfl (by decide) rfl rfl rfl (Nat.le_of_ble_eq_true rfl) (by decide) rfl dX12_taken_12
    refine g_aload_n dX12_taken_15 rfl ?_
    refine g_iload_n dX12_taken_16 rfl ?_
    refine g_vI (av := [vI a1]) (o := 0) (st := []) (m_X12_fitting G Pc5 a1 ⟨by omega, by omega⟩ hBc5 (okC.fr (F := ([62, 66, 74], [41, 42, 43])) v_okC (FrM.c FrM.rf hFc5 rfl) rfl) _ (fun rc6 hc6 Pc6 hBc6 hFc6 => ⟨rc6, rfl, ?_⟩)) cf_X12_fitting t_1899 rfl (by decide) rfl rfl rfl (Nat.le_of_ble_eq_true rfl) (by decide) rfl dX12_taken_17
    refine g_aload_n dX12_taken_20 rfl ?_
    refine g_aload_n dX12_taken_21 rfl ?_
    refine m_g55 rfl dX12_taken_22 ?_
    refine g_iconst dX12_taken_25 ?_
    refine m_l37 (z := (P 37 0)) dX12_taken_26 (by decide) ((congrFun (hFc6.2 37 rfl rfl) _).trans ((congrFun (hFc5.2 37 rfl rfl) _).trans rfl)) ?_
    have f7 := bl_37 (k := 0) hB
    refine g_vI (av := [vI (P 37 0)]) (o := 0) (st := [vI rc6]) (m_X12_openBy G Pc6 (P 37 0) ⟨by have q0 := bl_37 (k := 0) hB; omega, by have q0 := bl_37 (k := 0) hB; omega⟩ hBc6  _ (fun rc8 hc8 => ⟨rc8, rfl, ?_⟩)) cf_X12_openBy t_1923 rfl (by decide) rfl rfl rfl (Nat.le_of_ble_eq_true rfl) (by decide) rfl dX12_taken_27
    refine g_iand dX12_taken_30 ?_
    refine g_nm (fun b9 e_b9 => ?_)
    have h_b9 := iand_l (x := rc6) (y := rc8) ⟨by omega, by omega⟩
    rw [← e_b9] at h_b9
    refine g_sI (av := [vI b9]) (st := []) (m_X12_lowest G Pc6 b9 ⟨by omega, by omega⟩ hBc6  _ (fun rc10 hc10 gc10_l gc10_b => ⟨rc10, rfl, ?_⟩)) cf_X12_lowest t_1927 rfl (Nat.le_of_ble_eq_true rfl) (by decide) rfl dX12_taken_31
    exact g_retI dX12_taken_34 rfl (hQ rc10 ⟨by omega, by omega⟩ _ hBc6 (FrM.c (FrM.c FrM.rf hFc5 rfl) hFc6 rfl) (by have q0 := (((hFc6.1 74 rfl).trans rfl) : Pc6 0 74 = (Pc5 0 74)); have q1 := b0_74 hBc5; omega) ((MV.fr (F := ([], [44])) vc5_MV (FrM.c FrM.rf hFc6 rfl) rfl).w) (RE.fr (F := ([], [44])) vc5_RE (FrM.c FrM.rf hFc6 rfl) rfl))
  · refine g_iconst dX12_taken_8 ?_
    exact g_retI dX12_taken_9 rfl (hQ (-1) (by decide) _ hB FrM.rf (by have q0 := b0_74 hB; omega) v_MVw v_RE)
set_option maxRecDepth 100000 in
set_option maxHeartbeats 4000000 in
theorem m_X12_leaves (G : GT) (P : PH) (hB : BdM P) (p_st : P 0 74 ≤ 199999999) (v_okC : okC P) (v_MVw : MVw P) (v_RE : RE P) (Q : Option PV → PH → Prop) (hQ : ∀ (r : Int) (_ : (-2147483648) ≤ r ∧ r ≤ 2147483647) (P1 : PH) (_ : BdM P1) (_ : FrM ([62, 66, 74], [41, 42, 43, 44, 61, 62]) P P1) (_ : P1 0 74 ≤ P 0 74 + 1) (_ : MVw P1) (_ : RE P1), Q (some (vI r)) P1) : Ct WSM G 5 iX12_leaves [vR 0] P Q := by
  refine Ct.of (by decide) (l0 := [(0, vR 0)]) rfl (Nat.le_of_ble_eq_true rfl) ?_
  refine g_aload_n dX12_leaves_0 rfl ?_
  refine g_iconst dX12_leaves_1 ?_
  refine g_vV (av := [vI 0]) (o := 0) (st := []) (m_X12_arranges G P 0 (by decide) hB (by have q0 := b0_74 hB; omega) v_MVw v_RE _ (fun Pc1 hBc1 hFc1 gc1_st vc1_MV vc1_RE vc1_RLt => ⟨rfl, ?_⟩)) cf_X12_arranges t_1887 rfl (by decide) rfl rfl rfl (Nat.le_of_ble_eq_true rfl) (by decide) rfl dX12_leaves_2
  refine g_iconst dX12_leaves_5 ?_
  refine g_istore_n (l1 := [(1, vI 0), (0, vR 0)]) dX12_leaves_6 (by decide) rfl ?_
  refine g_iconst dX12_leaves_7 ?_
  refine g_istore_n (l1 := [(2, vI 0), (1, vI 0), (0, vR 0)]) dX12_leaves_8 (by decide) rfl ?_
  have L9_1 : ∀ (n9_1 : Nat) (x9_2_1 : Int) (h_x9_2_1 : 0 ≤ x9_2_1 ∧ x9_2_1 ≤ 256) (H9_1 : PH) (hB9_1 : BdM H9_1) (hE9_1 : FrM ([], [61, 62]) Pc1 H9_1) (hm9_1 : ((257 - x9_2_1) : Int).toNat < n9_1), Go WSM G 5 iX12_leaves 9 [(0, vR 0), (1, vI 0), (2, vI x9_2_1)] [] H9_1 Q := by
    intro n9_1
    induction n9_1 with
    | zero => intro x9_2_1 h_x9_2_1 H9_1 hB9_1 hE9_1 hm9_1; exact absurd hm9_1 (Nat.not_lt_zero _)
    | succ n9_1 ih9_1 =>
    intro x9_2_1 h_x9_2_1 H9_1 hB9_1 hE9_1 hm9_1
    refine g_iload_n dX12_leaves_9 rfl ?_
    refine g_sipush dX12_leaves_10 (by decide) ?_
    refine g_icmp_ge (tgt := 40) dX12_leaves_13 (by decide) ⟨by omega, by omega⟩ (by decide) (fun k5556 => ?_) (fun k5556 => ?_)
    · refine g_iconst dX12_leaves_40 ?_
      refine g_istore_n (l1 := [(2, vI 0), (0, vR 0), (1, vI 0)]) dX12_leaves_41 (by decide) rfl ?_
      have L42_5556 : ∀ (n42_5556 : Nat) (x42_2_5556 : Int) (h_x42_2_5556 : 0 ≤ x42_2_5556 ∧ x42_2_5556 ≤ 16) (H42_5556 : PH) (hB42_5556 : BdM H42_5556) (hE42_5556 : FrM ([], [44, 61]) H9_1 H42_5556) (hm42_5556 : ((17 - x42_2_5556) : Int).toNat < n42_5556), Go WSM G 5 iX12_leaves 42 [(0, vR 0), (1, vI 0), (2, vI x42_2_5556)] [] H42_5556 Q := by
        intro n42_5556
        induction n42_5556 with
        | zero => intro x42_2_5556 h_x42_2_5556 H42_5556 hB42_5556 hE42_5556 hm42_5556; exact absurd hm42_5556 (Nat.not_lt_zero _)
        | succ n42_5556 ih42_5556 =>
        intro x42_2_5556 h_x42_2_5556 H42_5556 hB42_5556 hE42_5556 hm42_5556
        refine g_iload_n dX12_leaves_42 rfl ?_
        refine g_aload_n dX12_leaves_43 rfl ?_
        refine m_g92 (z := (P 0 92)) rfl dX12_leaves_44 ((hE42_5556.1 92 rfl).trans ((hE9_1.1 92 rfl).trans ((hFc1.1 92 rfl).trans rfl))) ?_
        have f7205 := b0_92 hB
        refine g_icmp_ge (tgt := 113) dX12_leaves_47 (by decide) ⟨by omega, by omega⟩ ⟨by have q0 := b0_92 hB; omega, by have q0 := b0_92 hB; omega⟩ (fun k7206 => ?_) (fun k7206 => ?_)
        · refine g_iconst dX12_leaves_113 ?_
          refine g_istore_n (l1 := [(2, vI 0), (0, vR 0), (1, vI 0)]) dX12_leaves_114 (by decide) rfl ?_
          have L115_7206 : ∀ (n115_7206 : Nat) (x115_2_7206 : Int) (h_x115_2_7206 : 0 ≤ x115_2_7206 ∧ x115_2_7206 ≤ 256) (x115_1_7206 : Int) (h_x115_1_7206 : (-2147483648) ≤ x115_1_7206 ∧ x115_1_7206 ≤ 2147483647) (hm115_7206 : ((257 - x115_2_7206) : Int).toNat < n115_7206), Go WSM G 5 iX12_leaves 115 [(0, vR 0), (1, vI x115_1_7206), (2, vI x115_2_7206)] [] H42_5556 Q := by
            intro n115_7206
            induction n115_7206 with
            | zero => intro x115_2_7206 h_x115_2_7206 x115_1_7206 h_x115_1_7206 hm115_7206; exact absurd hm115_7206 (Nat.not_lt_zero _)
            | succ n115_7206 ih115_7206 =>
            intro x115_2_7206 h_x115_2_7206 x115_1_7206 h_x115_1_7206 hm115_7206
            refine g_iload_n dX12_leaves_115 rfl ?_
            refine g_sipush dX12_leaves_116 (by decide) ?_
            refine g_icmp_ge (tgt := 137) dX12_leaves_119 (by decide) ⟨by omega, by omega⟩ (by decide) (fun k7239 => ?_) (fun k7239 => ?_)
            · refine g_iload_n dX12_leaves_137 rfl ?_
              exact g_retI dX12_leaves_138 rfl (hQ x115_1_7206 ⟨by omega, by omega⟩ _ hB42_5556 (FrM.c (FrM.c (FrM.c FrM.rf hFc1 rfl) hE9_1 rfl) hE42_5556 rfl) (by have q0 := (((hE42_5556.1 74 rfl).trans ((hE9_1.1 74 rfl).trans rfl)) : H42_5556 0 74 = (Pc1 0 74)); have q1 := b0_74 hBc1; omega) ((MV.fr (F := ([], [44, 61, 62])) vc1_MV (FrM.c (FrM.c FrM.rf hE9_1 rfl) hE42_5556 rfl) rfl).w) (RE.fr (F := ([], [44, 61, 62])) vc1_RE (FrM.c (FrM.c FrM.rf hE9_1 rfl) hE42_5556 rfl) rfl))
            · refine g_iload_n dX12_leaves_122 rfl ?_
              refine g_aload_n dX12_leaves_123 rfl ?_
              refine m_g95 rfl dX12_leaves_124 ?_
              refine g_iload_n dX12_leaves_127 rfl ?_
              refine m_l61 (z := (H42_5556 61 x115_2_7206)) dX12_leaves_128 ⟨by omega, by omega⟩ rfl ?_
              refine g_iadd dX12_leaves_129 ?_
              refine g_norm (fun r7240 h_r7240 e_r7240 => ?_)
              refine g_istore_n (l1 := [(1, vI r7240), (0, vR 0), (2, vI x115_2_7206)]) dX12_leaves_130 (by decide) rfl ?_
              refine g_iinc (l1 := [(2, vI (x115_2_7206 + 1)), (1, vI r7240), (0, vR 0)]) dX12_leaves_131 rfl (by decide) rfl ?_
              refine g_goto (tgt := 115) dX12_leaves_134 (by decide) ?_
              refine g_forget (l1 := [(0, vR 0), (1, vI r7240), (2, vI (x115_2_7206 + 1))]) (by intro q hq; simp only [List.mem_cons, List.not_mem_nil, or_false] at hq ⊢; rcases hq with rfl | rfl | rfl <;> simp) ?_
              exact ih115_7206 (x115_2_7206 + 1) ⟨by omega, by omega⟩ r7240 ⟨by omega, by omega⟩ (by omega)
          refine g_forget (l1 := [(0, vR 0), (1, vI 0), (2, vI 0)]) (by intro q hq; simp only [List.mem_cons, List.not_mem_nil, or_false] at hq ⊢; rcases hq with rfl | rfl | rfl <;> simp) ?_
          exact L115_7206 _ 0 (by decide) 0 (by decide) (Nat.lt_succ_self _)
        · refine g_aload_n dX12_leaves_50 rfl ?_
          refine g_aload_n dX12_leaves_51 rfl ?_
          refine m_g93 rfl dX12_leaves_52 ?_
          refine g_iload_n dX12_leaves_55 rfl ?_
          refine m_l59 (z := (P 59 x42_2_5556)) dX12_leaves_56 ⟨by omega, by omega⟩ ((congrFun (hE42_5556.2 59 rfl rfl) _).trans ((congrFun (hE9_1.2 59 rfl rfl) _).trans ((congrFun (hFc1.2 59 rfl rfl) _).trans rfl))) ?_
          have f7241 := bl_59 (k := x42_2_5556) hB
          refine g_vI (av := [vI (P 59 x42_2_5556)]) (o := 0) (st := []) (m_X12_fitting G H42_5556 (P 59 x42_2_5556) ⟨by have q0 := bl_59 (k := x42_2_5556) hB; omega, by have q0 := bl_59 (k := x42_2_5556) hB; omega⟩ hB42_5556 (okC.fr (F := ([62, 66, 74], [41, 42, 43, 44, 61, 62])) v_okC (FrM.c (FrM.c (FrM.c FrM.rf hFc1 rfl) hE9_1 rfl) hE42_5556 rfl) rfl) _ (fun rc7242 hc7242 Pc7242 hBc7242 hFc7242 => ⟨rc7242, rfl, ?_⟩)) cf_X12_fitting t_1899 rfl (by decide) rfl rfl rfl (Nat.le_of_ble_eq_true rfl) (by decide) rfl dX12_leaves_57
          refine g_istore_n (l1 := [(3, vI rc7242), (0, vR 0), (1, vI 0), (2, vI x42_2_5556)]) dX12_leaves_60 (by decide) rfl ?_
          refine g_iconst dX12_leaves_61 ?_
          refine g_istore (l1 := [(4, vI 0), (3, vI rc7242), (0, vR 0), (1, vI 0), (2, vI x42_2_5556)]) dX12_leaves_62 (by decide) rfl ?_
          have L64_7242 : ∀ (n64_7242 : Nat) (x64_4_7242 : Int) (h_x64_4_7242 : 0 ≤ x64_4_7242 ∧ x64_4_7242 ≤ 256) (H64_7242 : PH) (hB64_7242 : BdM H64_7242) (hE64_7242 : FrM ([], [61]) Pc7242 H64_7242) (hm64_7242 : ((257 - x64_4_7242) : Int).toNat < n64_7242), Go WSM G 5 iX12_leaves 64 [(0, vR 0), (1, vI 0), (2, vI x42_2_5556), (3, vI rc7242), (4, vI x64_4_7242)] [] H64_7242 Q := by
            intro n64_7242
            induction n64_7242 with
            | zero => intro x64_4_7242 h_x64_4_7242 H64_7242 hB64_7242 hE64_7242 hm64_7242; exact absurd hm64_7242 (Nat.not_lt_zero _)
            | succ n64_7242 ih64_7242 =>
            intro x64_4_7242 h_x64_4_7242 H64_7242 hB64_7242 hE64_7242 hm64_7242
            refine g_iload dX12_leaves_64 rfl ?_
            refine g_sipush dX12_leaves_66 (by decide) ?_
            refine g_icmp_ge (tgt := 107) dX12_leaves_69 (by decide) ⟨by omega, by omega⟩ (by decide) (fun k7379 => ?_) (fun k7379 => ?_)
            · refine g_iinc (l1 := [(2, vI (x42_2_5556 + 1)), (0, vR 0), (1, vI 0), (3, vI rc7242), (4, vI x64_4_7242)]) dX12_leaves_107 rfl (by decide) rfl ?_
              refine g_goto (tgt := 42) dX12_leaves_110 (by decide) ?_
              refine g_forget (l1 := [(0, vR 0), (1, vI 0), (2, vI (x42_2_5556 + 1))]) (by intro q hq; simp only [List.mem_cons, List.not_mem_nil, or_false] at hq ⊢; rcases hq with rfl | rfl | rfl <;> simp) ?_
              exact ih42_5556 (x42_2_5556 + 1) ⟨by omega, by omega⟩ _ hB64_7242 (FrM.c (FrM.c (FrM.c FrM.rf hE42_5556 rfl) hFc7242 rfl) hE64_7242 rfl) (by omega)
            · refine g_iload_n dX12_leaves_72 rfl ?_
              refine g_aload_n dX12_leaves_73 rfl ?_
              refine m_g96 rfl dX12_leaves_74 ?_
              refine g_iload dX12_leaves_77 rfl ?_
              refine m_l62 (z := (H9_1 62 x64_4_7242)) dX12_leaves_79 ⟨by omega, by omega⟩ ((congrFun (hE64_7242.2 62 rfl rfl) _).trans ((congrFun (hFc7242.2 62 rfl rfl) _).trans ((congrFun (hE42_5556.2 62 rfl rfl) _).trans rfl))) ?_
              refine g_iand dX12_leaves_80 ?_
              refine g_nm (fun b7380 e_b7380 => ?_)
              have h_b7380 := iand_l (x := rc7242) (y := (H9_1 62 x64_4_7242)) ⟨by omega, by omega⟩
              rw [← e_b7380] at h_b7380
              refine g_sI (av := [vI b7380]) (st := []) (m_X12_lowest G H64_7242 b7380 ⟨by omega, by omega⟩ hB64_7242  _ (fun rc7381 hc7381 gc7381_l gc7381_b => ⟨rc7381, rfl, ?_⟩)) cf_X12_lowest t_1927 rfl (Nat.le_of_ble_eq_true rfl) (by decide) rfl dX12_leaves_81
              refine g_aload_n dX12_leaves_84 rfl ?_
              refine m_g94 rfl dX12_leaves_85 ?_
              refine g_iload_n dX12_leaves_88 rfl ?_
              refine m_l60 (z := (P 60 x42_2_5556)) dX12_leaves_89 ⟨by omega, by omega⟩ ((congrFun (hE64_7242.2 60 rfl rfl) _).trans ((congrFun (hFc7242.2 60 rfl rfl) _).trans ((congrFun (hE42_5556.2 60 rfl rfl) _).trans ((congrFun (hE9_1.2 60 rfl rfl) _).trans ((congrFun (hFc1.2 60 rfl rfl) _).trans rfl))))) ?_
              have f7382 := bl_60 (k := x42_2_5556) hB
              have J101_7384 : ∀ (H101_7384 : PH) (hB101_7384 : BdM H101_7384) (hE101_7384 : FrM ([], [61]) H64_7242 H101_7384), Go WSM G 5 iX12_leaves 101 [(0, vR 0), (1, vI 0), (2, vI x42_2_5556), (3, vI rc7242), (4, vI x64_4_7242)] [] H101_7384 Q := by
                intro H101_7384 hB101_7384 hE101_7384
                refine g_iinc (l1 := [(4, vI (x64_4_7242 + 1)), (0, vR 0), (1, vI 0), (2, vI x42_2_5556), (3, vI rc7242)]) dX12_leaves_101 rfl (by decide) rfl ?_
                refine g_goto (tgt := 64) dX12_leaves_104 (by decide) ?_
                refine g_forget (l1 := [(0, vR 0), (1, vI 0), (2, vI x42_2_5556), (3, vI rc7242), (4, vI (x64_4_7242 + 1))]) (by intro q hq; simp only [List.mem_cons, List.not_mem_nil, or_false] at hq ⊢; rcases hq with rfl | rfl | rfl | rfl | rfl <;> simp) ?_
                exact ih64_7242 (x64_4_7242 + 1) ⟨by omega, by omega⟩ _ hB101_7384 (FrM.c (FrM.c FrM.rf hE64_7242 rfl) hE101_7384 rfl) (by omega)
              refine g_icmp_eq (tgt := 101) dX12_leaves_90 (by decide) ⟨by omega, by omega⟩ ⟨by have q0 := bl_60 (k := x42_2_5556) hB; omega, by have q0 := bl_60 (k := x42_2_5556) hB; omega⟩ (fun k7386 => ?_) (fun k7386 => ?_)
              · refine g_forget (l1 := [(0, vR 0), (1, vI 0), (2, vI x42_2_5556), (3, vI rc7242), (4, vI x64_4_7242)]) (by intro q hq; simp only [List.mem_cons, List.not_mem_nil, or_false] at hq ⊢; rcases hq with rfl | rfl | rfl | rfl | rfl <;> simp) ?_
                exact J101_7384 _ hB64_7242 FrM.rf
              · refine g_aload_n dX12_leaves_93 rfl ?_
                refine m_g95 rfl dX12_leaves_94 ?_
                refine g_iload dX12_leaves_97 rfl ?_
                refine g_iconst dX12_leaves_99 ?_
                refine m_s61 dX12_leaves_100 ⟨by omega, by omega⟩ ?_
                have hB7387 := ba_61 (z := 0) (k := x64_4_7242) hB64_7242 (by decide)
                refine g_forget (l1 := [(0, vR 0), (1, vI 0), (2, vI x42_2_5556), (3, vI rc7242), (4, vI x64_4_7242)]) (by intro q hq; simp only [List.mem_cons, List.not_mem_nil, or_false] at hq ⊢; rcases hq with rfl | rfl | rfl | rfl | rfl <;> simp) ?_
                exact J101_7384 _ hB7387 (FrM.a FrM.rf rfl rfl)
          refine g_forget (l1 := [(0, vR 0), (1, vI 0), (2, vI x42_2_5556), (3, vI rc7242), (4, vI 0)]) (by intro q hq; simp only [List.mem_cons, List.not_mem_nil, or_false] at hq ⊢; rcases hq with rfl | rfl | rfl | rfl | rfl <;> simp) ?_
          exact L64_7242 _ 0 (by decide) _ hBc7242 FrM.rf (Nat.lt_succ_self _)
      refine g_forget (l1 := [(0, vR 0), (1, vI 0), (2, vI 0)]) (by intro q hq; simp only [List.mem_cons, List.not_mem_nil, or_false] at hq ⊢; rcases hq with rfl | rfl | rfl <;> simp) ?_
      exact L42_5556 _ 0 (by decide) _ hB9_1 FrM.rf (Nat.lt_succ_self _)
    · refine g_aload_n dX12_leaves_16 rfl ?_
      refine m_g95 rfl dX12_leaves_17 ?_
      refine g_iload_n dX12_leaves_20 rfl ?_
      refine g_iconst dX12_leaves_21 ?_
      refine m_s61 dX12_leaves_22 ⟨by omega, by omega⟩ ?_
      have hB7388 := ba_61 (z := 1) (k := x9_2_1) hB9_1 (by decide)
      refine g_aload_n dX12_leaves_23 rfl ?_
      refine m_g96 rfl dX12_leaves_24 ?_
      refine g_iload_n dX12_leaves_27 rfl ?_
      refine g_aload_n dX12_leaves_28 rfl ?_
      refine g_iload_n dX12_leaves_29 rfl ?_
      refine g_vI (av := [vI x9_2_1]) (o := 0) (st := [vI x9_2_1, vR 62]) (m_X12_openBy G (up H9_1 61 x9_2_1 1) x9_2_1 ⟨by omega, by omega⟩ hB7388  _ (fun rc7389 hc7389 => ⟨rc7389, rfl, ?_⟩)) cf_X12_openBy t_1923 rfl (by decide) rfl rfl rfl (Nat.le_of_ble_eq_true rfl) (by decide) rfl dX12_leaves_30
      refine m_s62 dX12_leaves_33 ⟨by omega, by omega⟩ ?_
      have hB7390 := ba_62 (z := rc7389) (k := x9_2_1) hB7388 ⟨by omega, by omega⟩
      refine g_iinc (l1 := [(2, vI (x9_2_1 + 1)), (0, vR 0), (1, vI 0)]) dX12_leaves_34 rfl (by decide) rfl ?_
      refine g_goto (tgt := 9) dX12_leaves_37 (by decide) ?_
      refine g_forget (l1 := [(0, vR 0), (1, vI 0), (2, vI (x9_2_1 + 1))]) (by intro q hq; simp only [List.mem_cons, List.not_mem_nil, or_false] at hq ⊢; rcases hq with rfl | rfl | rfl <;> simp) ?_
      exact ih9_1 (x9_2_1 + 1) ⟨by omega, by omega⟩ _ hB7390 (FrM.a (FrM.a (FrM.c FrM.rf hE9_1 rfl) rfl rfl) rfl rfl) (by omega)
  refine g_forget (l1 := [(0, vR 0), (1, vI 0), (2, vI 0)]) (by intro q hq; simp only [List.mem_cons, List.not_mem_nil, or_false] at hq ⊢; rcases hq with rfl | rfl | rfl <;> simp) ?_
  exact L9_1 _ 0 (by decide) _ hBc1 FrM.rf (Nat.lt_succ_self _)
set_option maxRecDepth 100000 in
set_option maxHeartbeats 4000000 in
theorem m_X12_sets (G : GT) (P : PH) (a1 : Int) (h_a1 : (-2147483648) ≤ a1 ∧ a1 ≤ 2147483647) (hB : BdM P) (p_st : P 0 74 ≤ 199999999) (v_okC : okC P) (v_MVw : MVw P) (v_RE : RE P) (Q : Option PV → PH → Prop) (hQ : ∀ (r : Int) (_ : (-2147483648) ≤ r ∧ r ≤ 2147483647) (P1 : PH) (_ : BdM P1) (_ : FrM ([62, 66, 74], [41, 42, 43, 44, 61, 62]) P P1) (_ : P1 0 74 ≤ P 0 74 + 1) (_ : MVw P1) (_ : RE P1), Q (some (vI r)) P1) : Ct WSM G 6 iX12_sets [vR 0, vI a1] P Q := by
  refine Ct.of (by decide) (l0 := [(0, vR 0), (1, vI a1)]) rfl (Nat.le_of_ble_eq_true rfl) ?_
  refine g_aload_n dX12_sets_0 rfl ?_
  refine m_g44 (z := (P 0 44)) rfl dX12_sets_1 rfl ?_
  have f1 := b0_44 hB
  refine g_if_eq (tgt := 12) dX12_sets_4 (by decide) ⟨by have q0 := b0_44 hB; omega, by have q0 := b0_44 hB; omega⟩ (fun k2 => ?_) (fun k2 => ?_)
  · refine g_iconst dX12_sets_12 ?_
    exact g_retI dX12_sets_13 rfl (hQ (-1) (by decide) _ hB FrM.rf (by have q0 := b0_74 hB; omega) v_MVw v_RE)
  · refine g_iload_n dX12_sets_7 rfl ?_
    refine g_iconst dX12_sets_8 ?_
    refine g_icmp_ge (tgt := 14) dX12_sets_9 (by decide) ⟨by omega, by omega⟩ (by decide) (fun k3 => ?_) (fun k3 => ?_)
    · refine g_aload_n dX12_sets_14 rfl ?_
      refine g_vI (av := []) (o := 0) (st := []) (m_X12_leaves G P  hB (by have q0 := b0_74 hB; omega) v_okC v_MVw v_RE _ (fun rc4 hc4 Pc4 hBc4 hFc4 gc4_st vc4_MVw vc4_RE => ⟨rc4, rfl, ?_⟩)) cf_X12_leaves t_2115 rfl (by decide) rfl rfl rfl (Nat.le_of_ble_eq_true rfl) (by decide) rfl dX12_sets_15
      refine g_istore_n (l1 := [(2, vI rc4), (0, vR 0), (1, vI a1)]) dX12_sets_18 (by decide) rfl ?_
      refine g_iload_n dX12_sets_19 rfl ?_
      refine g_iconst dX12_sets_20 ?_
      refine g_icmp_ne (tgt := 26) dX12_sets_21 (by decide) ⟨by omega, by omega⟩ (by decide) (fun k5 => ?_) (fun k5 => ?_)
      · refine g_iconst dX12_sets_26 ?_
        refine g_istore_n (l1 := [(3, vI 0), (2, vI rc4), (0, vR 0), (1, vI a1)]) dX12_sets_27 (by decide) rfl ?_
        refine g_iconst dX12_sets_28 ?_
        refine g_istore (l1 := [(4, vI 0), (3, vI 0), (2, vI rc4), (0, vR 0), (1, vI a1)]) dX12_sets_29 (by decide) rfl ?_
        have L31_5 : ∀ (n31_5 : Nat) (x31_4_5 : Int) (h_x31_4_5 : 0 ≤ x31_4_5 ∧ x31_4_5 ≤ 256) (x31_3_5 : Int) (h_x31_3_5 : (-2147483648) ≤ x31_3_5 ∧ x31_3_5 ≤ 2147483647) (hm31_5 : ((257 - x31_4_5) : Int).toNat < n31_5), Go WSM G 6 iX12_sets 31 [(0, vR 0), (1, vI a1), (3, vI x31_3_5), (4, vI x31_4_5)] [] Pc4 Q := by
          intro n31_5
          induction n31_5 with
          | zero => intro x31_4_5 h_x31_4_5 x31_3_5 h_x31_3_5 hm31_5; exact absurd hm31_5 (Nat.not_lt_zero _)
          | succ n31_5 ih31_5 =>
          intro x31_4_5 h_x31_4_5 x31_3_5 h_x31_3_5 hm31_5
          refine g_iload dX12_sets_31 rfl ?_
          refine g_sipush dX12_sets_33 (by decide) ?_
          refine g_icmp_ge (tgt := 74) dX12_sets_36 (by decide) ⟨by omega, by omega⟩ (by decide) (fun k111 => ?_) (fun k111 => ?_)
          · refine g_iconst dX12_sets_74 ?_
            exact g_retI dX12_sets_75 rfl (hQ (-1) (by decide) _ hBc4 (FrM.c FrM.rf hFc4 rfl) (by have q0 := b0_74 hBc4; omega) vc4_MVw vc4_RE)
          · refine g_aload_n dX12_sets_39 rfl ?_
            refine m_g95 rfl dX12_sets_40 ?_
            refine g_iload dX12_sets_43 rfl ?_
            refine m_l61 (z := (Pc4 61 x31_4_5)) dX12_sets_45 ⟨by omega, by omega⟩ rfl ?_
            refine g_iconst dX12_sets_46 ?_
            have f112 := bl_61 (k := x31_4_5) hBc4
            refine g_icmp_ne (tgt := 58) dX12_sets_47 (by decide) ⟨by have q0 := bl_61 (k := x31_4_5) hBc4; omega, by have q0 := bl_61 (k := x31_4_5) hBc4; omega⟩ (by decide) (fun k113 => ?_) (fun k113 => ?_)
            · refine g_iload_n dX12_sets_58 rfl ?_
              refine g_aload_n dX12_sets_59 rfl ?_
              refine m_g95 rfl dX12_sets_60 ?_
              refine g_iload dX12_sets_63 rfl ?_
              refine m_l61 (z := (Pc4 61 x31_4_5)) dX12_sets_65 ⟨by omega, by omega⟩ rfl ?_
              refine g_iadd dX12_sets_66 ?_
              refine g_istore_n (l1 := [(3, vI (x31_3_5 + (Pc4 61 x31_4_5))), (0, vR 0), (1, vI a1), (4, vI x31_4_5)]) dX12_sets_67 (by decide) rfl ?_
              refine g_iinc (l1 := [(4, vI (x31_4_5 + 1)), (3, vI (x31_3_5 + (Pc4 61 x31_4_5))), (0, vR 0), (1, vI a1)]) dX12_sets_68 rfl (by decide) rfl ?_
              refine g_goto (tgt := 31) dX12_sets_71 (by decide) ?_
              refine g_forget (l1 := [(0, vR 0), (1, vI a1), (3, vI (x31_3_5 + (Pc4 61 x31_4_5))), (4, vI (x31_4_5 + 1))]) (by intro q hq; simp only [List.mem_cons, List.not_mem_nil, or_false] at hq ⊢; rcases hq with rfl | rfl | rfl | rfl <;> simp) ?_
              exact ih31_5 (x31_4_5 + 1) ⟨by omega, by omega⟩ (x31_3_5 + (Pc4 61 x31_4_5)) ⟨by have q0 := bl_61 (k := x31_4_5) hBc4; omega, by have q0 := bl_61 (k := x31_4_5) hBc4; omega⟩ (by have q0 := bl_61 (k := x31_4_5) hBc4; omega)
            · refine g_iload_n dX12_sets_50 rfl ?_
              refine g_iload_n dX12_sets_51 rfl ?_
              refine g_icmp_ne (tgt := 58) dX12_sets_52 (by decide) ⟨by omega, by omega⟩ ⟨by omega, by omega⟩ (fun k114 => ?_) (fun k114 => ?_)
              · refine g_iload_n dX12_sets_58 rfl ?_
                refine g_aload_n dX12_sets_59 rfl ?_
                refine m_g95 rfl dX12_sets_60 ?_
                refine g_iload dX12_sets_63 rfl ?_
                refine m_l61 (z := (Pc4 61 x31_4_5)) dX12_sets_65 ⟨by omega, by omega⟩ rfl ?_
                refine g_iadd dX12_sets_66 ?_
                refine g_norm (fun r115 h_r115 e_r115 => ?_)
                refine g_istore_n (l1 := [(3, vI r115), (0, vR 0), (1, vI a1), (4, vI x31_4_5)]) dX12_sets_67 (by decide) rfl ?_
                refine g_iinc (l1 := [(4, vI (x31_4_5 + 1)), (3, vI r115), (0, vR 0), (1, vI a1)]) dX12_sets_68 rfl (by decide) rfl ?_
                refine g_goto (tgt := 31) dX12_sets_71 (by decide) ?_
                refine g_forget (l1 := [(0, vR 0), (1, vI a1), (3, vI r115), (4, vI (x31_4_5 + 1))]) (by intro q hq; simp only [List.mem_cons, List.not_mem_nil, or_false] at hq ⊢; rcases hq with rfl | rfl | rfl | rfl <;> simp) ?_
                exact ih31_5 (x31_4_5 + 1) ⟨by omega, by omega⟩ r115 ⟨by omega, by omega⟩ (by omega)
              · refine g_iload dX12_sets_55 rfl ?_
                exact g_retI dX12_sets_57 rfl (hQ x31_4_5 ⟨by omega, by omega⟩ _ hBc4 (FrM.c FrM.rf hFc4 rfl) (by have q0 := b0_74 hBc4; omega) vc4_MVw vc4_RE)
        refine g_forget (l1 := [(0, vR 0), (1, vI a1), (3, vI 0), (4, vI 0)]) (by intro q hq; simp only [List.mem_cons, List.not_mem_nil, or_false] at hq ⊢; rcases hq with rfl | rfl | rfl | rfl <;> simp) ?_
        exact L31_5 _ 0 (by decide) 0 (by decide) (Nat.lt_succ_self _)
      · refine g_iload_n dX12_sets_24 rfl ?_
        exact g_retI dX12_sets_25 rfl (hQ rc4 ⟨by omega, by omega⟩ _ hBc4 (FrM.c FrM.rf hFc4 rfl) (by have q0 := b0_74 hBc4; omega) vc4_MVw vc4_RE)
    · refine g_iconst dX12_sets_12 ?_
      exact g_retI dX12_sets_13 rfl (hQ (-1) (by decide) _ hB FrM.rf (by have q0 := b0_74 hB; omega) v_MVw v_RE)
set_option maxRecDepth 100000 in
set_option maxHeartbeats 4000000 in
theorem m_X12_mostBy (G : GT) (P : PH) (a1 : Int) (h_a1 : 0 ≤ a1 ∧ a1 ≤ 2147483647) (hB : BdM P) (v_okC : okC P) (Q : Option PV → PH → Prop) (hQ : ∀ (r : Int) (_ : (-2147483648) ≤ r ∧ r ≤ 2147483647) (P1 : PH) (_ : BdM P1) (_ : FrM ([], [44, 63]) P P1), Q (some (vI r)) P1) : Ct WSM G 5 iX12_mostBy [vR 0, vI a1] P Q := by
  refine Ct.of (by decide) (l0 := [(0, vR 0), (1, vI a1)]) rfl (Nat.le_of_ble_eq_true rfl) ?_
  refine g_aload_n dX12_mostBy_0 rfl ?_
  refine g_iload_n dX12_mostBy_1 rfl ?_
  refine g_vI (av := [vI a1]) (o := 0) (st := []) (m_X12_fitting G P a1 ⟨by omega, by omega⟩ hB v_okC _ (fun rc1 hc1 Pc1 hBc1 hFc1 => ⟨rc1, rfl, ?_⟩)) cf_X12_fitting t_1899 rfl (by decide) rfl rfl rfl (Nat.le_of_ble_eq_true rfl) (by decide) rfl dX12_mostBy_2
  refine g_istore_n (l1 := [(2, vI rc1), (0, vR 0), (1, vI a1)]) dX12_mostBy_5 (by decide) rfl ?_
  refine g_iconst dX12_mostBy_6 ?_
  refine g_istore_n (l1 := [(3, vI 0), (2, vI rc1), (0, vR 0), (1, vI a1)]) dX12_mostBy_7 (by decide) rfl ?_
  have L8_1 : ∀ (n8_1 : Nat) (x8_3_1 : Int) (h_x8_3_1 : 0 ≤ x8_3_1 ∧ x8_3_1 ≤ 13) (H8_1 : PH) (hB8_1 : BdM H8_1) (hE8_1 : FrM ([], [63]) Pc1 H8_1) (hm8_1 : ((14 - x8_3_1) : Int).toNat < n8_1), Go WSM G 5 iX12_mostBy 8 [(0, vR 0), (2, vI rc1), (3, vI x8_3_1)] [] H8_1 Q := by
    intro n8_1
    induction n8_1 with
    | zero => intro x8_3_1 h_x8_3_1 H8_1 hB8_1 hE8_1 hm8_1; exact absurd hm8_1 (Nat.not_lt_zero _)
    | succ n8_1 ih8_1 =>
    intro x8_3_1 h_x8_3_1 H8_1 hB8_1 hE8_1 hm8_1
    refine g_iload_n dX12_mostBy_8 rfl ?_
    refine g_bipush dX12_mostBy_9 (by decide) ?_
    refine g_icmp_gt (tgt := 27) dX12_mostBy_11 (by decide) ⟨by omega, by omega⟩ (by decide) (fun k791 => ?_) (fun k791 => ?_)
    · refine g_iconst dX12_mostBy_27 ?_
      refine g_istore_n (l1 := [(3, vI 0), (0, vR 0), (2, vI rc1)]) dX12_mostBy_28 (by decide) rfl ?_
      refine g_iconst dX12_mostBy_29 ?_
      refine g_istore (l1 := [(4, vI 0), (3, vI 0), (0, vR 0), (2, vI rc1)]) dX12_mostBy_30 (by decide) rfl ?_
      have L32_791 : ∀ (n32_791 : Nat) (x32_4_791 : Int) (h_x32_4_791 : 0 ≤ x32_4_791 ∧ x32_4_791 ≤ 256) (x32_3_791 : Int) (h_x32_3_791 : 0 ≤ x32_3_791 ∧ x32_3_791 ≤ 2147483647) (H32_791 : PH) (hB32_791 : BdM H32_791) (hE32_791 : FrM ([], [63]) H8_1 H32_791) (hm32_791 : ((257 - x32_4_791) : Int).toNat < n32_791), Go WSM G 5 iX12_mostBy 32 [(0, vR 0), (2, vI rc1), (3, vI x32_3_791), (4, vI x32_4_791)] [] H32_791 Q := by
        intro n32_791
        induction n32_791 with
        | zero => intro x32_4_791 h_x32_4_791 x32_3_791 h_x32_3_791 H32_791 hB32_791 hE32_791 hm32_791; exact absurd hm32_791 (Nat.not_lt_zero _)
        | succ n32_791 ih32_791 =>
        intro x32_4_791 h_x32_4_791 x32_3_791 h_x32_3_791 H32_791 hB32_791 hE32_791 hm32_791
        refine g_iload dX12_mostBy_32 rfl ?_
        refine g_sipush dX12_mostBy_34 (by decide) ?_
        refine g_icmp_ge (tgt := 109) dX12_mostBy_37 (by decide) ⟨by omega, by omega⟩ (by decide) (fun k1033 => ?_) (fun k1033 => ?_)
        · refine g_iload_n dX12_mostBy_109 rfl ?_
          exact g_retI dX12_mostBy_110 rfl (hQ x32_3_791 ⟨by omega, by omega⟩ _ hB32_791 (FrM.c (FrM.c (FrM.c FrM.rf hFc1 rfl) hE8_1 rfl) hE32_791 rfl) )
        · refine g_aload_n dX12_mostBy_40 rfl ?_
          refine m_g95 rfl dX12_mostBy_41 ?_
          refine g_iload dX12_mostBy_44 rfl ?_
          refine m_l61 (z := (P 61 x32_4_791)) dX12_mostBy_46 ⟨by omega, by omega⟩ ((congrFun (hE32_791.2 61 rfl rfl) _).trans ((congrFun (hE8_1.2 61 rfl rfl) _).trans ((congrFun (hFc1.2 61 rfl rfl) _).trans rfl))) ?_
          have f1034 := bl_61 (k := x32_4_791) hB
          have J103_1040 : ∀ (x103_3_1040 : Int) (h_x103_3_1040 : 0 ≤ x103_3_1040 ∧ x103_3_1040 ≤ 2147483647) (H103_1040 : PH) (hB103_1040 : BdM H103_1040) (hE103_1040 : FrM ([], [63]) H32_791 H103_1040), Go WSM G 5 iX12_mostBy 103 [(0, vR 0), (2, vI rc1), (3, vI x103_3_1040), (4, vI x32_4_791)] [] H103_1040 Q := by
            intro x103_3_1040 h_x103_3_1040 H103_1040 hB103_1040 hE103_1040
            refine g_iinc (l1 := [(4, vI (x32_4_791 + 1)), (0, vR 0), (2, vI rc1), (3, vI x103_3_1040)]) dX12_mostBy_103 rfl (by decide) rfl ?_
            refine g_goto (tgt := 32) dX12_mostBy_106 (by decide) ?_
            refine g_forget (l1 := [(0, vR 0), (2, vI rc1), (3, vI x103_3_1040), (4, vI (x32_4_791 + 1))]) (by intro q hq; simp only [List.mem_cons, List.not_mem_nil, or_false] at hq ⊢; rcases hq with rfl | rfl | rfl | rfl <;> simp) ?_
            exact ih32_791 (x32_4_791 + 1) ⟨by omega, by omega⟩ x103_3_1040 ⟨by omega, by omega⟩ _ hB103_1040 (FrM.c (FrM.c FrM.rf hE32_791 rfl) hE103_1040 rfl) (by omega)
          refine g_if_ne (tgt := 53) dX12_mostBy_47 (by decide) ⟨by have q0 := bl_61 (k := x32_4_791) hB; omega, by have q0 := bl_61 (k := x32_4_791) hB; omega⟩ (fun k1042 => ?_) (fun k1042 => ?_)
          · refine g_iload_n dX12_mostBy_53 rfl ?_
            refine g_aload_n dX12_mostBy_54 rfl ?_
            refine m_g96 rfl dX12_mostBy_55 ?_
            refine g_iload dX12_mostBy_58 rfl ?_
            refine m_l62 (z := (P 62 x32_4_791)) dX12_mostBy_60 ⟨by omega, by omega⟩ ((congrFun (hE32_791.2 62 rfl rfl) _).trans ((congrFun (hE8_1.2 62 rfl rfl) _).trans ((congrFun (hFc1.2 62 rfl rfl) _).trans rfl))) ?_
            refine g_iand dX12_mostBy_61 ?_
            refine g_nm (fun b1043 e_b1043 => ?_)
            have h_b1043 := iand_l (x := rc1) (y := (P 62 x32_4_791)) ⟨by omega, by omega⟩
            rw [← e_b1043] at h_b1043
            refine g_sI (av := [vI b1043]) (st := []) (m_X12_lowest G H32_791 b1043 ⟨by omega, by omega⟩ hB32_791  _ (fun rc1044 hc1044 gc1044_l gc1044_b => ⟨rc1044, rfl, ?_⟩)) cf_X12_lowest t_1927 rfl (Nat.le_of_ble_eq_true rfl) (by decide) rfl dX12_mostBy_62
            refine g_iconst dX12_mostBy_65 ?_
            refine g_iadd dX12_mostBy_66 ?_
            refine g_istore (l1 := [(5, vI (rc1044 + 1)), (0, vR 0), (2, vI rc1), (3, vI x32_3_791), (4, vI x32_4_791)]) dX12_mostBy_67 (by decide) rfl ?_
            refine g_aload_n dX12_mostBy_69 rfl ?_
            refine m_g97 rfl dX12_mostBy_70 ?_
            refine g_iload dX12_mostBy_73 rfl ?_
            refine g_dup2 dX12_mostBy_75 rfl rfl ?_
            refine m_l63 (z := (H32_791 63 (rc1044 + 1))) dX12_mostBy_76 ⟨by omega, by omega⟩ rfl ?_
            refine g_iconst dX12_mostBy_77 ?_
            refine g_iadd dX12_mostBy_78 ?_
            refine g_norm (fun r1045 h_r1045 e_r1045 => ?_)
            refine m_s63 dX12_mostBy_79 ⟨by omega, by omega⟩ ?_
            have hB1046 := ba_63 (z := r1045) (k := (rc1044 + 1)) hB32_791 ⟨by omega, by omega⟩
            refine g_aload_n dX12_mostBy_80 rfl ?_
            refine m_g97 rfl dX12_mostBy_81 ?_
            refine g_iload dX12_mostBy_84 rfl ?_
            refine m_l63 (z := r1045) dX12_mostBy_86 ⟨by omega, by omega⟩ up_same ?_
            refine g_iload_n dX12_mostBy_87 rfl ?_
            refine g_icmp_le (tgt := 101) dX12_mostBy_88 (by decide) ⟨by omega, by omega⟩ ⟨by omega, by omega⟩ (fun k1047 => ?_) (fun k1047 => ?_)
            · refine g_iload_n dX12_mostBy_101 rfl ?_
              refine g_istore_n (l1 := [(3, vI x32_3_791), (5, vI (rc1044 + 1)), (0, vR 0), (2, vI rc1), (4, vI x32_4_791)]) dX12_mostBy_102 (by decide) rfl ?_
              refine g_forget (l1 := [(0, vR 0), (2, vI rc1), (3, vI x32_3_791), (4, vI x32_4_791)]) (by intro q hq; simp only [List.mem_cons, List.not_mem_nil, or_false] at hq ⊢; rcases hq with rfl | rfl | rfl | rfl <;> simp) ?_
              exact J103_1040 x32_3_791 ⟨by omega, by omega⟩ _ hB1046 (FrM.a FrM.rf rfl rfl)
            · refine g_aload_n dX12_mostBy_91 rfl ?_
              refine m_g97 rfl dX12_mostBy_92 ?_
              refine g_iload dX12_mostBy_95 rfl ?_
              refine m_l63 (z := r1045) dX12_mostBy_97 ⟨by omega, by omega⟩ up_same ?_
              refine g_goto (tgt := 102) dX12_mostBy_98 (by decide) ?_
              refine g_istore_n (l1 := [(3, vI r1045), (5, vI (rc1044 + 1)), (0, vR 0), (2, vI rc1), (4, vI x32_4_791)]) dX12_mostBy_102 (by decide) rfl ?_
              refine g_forget (l1 := [(0, vR 0), (2, vI rc1), (3, vI r1045), (4, vI x32_4_791)]) (by intro q hq; simp only [List.mem_cons, List.not_mem_nil, or_false] at hq ⊢; rcases hq with rfl | rfl | rfl | rfl <;> simp) ?_
              exact J103_1040 r1045 ⟨by omega, by omega⟩ _ hB1046 (FrM.a FrM.rf rfl rfl)
          · refine g_goto (tgt := 103) dX12_mostBy_50 (by decide) ?_
            refine g_forget (l1 := [(0, vR 0), (2, vI rc1), (3, vI x32_3_791), (4, vI x32_4_791)]) (by intro q hq; simp only [List.mem_cons, List.not_mem_nil, or_false] at hq ⊢; rcases hq with rfl | rfl | rfl | rfl <;> simp) ?_
            exact J103_1040 x32_3_791 ⟨by omega, by omega⟩ _ hB32_791 FrM.rf
      refine g_forget (l1 := [(0, vR 0), (2, vI rc1), (3, vI 0), (4, vI 0)]) (by intro q hq; simp only [List.mem_cons, List.not_mem_nil, or_false] at hq ⊢; rcases hq with rfl | rfl | rfl | rfl <;> simp) ?_
      exact L32_791 _ 0 (by decide) 0 (by decide) _ hB8_1 FrM.rf (Nat.lt_succ_self _)
    · refine g_aload_n dX12_mostBy_14 rfl ?_
      refine m_g97 rfl dX12_mostBy_15 ?_
      refine g_iload_n dX12_mostBy_18 rfl ?_
      refine g_iconst dX12_mostBy_19 ?_
      refine m_s63 dX12_mostBy_20 ⟨by omega, by omega⟩ ?_
      have hB1048 := ba_63 (z := 0) (k := x8_3_1) hB8_1 (by decide)
      refine g_iinc (l1 := [(3, vI (x8_3_1 + 1)), (0, vR 0), (2, vI rc1)]) dX12_mostBy_21 rfl (by decide) rfl ?_
      refine g_goto (tgt := 8) dX12_mostBy_24 (by decide) ?_
      refine g_forget (l1 := [(0, vR 0), (2, vI rc1), (3, vI (x8_3_1 + 1))]) (by intro q hq; simp only [List.mem_cons, List.not_mem_nil, or_false] at hq ⊢; rcases hq with rfl | rfl | rfl <;> simp) ?_
      exact ih8_1 (x8_3_1 + 1) ⟨by omega, by omega⟩ _ hB1048 (FrM.a (FrM.c FrM.rf hE8_1 rfl) rfl rfl) (by omega)
  refine g_forget (l1 := [(0, vR 0), (2, vI rc1), (3, vI 0)]) (by intro q hq; simp only [List.mem_cons, List.not_mem_nil, or_false] at hq ⊢; rcases hq with rfl | rfl | rfl <;> simp) ?_
  exact L8_1 _ 0 (by decide) _ hBc1 FrM.rf (Nat.lt_succ_self _)
set_option maxRecDepth 100000 in
set_option maxHeartbeats 4000000 in
theorem m_X12_tells (G : GT) (P : PH) (a1 : Int) (h_a1 : (-2147483648) ≤ a1 ∧ a1 ≤ 2147483647) (hB : BdM P) (p_st : P 0 74 ≤ 199999999) (v_okC : okC P) (v_MVw : MVw P) (v_RE : RE P) (Q : Option PV → PH → Prop) (hQ : ∀ (r : Int) (_ : (-2147483648) ≤ r ∧ r ≤ 2147483647) (P1 : PH) (_ : BdM P1) (_ : FrM ([62, 66, 74], [41, 42, 43, 44, 61, 62, 63]) P P1) (_ : P1 0 74 ≤ P 0 74 + 1) (_ : MVw P1) (_ : RE P1), Q (some (vI r)) P1) : Ct WSM G 6 iX12_tells [vR 0, vI a1] P Q := by
  refine Ct.of (by decide) (l0 := [(0, vR 0), (1, vI a1)]) rfl (Nat.le_of_ble_eq_true rfl) ?_
  refine g_aload_n dX12_tells_0 rfl ?_
  refine m_g44 (z := (P 0 44)) rfl dX12_tells_1 rfl ?_
  have f1 := b0_44 hB
  refine g_if_eq (tgt := 16) dX12_tells_4 (by decide) ⟨by have q0 := b0_44 hB; omega, by have q0 := b0_44 hB; omega⟩ (fun k2 => ?_) (fun k2 => ?_)
  · refine g_iconst dX12_tells_16 ?_
    exact g_retI dX12_tells_17 rfl (hQ (-1) (by decide) _ hB FrM.rf (by have q0 := b0_74 hB; omega) v_MVw v_RE)
  · refine g_iload_n dX12_tells_7 rfl ?_
    refine g_iconst dX12_tells_8 ?_
    refine g_iconst dX12_tells_9 ?_
    refine g_sI (av := [vI a1, vI 0, vI 1]) (st := []) (m_X12_is G P a1 0 1 ⟨by omega, by omega⟩ (by decide) (by decide) hB  _ (fun rc3 hc3 gc3_is => ⟨rc3, rfl, ?_⟩)) cf_X12_is t_1800 rfl (Nat.le_of_ble_eq_true rfl) (by decide) rfl dX12_tells_10
    refine g_if_ne (tgt := 18) dX12_tells_13 (by decide) ⟨by omega, by omega⟩ (fun k4 => ?_) (fun k4 => ?_)
    · refine g_aload_n dX12_tells_18 rfl ?_
      refine g_vI (av := []) (o := 0) (st := []) (m_X12_leaves G P  hB (by have q0 := b0_74 hB; omega) v_okC v_MVw v_RE _ (fun rc5 hc5 Pc5 hBc5 hFc5 gc5_st vc5_MVw vc5_RE => ⟨rc5, rfl, ?_⟩)) cf_X12_leaves t_2115 rfl (by decide) rfl rfl rfl (Nat.le_of_ble_eq_true rfl) (by decide) rfl dX12_tells_19
      refine g_istore_n (l1 := [(2, vI rc5), (0, vR 0), (1, vI a1)]) dX12_tells_22 (by decide) rfl ?_
      refine g_iconst dX12_tells_23 ?_
      refine g_istore_n (l1 := [(3, vI (-1)), (2, vI rc5), (0, vR 0), (1, vI a1)]) dX12_tells_24 (by decide) rfl ?_
      refine g_ldcw (z := 100000000) dX12_tells_25 t_2123 (by decide) ?_
      refine g_istore (l1 := [(4, vI 100000000), (3, vI (-1)), (2, vI rc5), (0, vR 0), (1, vI a1)]) dX12_tells_28 (by decide) rfl ?_
      refine g_iconst dX12_tells_30 ?_
      refine g_istore (l1 := [(5, vI 0), (4, vI 100000000), (3, vI (-1)), (2, vI rc5), (0, vR 0), (1, vI a1)]) dX12_tells_31 (by decide) rfl ?_
      have L33_5 : ∀ (n33_5 : Nat) (x33_5_5 : Int) (h_x33_5_5 : 0 ≤ x33_5_5 ∧ x33_5_5 ≤ 1000) (x33_4_5 : Int) (h_x33_4_5 : (-2147483648) ≤ x33_4_5 ∧ x33_4_5 ≤ 100000000) (x33_3_5 : Int) (h_x33_3_5 : (-1) ≤ x33_3_5 ∧ x33_3_5 ≤ 999) (H33_5 : PH) (hB33_5 : BdM H33_5) (hE33_5 : FrM ([], [44, 63]) Pc5 H33_5) (hm33_5 : ((1001 - x33_5_5) : Int).toNat < n33_5), Go WSM G 6 iX12_tells 33 [(0, vR 0), (1, vI a1), (2, vI rc5), (3, vI x33_3_5), (4, vI x33_4_5), (5, vI x33_5_5)] [] H33_5 Q := by
        intro n33_5
        induction n33_5 with
        | zero => intro x33_5_5 h_x33_5_5 x33_4_5 h_x33_4_5 x33_3_5 h_x33_3_5 H33_5 hB33_5 hE33_5 hm33_5; exact absurd hm33_5 (Nat.not_lt_zero _)
        | succ n33_5 ih33_5 =>
        intro x33_5_5 h_x33_5_5 x33_4_5 h_x33_4_5 x33_3_5 h_x33_3_5 H33_5 hB33_5 hE33_5 hm33_5
        refine g_iload dX12_tells_33 rfl ?_
        refine g_aload_n dX12_tells_35 rfl ?_
        refine m_g52 (z := (P 0 52)) rfl dX12_tells_36 ((hE33_5.1 52 rfl).trans ((hFc5.1 52 rfl).trans rfl)) ?_
        have f161 := b0_52 hB
        refine g_icmp_ge (tgt := 85) dX12_tells_39 (by decide) ⟨by omega, by omega⟩ ⟨by have q0 := b0_52 hB; omega, by have q0 := b0_52 hB; omega⟩ (fun k162 => ?_) (fun k162 => ?_)
        · refine g_iload_n dX12_tells_85 rfl ?_
          refine g_iconst dX12_tells_86 ?_
          refine g_icmp_eq (tgt := 94) dX12_tells_87 (by decide) ⟨by omega, by omega⟩ (by decide) (fun k163 => ?_) (fun k163 => ?_)
          · refine g_iload_n dX12_tells_94 rfl ?_
            refine g_goto (tgt := 100) dX12_tells_95 (by decide) ?_
            exact g_retI dX12_tells_100 rfl (hQ x33_3_5 ⟨by omega, by omega⟩ _ hB33_5 (FrM.c (FrM.c FrM.rf hFc5 rfl) hE33_5 rfl) (by have q0 := (((hE33_5.1 74 rfl).trans rfl) : H33_5 0 74 = (Pc5 0 74)); have q1 := b0_74 hBc5; omega) (MVw.fr (F := ([], [44, 63])) vc5_MVw (FrM.c FrM.rf hE33_5 rfl) rfl) (RE.fr (F := ([], [44, 63])) vc5_RE (FrM.c FrM.rf hE33_5 rfl) rfl))
          · refine g_iload_n dX12_tells_90 rfl ?_
            refine g_if_ne (tgt := 98) dX12_tells_91 (by decide) ⟨by omega, by omega⟩ (fun k164 => ?_) (fun k164 => ?_)
            · refine g_iload dX12_tells_98 rfl ?_
              exact g_retI dX12_tells_100 rfl (hQ x33_4_5 ⟨by omega, by omega⟩ _ hB33_5 (FrM.c (FrM.c FrM.rf hFc5 rfl) hE33_5 rfl) (by have q0 := (((hE33_5.1 74 rfl).trans rfl) : H33_5 0 74 = (Pc5 0 74)); have q1 := b0_74 hBc5; omega) (MVw.fr (F := ([], [44, 63])) vc5_MVw (FrM.c FrM.rf hE33_5 rfl) rfl) (RE.fr (F := ([], [44, 63])) vc5_RE (FrM.c FrM.rf hE33_5 rfl) rfl))
            · refine g_iload_n dX12_tells_94 rfl ?_
              refine g_goto (tgt := 100) dX12_tells_95 (by decide) ?_
              exact g_retI dX12_tells_100 rfl (hQ x33_3_5 ⟨by omega, by omega⟩ _ hB33_5 (FrM.c (FrM.c FrM.rf hFc5 rfl) hE33_5 rfl) (by have q0 := (((hE33_5.1 74 rfl).trans rfl) : H33_5 0 74 = (Pc5 0 74)); have q1 := b0_74 hBc5; omega) (MVw.fr (F := ([], [44, 63])) vc5_MVw (FrM.c FrM.rf hE33_5 rfl) rfl) (RE.fr (F := ([], [44, 63])) vc5_RE (FrM.c FrM.rf hE33_5 rfl) rfl))
        · refine g_iload dX12_tells_42 rfl ?_
          refine g_sipush dX12_tells_44 (by decide) ?_
          refine g_icmp_ge (tgt := 85) dX12_tells_47 (by decide) ⟨by omega, by omega⟩ (by decide) (fun k165 => ?_) (fun k165 => ?_)
          · refine g_iload_n dX12_tells_85 rfl ?_
            refine g_iconst dX12_tells_86 ?_
            refine g_icmp_eq (tgt := 94) dX12_tells_87 (by decide) ⟨by omega, by omega⟩ (by decide) (fun k166 => ?_) (fun k166 => ?_)
            · refine g_iload_n dX12_tells_94 rfl ?_
              refine g_goto (tgt := 100) dX12_tells_95 (by decide) ?_
              exact g_retI dX12_tells_100 rfl (hQ x33_3_5 ⟨by omega, by omega⟩ _ hB33_5 (FrM.c (FrM.c FrM.rf hFc5 rfl) hE33_5 rfl) (by have q0 := (((hE33_5.1 74 rfl).trans rfl) : H33_5 0 74 = (Pc5 0 74)); have q1 := b0_74 hBc5; omega) (MVw.fr (F := ([], [44, 63])) vc5_MVw (FrM.c FrM.rf hE33_5 rfl) rfl) (RE.fr (F := ([], [44, 63])) vc5_RE (FrM.c FrM.rf hE33_5 rfl) rfl))
            · refine g_iload_n dX12_tells_90 rfl ?_
              refine g_if_ne (tgt := 98) dX12_tells_91 (by decide) ⟨by omega, by omega⟩ (fun k167 => ?_) (fun k167 => ?_)
              · refine g_iload dX12_tells_98 rfl ?_
                exact g_retI dX12_tells_100 rfl (hQ x33_4_5 ⟨by omega, by omega⟩ _ hB33_5 (FrM.c (FrM.c FrM.rf hFc5 rfl) hE33_5 rfl) (by have q0 := (((hE33_5.1 74 rfl).trans rfl) : H33_5 0 74 = (Pc5 0 74)); have q1 := b0_74 hBc5; omega) (MVw.fr (F := ([], [44, 63])) vc5_MVw (FrM.c FrM.rf hE33_5 rfl) rfl) (RE.fr (F := ([], [44, 63])) vc5_RE (FrM.c FrM.rf hE33_5 rfl) rfl))
              · refine g_iload_n dX12_tells_94 rfl ?_
                refine g_goto (tgt := 100) dX12_tells_95 (by decide) ?_
                exact g_retI dX12_tells_100 rfl (hQ x33_3_5 ⟨by omega, by omega⟩ _ hB33_5 (FrM.c (FrM.c FrM.rf hFc5 rfl) hE33_5 rfl) (by have q0 := (((hE33_5.1 74 rfl).trans rfl) : H33_5 0 74 = (Pc5 0 74)); have q1 := b0_74 hBc5; omega) (MVw.fr (F := ([], [44, 63])) vc5_MVw (FrM.c FrM.rf hE33_5 rfl) rfl) (RE.fr (F := ([], [44, 63])) vc5_RE (FrM.c FrM.rf hE33_5 rfl) rfl))
          · refine g_iload_n dX12_tells_50 rfl ?_
            refine g_if_le (tgt := 85) dX12_tells_51 (by decide) ⟨by omega, by omega⟩ (fun k168 => ?_) (fun k168 => ?_)
            · refine g_iload_n dX12_tells_85 rfl ?_
              refine g_iconst dX12_tells_86 ?_
              refine g_icmp_eq (tgt := 94) dX12_tells_87 (by decide) ⟨by omega, by omega⟩ (by decide) (fun k169 => ?_) (fun k169 => ?_)
              · refine g_iload_n dX12_tells_94 rfl ?_
                refine g_goto (tgt := 100) dX12_tells_95 (by decide) ?_
                exact g_retI dX12_tells_100 rfl (hQ x33_3_5 ⟨by omega, by omega⟩ _ hB33_5 (FrM.c (FrM.c FrM.rf hFc5 rfl) hE33_5 rfl) (by have q0 := (((hE33_5.1 74 rfl).trans rfl) : H33_5 0 74 = (Pc5 0 74)); have q1 := b0_74 hBc5; omega) (MVw.fr (F := ([], [44, 63])) vc5_MVw (FrM.c FrM.rf hE33_5 rfl) rfl) (RE.fr (F := ([], [44, 63])) vc5_RE (FrM.c FrM.rf hE33_5 rfl) rfl))
              · refine g_iload_n dX12_tells_90 rfl ?_
                refine g_if_ne (tgt := 98) dX12_tells_91 (by decide) ⟨by omega, by omega⟩ (fun k170 => ?_) (fun k170 => ?_)
                · refine g_iload dX12_tells_98 rfl ?_
                  exact g_retI dX12_tells_100 rfl (hQ x33_4_5 ⟨by omega, by omega⟩ _ hB33_5 (FrM.c (FrM.c FrM.rf hFc5 rfl) hE33_5 rfl) (by have q0 := (((hE33_5.1 74 rfl).trans rfl) : H33_5 0 74 = (Pc5 0 74)); have q1 := b0_74 hBc5; omega) (MVw.fr (F := ([], [44, 63])) vc5_MVw (FrM.c FrM.rf hE33_5 rfl) rfl) (RE.fr (F := ([], [44, 63])) vc5_RE (FrM.c FrM.rf hE33_5 rfl) rfl))
                · refine g_iload_n dX12_tells_94 rfl ?_
                  refine g_goto (tgt := 100) dX12_tells_95 (by decide) ?_
                  exact g_retI dX12_tells_100 rfl (hQ x33_3_5 ⟨by omega, by omega⟩ _ hB33_5 (FrM.c (FrM.c FrM.rf hFc5 rfl) hE33_5 rfl) (by have q0 := (((hE33_5.1 74 rfl).trans rfl) : H33_5 0 74 = (Pc5 0 74)); have q1 := b0_74 hBc5; omega) (MVw.fr (F := ([], [44, 63])) vc5_MVw (FrM.c FrM.rf hE33_5 rfl) rfl) (RE.fr (F := ([], [44, 63])) vc5_RE (FrM.c FrM.rf hE33_5 rfl) rfl))
            · refine g_aload_n dX12_tells_54 rfl ?_
              refine g_iload dX12_tells_55 rfl ?_
              refine g_vI (av := [vI x33_5_5]) (o := 0) (st := []) (m_X12_mostBy G H33_5 x33_5_5 ⟨by omega, by omega⟩ hB33_5 (okC.fr (F := ([62, 66, 74], [41, 42, 43, 44, 61, 62, 63])) v_okC (FrM.c (FrM.c FrM.rf hFc5 rfl) hE33_5 rfl) rfl) _ (fun rc171 hc171 Pc171 hBc171 hFc171 => ⟨rc171, rfl, ?_⟩)) cf_X12_mostBy t_2124 rfl (by decide) rfl rfl rfl (Nat.le_of_ble_eq_true rfl) (by decide) rfl dX12_tells_57
              refine g_istore (l1 := [(6, vI rc171), (0, vR 0), (1, vI a1), (2, vI rc5), (3, vI x33_3_5), (4, vI x33_4_5), (5, vI x33_5_5)]) dX12_tells_60 (by decide) rfl ?_
              refine g_iload dX12_tells_62 rfl ?_
              refine g_iload dX12_tells_64 rfl ?_
              refine g_icmp_lt (tgt := 72) dX12_tells_66 (by decide) ⟨by omega, by omega⟩ ⟨by omega, by omega⟩ (fun k172 => ?_) (fun k172 => ?_)
              · refine g_iload dX12_tells_72 rfl ?_
                refine g_istore (l1 := [(4, vI rc171), (6, vI rc171), (0, vR 0), (1, vI a1), (2, vI rc5), (3, vI x33_3_5), (5, vI x33_5_5)]) dX12_tells_74 (by decide) rfl ?_
                refine g_iload dX12_tells_76 rfl ?_
                refine g_istore_n (l1 := [(3, vI x33_5_5), (4, vI rc171), (6, vI rc171), (0, vR 0), (1, vI a1), (2, vI rc5), (5, vI x33_5_5)]) dX12_tells_78 (by decide) rfl ?_
                refine g_iinc (l1 := [(5, vI (x33_5_5 + 1)), (3, vI x33_5_5), (4, vI rc171), (6, vI rc171), (0, vR 0), (1, vI a1), (2, vI rc5)]) dX12_tells_79 rfl (by decide) rfl ?_
                refine g_goto (tgt := 33) dX12_tells_82 (by decide) ?_
                refine g_forget (l1 := [(0, vR 0), (1, vI a1), (2, vI rc5), (3, vI x33_5_5), (4, vI rc171), (5, vI (x33_5_5 + 1))]) (by intro q hq; simp only [List.mem_cons, List.not_mem_nil, or_false] at hq ⊢; rcases hq with rfl | rfl | rfl | rfl | rfl | rfl <;> simp) ?_
                exact ih33_5 (x33_5_5 + 1) ⟨by omega, by omega⟩ rc171 ⟨by omega, by omega⟩ x33_5_5 ⟨by omega, by omega⟩ _ hBc171 (FrM.c (FrM.c FrM.rf hE33_5 rfl) hFc171 rfl) (by omega)
              · refine g_goto (tgt := 79) dX12_tells_69 (by decide) ?_
                refine g_iinc (l1 := [(5, vI (x33_5_5 + 1)), (6, vI rc171), (0, vR 0), (1, vI a1), (2, vI rc5), (3, vI x33_3_5), (4, vI x33_4_5)]) dX12_tells_79 rfl (by decide) rfl ?_
                refine g_goto (tgt := 33) dX12_tells_82 (by decide) ?_
                refine g_forget (l1 := [(0, vR 0), (1, vI a1), (2, vI rc5), (3, vI x33_3_5), (4, vI x33_4_5), (5, vI (x33_5_5 + 1))]) (by intro q hq; simp only [List.mem_cons, List.not_mem_nil, or_false] at hq ⊢; rcases hq with rfl | rfl | rfl | rfl | rfl | rfl <;> simp) ?_
                exact ih33_5 (x33_5_5 + 1) ⟨by omega, by omega⟩ x33_4_5 ⟨by omega, by omega⟩ x33_3_5 ⟨by omega, by omega⟩ _ hBc171 (FrM.c (FrM.c FrM.rf hE33_5 rfl) hFc171 rfl) (by omega)
      refine g_forget (l1 := [(0, vR 0), (1, vI a1), (2, vI rc5), (3, vI (-1)), (4, vI 100000000), (5, vI 0)]) (by intro q hq; simp only [List.mem_cons, List.not_mem_nil, or_false] at hq ⊢; rcases hq with rfl | rfl | rfl | rfl | rfl | rfl <;> simp) ?_
      exact L33_5 _ 0 (by decide) 100000000 (by decide) (-1) (by decide) _ hBc5 FrM.rf (Nat.lt_succ_self _)
    · refine g_iconst dX12_tells_16 ?_
      exact g_retI dX12_tells_17 rfl (hQ (-1) (by decide) _ hB FrM.rf (by have q0 := b0_74 hB; omega) v_MVw v_RE)
set_option maxRecDepth 100000 in
set_option maxHeartbeats 4000000 in
theorem m_X12_isSafe (G : GT) (P : PH) (a1 : Int) (a2 : Int) (h_a1 : 0 ≤ a1 ∧ a1 ≤ 11) (h_a2 : 0 ≤ a2 ∧ a2 ≤ 11) (hB : BdM P) (Q : Option PV → PH → Prop) (hQ : ∀ (r : Int) (_ : 0 ≤ r ∧ r ≤ 1), Q (some (vI r)) P) : Ct WSM G 2 iX12_isSafe [vR 0, vI a1, vI a2] P Q := by
  refine Ct.of (by decide) (l0 := [(0, vR 0), (1, vI a1), (2, vI a2)]) rfl (Nat.le_of_ble_eq_true rfl) ?_
  refine g_iconst dX12_isSafe_0 ?_
  refine g_istore_n (l1 := [(3, vI 0), (0, vR 0), (1, vI a1), (2, vI a2)]) dX12_isSafe_1 (by decide) rfl ?_
  have L2_0 : ∀ (n2_0 : Nat) (x2_3_0 : Int) (h_x2_3_0 : 0 ≤ x2_3_0 ∧ x2_3_0 ≤ 256) (hm2_0 : ((257 - x2_3_0) : Int).toNat < n2_0), Go WSM G 2 iX12_isSafe 2 [(0, vR 0), (1, vI a1), (2, vI a2), (3, vI x2_3_0)] [] P Q := by
    intro n2_0
    induction n2_0 with
    | zero => intro x2_3_0 h_x2_3_0 hm2_0; exact absurd hm2_0 (Nat.not_lt_zero _)
    | succ n2_0 ih2_0 =>
    intro x2_3_0 h_x2_3_0 hm2_0
    refine g_iload_n dX12_isSafe_2 rfl ?_
    refine g_sipush dX12_isSafe_3 (by decide) ?_
    refine g_icmp_ge (tgt := 101) dX12_isSafe_6 (by decide) ⟨by omega, by omega⟩ (by decide) (fun k3161 => ?_) (fun k3161 => ?_)
    · refine g_iconst dX12_isSafe_101 ?_
      exact g_retZ dX12_isSafe_102 rfl (by decide) (hQ 1 (by decide) )
    · refine g_aload_n dX12_isSafe_9 rfl ?_
      refine g_iload_n dX12_isSafe_10 rfl ?_
      refine g_vI (av := [vI x2_3_0]) (o := 0) (st := []) (m_X12_openBy G P x2_3_0 ⟨by omega, by omega⟩ hB  _ (fun rc3162 hc3162 => ⟨rc3162, rfl, ?_⟩)) cf_X12_openBy t_1923 rfl (by decide) rfl rfl rfl (Nat.le_of_ble_eq_true rfl) (by decide) rfl dX12_isSafe_11
      refine g_istore (l1 := [(4, vI rc3162), (0, vR 0), (1, vI a1), (2, vI a2), (3, vI x2_3_0)]) dX12_isSafe_14 (by decide) rfl ?_
      refine g_iconst dX12_isSafe_16 ?_
      refine g_istore (l1 := [(5, vI 0), (4, vI rc3162), (0, vR 0), (1, vI a1), (2, vI a2), (3, vI x2_3_0)]) dX12_isSafe_17 (by decide) rfl ?_
      have L19_3162 : ∀ (n19_3162 : Nat) (x19_5_3162 : Int) (h_x19_5_3162 : 0 ≤ x19_5_3162 ∧ x19_5_3162 ≤ 4096) (hm19_3162 : ((4097 - x19_5_3162) : Int).toNat < n19_3162), Go WSM G 2 iX12_isSafe 19 [(0, vR 0), (1, vI a1), (2, vI a2), (3, vI x2_3_0), (4, vI rc3162), (5, vI x19_5_3162)] [] P Q := by
        intro n19_3162
        induction n19_3162 with
        | zero => intro x19_5_3162 h_x19_5_3162 hm19_3162; exact absurd hm19_3162 (Nat.not_lt_zero _)
        | succ n19_3162 ih19_3162 =>
        intro x19_5_3162 h_x19_5_3162 hm19_3162
        refine g_iload dX12_isSafe_19 rfl ?_
        refine g_sipush dX12_isSafe_21 (by decide) ?_
        refine g_icmp_ge (tgt := 95) dX12_isSafe_24 (by decide) ⟨by omega, by omega⟩ (by decide) (fun k3392 => ?_) (fun k3392 => ?_)
        · refine g_iinc (l1 := [(3, vI (x2_3_0 + 1)), (0, vR 0), (1, vI a1), (2, vI a2), (4, vI rc3162), (5, vI x19_5_3162)]) dX12_isSafe_95 rfl (by decide) rfl ?_
          refine g_goto (tgt := 2) dX12_isSafe_98 (by decide) ?_
          refine g_forget (l1 := [(0, vR 0), (1, vI a1), (2, vI a2), (3, vI (x2_3_0 + 1))]) (by intro q hq; simp only [List.mem_cons, List.not_mem_nil, or_false] at hq ⊢; rcases hq with rfl | rfl | rfl | rfl <;> simp) ?_
          exact ih2_0 (x2_3_0 + 1) ⟨by omega, by omega⟩ (by omega)
        · refine g_aload_n dX12_isSafe_27 rfl ?_
          refine m_g68 rfl dX12_isSafe_28 ?_
          refine g_iload dX12_isSafe_31 rfl ?_
          refine m_l45 (z := (P 45 x19_5_3162)) dX12_isSafe_33 ⟨by omega, by omega⟩ rfl ?_
          have f3393 := bl_45 (k := x19_5_3162) hB
          refine g_if_ne (tgt := 40) dX12_isSafe_34 (by decide) ⟨by have q0 := bl_45 (k := x19_5_3162) hB; omega, by have q0 := bl_45 (k := x19_5_3162) hB; omega⟩ (fun k3394 => ?_) (fun k3394 => ?_)
          · refine g_iload dX12_isSafe_40 rfl ?_
            refine g_iload dX12_isSafe_42 rfl ?_
            refine g_iand dX12_isSafe_44 ?_
            refine g_nm (fun b3395 e_b3395 => ?_)
            have h_b3395 := iand_l (x := x19_5_3162) (y := rc3162) ⟨by omega, by omega⟩
            rw [← e_b3395] at h_b3395
            refine g_sI (av := [vI b3395]) (st := []) (m_X12_lowest G P b3395 ⟨by omega, by omega⟩ hB  _ (fun rc3396 hc3396 gc3396_l gc3396_b => ⟨rc3396, rfl, ?_⟩)) cf_X12_lowest t_1927 rfl (Nat.le_of_ble_eq_true rfl) (by decide) rfl dX12_isSafe_45
            refine g_istore (l1 := [(6, vI rc3396), (0, vR 0), (1, vI a1), (2, vI a2), (3, vI x2_3_0), (4, vI rc3162), (5, vI x19_5_3162)]) dX12_isSafe_48 (by decide) rfl ?_
            refine g_iload dX12_isSafe_50 rfl ?_
            refine g_iload dX12_isSafe_52 rfl ?_
            refine g_iand dX12_isSafe_54 ?_
            refine g_nm (fun b3397 e_b3397 => ?_)
            have h_b3397 := iand_l (x := x19_5_3162) (y := rc3162) ⟨by omega, by omega⟩
            rw [← e_b3397] at h_b3397
            refine g_iload_n dX12_isSafe_55 rfl ?_
            refine g_iload_n dX12_isSafe_56 rfl ?_
            refine g_sI (av := [vI b3397, vI a1, vI a2]) (st := []) (m_X12_swapped G P b3397 a1 a2 ⟨by omega, by omega⟩ ⟨by omega, by omega⟩ ⟨by omega, by omega⟩ hB  _ (fun rc3398 hc3398 => ⟨rc3398, rfl, ?_⟩)) cf_X12_swapped t_2093 rfl (Nat.le_of_ble_eq_true rfl) (by decide) rfl dX12_isSafe_57
            refine g_sI (av := [vI rc3398]) (st := []) (m_X12_lowest G P rc3398 ⟨by omega, by omega⟩ hB  _ (fun rc3399 hc3399 gc3399_l gc3399_b => ⟨rc3399, rfl, ?_⟩)) cf_X12_lowest t_1927 rfl (Nat.le_of_ble_eq_true rfl) (by decide) rfl dX12_isSafe_60
            refine g_istore (l1 := [(7, vI rc3399), (6, vI rc3396), (0, vR 0), (1, vI a1), (2, vI a2), (3, vI x2_3_0), (4, vI rc3162), (5, vI x19_5_3162)]) dX12_isSafe_63 (by decide) rfl ?_
            refine g_iload dX12_isSafe_65 rfl ?_
            refine g_iload dX12_isSafe_67 rfl ?_
            refine g_iconst dX12_isSafe_69 ?_
            refine g_icmp_ne (tgt := 77) dX12_isSafe_70 (by decide) ⟨by omega, by omega⟩ (by decide) (fun k3400 => ?_) (fun k3400 => ?_)
            · refine g_iload dX12_isSafe_77 rfl ?_
              refine g_iload_n dX12_isSafe_79 rfl ?_
              refine g_iload_n dX12_isSafe_80 rfl ?_
              refine g_sI (av := [vI rc3399, vI a1, vI a2]) (st := [vI rc3396]) (m_X12_moved G P rc3399 a1 a2 ⟨by omega, by omega⟩ ⟨by omega, by omega⟩ ⟨by omega, by omega⟩ hB  _ (fun rc3401 hc3401 => ⟨rc3401, rfl, ?_⟩)) cf_X12_moved t_2096 rfl (Nat.le_of_ble_eq_true rfl) (by decide) rfl dX12_isSafe_81
              refine g_icmp_eq (tgt := 89) dX12_isSafe_84 (by decide) ⟨by omega, by omega⟩ ⟨by omega, by omega⟩ (fun k3402 => ?_) (fun k3402 => ?_)
              · refine g_iinc (l1 := [(5, vI (x19_5_3162 + 1)), (7, vI rc3399), (6, vI rc3396), (0, vR 0), (1, vI a1), (2, vI a2), (3, vI x2_3_0), (4, vI rc3162)]) dX12_isSafe_89 rfl (by decide) rfl ?_
                refine g_goto (tgt := 19) dX12_isSafe_92 (by decide) ?_
                refine g_forget (l1 := [(0, vR 0), (1, vI a1), (2, vI a2), (3, vI x2_3_0), (4, vI rc3162), (5, vI (x19_5_3162 + 1))]) (by intro q hq; simp only [List.mem_cons, List.not_mem_nil, or_false] at hq ⊢; rcases hq with rfl | rfl | rfl | rfl | rfl | rfl <;> simp) ?_
                exact ih19_3162 (x19_5_3162 + 1) ⟨by omega, by omega⟩ (by omega)
              · refine g_iconst dX12_isSafe_87 ?_
                exact g_retZ dX12_isSafe_88 rfl (by decide) (hQ 0 (by decide) )
            · refine g_iconst dX12_isSafe_73 ?_
              refine g_goto (tgt := 84) dX12_isSafe_74 (by decide) ?_
              refine g_icmp_eq (tgt := 89) dX12_isSafe_84 (by decide) ⟨by omega, by omega⟩ (by decide) (fun k3403 => ?_) (fun k3403 => ?_)
              · refine g_iinc (l1 := [(5, vI (x19_5_3162 + 1)), (7, vI rc3399), (6, vI rc3396), (0, vR 0), (1, vI a1), (2, vI a2), (3, vI x2_3_0), (4, vI rc3162)]) dX12_isSafe_89 rfl (by decide) rfl ?_
                refine g_goto (tgt := 19) dX12_isSafe_92 (by decide) ?_
                refine g_forget (l1 := [(0, vR 0), (1, vI a1), (2, vI a2), (3, vI x2_3_0), (4, vI rc3162), (5, vI (x19_5_3162 + 1))]) (by intro q hq; simp only [List.mem_cons, List.not_mem_nil, or_false] at hq ⊢; rcases hq with rfl | rfl | rfl | rfl | rfl | rfl <;> simp) ?_
                exact ih19_3162 (x19_5_3162 + 1) ⟨by omega, by omega⟩ (by omega)
              · refine g_iconst dX12_isSafe_87 ?_
                exact g_retZ dX12_isSafe_88 rfl (by decide) (hQ 0 (by decide) )
          · refine g_goto (tgt := 89) dX12_isSafe_37 (by decide) ?_
            refine g_iinc (l1 := [(5, vI (x19_5_3162 + 1)), (0, vR 0), (1, vI a1), (2, vI a2), (3, vI x2_3_0), (4, vI rc3162)]) dX12_isSafe_89 rfl (by decide) rfl ?_
            refine g_goto (tgt := 19) dX12_isSafe_92 (by decide) ?_
            refine g_forget (l1 := [(0, vR 0), (1, vI a1), (2, vI a2), (3, vI x2_3_0), (4, vI rc3162), (5, vI (x19_5_3162 + 1))]) (by intro q hq; simp only [List.mem_cons, List.not_mem_nil, or_false] at hq ⊢; rcases hq with rfl | rfl | rfl | rfl | rfl | rfl <;> simp) ?_
            exact ih19_3162 (x19_5_3162 + 1) ⟨by omega, by omega⟩ (by omega)
      refine g_forget (l1 := [(0, vR 0), (1, vI a1), (2, vI a2), (3, vI x2_3_0), (4, vI rc3162), (5, vI 0)]) (by intro q hq; simp only [List.mem_cons, List.not_mem_nil, or_false] at hq ⊢; rcases hq with rfl | rfl | rfl | rfl | rfl | rfl <;> simp) ?_
      exact L19_3162 _ 0 (by decide) (Nat.lt_succ_self _)
  refine g_forget (l1 := [(0, vR 0), (1, vI a1), (2, vI a2), (3, vI 0)]) (by intro q hq; simp only [List.mem_cons, List.not_mem_nil, or_false] at hq ⊢; rcases hq with rfl | rfl | rfl | rfl <;> simp) ?_
  exact L2_0 _ 0 (by decide) (Nat.lt_succ_self _)
set_option maxRecDepth 100000 in
set_option maxHeartbeats 4000000 in
theorem m_X12_safe (G : GT) (P : PH) (a1 : Int) (a2 : Int) (h_a1 : (-2147483648) ≤ a1 ∧ a1 ≤ 2147483647) (h_a2 : (-2147483648) ≤ a2 ∧ a2 ≤ 2147483647) (hB : BdM P) (p_st : P 0 74 ≤ 199999999) (v_okC : okC P) (v_MVw : MVw P) (v_RE : RE P) (Q : Option PV → PH → Prop) (hQ : ∀ (r : Int) (_ : (-2147483648) ≤ r ∧ r ≤ 2147483647) (P1 : PH) (_ : BdM P1) (_ : FrM ([62, 66, 74], [41, 42, 43, 44, 45]) P P1) (_ : P1 0 74 ≤ P 0 74 + 1) (_ : MVw P1) (_ : RE P1), Q (some (vI r)) P1) : Ct WSM G 6 iX12_safe [vR 0, vI a1, vI a2] P Q := by
  refine Ct.of (by decide) (l0 := [(0, vR 0), (1, vI a1), (2, vI a2)]) rfl (Nat.le_of_ble_eq_true rfl) ?_
  refine g_aload_n dX12_safe_0 rfl ?_
  refine g_iload_n dX12_safe_1 rfl ?_
  refine g_vI (av := [vI a1]) (o := 0) (st := []) (m_X12_isPlace G P a1 ⟨by omega, by omega⟩ hB  _ (fun rc1 hc1 gc1_p => ⟨rc1, rfl, ?_⟩)) cf_X12_isPlace t_1883 rfl (by decide) rfl rfl rfl (Nat.le_of_ble_eq_true rfl) (by decide) rfl dX12_safe_2
  have f2 := b0_44 hB
  have f3 := bl_35 (k := 0) hB
  refine g_if_eq (tgt := 16) dX12_safe_5 (by decide) ⟨by omega, by omega⟩ (fun k4 => ?_) (fun k4 => ?_)
  · refine g_iconst dX12_safe_16 ?_
    exact g_retI dX12_safe_17 rfl (hQ (-1) (by decide) _ hB FrM.rf (by have q0 := b0_74 hB; omega) v_MVw v_RE)
  · refine g_aload_n dX12_safe_8 rfl ?_
    refine g_iload_n dX12_safe_9 rfl ?_
    refine g_vI (av := [vI a2]) (o := 0) (st := []) (m_X12_isPlace G P a2 ⟨by omega, by omega⟩ hB  _ (fun rc5 hc5 gc5_p => ⟨rc5, rfl, ?_⟩)) cf_X12_isPlace t_1883 rfl (by decide) rfl rfl rfl (Nat.le_of_ble_eq_true rfl) (by decide) rfl dX12_safe_10
    refine g_if_ne (tgt := 18) dX12_safe_13 (by decide) ⟨by omega, by omega⟩ (fun k6 => ?_) (fun k6 => ?_)
    · refine g_aload_n dX12_safe_18 rfl ?_
      refine g_iconst dX12_safe_19 ?_
      refine g_vV (av := [vI 0]) (o := 0) (st := []) (m_X12_arranges G P 0 (by decide) hB (by have q0 := b0_74 hB; omega) v_MVw v_RE _ (fun Pc7 hBc7 hFc7 gc7_st vc7_MV vc7_RE vc7_RLt => ⟨rfl, ?_⟩)) cf_X12_arranges t_1887 rfl (by decide) rfl rfl rfl (Nat.le_of_ble_eq_true rfl) (by decide) rfl dX12_safe_20
      refine g_aload_n dX12_safe_23 rfl ?_
      refine g_vV (av := []) (o := 0) (st := []) (m_X12_countsRows G Pc7  hBc7 (okC.fr (F := ([62, 66, 74], [41, 42, 43])) v_okC (FrM.c FrM.rf hFc7 rfl) rfl) _ (fun Pc8 hBc8 hFc8 => ⟨rfl, ?_⟩)) cf_X12_countsRows t_1895 rfl (by decide) rfl rfl rfl (Nat.le_of_ble_eq_true rfl) (by decide) rfl dX12_safe_24
      refine g_aload_n dX12_safe_27 rfl ?_
      refine g_iload_n dX12_safe_28 rfl ?_
      refine g_iload_n dX12_safe_29 rfl ?_
      refine g_vI (av := [vI a1, vI a2]) (o := 0) (st := []) (m_X12_isSafe G Pc8 a1 a2 ⟨by omega, by omega⟩ ⟨by omega, by omega⟩ hBc8  _ (fun rc9 hc9 => ⟨rc9, rfl, ?_⟩)) cf_X12_isSafe t_2089 rfl (by decide) rfl rfl rfl (Nat.le_of_ble_eq_true rfl) (by decide) rfl dX12_safe_30
      refine g_if_eq (tgt := 40) dX12_safe_33 (by decide) ⟨by omega, by omega⟩ (fun k10 => ?_) (fun k10 => ?_)
      · refine g_iconst dX12_safe_40 ?_
        exact g_retI dX12_safe_41 rfl (hQ 0 (by decide) _ hBc8 (FrM.c (FrM.c FrM.rf hFc7 rfl) hFc8 rfl) (by have q0 := (((hFc8.1 74 rfl).trans rfl) : Pc8 0 74 = (Pc7 0 74)); have q1 := b0_74 hBc7; omega) ((MV.fr (F := ([], [44, 45])) vc7_MV (FrM.c FrM.rf hFc8 rfl) rfl).w) (RE.fr (F := ([], [44, 45])) vc7_RE (FrM.c FrM.rf hFc8 rfl) rfl))
      · refine g_iconst dX12_safe_36 ?_
        refine g_goto (tgt := 41) dX12_safe_37 (by decide) ?_
        exact g_retI dX12_safe_41 rfl (hQ 1 (by decide) _ hBc8 (FrM.c (FrM.c FrM.rf hFc7 rfl) hFc8 rfl) (by have q0 := (((hFc8.1 74 rfl).trans rfl) : Pc8 0 74 = (Pc7 0 74)); have q1 := b0_74 hBc7; omega) ((MV.fr (F := ([], [44, 45])) vc7_MV (FrM.c FrM.rf hFc8 rfl) rfl).w) (RE.fr (F := ([], [44, 45])) vc7_RE (FrM.c FrM.rf hFc8 rfl) rfl))
    · refine g_iconst dX12_safe_16 ?_
      exact g_retI dX12_safe_17 rfl (hQ (-1) (by decide) _ hB FrM.rf (by have q0 := b0_74 hB; omega) v_MVw v_RE)
set_option maxRecDepth 100000 in
set_option maxHeartbeats 4000000 in
theorem m_X12_plants (G : GT) (P : PH) (a1 : Int) (a2 : Int) (h_a1 : 0 ≤ a1 ∧ a1 ≤ 21) (h_a2 : (-2147483648) ≤ a2 ∧ a2 ≤ 2147483647) (hB : BdM P) (p_st : P 0 74 ≤ 199999999) (v_MVw : MVw P) (v_RE : RE P) (Q : Option PV → PH → Prop) (hQ : ∀ (P1 : PH) (_ : BdM P1) (_ : FrM ([62, 66, 74, 76], [41, 42, 43]) P P1) (_ : P1 0 74 = P 0 74 + 1) (_ : MV P1) (_ : RE P1) (_ : RLt P1), Q none P1) : Ct WSM G 3 iX12_plants [vR 0, vI a1, vI a2] P Q := by
  refine Ct.of (by decide) (l0 := [(0, vR 0), (1, vI a1), (2, vI a2)]) rfl (Nat.le_of_ble_eq_true rfl) ?_
  refine g_aload_n dX12_plants_0 rfl ?_
  refine g_iload_n dX12_plants_1 rfl ?_
  refine g_vV (av := [vI a1]) (o := 0) (st := []) (m_X12_arranges G P a1 ⟨by omega, by omega⟩ hB (by have q0 := b0_74 hB; omega) v_MVw v_RE _ (fun Pc1 hBc1 hFc1 gc1_st vc1_MV vc1_RE vc1_RLt => ⟨rfl, ?_⟩)) cf_X12_arranges t_1887 rfl (by decide) rfl rfl rfl (Nat.le_of_ble_eq_true rfl) (by decide) rfl dX12_plants_2
  refine g_aload_n dX12_plants_5 rfl ?_
  refine g_iload_n dX12_plants_6 rfl ?_
  refine m_p76 rfl dX12_plants_7 ?_
  have hB2 := bs_76 (z := a2) hBc1 ⟨by omega, by omega⟩
  exact g_retV dX12_plants_10 rfl (hQ _ hB2 (FrM.s (FrM.c FrM.rf hFc1 rfl) rfl) (by have q0 := (((up_k (by decide)).trans rfl) : (up Pc1 0 76 a2) 0 74 = (Pc1 0 74)); have q1 := b0_74 hBc1; omega) (MV.fr (F := ([76], [])) vc1_MV (FrM.s FrM.rf rfl) rfl) (RE.fr (F := ([76], [])) vc1_RE (FrM.s FrM.rf rfl) rfl) (RLt.fr (F := ([76], [])) vc1_RLt (FrM.s FrM.rf rfl) rfl))
set_option maxRecDepth 100000 in
set_option maxHeartbeats 4000000 in
theorem m_X12_writesName (G : GT) (P : PH) (a1 : Int) (h_a1 : (-9223372036854775808) ≤ a1 ∧ a1 ≤ 9223372036854775807) (hB : BdM P) (p_o : P 0 70 ≤ 1792) (Q : Option PV → PH → Prop) (hQ : ∀ (P1 : PH) (_ : BdM P1) (_ : FrM ([70], [46]) P P1) (_ : P1 0 70 ≤ P 0 70 + 8), Q none P1) : Ct WSM G 2 iX12_writesName [vR 0, vL a1] P Q := by
  refine Ct.of (by decide) (l0 := [(0, vR 0), (1, vL a1)]) rfl (Nat.le_of_ble_eq_true rfl) ?_
  refine g_lload_n dX12_writesName_0 rfl ?_
  refine g_sI (av := [vL a1]) (st := []) (m_X12_lettersOf G P a1 ⟨by omega, by omega⟩ hB  _ (fun rc1 hc1 => ⟨rc1, rfl, ?_⟩)) cf_X12_lettersOf t_1871 rfl (Nat.le_of_ble_eq_true rfl) (by decide) rfl dX12_writesName_1
  refine g_iconst dX12_writesName_4 ?_
  refine g_isub dX12_writesName_5 ?_
  refine g_istore_n (l1 := [(3, vI (rc1 - 1)), (0, vR 0), (1, vL a1)]) dX12_writesName_6 (by decide) rfl ?_
  have L7_1 : ∀ (n7_1 : Nat) (x7_3_1 : Int) (h_x7_3_1 : (-1) ≤ x7_3_1 ∧ x7_3_1 ≤ 7) (H7_1 : PH) (hB7_1 : BdM H7_1) (hE7_1 : FrM ([70], [46]) P H7_1) (i7_0_1 : H7_1 0 70 + x7_3_1 + 1 ≤ P 0 70 + 8) (hm7_1 : ((x7_3_1 - (-2)) : Int).toNat < n7_1), Go WSM G 2 iX12_writesName 7 [(0, vR 0), (1, vL a1), (3, vI x7_3_1)] [] H7_1 Q := by
    intro n7_1
    induction n7_1 with
    | zero => intro x7_3_1 h_x7_3_1 H7_1 hB7_1 hE7_1 i7_0_1 hm7_1; exact absurd hm7_1 (Nat.not_lt_zero _)
    | succ n7_1 ih7_1 =>
    intro x7_3_1 h_x7_3_1 H7_1 hB7_1 hE7_1 i7_0_1 hm7_1
    refine g_iload_n dX12_writesName_7 rfl ?_
    refine g_if_lt (tgt := 32) dX12_writesName_8 (by decide) ⟨by omega, by omega⟩ (fun k19 => ?_) (fun k19 => ?_)
    · exact g_retV dX12_writesName_32 rfl (hQ _ hB7_1 (FrM.c FrM.rf hE7_1 rfl) (by have q0 := b0_70 hB7_1; omega))
    · refine g_aload_n dX12_writesName_11 rfl ?_
      refine g_lload_n dX12_writesName_12 rfl ?_
      refine g_bipush dX12_writesName_13 (by decide) ?_
      refine g_iload_n dX12_writesName_15 rfl ?_
      refine g_imul dX12_writesName_16 ?_
      refine g_lshr dX12_writesName_17 ?_
      refine g_nm (fun b20 e_b20 => ?_)
      have h_b20 := llshr_ir a1 (8 * x7_3_1)
      rw [← e_b20] at h_b20
      refine g_ldc2 (z := 255) dX12_writesName_18 t_1874 (by decide) ?_
      refine g_land dX12_writesName_21 ?_
      refine g_nm (fun b21 e_b21 => ?_)
      have h_b21 := lland_r (x := b20) (y := 255) ⟨by omega, by omega⟩
      rw [← e_b21] at h_b21
      refine g_l2i dX12_writesName_22 ?_
      refine g_vV (av := [vI b21]) (o := 0) (st := []) (m_X12_writes G H7_1 b21 ⟨by omega, by omega⟩ hB7_1 (by have q0 := b0_70 hB7_1; omega) _ (fun Pc22 hBc22 hFc22 gc22_o => ⟨rfl, ?_⟩)) cf_X12_writes t_1974 rfl (by decide) rfl rfl rfl (Nat.le_of_ble_eq_true rfl) (by decide) rfl dX12_writesName_23
      refine g_iinc (l1 := [(3, vI (x7_3_1 + (-1))), (0, vR 0), (1, vL a1)]) dX12_writesName_26 rfl (by decide) rfl ?_
      refine g_goto (tgt := 7) dX12_writesName_29 (by decide) ?_
      refine g_forget (l1 := [(0, vR 0), (1, vL a1), (3, vI (x7_3_1 + (-1)))]) (by intro q hq; simp only [List.mem_cons, List.not_mem_nil, or_false] at hq ⊢; rcases hq with rfl | rfl | rfl <;> simp) ?_
      exact ih7_1 (x7_3_1 + (-1)) ⟨by omega, by omega⟩ _ hBc22 (FrM.c (FrM.c FrM.rf hE7_1 rfl) hFc22 rfl) (by have q0 := b0_70 hBc22; omega) (by omega)
  refine g_forget (l1 := [(0, vR 0), (1, vL a1), (3, vI (rc1 - 1))]) (by intro q hq; simp only [List.mem_cons, List.not_mem_nil, or_false] at hq ⊢; rcases hq with rfl | rfl | rfl <;> simp) ?_
  exact L7_1 _ (rc1 - 1) ⟨by omega, by omega⟩ _ hB FrM.rf (by have q0 := b0_70 hB; omega) (Nat.lt_succ_self _)
set_option maxRecDepth 100000 in
set_option maxHeartbeats 4000000 in
theorem m_X12_opensScope (G : GT) (P : PH) (a1 : Int) (a2 : Int) (h_a1 : 0 ≤ a1 ∧ a1 ≤ 39) (h_a2 : 0 ≤ a2 ∧ a2 ≤ 65535) (hB : BdM P) (p_s : P 0 87 ≤ 999) (Q : Option PV → PH → Prop) (hQ : ∀ (P1 : PH) (_ : BdM P1) (_ : FrM ([87, 89], [54, 55, 56]) P P1) (_ : P1 0 87 = P 0 87 + 1) (_ : P1 55 a1 = 0) (_ : P1 54 a1 = a2) (_ : ∀ j : Int, j ≠ a1 → P1 55 j = P 55 j) (_ : ∀ j : Int, j ≠ a1 → P1 54 j = P 54 j), Q none P1) : Ct WSM G 1 iX12_opensScope [vR 0, vI a1, vI a2] P Q := by
  refine Ct.of (by decide) (l0 := [(0, vR 0), (1, vI a1), (2, vI a2)]) rfl (Nat.le_of_ble_eq_true rfl) ?_
  refine g_aload_n dX12_opensScope_0 rfl ?_
  refine m_g83 rfl dX12_opensScope_1 ?_
  refine g_iload_n dX12_opensScope_4 rfl ?_
  refine g_iload_n dX12_opensScope_5 rfl ?_
  refine m_s54 dX12_opensScope_6 ⟨by omega, by omega⟩ ?_
  have hB1 := ba_54 (z := a2) (k := a1) hB ⟨by omega, by omega⟩
  refine g_aload_n dX12_opensScope_7 rfl ?_
  refine m_g84 rfl dX12_opensScope_8 ?_
  refine g_iload_n dX12_opensScope_11 rfl ?_
  refine g_iconst dX12_opensScope_12 ?_
  refine m_s55 dX12_opensScope_13 ⟨by omega, by omega⟩ ?_
  have hB2 := ba_55 (z := 0) (k := a1) hB1 (by decide)
  refine g_aload_n dX12_opensScope_14 rfl ?_
  refine m_g85 rfl dX12_opensScope_15 ?_
  refine g_iload_n dX12_opensScope_18 rfl ?_
  refine g_aload_n dX12_opensScope_19 rfl ?_
  refine m_g87 (z := (P 0 87)) rfl dX12_opensScope_20 ((up_o (by decide)).trans ((up_o (by decide)).trans rfl)) ?_
  refine m_s56 dX12_opensScope_23 ⟨by omega, by omega⟩ ?_
  have hB3 := ba_56 (z := (P 0 87)) (k := a1) hB2 ⟨by have q0 := b0_87 hB; omega, by have q0 := b0_87 hB; omega⟩
  refine g_aload_n dX12_opensScope_24 rfl ?_
  refine g_dup dX12_opensScope_25 rfl ?_
  refine m_g87 (z := (P 0 87)) rfl dX12_opensScope_26 ((up_o (by decide)).trans ((up_o (by decide)).trans ((up_o (by decide)).trans rfl))) ?_
  refine g_iconst dX12_opensScope_29 ?_
  refine g_iadd dX12_opensScope_30 ?_
  refine m_p87 rfl dX12_opensScope_31 ?_
  have hB4 := bs_87 (z := ((P 0 87) + 1)) hB3 ⟨by have q0 := b0_87 hB; omega, by have q0 := b0_87 hB; omega⟩
  refine g_aload_n dX12_opensScope_34 rfl ?_
  refine g_iload_n dX12_opensScope_35 rfl ?_
  refine g_iconst dX12_opensScope_36 ?_
  refine g_iadd dX12_opensScope_37 ?_
  refine g_aload_n dX12_opensScope_38 rfl ?_
  refine m_g89 (z := (P 0 89)) rfl dX12_opensScope_39 ((up_k (by decide)).trans ((up_o (by decide)).trans ((up_o (by decide)).trans ((up_o (by decide)).trans rfl)))) ?_
  have f5 := b0_89 hB
  refine g_icmp_le (tgt := 51) dX12_opensScope_42 (by decide) ⟨by omega, by omega⟩ ⟨by have q0 := b0_89 hB; omega, by have q0 := b0_89 hB; omega⟩ (fun k6 => ?_) (fun k6 => ?_)
  · refine g_aload_n dX12_opensScope_51 rfl ?_
    refine m_g89 (z := (P 0 89)) rfl dX12_opensScope_52 ((up_k (by decide)).trans ((up_o (by decide)).trans ((up_o (by decide)).trans ((up_o (by decide)).trans rfl)))) ?_
    refine m_p89 rfl dX12_opensScope_55 ?_
    have hB7 := bs_89 (z := (P 0 89)) hB4 ⟨by have q0 := b0_89 hB; omega, by have q0 := b0_89 hB; omega⟩
    exact g_retV dX12_opensScope_58 rfl (hQ _ hB7 (FrM.s (FrM.s (FrM.a (FrM.a (FrM.a FrM.rf rfl rfl) rfl rfl) rfl rfl) rfl) rfl) (by have q0 := (((up_k (by decide)).trans up_same) : (up (up (up (up (up P 54 a1 a2) 55 a1 0) 56 a1 (P 0 87)) 0 87 ((P 0 87) + 1)) 0 89 (P 0 89)) 0 87 = ((P 0 87) + 1)); have q1 := b0_87 hB; omega) (((up_o (by decide)).trans ((up_o (by decide)).trans ((up_o (by decide)).trans up_same)))) (((up_o (by decide)).trans ((up_o (by decide)).trans ((up_o (by decide)).trans ((up_o (by decide)).trans up_same))))) (fun j hj => ((up_o (by decide)).trans ((up_o (by decide)).trans ((up_o (by decide)).trans ((up_k hj).trans ((up_o (by decide)).trans rfl)))))) (fun j hj => ((up_o (by decide)).trans ((up_o (by decide)).trans ((up_o (by decide)).trans ((up_o (by decide)).trans ((up_k hj).trans rfl)))))))
  · refine g_iload_n dX12_opensScope_45 rfl ?_
    refine g_iconst dX12_opensScope_46 ?_
    refine g_iadd dX12_opensScope_47 ?_
    refine g_goto (tgt := 55) dX12_opensScope_48 (by decide) ?_
    refine m_p89 rfl dX12_opensScope_55 ?_
    have hB8 := bs_89 (z := (a1 + 1)) hB4 ⟨by omega, by omega⟩
    exact g_retV dX12_opensScope_58 rfl (hQ _ hB8 (FrM.s (FrM.s (FrM.a (FrM.a (FrM.a FrM.rf rfl rfl) rfl rfl) rfl rfl) rfl) rfl) (by have q0 := (((up_k (by decide)).trans up_same) : (up (up (up (up (up P 54 a1 a2) 55 a1 0) 56 a1 (P 0 87)) 0 87 ((P 0 87) + 1)) 0 89 (a1 + 1)) 0 87 = ((P 0 87) + 1)); have q1 := b0_87 hB; omega) (((up_o (by decide)).trans ((up_o (by decide)).trans ((up_o (by decide)).trans up_same)))) (((up_o (by decide)).trans ((up_o (by decide)).trans ((up_o (by decide)).trans ((up_o (by decide)).trans up_same))))) (fun j hj => ((up_o (by decide)).trans ((up_o (by decide)).trans ((up_o (by decide)).trans ((up_k hj).trans ((up_o (by decide)).trans rfl)))))) (fun j hj => ((up_o (by decide)).trans ((up_o (by decide)).trans ((up_o (by decide)).trans ((up_o (by decide)).trans ((up_k hj).trans rfl)))))))
set_option maxRecDepth 100000 in
set_option maxHeartbeats 4000000 in
theorem m_X12_isNewSet (G : GT) (P : PH) (a1 : Int) (a2 : Int) (a3 : Int) (h_a1 : 0 ≤ a1 ∧ a1 ≤ 4095) (h_a2 : 0 ≤ a2 ∧ a2 ≤ 3) (h_a3 : 0 ≤ a3 ∧ a3 ≤ 2009) (hB : BdM P) (Q : Option PV → PH → Prop) (hQ : ∀ (r : Int) (_ : 0 ≤ r ∧ r ≤ 1), Q (some (vI r)) P) : Ct WSM G 1 iX12_isNewSet [vR 0, vI a1, vI a2, vI a3] P Q := by
  refine Ct.of (by decide) (l0 := [(0, vR 0), (1, vI a1), (2, vI a2), (3, vI a3)]) rfl (Nat.le_of_ble_eq_true rfl) ?_
  refine g_iconst dX12_isNewSet_0 ?_
  refine g_istore (l1 := [(4, vI 0), (0, vR 0), (1, vI a1), (2, vI a2), (3, vI a3)]) dX12_isNewSet_1 (by decide) rfl ?_
  have L3_0 : ∀ (n3_0 : Nat) (x3_4_0 : Int) (h_x3_4_0 : 0 ≤ x3_4_0 ∧ x3_4_0 ≤ 2009) (hm3_0 : ((2010 - x3_4_0) : Int).toNat < n3_0), Go WSM G 1 iX12_isNewSet 3 [(0, vR 0), (1, vI a1), (2, vI a2), (3, vI a3), (4, vI x3_4_0)] [] P Q := by
    intro n3_0
    induction n3_0 with
    | zero => intro x3_4_0 h_x3_4_0 hm3_0; exact absurd hm3_0 (Nat.not_lt_zero _)
    | succ n3_0 ih3_0 =>
    intro x3_4_0 h_x3_4_0 hm3_0
    refine g_iload dX12_isNewSet_3 rfl ?_
    refine g_iload_n dX12_isNewSet_5 rfl ?_
    refine g_icmp_ge (tgt := 49) dX12_isNewSet_6 (by decide) ⟨by omega, by omega⟩ ⟨by omega, by omega⟩ (fun k66 => ?_) (fun k66 => ?_)
    · refine g_iconst dX12_isNewSet_49 ?_
      exact g_retZ dX12_isNewSet_50 rfl (by decide) (hQ 1 (by decide) )
    · refine g_aload_n dX12_isNewSet_9 rfl ?_
      refine m_g63 rfl dX12_isNewSet_10 ?_
      refine g_sipush dX12_isNewSet_13 (by decide) ?_
      refine g_iload_n dX12_isNewSet_16 rfl ?_
      refine g_imul dX12_isNewSet_17 ?_
      refine g_iload dX12_isNewSet_18 rfl ?_
      refine g_iadd dX12_isNewSet_20 ?_
      refine m_l41 (z := (P 41 ((2010 * a2) + x3_4_0))) dX12_isNewSet_21 ⟨by omega, by omega⟩ rfl ?_
      refine g_iload_n dX12_isNewSet_22 rfl ?_
      refine g_iand dX12_isNewSet_23 ?_
      refine g_nm (fun b67 e_b67 => ?_)
      have h_b67 := iand_l (x := (P 41 ((2010 * a2) + x3_4_0))) (y := a1) ⟨by have q0 := bl_41 (k := ((2010 * a2) + x3_4_0)) hB; omega, by have q0 := bl_41 (k := ((2010 * a2) + x3_4_0)) hB; omega⟩
      rw [← e_b67] at h_b67
      have f_b67_0 := bl_41 (k := ((2010 * a2) + x3_4_0)) hB
      refine g_aload_n dX12_isNewSet_24 rfl ?_
      refine m_g63 rfl dX12_isNewSet_25 ?_
      refine g_sipush dX12_isNewSet_28 (by decide) ?_
      refine g_iload_n dX12_isNewSet_31 rfl ?_
      refine g_imul dX12_isNewSet_32 ?_
      refine g_iload_n dX12_isNewSet_33 rfl ?_
      refine g_iadd dX12_isNewSet_34 ?_
      refine m_l41 (z := (P 41 ((2010 * a2) + a3))) dX12_isNewSet_35 ⟨by omega, by omega⟩ rfl ?_
      refine g_iload_n dX12_isNewSet_36 rfl ?_
      refine g_iand dX12_isNewSet_37 ?_
      refine g_nm (fun b68 e_b68 => ?_)
      have h_b68 := iand_l (x := (P 41 ((2010 * a2) + a3))) (y := a1) ⟨by have q0 := bl_41 (k := ((2010 * a2) + a3)) hB; omega, by have q0 := bl_41 (k := ((2010 * a2) + a3)) hB; omega⟩
      rw [← e_b68] at h_b68
      have f_b68_0 := bl_41 (k := ((2010 * a2) + a3)) hB
      refine g_icmp_ne (tgt := 43) dX12_isNewSet_38 (by decide) ⟨by omega, by omega⟩ ⟨by omega, by omega⟩ (fun k69 => ?_) (fun k69 => ?_)
      · refine g_iinc (l1 := [(4, vI (x3_4_0 + 1)), (0, vR 0), (1, vI a1), (2, vI a2), (3, vI a3)]) dX12_isNewSet_43 rfl (by decide) rfl ?_
        refine g_goto (tgt := 3) dX12_isNewSet_46 (by decide) ?_
        refine g_forget (l1 := [(0, vR 0), (1, vI a1), (2, vI a2), (3, vI a3), (4, vI (x3_4_0 + 1))]) (by intro q hq; simp only [List.mem_cons, List.not_mem_nil, or_false] at hq ⊢; rcases hq with rfl | rfl | rfl | rfl | rfl <;> simp) ?_
        exact ih3_0 (x3_4_0 + 1) ⟨by omega, by omega⟩ (by omega)
      · refine g_iconst dX12_isNewSet_41 ?_
        exact g_retZ dX12_isNewSet_42 rfl (by decide) (hQ 0 (by decide) )
  refine g_forget (l1 := [(0, vR 0), (1, vI a1), (2, vI a2), (3, vI a3), (4, vI 0)]) (by intro q hq; simp only [List.mem_cons, List.not_mem_nil, or_false] at hq ⊢; rcases hq with rfl | rfl | rfl | rfl | rfl <;> simp) ?_
  exact L3_0 _ 0 (by decide) (Nat.lt_succ_self _)
end
section
/-! The weight of a node: how many arms and columns are left. -/
def popN : Nat → Nat → Nat
  | 0, _ => 0
  | f + 1, n => n % 2 + popN f (n / 2)
theorem popN_and (f : Nat) : ∀ x y : Nat, popN f (x &&& y) ≤ popN f x := by
  induction f with
  | zero => intro x y; exact Nat.le_refl _
  | succ f ih =>
    intro x y
    unfold popN
    have h1 : (x &&& y) / 2 = x / 2 &&& y / 2 := Nat.and_div_two
    have h2 : (x &&& y) % 2 ≤ x % 2 := by
      have h := Nat.testBit_and x y 0
      simp only [Nat.testBit_zero] at h
      rcases Nat.mod_two_eq_zero_or_one (x &&& y) with e | e
      · omega
      · rcases Nat.mod_two_eq_zero_or_one x with e1 | e1
        · rw [e, e1] at h; simp at h
        · omega
    rw [h1]
    have := ih (x / 2) (y / 2)
    omega
theorem popN_le (f : Nat) : ∀ x : Nat, popN f x ≤ f := by
  induction f with
  | zero => intro x; exact Nat.le_refl _
  | succ f ih => intro x; unfold popN; have := ih (x / 2); omega
def pop (z : Int) : Int := (popN 12 z.toNat : Nat)
theorem pop_b (z : Int) : 0 ≤ pop z ∧ pop z ≤ 12 := by unfold pop; have := popN_le 12 z.toNat; omega
theorem iand_nat {x y : Int} (hx : 0 ≤ x ∧ x ≤ 2147483647) (hy : 0 ≤ y ∧ y ≤ 2147483647) : iand x y = ((x.toNat &&& y.toNat : Nat) : Int) := by
  unfold iand
  rw [i32_bv, Int32.toBitVec_and]
  have e1 := bv_of (z := x) hx
  have e2 := bv_of (z := y) hy
  have hv : ((Int32.ofInt x).toBitVec &&& (Int32.ofInt y).toBitVec).toNat = x.toNat &&& y.toNat := by
    rw [BitVec.toNat_and, e1, e2]
  have hle : x.toNat &&& y.toNat ≤ x.toNat := Nat.and_le_left
  rw [bv_small (n := 2147483648) (by rw [hv]; omega) (by omega), hv]
theorem pop_and {x y : Int} (hx : 0 ≤ x ∧ x ≤ 2147483647) (hy : 0 ≤ y ∧ y ≤ 2147483647) : pop (iand x y) ≤ pop x := by
  rw [iand_nat hx hy]
  unfold pop
  rw [Int.toNat_natCast]
  have := popN_and 12 x.toNat y.toNat
  omega
theorem pop_low_all : ∀ a : Nat, a < 64 → ∀ b : Nat, b < 64 → 64 * a + b = 0 ∨ popN 12 ((64 * a + b) &&& (64 * a + b - 1)) + 1 ≤ popN 12 (64 * a + b) := by decide +kernel
theorem pop_low {x : Int} (hx : 1 ≤ x ∧ x ≤ 4095) : pop (iand x (x - 1)) + 1 ≤ pop x := by
  rw [iand_nat ⟨by omega, by omega⟩ ⟨by omega, by omega⟩]
  have h := pop_low_all (x.toNat / 64) (by omega) (x.toNat % 64) (by omega)
  rw [show 64 * (x.toNat / 64) + x.toNat % 64 = x.toNat by omega] at h
  unfold pop
  rw [Int.toNat_natCast, show (x - 1).toNat = x.toNat - 1 by omega]
  omega
theorem pop_clr_all : ∀ a : Nat, a < 16 → ∀ c : Nat, c < 4 → iand (ishr (a : Int) (c : Int)) 1 = 1 → pop (iand (a : Int) (ixor (ishl 1 (c : Int)) (-1))) + 1 ≤ pop (a : Int) := by decide +kernel
theorem pop_clr {a c : Int} (ha : 0 ≤ a ∧ a ≤ 15) (hc : 0 ≤ c ∧ c ≤ 3) (h : iand (ishr a c) 1 = 1) : pop (iand a (ixor (ishl 1 c) (-1))) + 1 ≤ pop a := by
  have e1 : ((a.toNat : Nat) : Int) = a := Int.toNat_of_nonneg ha.1
  have e2 : ((c.toNat : Nat) : Int) = c := Int.toNat_of_nonneg hc.1
  have := pop_clr_all a.toNat (by omega) c.toNat (by omega)
  rw [e1, e2] at this
  exact this h
def wgt (l : Int) : Int := pop (l % 4096) + pop (l / 4096)
theorem wgt_b (l : Int) : 0 ≤ wgt l ∧ wgt l ≤ 24 := by unfold wgt; have := pop_b (l % 4096); have := pop_b (l / 4096); omega
theorem wgt_of {r a c : Int} (hr : r = a + 4096 * c) (ha : 0 ≤ a ∧ a ≤ 4095) : wgt r = pop a + pop c := by
  unfold wgt
  rw [show r % 4096 = a by omega, show r / 4096 = c by omega]
/-- the committed budget is one -/
def okB (P : PH) : Prop := P 0 44 = 0 ∨ (1 ≤ P 16 (P 0 13) ∧ P 16 (P 0 13) ≤ 999)
theorem okB.fr {P P1 : PH} {F : FS} (h : okB P) (hf : FrM F P P1) (hd : disF F ([13, 44], [16]) = true) : okB P1 := by
  unfold disF at hd
  simp only [List.all_cons, List.all_nil, Bool.and_true, Bool.and_eq_true, Bool.not_eq_true'] at hd
  unfold okB at h ⊢
  rw [hf.1 13 hd.1.1, hf.1 44 hd.1.2, hf.2 16 rfl hd.2]
  exact h
end
end
section
/-! Contracts of the reference: m5. -/
set_option maxRecDepth 100000 in
set_option maxHeartbeats 4000000 in
theorem m_X12_root (G : GT) (P : PH) (hB : BdM P) (Q : Option PV → PH → Prop) (hQ : ∀ (r : Int) (_ : 0 ≤ r ∧ r ≤ 65535), Q (some (vI r)) P) : Ct WSM G 2 iX12_root [vR 0] P Q := by
  refine Ct.of (by decide) (l0 := [(0, vR 0)]) rfl (Nat.le_of_ble_eq_true rfl) ?_
  refine g_iconst dX12_root_0 ?_
  refine g_aload_n dX12_root_1 rfl ?_
  refine m_g62 (z := (P 0 62)) rfl dX12_root_2 rfl ?_
  refine g_ishl dX12_root_5 ?_
  refine g_nm (fun b1 e_b1 => ?_)
  have h_b1 : 1 ≤ (ishl 1 (P 0 62)) ∧ (ishl 1 (P 0 62)) ≤ 4096 := (ishl1 12 (by decide) (y := (P 0 62)) ⟨by have q0 := b0_62 hB; omega, by have q0 := b0_62 hB; omega⟩).2
  rw [← e_b1] at h_b1
  refine g_iconst dX12_root_6 ?_
  refine g_isub dX12_root_7 ?_
  refine g_iconst dX12_root_8 ?_
  refine g_aload_n dX12_root_9 rfl ?_
  refine g_vI (av := []) (o := 0) (st := [vI 1, vI (b1 - 1)]) (m_X12_columns G P  hB  _ (fun rc2 hc2 gc2_c => ⟨rc2, rfl, ?_⟩)) cf_X12_columns t_1827 rfl (by decide) rfl rfl rfl (Nat.le_of_ble_eq_true rfl) (by decide) rfl dX12_root_10
  refine g_ishl dX12_root_13 ?_
  refine g_nm (fun b3 e_b3 => ?_)
  have h_b3 : 1 ≤ (ishl 1 rc2) ∧ (ishl 1 rc2) ≤ 16 := (ishl1 4 (by decide) (y := rc2) ⟨by omega, by omega⟩).2
  rw [← e_b3] at h_b3
  refine g_iconst dX12_root_14 ?_
  refine g_isub dX12_root_15 ?_
  refine g_sI (av := [vI (b1 - 1), vI (b3 - 1)]) (st := []) (m_X12_leftOf G P (b1 - 1) (b3 - 1) ⟨by omega, by omega⟩ ⟨by omega, by omega⟩ hB  _ (fun rc4 hc4 gc4_v => ⟨rc4, rfl, ?_⟩)) cf_X12_leftOf t_2014 rfl (Nat.le_of_ble_eq_true rfl) (by decide) rfl dX12_root_16
  exact g_retI dX12_root_19 rfl (hQ rc4 ⟨by omega, by omega⟩ )
set_option maxRecDepth 100000 in
set_option maxHeartbeats 4000000 in
theorem m_X12_worthOf (G : GT) (P : PH) (a1 : Int) (a2 : Int) (h_a1 : 0 ≤ a1 ∧ a1 ≤ 4095) (h_a2 : 0 ≤ a2 ∧ a2 ≤ 3) (hB : BdM P) (Q : Option PV → PH → Prop) (hQ : ∀ (r : Int) (_ : (-2147483648) ≤ r ∧ r ≤ 2147483647) (P1 : PH) (_ : BdM P1) (_ : FrM ([78], [50]) P P1), Q (some (vI r)) P1) : Ct WSM G 2 iX12_worthOf [vR 0, vI a1, vI a2] P Q := by
  refine Ct.of (by decide) (l0 := [(0, vR 0), (1, vI a1), (2, vI a2)]) rfl (Nat.le_of_ble_eq_true rfl) ?_
  refine g_iconst dX12_worthOf_0 ?_
  refine g_istore_n (l1 := [(3, vI 0), (0, vR 0), (1, vI a1), (2, vI a2)]) dX12_worthOf_1 (by decide) rfl ?_
  refine g_aload_n dX12_worthOf_2 rfl ?_
  refine m_g76 (z := (P 0 76)) rfl dX12_worthOf_3 rfl ?_
  have f1 := b0_76 hB
  refine g_if_ne (tgt := 11) dX12_worthOf_6 (by decide) ⟨by have q0 := b0_76 hB; omega, by have q0 := b0_76 hB; omega⟩ (fun k2 => ?_) (fun k2 => ?_)
  · refine g_aload_n dX12_worthOf_11 rfl ?_
    refine m_g76 (z := (P 0 76)) rfl dX12_worthOf_12 rfl ?_
    refine g_iconst dX12_worthOf_15 ?_
    refine g_icmp_ne (tgt := 61) dX12_worthOf_16 (by decide) ⟨by have q0 := b0_76 hB; omega, by have q0 := b0_76 hB; omega⟩ (by decide) (fun k3 => ?_) (fun k3 => ?_)
    · refine g_aload_n dX12_worthOf_61 rfl ?_
      refine g_dup dX12_worthOf_62 rfl ?_
      refine m_g78 (z := (P 0 78)) rfl dX12_worthOf_63 rfl ?_
      refine g_iconst dX12_worthOf_66 ?_
      refine g_iadd dX12_worthOf_67 ?_
      refine g_norm (fun r4 h_r4 e_r4 => ?_)
      refine m_p78 rfl dX12_worthOf_68 ?_
      have hB5 := bs_78 (z := r4) hB ⟨by omega, by omega⟩
      refine g_iconst dX12_worthOf_71 ?_
      refine g_istore (l1 := [(4, vI 0), (3, vI 0), (0, vR 0), (1, vI a1), (2, vI a2)]) dX12_worthOf_72 (by decide) rfl ?_
      refine g_iconst dX12_worthOf_74 ?_
      refine g_istore (l1 := [(5, vI 0), (4, vI 0), (3, vI 0), (0, vR 0), (1, vI a1), (2, vI a2)]) dX12_worthOf_75 (by decide) rfl ?_
      have L77_5 : ∀ (n77_5 : Nat) (x77_5_5 : Int) (h_x77_5_5 : 0 ≤ x77_5_5 ∧ x77_5_5 ≤ 2009) (x77_4_5 : Int) (h_x77_4_5 : (-2147483648) ≤ x77_4_5 ∧ x77_4_5 ≤ 2147483647) (x77_3_5 : Int) (h_x77_3_5 : 0 ≤ x77_3_5 ∧ x77_3_5 ≤ 2009) (H77_5 : PH) (hB77_5 : BdM H77_5) (hE77_5 : FrM ([], [50]) (up P 0 78 r4) H77_5) (i77_0_5 : x77_3_5 ≤ x77_5_5) (hm77_5 : ((2010 - x77_5_5) : Int).toNat < n77_5), Go WSM G 2 iX12_worthOf 77 [(0, vR 0), (1, vI a1), (2, vI a2), (3, vI x77_3_5), (4, vI x77_4_5), (5, vI x77_5_5)] [] H77_5 Q := by
        intro n77_5
        induction n77_5 with
        | zero => intro x77_5_5 h_x77_5_5 x77_4_5 h_x77_4_5 x77_3_5 h_x77_3_5 H77_5 hB77_5 hE77_5 i77_0_5 hm77_5; exact absurd hm77_5 (Nat.not_lt_zero _)
        | succ n77_5 ih77_5 =>
        intro x77_5_5 h_x77_5_5 x77_4_5 h_x77_4_5 x77_3_5 h_x77_3_5 H77_5 hB77_5 hE77_5 i77_0_5 hm77_5
        refine g_iload dX12_worthOf_77 rfl ?_
        refine g_aload_n dX12_worthOf_79 rfl ?_
        refine m_g50 rfl dX12_worthOf_80 ?_
        refine g_iload_n dX12_worthOf_83 rfl ?_
        refine m_l33 (z := (P 33 a2)) dX12_worthOf_84 ⟨by omega, by omega⟩ ((congrFun (hE77_5.2 33 rfl rfl) _).trans ((up_o (by decide)).trans rfl)) ?_
        have f278 := bl_33 (k := a2) hB
        refine g_icmp_ge (tgt := 164) dX12_worthOf_85 (by decide) ⟨by omega, by omega⟩ ⟨by have q0 := bl_33 (k := a2) hB; omega, by have q0 := bl_33 (k := a2) hB; omega⟩ (fun k279 => ?_) (fun k279 => ?_)
        · refine g_aload_n dX12_worthOf_164 rfl ?_
          refine m_g76 (z := (P 0 76)) rfl dX12_worthOf_165 ((hE77_5.1 76 rfl).trans ((up_k (by decide)).trans rfl)) ?_
          refine g_iconst dX12_worthOf_168 ?_
          refine g_icmp_ne (tgt := 177) dX12_worthOf_169 (by decide) ⟨by have q0 := b0_76 hB; omega, by have q0 := b0_76 hB; omega⟩ (by decide) (fun k280 => ?_) (fun k280 => ?_)
          · refine g_iload dX12_worthOf_177 rfl ?_
            refine g_ineg dX12_worthOf_179 ?_
            refine g_norm (fun r281 h_r281 e_r281 => ?_)
            exact g_retI dX12_worthOf_180 rfl (hQ r281 ⟨by omega, by omega⟩ _ hB77_5 (FrM.c (FrM.s FrM.rf rfl) hE77_5 rfl) )
          · refine g_iload_n dX12_worthOf_172 rfl ?_
            refine g_ineg dX12_worthOf_173 ?_
            refine g_goto (tgt := 180) dX12_worthOf_174 (by decide) ?_
            exact g_retI dX12_worthOf_180 rfl (hQ (-x77_3_5) ⟨by omega, by omega⟩ _ hB77_5 (FrM.c (FrM.s FrM.rf rfl) hE77_5 rfl) )
        · refine g_aload_n dX12_worthOf_88 rfl ?_
          refine m_g63 rfl dX12_worthOf_89 ?_
          refine g_sipush dX12_worthOf_92 (by decide) ?_
          refine g_iload_n dX12_worthOf_95 rfl ?_
          refine g_imul dX12_worthOf_96 ?_
          refine g_iload dX12_worthOf_97 rfl ?_
          refine g_iadd dX12_worthOf_99 ?_
          refine m_l41 (z := (P 41 ((2010 * a2) + x77_5_5))) dX12_worthOf_100 ⟨by omega, by omega⟩ ((congrFun (hE77_5.2 41 rfl rfl) _).trans ((up_o (by decide)).trans rfl)) ?_
          refine g_iload_n dX12_worthOf_101 rfl ?_
          refine g_iand dX12_worthOf_102 ?_
          refine g_nm (fun b282 e_b282 => ?_)
          have h_b282 := iand_l (x := (P 41 ((2010 * a2) + x77_5_5))) (y := a1) ⟨by have q0 := bl_41 (k := ((2010 * a2) + x77_5_5)) hB; omega, by have q0 := bl_41 (k := ((2010 * a2) + x77_5_5)) hB; omega⟩
          rw [← e_b282] at h_b282
          have f_b282_0 := bl_41 (k := ((2010 * a2) + x77_5_5)) hB
          refine g_istore (l1 := [(6, vI b282), (0, vR 0), (1, vI a1), (2, vI a2), (3, vI x77_3_5), (4, vI x77_4_5), (5, vI x77_5_5)]) dX12_worthOf_103 (by decide) rfl ?_
          refine g_aload_n dX12_worthOf_105 rfl ?_
          refine m_g77 rfl dX12_worthOf_106 ?_
          refine g_iload dX12_worthOf_109 rfl ?_
          refine m_l50 (z := (H77_5 50 b282)) dX12_worthOf_111 ⟨by omega, by omega⟩ rfl ?_
          refine g_aload_n dX12_worthOf_112 rfl ?_
          refine m_g78 (z := r4) rfl dX12_worthOf_113 ((hE77_5.1 78 rfl).trans up_same) ?_
          have f283 := bl_50 (k := b282) hB77_5
          have J158_288 : ∀ (x158_4_288 : Int) (h_x158_4_288 : (-2147483648) ≤ x158_4_288 ∧ x158_4_288 ≤ 2147483647) (x158_3_288 : Int) (h_x158_3_288 : 0 ≤ x158_3_288 ∧ x158_3_288 ≤ 2010) (H158_288 : PH) (hB158_288 : BdM H158_288) (hE158_288 : FrM ([], [50]) H77_5 H158_288) (i158_0_288 : x158_3_288 ≤ x77_5_5 + 1), Go WSM G 2 iX12_worthOf 158 [(0, vR 0), (1, vI a1), (2, vI a2), (3, vI x158_3_288), (4, vI x158_4_288), (5, vI x77_5_5)] [] H158_288 Q := by
            intro x158_4_288 h_x158_4_288 x158_3_288 h_x158_3_288 H158_288 hB158_288 hE158_288 i158_0_288
            refine g_iinc (l1 := [(5, vI (x77_5_5 + 1)), (0, vR 0), (1, vI a1), (2, vI a2), (3, vI x158_3_288), (4, vI x158_4_288)]) dX12_worthOf_158 rfl (by decide) rfl ?_
            refine g_goto (tgt := 77) dX12_worthOf_161 (by decide) ?_
            refine g_forget (l1 := [(0, vR 0), (1, vI a1), (2, vI a2), (3, vI x158_3_288), (4, vI x158_4_288), (5, vI (x77_5_5 + 1))]) (by intro q hq; simp only [List.mem_cons, List.not_mem_nil, or_false] at hq ⊢; rcases hq with rfl | rfl | rfl | rfl | rfl | rfl <;> simp) ?_
            exact ih77_5 (x77_5_5 + 1) ⟨by omega, by omega⟩ x158_4_288 ⟨by omega, by omega⟩ x158_3_288 ⟨by omega, by omega⟩ _ hB158_288 (FrM.c (FrM.c FrM.rf hE77_5 rfl) hE158_288 rfl) (by omega) (by omega)
          refine g_icmp_ne (tgt := 122) dX12_worthOf_116 (by decide) ⟨by have q0 := bl_50 (k := b282) hB77_5; omega, by have q0 := bl_50 (k := b282) hB77_5; omega⟩ ⟨by omega, by omega⟩ (fun k290 => ?_) (fun k290 => ?_)
          · refine g_aload_n dX12_worthOf_122 rfl ?_
            refine m_g77 rfl dX12_worthOf_123 ?_
            refine g_iload dX12_worthOf_126 rfl ?_
            refine g_aload_n dX12_worthOf_128 rfl ?_
            refine m_g78 (z := r4) rfl dX12_worthOf_129 ((hE77_5.1 78 rfl).trans up_same) ?_
            refine m_s50 dX12_worthOf_132 ⟨by omega, by omega⟩ ?_
            have hB291 := ba_50 (z := r4) (k := b282) hB77_5 ⟨by omega, by omega⟩
            refine g_iinc (l1 := [(3, vI (x77_3_5 + 1)), (6, vI b282), (0, vR 0), (1, vI a1), (2, vI a2), (4, vI x77_4_5), (5, vI x77_5_5)]) dX12_worthOf_133 rfl (by decide) rfl ?_
            refine g_iload dX12_worthOf_136 rfl ?_
            refine g_sI (av := [vI b282]) (st := []) (m_X12_bitsOf G (up H77_5 50 b282 r4) b282 ⟨by omega, by omega⟩ hB291  _ (fun rc292 hc292 => ⟨rc292, rfl, ?_⟩)) cf_X12_bitsOf t_2031 rfl (Nat.le_of_ble_eq_true rfl) (by decide) rfl dX12_worthOf_138
            refine g_iload dX12_worthOf_141 rfl ?_
            refine g_icmp_le (tgt := 154) dX12_worthOf_143 (by decide) ⟨by omega, by omega⟩ ⟨by omega, by omega⟩ (fun k293 => ?_) (fun k293 => ?_)
            · refine g_iload dX12_worthOf_154 rfl ?_
              refine g_istore (l1 := [(4, vI x77_4_5), (3, vI (x77_3_5 + 1)), (6, vI b282), (0, vR 0), (1, vI a1), (2, vI a2), (5, vI x77_5_5)]) dX12_worthOf_156 (by decide) rfl ?_
              refine g_forget (l1 := [(0, vR 0), (1, vI a1), (2, vI a2), (3, vI (x77_3_5 + 1)), (4, vI x77_4_5), (5, vI x77_5_5)]) (by intro q hq; simp only [List.mem_cons, List.not_mem_nil, or_false] at hq ⊢; rcases hq with rfl | rfl | rfl | rfl | rfl | rfl <;> simp) ?_
              exact J158_288 x77_4_5 ⟨by omega, by omega⟩ (x77_3_5 + 1) ⟨by omega, by omega⟩ _ hB291 (FrM.a FrM.rf rfl rfl) (by omega)
            · refine g_iload dX12_worthOf_146 rfl ?_
              refine g_sI (av := [vI b282]) (st := []) (m_X12_bitsOf G (up H77_5 50 b282 r4) b282 ⟨by omega, by omega⟩ hB291  _ (fun rc294 hc294 => ⟨rc294, rfl, ?_⟩)) cf_X12_bitsOf t_2031 rfl (Nat.le_of_ble_eq_true rfl) (by decide) rfl dX12_worthOf_148
              refine g_goto (tgt := 156) dX12_worthOf_151 (by decide) ?_
              refine g_istore (l1 := [(4, vI rc294), (3, vI (x77_3_5 + 1)), (6, vI b282), (0, vR 0), (1, vI a1), (2, vI a2), (5, vI x77_5_5)]) dX12_worthOf_156 (by decide) rfl ?_
              refine g_forget (l1 := [(0, vR 0), (1, vI a1), (2, vI a2), (3, vI (x77_3_5 + 1)), (4, vI rc294), (5, vI x77_5_5)]) (by intro q hq; simp only [List.mem_cons, List.not_mem_nil, or_false] at hq ⊢; rcases hq with rfl | rfl | rfl | rfl | rfl | rfl <;> simp) ?_
              exact J158_288 rc294 ⟨by omega, by omega⟩ (x77_3_5 + 1) ⟨by omega, by omega⟩ _ hB291 (FrM.a FrM.rf rfl rfl) (by omega)
          · refine g_goto (tgt := 158) dX12_worthOf_119 (by decide) ?_
            refine g_forget (l1 := [(0, vR 0), (1, vI a1), (2, vI a2), (3, vI x77_3_5), (4, vI x77_4_5), (5, vI x77_5_5)]) (by intro q hq; simp only [List.mem_cons, List.not_mem_nil, or_false] at hq ⊢; rcases hq with rfl | rfl | rfl | rfl | rfl | rfl <;> simp) ?_
            exact J158_288 x77_4_5 ⟨by omega, by omega⟩ x77_3_5 ⟨by omega, by omega⟩ _ hB77_5 FrM.rf (by omega)
      refine g_forget (l1 := [(0, vR 0), (1, vI a1), (2, vI a2), (3, vI 0), (4, vI 0), (5, vI 0)]) (by intro q hq; simp only [List.mem_cons, List.not_mem_nil, or_false] at hq ⊢; rcases hq with rfl | rfl | rfl | rfl | rfl | rfl <;> simp) ?_
      exact L77_5 _ 0 (by decide) 0 (by decide) 0 (by decide) _ hB5 FrM.rf (by omega) (Nat.lt_succ_self _)
    · refine g_iload_n dX12_worthOf_19 rfl ?_
      refine g_istore (l1 := [(4, vI a1), (3, vI 0), (0, vR 0), (1, vI a1), (2, vI a2)]) dX12_worthOf_20 (by decide) rfl ?_
      have L22_294 : ∀ (n22_294 : Nat) (x22_4_294 : Int) (h_x22_4_294 : 0 ≤ x22_4_294 ∧ x22_4_294 ≤ 4095) (x22_3_294 : Int) (h_x22_3_294 : 0 ≤ x22_3_294 ∧ x22_3_294 ≤ 4095) (i22_0_294 : x22_3_294 + x22_4_294 ≤ 4095) (hm22_294 : (x22_4_294 : Int).toNat < n22_294), Go WSM G 2 iX12_worthOf 22 [(0, vR 0), (2, vI a2), (3, vI x22_3_294), (4, vI x22_4_294)] [] P Q := by
        intro n22_294
        induction n22_294 with
        | zero => intro x22_4_294 h_x22_4_294 x22_3_294 h_x22_3_294 i22_0_294 hm22_294; exact absurd hm22_294 (Nat.not_lt_zero _)
        | succ n22_294 ih22_294 =>
        intro x22_4_294 h_x22_4_294 x22_3_294 h_x22_3_294 i22_0_294 hm22_294
        refine g_iload dX12_worthOf_22 rfl ?_
        refine g_if_le (tgt := 59) dX12_worthOf_24 (by decide) ⟨by omega, by omega⟩ (fun k320 => ?_) (fun k320 => ?_)
        · refine g_iload_n dX12_worthOf_59 rfl ?_
          exact g_retI dX12_worthOf_60 rfl (hQ x22_3_294 ⟨by omega, by omega⟩ _ hB FrM.rf )
        · refine g_aload_n dX12_worthOf_27 rfl ?_
          refine m_g64 rfl dX12_worthOf_28 ?_
          refine g_iload_n dX12_worthOf_31 rfl ?_
          refine m_l42 (z := (P 42 a2)) dX12_worthOf_32 ⟨by omega, by omega⟩ rfl ?_
          refine g_iload dX12_worthOf_33 rfl ?_
          refine g_sI (av := [vI x22_4_294]) (st := [vI (P 42 a2)]) (m_X12_lowest G P x22_4_294 ⟨by omega, by omega⟩ hB  _ (fun rc321 hc321 gc321_l gc321_b => ⟨rc321, rfl, ?_⟩)) cf_X12_lowest t_1927 rfl (Nat.le_of_ble_eq_true rfl) (by decide) rfl dX12_worthOf_35
          refine g_ishr dX12_worthOf_38 ?_
          refine g_nm (fun b322 e_b322 => ?_)
          have h_b322 := ishr_ir (P 42 a2) rc321
          rw [← e_b322] at h_b322
          have f_b322_0 := bl_42 (k := a2) hB
          refine g_iconst dX12_worthOf_39 ?_
          refine g_iand dX12_worthOf_40 ?_
          refine g_nm (fun b323 e_b323 => ?_)
          have h_b323 := iand_r (x := b322) (y := 1) ⟨by omega, by omega⟩
          rw [← e_b323] at h_b323
          refine g_if_ne (tgt := 59) dX12_worthOf_41 (by decide) ⟨by omega, by omega⟩ (fun k324 => ?_) (fun k324 => ?_)
          · refine g_iload_n dX12_worthOf_59 rfl ?_
            exact g_retI dX12_worthOf_60 rfl (hQ x22_3_294 ⟨by omega, by omega⟩ _ hB FrM.rf )
          · refine g_iinc (l1 := [(3, vI (x22_3_294 + 1)), (0, vR 0), (2, vI a2), (4, vI x22_4_294)]) dX12_worthOf_44 rfl (by decide) rfl ?_
            refine g_iload dX12_worthOf_47 rfl ?_
            refine g_iload dX12_worthOf_49 rfl ?_
            refine g_iconst dX12_worthOf_51 ?_
            refine g_isub dX12_worthOf_52 ?_
            refine g_iand dX12_worthOf_53 ?_
            refine g_nm (fun b325 e_b325 => ?_)
            have h_b325 := iand_r (x := x22_4_294) (y := (x22_4_294 - 1)) ⟨by omega, by omega⟩
            rw [← e_b325] at h_b325
            refine g_istore (l1 := [(4, vI b325), (3, vI (x22_3_294 + 1)), (0, vR 0), (2, vI a2)]) dX12_worthOf_54 (by decide) rfl ?_
            refine g_goto (tgt := 22) dX12_worthOf_56 (by decide) ?_
            refine g_forget (l1 := [(0, vR 0), (2, vI a2), (3, vI (x22_3_294 + 1)), (4, vI b325)]) (by intro q hq; simp only [List.mem_cons, List.not_mem_nil, or_false] at hq ⊢; rcases hq with rfl | rfl | rfl | rfl <;> simp) ?_
            exact ih22_294 b325 ⟨by omega, by omega⟩ (x22_3_294 + 1) ⟨by omega, by omega⟩ (by omega) (by omega)
      refine g_forget (l1 := [(0, vR 0), (2, vI a2), (3, vI 0), (4, vI a1)]) (by intro q hq; simp only [List.mem_cons, List.not_mem_nil, or_false] at hq ⊢; rcases hq with rfl | rfl | rfl | rfl <;> simp) ?_
      exact L22_294 _ a1 ⟨by omega, by omega⟩ 0 (by decide) (by omega) (Nat.lt_succ_self _)
  · refine g_iconst dX12_worthOf_9 ?_
    exact g_retI dX12_worthOf_10 rfl (hQ 0 (by decide) _ hB FrM.rf )
set_option maxRecDepth 100000 in
set_option maxHeartbeats 4000000 in
theorem m_X12_asksFor (G : GT) (P : PH) (a1 : Int) (h_a1 : 0 ≤ a1 ∧ a1 ≤ 65535) (hB : BdM P) (v_MV : MV P) (Q : Option PV → PH → Prop) (hQ : ∀ (r : Int) (_ : 0 ≤ r ∧ r ≤ 4) (P1 : PH) (_ : BdM P1) (_ : FrM ([78], [49, 50]) P P1) (_ : r = 4 ∨ iand (ishr (a1 / 4096) r) 1 = 1) (_ : MV P1), Q (some (vI r)) P1) : Ct WSM G 3 iX12_asksFor [vR 0, vI a1] P Q := by
  refine Ct.of (by decide) (l0 := [(0, vR 0), (1, vI a1)]) rfl (Nat.le_of_ble_eq_true rfl) ?_
  refine g_aload_n dX12_asksFor_0 rfl ?_
  refine m_g75 rfl dX12_asksFor_1 ?_
  refine g_iload_n dX12_asksFor_4 rfl ?_
  refine m_l49 (z := (P 49 a1)) dX12_asksFor_5 ⟨by omega, by omega⟩ rfl ?_
  refine g_iconst dX12_asksFor_6 ?_
  refine g_ishr dX12_asksFor_7 ?_
  refine g_nm (fun b1 e_b1 => ?_)
  have h_b1 : (ishr (P 49 a1) 3) = (P 49 a1) / 8 := ishr_c 3 (by decide) (x := (P 49 a1)) ⟨by have q0 := bl_49 (k := a1) hB; omega, by have q0 := bl_49 (k := a1) hB; omega⟩
  rw [← e_b1] at h_b1
  have f_b1_0 := bl_49 (k := a1) hB
  refine g_aload_n dX12_asksFor_8 rfl ?_
  refine m_g74 (z := (P 0 74)) rfl dX12_asksFor_9 rfl ?_
  have f2 := b0_74 hB
  refine g_icmp_ne (tgt := 25) dX12_asksFor_12 (by decide) ⟨by omega, by omega⟩ ⟨by have q0 := b0_74 hB; omega, by have q0 := b0_74 hB; omega⟩ (fun k3 => ?_) (fun k3 => ?_)
  · refine g_iload_n dX12_asksFor_25 rfl ?_
    refine g_sI (av := [vI a1]) (st := []) (m_X12_armsIn G P a1 ⟨by omega, by omega⟩ hB  _ (fun rc4 hc4 gc4_v => ⟨rc4, rfl, ?_⟩)) cf_X12_armsIn t_2017 rfl (Nat.le_of_ble_eq_true rfl) (by decide) rfl dX12_asksFor_26
    refine g_istore_n (l1 := [(2, vI rc4), (0, vR 0), (1, vI a1)]) dX12_asksFor_29 (by decide) rfl ?_
    refine g_iload_n dX12_asksFor_30 rfl ?_
    refine g_sI (av := [vI rc4]) (st := []) (m_X12_lowest G P rc4 ⟨by omega, by omega⟩ hB  _ (fun rc5 hc5 gc5_l gc5_b => ⟨rc5, rfl, ?_⟩)) cf_X12_lowest t_1927 rfl (Nat.le_of_ble_eq_true rfl) (by decide) rfl dX12_asksFor_31
    refine g_istore_n (l1 := [(3, vI rc5), (2, vI rc4), (0, vR 0), (1, vI a1)]) dX12_asksFor_34 (by decide) rfl ?_
    refine g_iconst dX12_asksFor_35 ?_
    refine g_istore (l1 := [(4, vI 4), (3, vI rc5), (2, vI rc4), (0, vR 0), (1, vI a1)]) dX12_asksFor_36 (by decide) rfl ?_
    refine g_iconst dX12_asksFor_38 ?_
    refine g_istore (l1 := [(5, vI 0), (4, vI 4), (3, vI rc5), (2, vI rc4), (0, vR 0), (1, vI a1)]) dX12_asksFor_39 (by decide) rfl ?_
    refine g_iconst dX12_asksFor_41 ?_
    refine g_istore (l1 := [(6, vI 0), (5, vI 0), (4, vI 4), (3, vI rc5), (2, vI rc4), (0, vR 0), (1, vI a1)]) dX12_asksFor_42 (by decide) rfl ?_
    have L44_5 : ∀ (n44_5 : Nat) (x44_6_5 : Int) (h_x44_6_5 : 0 ≤ x44_6_5 ∧ x44_6_5 ≤ 4) (x44_5_5 : Int) (h_x44_5_5 : (-2147483648) ≤ x44_5_5 ∧ x44_5_5 ≤ 2147483647) (x44_4_5 : Int) (h_x44_4_5 : 0 ≤ x44_4_5 ∧ x44_4_5 ≤ 4) (H44_5 : PH) (hB44_5 : BdM H44_5) (hE44_5 : FrM ([78], [50]) P H44_5) (i44_0_5 : x44_4_5 = 4 ∨ iand (ishr (a1 / 4096) x44_4_5) 1 = 1) (hm44_5 : ((5 - x44_6_5) : Int).toNat < n44_5), Go WSM G 3 iX12_asksFor 44 [(0, vR 0), (1, vI a1), (2, vI rc4), (3, vI rc5), (4, vI x44_4_5), (5, vI x44_5_5), (6, vI x44_6_5)] [] H44_5 Q := by
      intro n44_5
      induction n44_5 with
      | zero => intro x44_6_5 h_x44_6_5 x44_5_5 h_x44_5_5 x44_4_5 h_x44_4_5 H44_5 hB44_5 hE44_5 i44_0_5 hm44_5; exact absurd hm44_5 (Nat.not_lt_zero _)
      | succ n44_5 ih44_5 =>
      intro x44_6_5 h_x44_6_5 x44_5_5 h_x44_5_5 x44_4_5 h_x44_4_5 H44_5 hB44_5 hE44_5 i44_0_5 hm44_5
      refine g_iload dX12_asksFor_44 rfl ?_
      refine g_aload_n dX12_asksFor_46 rfl ?_
      refine g_vI (av := []) (o := 0) (st := [vI x44_6_5]) (m_X12_columns G H44_5  hB44_5  _ (fun rc254 hc254 gc254_c => ⟨rc254, rfl, ?_⟩)) cf_X12_columns t_1827 rfl (by decide) rfl rfl rfl (Nat.le_of_ble_eq_true rfl) (by decide) rfl dX12_asksFor_47
      have z255 : H44_5 0 13 = (P 0 13) := ((hE44_5.1 13 rfl).trans rfl)
      refine g_icmp_ge (tgt := 127) dX12_asksFor_50 (by decide) ⟨by omega, by omega⟩ ⟨by omega, by omega⟩ (fun k256 => ?_) (fun k256 => ?_)
      · refine g_aload_n dX12_asksFor_127 rfl ?_
        refine m_g75 rfl dX12_asksFor_128 ?_
        refine g_iload_n dX12_asksFor_131 rfl ?_
        refine g_aload_n dX12_asksFor_132 rfl ?_
        refine m_g74 (z := (P 0 74)) rfl dX12_asksFor_133 ((hE44_5.1 74 rfl).trans rfl) ?_
        refine g_iconst dX12_asksFor_136 ?_
        refine g_ishl dX12_asksFor_137 ?_
        refine g_nm (fun b257 e_b257 => ?_)
        have h_b257 : (ishl (P 0 74) 3) = (P 0 74) * 8 := ishl_c 3 (by decide) (x := (P 0 74)) (show IR ((P 0 74) * 8) from ⟨by have q0 := b0_74 hB; omega, by have q0 := b0_74 hB; omega⟩)
        rw [← e_b257] at h_b257
        have f_b257_0 := b0_74 hB
        refine g_iload dX12_asksFor_138 rfl ?_
        refine g_ior dX12_asksFor_140 ?_
        refine g_nm (fun b258 e_b258 => ?_)
        have h_b258 := ior_ir b257 x44_4_5
        rw [← e_b258] at h_b258
        have hz9 : b258 = 8 * (P 0 74) + x44_4_5 := by
          have q := b0_74 hB
          have q1 := ior_hl3 (x := x44_4_5) (y := (P 0 74)) ⟨by omega, by omega⟩ (by omega) (by omega)
          rw [e_b258, h_b257]
          omega
        refine m_s49 dX12_asksFor_141 ⟨by omega, by omega⟩ ?_
        have hB259 := ba_49 (z := b258) (k := a1) hB44_5 ⟨by omega, by omega⟩
        have iv260 : MV (up H44_5 49 a1 b258) := MV.set (F := ([78], [50])) (b := x44_4_5) v_MV (FrM.c FrM.rf hE44_5 rfl) rfl hz9 ⟨by omega, by omega⟩ (b0_74 hB).1 (by unfold mok; omega)
        refine g_iload dX12_asksFor_142 rfl ?_
        exact g_retI dX12_asksFor_144 rfl (hQ x44_4_5 ⟨by omega, by omega⟩ _ hB259 (FrM.a (FrM.c FrM.rf hE44_5 rfl) rfl rfl) (by omega) iv260)
      · refine g_iload_n dX12_asksFor_53 rfl ?_
        refine g_iconst dX12_asksFor_54 ?_
        refine g_icmp_eq (tgt := 127) dX12_asksFor_55 (by decide) ⟨by omega, by omega⟩ (by decide) (fun k261 => ?_) (fun k261 => ?_)
        · refine g_aload_n dX12_asksFor_127 rfl ?_
          refine m_g75 rfl dX12_asksFor_128 ?_
          refine g_iload_n dX12_asksFor_131 rfl ?_
          refine g_aload_n dX12_asksFor_132 rfl ?_
          refine m_g74 (z := (P 0 74)) rfl dX12_asksFor_133 ((hE44_5.1 74 rfl).trans rfl) ?_
          refine g_iconst dX12_asksFor_136 ?_
          refine g_ishl dX12_asksFor_137 ?_
          refine g_nm (fun b262 e_b262 => ?_)
          have h_b262 : (ishl (P 0 74) 3) = (P 0 74) * 8 := ishl_c 3 (by decide) (x := (P 0 74)) (show IR ((P 0 74) * 8) from ⟨by have q0 := b0_74 hB; omega, by have q0 := b0_74 hB; omega⟩)
          rw [← e_b262] at h_b262
          have f_b262_0 := b0_74 hB
          refine g_iload dX12_asksFor_138 rfl ?_
          refine g_ior dX12_asksFor_140 ?_
          refine g_nm (fun b263 e_b263 => ?_)
          have h_b263 := ior_ir b262 x44_4_5
          rw [← e_b263] at h_b263
          have hz9 : b263 = 8 * (P 0 74) + x44_4_5 := by
            have q := b0_74 hB
            have q1 := ior_hl3 (x := x44_4_5) (y := (P 0 74)) ⟨by omega, by omega⟩ (by omega) (by omega)
            rw [e_b263, h_b262]
            omega
          refine m_s49 dX12_asksFor_141 ⟨by omega, by omega⟩ ?_
          have hB264 := ba_49 (z := b263) (k := a1) hB44_5 ⟨by omega, by omega⟩
          have iv265 : MV (up H44_5 49 a1 b263) := MV.set (F := ([78], [50])) (b := x44_4_5) v_MV (FrM.c FrM.rf hE44_5 rfl) rfl hz9 ⟨by omega, by omega⟩ (b0_74 hB).1 (by unfold mok; omega)
          refine g_iload dX12_asksFor_142 rfl ?_
          exact g_retI dX12_asksFor_144 rfl (hQ x44_4_5 ⟨by omega, by omega⟩ _ hB264 (FrM.a (FrM.c FrM.rf hE44_5 rfl) rfl rfl) (by omega) iv265)
        · refine g_iload_n dX12_asksFor_58 rfl ?_
          refine g_sI (av := [vI a1]) (st := []) (m_X12_columnsIn G H44_5 a1 ⟨by omega, by omega⟩ hB44_5  _ (fun rc266 hc266 gc266_v => ⟨rc266, rfl, ?_⟩)) cf_X12_columnsIn t_2024 rfl (Nat.le_of_ble_eq_true rfl) (by decide) rfl dX12_asksFor_59
          have hcol := gc266_v
          refine g_iload dX12_asksFor_62 rfl ?_
          refine g_ishr dX12_asksFor_64 ?_
          refine g_nm (fun b267 e_b267 => ?_)
          have h_b267 := ishr_ir rc266 x44_6_5
          rw [← e_b267] at h_b267
          refine g_iconst dX12_asksFor_65 ?_
          refine g_iand dX12_asksFor_66 ?_
          refine g_nm (fun b268 e_b268 => ?_)
          have h_b268 := iand_r (x := b267) (y := 1) ⟨by omega, by omega⟩
          rw [← e_b268] at h_b268
          have hz := e_b268
          rw [e_b267, hcol] at hz
          have J121_278 : ∀ (x121_4_278 : Int) (h_x121_4_278 : 0 ≤ x121_4_278 ∧ x121_4_278 ≤ 4) (x121_5_278 : Int) (h_x121_5_278 : (-2147483648) ≤ x121_5_278 ∧ x121_5_278 ≤ 2147483647) (H121_278 : PH) (hB121_278 : BdM H121_278) (hE121_278 : FrM ([78], [50]) H44_5 H121_278) (i121_0_278 : x121_4_278 = 4 ∨ iand (ishr (a1 / 4096) x121_4_278) 1 = 1), Go WSM G 3 iX12_asksFor 121 [(0, vR 0), (1, vI a1), (2, vI rc4), (3, vI rc5), (4, vI x121_4_278), (5, vI x121_5_278), (6, vI x44_6_5)] [] H121_278 Q := by
            intro x121_4_278 h_x121_4_278 x121_5_278 h_x121_5_278 H121_278 hB121_278 hE121_278 i121_0_278
            refine g_iinc (l1 := [(6, vI (x44_6_5 + 1)), (0, vR 0), (1, vI a1), (2, vI rc4), (3, vI rc5), (4, vI x121_4_278), (5, vI x121_5_278)]) dX12_asksFor_121 rfl (by decide) rfl ?_
            refine g_goto (tgt := 44) dX12_asksFor_124 (by decide) ?_
            refine g_forget (l1 := [(0, vR 0), (1, vI a1), (2, vI rc4), (3, vI rc5), (4, vI x121_4_278), (5, vI x121_5_278), (6, vI (x44_6_5 + 1))]) (by intro q hq; simp only [List.mem_cons, List.not_mem_nil, or_false] at hq ⊢; rcases hq with rfl | rfl | rfl | rfl | rfl | rfl | rfl <;> simp) ?_
            exact ih44_5 (x44_6_5 + 1) ⟨by omega, by omega⟩ x121_5_278 ⟨by omega, by omega⟩ x121_4_278 ⟨by omega, by omega⟩ _ hB121_278 (FrM.c (FrM.c FrM.rf hE44_5 rfl) hE121_278 rfl) (by omega) (by omega)
          refine g_if_eq (tgt := 121) dX12_asksFor_67 (by decide) ⟨by omega, by omega⟩ (fun k280 => ?_) (fun k280 => ?_)
          · refine g_forget (l1 := [(0, vR 0), (1, vI a1), (2, vI rc4), (3, vI rc5), (4, vI x44_4_5), (5, vI x44_5_5), (6, vI x44_6_5)]) (by intro q hq; simp only [List.mem_cons, List.not_mem_nil, or_false] at hq ⊢; rcases hq with rfl | rfl | rfl | rfl | rfl | rfl | rfl <;> simp) ?_
            exact J121_278 x44_4_5 ⟨by omega, by omega⟩ x44_5_5 ⟨by omega, by omega⟩ _ hB44_5 FrM.rf (by omega)
          · refine g_aload_n dX12_asksFor_70 rfl ?_
            refine m_g64 rfl dX12_asksFor_71 ?_
            refine g_iload dX12_asksFor_74 rfl ?_
            refine m_l42 (z := (P 42 x44_6_5)) dX12_asksFor_76 ⟨by omega, by omega⟩ ((congrFun (hE44_5.2 42 rfl rfl) _).trans rfl) ?_
            refine g_iload_n dX12_asksFor_77 rfl ?_
            refine g_ishr dX12_asksFor_78 ?_
            refine g_nm (fun b281 e_b281 => ?_)
            have h_b281 := ishr_ir (P 42 x44_6_5) rc5
            rw [← e_b281] at h_b281
            have f_b281_0 := bl_42 (k := x44_6_5) hB
            refine g_iconst dX12_asksFor_79 ?_
            refine g_iand dX12_asksFor_80 ?_
            refine g_nm (fun b282 e_b282 => ?_)
            have h_b282 := iand_r (x := b281) (y := 1) ⟨by omega, by omega⟩
            rw [← e_b282] at h_b282
            refine g_iconst dX12_asksFor_81 ?_
            refine g_icmp_ne (tgt := 88) dX12_asksFor_82 (by decide) ⟨by omega, by omega⟩ (by decide) (fun k283 => ?_) (fun k283 => ?_)
            · refine g_aload_n dX12_asksFor_88 rfl ?_
              refine g_iload_n dX12_asksFor_89 rfl ?_
              refine g_iload dX12_asksFor_90 rfl ?_
              refine g_vI (av := [vI rc4, vI x44_6_5]) (o := 0) (st := []) (m_X12_worthOf G H44_5 rc4 x44_6_5 ⟨by omega, by omega⟩ ⟨by omega, by omega⟩ hB44_5  _ (fun rc284 hc284 Pc284 hBc284 hFc284 => ⟨rc284, rfl, ?_⟩)) cf_X12_worthOf t_2027 rfl (by decide) rfl rfl rfl (Nat.le_of_ble_eq_true rfl) (by decide) rfl dX12_asksFor_92
              refine g_istore (l1 := [(7, vI rc284), (0, vR 0), (1, vI a1), (2, vI rc4), (3, vI rc5), (4, vI x44_4_5), (5, vI x44_5_5), (6, vI x44_6_5)]) dX12_asksFor_95 (by decide) rfl ?_
              refine g_iload dX12_asksFor_97 rfl ?_
              refine g_iconst dX12_asksFor_99 ?_
              have J113_286 : ∀ (_ : True), Go WSM G 3 iX12_asksFor 113 [(0, vR 0), (1, vI a1), (2, vI rc4), (3, vI rc5), (6, vI x44_6_5), (7, vI rc284)] [] Pc284 Q := by
                intro _
                refine g_iload dX12_asksFor_113 rfl ?_
                refine g_istore (l1 := [(4, vI x44_6_5), (0, vR 0), (1, vI a1), (2, vI rc4), (3, vI rc5), (6, vI x44_6_5), (7, vI rc284)]) dX12_asksFor_115 (by decide) rfl ?_
                refine g_iload dX12_asksFor_117 rfl ?_
                refine g_istore (l1 := [(5, vI rc284), (4, vI x44_6_5), (0, vR 0), (1, vI a1), (2, vI rc4), (3, vI rc5), (6, vI x44_6_5), (7, vI rc284)]) dX12_asksFor_119 (by decide) rfl ?_
                refine g_forget (l1 := [(0, vR 0), (1, vI a1), (2, vI rc4), (3, vI rc5), (4, vI x44_6_5), (5, vI rc284), (6, vI x44_6_5)]) (by intro q hq; simp only [List.mem_cons, List.not_mem_nil, or_false] at hq ⊢; rcases hq with rfl | rfl | rfl | rfl | rfl | rfl | rfl <;> simp) ?_
                exact J121_278 x44_6_5 ⟨by omega, by omega⟩ rc284 ⟨by omega, by omega⟩ _ hBc284 (FrM.c FrM.rf hFc284 rfl) (by omega)
              refine g_icmp_eq (tgt := 113) dX12_asksFor_100 (by decide) ⟨by omega, by omega⟩ (by decide) (fun k288 => ?_) (fun k288 => ?_)
              · refine g_forget (l1 := [(0, vR 0), (1, vI a1), (2, vI rc4), (3, vI rc5), (6, vI x44_6_5), (7, vI rc284)]) (by intro q hq; simp only [List.mem_cons, List.not_mem_nil, or_false] at hq ⊢; rcases hq with rfl | rfl | rfl | rfl | rfl | rfl <;> simp) ?_
                exact J113_286 trivial
              · refine g_iload dX12_asksFor_103 rfl ?_
                refine g_iload dX12_asksFor_105 rfl ?_
                refine g_icmp_gt (tgt := 113) dX12_asksFor_107 (by decide) ⟨by omega, by omega⟩ ⟨by omega, by omega⟩ (fun k289 => ?_) (fun k289 => ?_)
                · refine g_forget (l1 := [(0, vR 0), (1, vI a1), (2, vI rc4), (3, vI rc5), (6, vI x44_6_5), (7, vI rc284)]) (by intro q hq; simp only [List.mem_cons, List.not_mem_nil, or_false] at hq ⊢; rcases hq with rfl | rfl | rfl | rfl | rfl | rfl <;> simp) ?_
                  exact J113_286 trivial
                · refine g_goto (tgt := 121) dX12_asksFor_110 (by decide) ?_
                  refine g_forget (l1 := [(0, vR 0), (1, vI a1), (2, vI rc4), (3, vI rc5), (4, vI x44_4_5), (5, vI x44_5_5), (6, vI x44_6_5)]) (by intro q hq; simp only [List.mem_cons, List.not_mem_nil, or_false] at hq ⊢; rcases hq with rfl | rfl | rfl | rfl | rfl | rfl | rfl <;> simp) ?_
                  exact J121_278 x44_4_5 ⟨by omega, by omega⟩ x44_5_5 ⟨by omega, by omega⟩ _ hBc284 (FrM.c FrM.rf hFc284 rfl) (by omega)
            · refine g_goto (tgt := 121) dX12_asksFor_85 (by decide) ?_
              refine g_forget (l1 := [(0, vR 0), (1, vI a1), (2, vI rc4), (3, vI rc5), (4, vI x44_4_5), (5, vI x44_5_5), (6, vI x44_6_5)]) (by intro q hq; simp only [List.mem_cons, List.not_mem_nil, or_false] at hq ⊢; rcases hq with rfl | rfl | rfl | rfl | rfl | rfl | rfl <;> simp) ?_
              exact J121_278 x44_4_5 ⟨by omega, by omega⟩ x44_5_5 ⟨by omega, by omega⟩ _ hB44_5 FrM.rf (by omega)
    refine g_forget (l1 := [(0, vR 0), (1, vI a1), (2, vI rc4), (3, vI rc5), (4, vI 4), (5, vI 0), (6, vI 0)]) (by intro q hq; simp only [List.mem_cons, List.not_mem_nil, or_false] at hq ⊢; rcases hq with rfl | rfl | rfl | rfl | rfl | rfl | rfl <;> simp) ?_
    exact L44_5 _ 0 (by decide) 0 (by decide) 4 (by decide) _ hB FrM.rf (by omega) (Nat.lt_succ_self _)
  · refine g_aload_n dX12_asksFor_15 rfl ?_
    refine m_g75 rfl dX12_asksFor_16 ?_
    refine g_iload_n dX12_asksFor_19 rfl ?_
    refine m_l49 (z := (P 49 a1)) dX12_asksFor_20 ⟨by omega, by omega⟩ rfl ?_
    refine g_bipush dX12_asksFor_21 (by decide) ?_
    refine g_iand dX12_asksFor_23 ?_
    refine g_nm (fun b290 e_b290 => ?_)
    have h_b290 := iand_r (x := (P 49 a1)) (y := 7) ⟨by omega, by omega⟩
    rw [← e_b290] at h_b290
    have h8 : b290 = (P 49 a1) % 8 := by rw [e_b290]; have q := bl_49 (k := a1) hB; exact iand7 ⟨(v_MV a1).1, q.2⟩
    have hm := (v_MV a1).2.2 (by omega)
    rw [← h8] at hm
    unfold mok at hm
    exact g_retI dX12_asksFor_24 rfl (hQ b290 ⟨by omega, by omega⟩ _ hB FrM.rf (by omega) v_MV)
set_option maxRecDepth 100000 in
set_option maxHeartbeats 4000000 in
theorem m_X12_throughDoor (G : GT) (P : PH) (a1 : Int) (h_a1 : 0 ≤ a1 ∧ a1 ≤ 65535) (hB : BdM P) (Q : Option PV → PH → Prop) (hQ : ∀ (r : Int) (_ : 0 ≤ r ∧ r ≤ 65535) (_ : a1 % 4096 = 0 ∨ r < a1) (_ : r ≤ a1) (_ : a1 % 4096 = 0 ∨ wgt r + 1 ≤ wgt a1), Q (some (vI r)) P) : Ct WSM G 2 iX12_throughDoor [vI a1] P Q := by
  refine Ct.of (by decide) (l0 := [(0, vI a1)]) rfl (Nat.le_of_ble_eq_true rfl) ?_
  refine g_iload_n dX12_throughDoor_0 rfl ?_
  refine g_sI (av := [vI a1]) (st := []) (m_X12_armsIn G P a1 ⟨by omega, by omega⟩ hB  _ (fun rc1 hc1 gc1_v => ⟨rc1, rfl, ?_⟩)) cf_X12_armsIn t_2017 rfl (Nat.le_of_ble_eq_true rfl) (by decide) rfl dX12_throughDoor_1
  refine g_iload_n dX12_throughDoor_4 rfl ?_
  refine g_sI (av := [vI a1]) (st := [vI rc1]) (m_X12_armsIn G P a1 ⟨by omega, by omega⟩ hB  _ (fun rc2 hc2 gc2_v => ⟨rc2, rfl, ?_⟩)) cf_X12_armsIn t_2017 rfl (Nat.le_of_ble_eq_true rfl) (by decide) rfl dX12_throughDoor_5
  refine g_iconst dX12_throughDoor_8 ?_
  refine g_isub dX12_throughDoor_9 ?_
  refine g_iand dX12_throughDoor_10 ?_
  refine g_nm (fun b3 e_b3 => ?_)
  have h_b3 := iand_l (x := rc1) (y := (rc2 - 1)) ⟨by omega, by omega⟩
  rw [← e_b3] at h_b3
  have hd : 0 < rc1 → b3 ≤ (rc2 - 1) := fun h0 => by rw [e_b3]; exact (iand_r (x := rc1) (y := (rc2 - 1)) ⟨by omega, by omega⟩).2
  have hq9 : a1 % 4096 = 0 ∨ pop b3 + 1 ≤ pop (a1 % 4096) := by
    rcases (show a1 % 4096 = 0 ∨ 1 ≤ a1 % 4096 by omega) with h9 | h9
    · exact Or.inl h9
    · right; rw [e_b3, show rc1 = a1 % 4096 by omega, show (rc2 - 1) = a1 % 4096 - 1 by omega]; exact pop_low ⟨by omega, by omega⟩
  refine g_iload_n dX12_throughDoor_11 rfl ?_
  refine g_sI (av := [vI a1]) (st := [vI b3]) (m_X12_columnsIn G P a1 ⟨by omega, by omega⟩ hB  _ (fun rc4 hc4 gc4_v => ⟨rc4, rfl, ?_⟩)) cf_X12_columnsIn t_2024 rfl (Nat.le_of_ble_eq_true rfl) (by decide) rfl dX12_throughDoor_12
  have hcols := gc4_v
  refine g_sI (av := [vI b3, vI rc4]) (st := []) (m_X12_leftOf G P b3 rc4 ⟨by omega, by omega⟩ ⟨by omega, by omega⟩ hB  _ (fun rc5 hc5 gc5_v => ⟨rc5, rfl, ?_⟩)) cf_X12_leftOf t_2014 rfl (Nat.le_of_ble_eq_true rfl) (by decide) rfl dX12_throughDoor_15
  have hwl : a1 % 4096 = 0 ∨ wgt rc5 + 1 ≤ wgt a1 := by
    rcases hq9 with h9 | h9
    · exact Or.inl h9
    · right; rw [wgt_of (gc5_v) ⟨by omega, by omega⟩, hcols]; unfold wgt; omega
  exact g_retI dX12_throughDoor_18 rfl (hQ rc5 ⟨by omega, by omega⟩ (by omega) (by omega) (by omega))
set_option maxRecDepth 100000 in
set_option maxHeartbeats 4000000 in
theorem m_X12_branchOf (G : GT) (P : PH) (a1 : Int) (a2 : Int) (a3 : Int) (h_a1 : 0 ≤ a1 ∧ a1 ≤ 65535) (h_a2 : 0 ≤ a2 ∧ a2 ≤ 3) (h_a3 : 0 ≤ a3 ∧ a3 ≤ 4095) (hB : BdM P) (Q : Option PV → PH → Prop) (hQ : ∀ (r : Int) (_ : 0 ≤ r ∧ r ≤ 65535) (_ : iand (ishr (a1 / 4096) a2) 1 ≠ 1 ∨ r < a1) (_ : r ≤ a1) (_ : iand (ishr (a1 / 4096) a2) 1 ≠ 1 ∨ wgt r + 1 ≤ wgt a1), Q (some (vI r)) P) : Ct WSM G 2 iX12_branchOf [vR 0, vI a1, vI a2, vI a3] P Q := by
  refine Ct.of (by decide) (l0 := [(0, vR 0), (1, vI a1), (2, vI a2), (3, vI a3)]) rfl (Nat.le_of_ble_eq_true rfl) ?_
  refine g_iload_n dX12_branchOf_0 rfl ?_
  refine g_sI (av := [vI a1]) (st := []) (m_X12_armsIn G P a1 ⟨by omega, by omega⟩ hB  _ (fun rc1 hc1 gc1_v => ⟨rc1, rfl, ?_⟩)) cf_X12_armsIn t_2017 rfl (Nat.le_of_ble_eq_true rfl) (by decide) rfl dX12_branchOf_1
  refine g_iload_n dX12_branchOf_4 rfl ?_
  refine g_iand dX12_branchOf_5 ?_
  refine g_nm (fun b2 e_b2 => ?_)
  have h_b2 := iand_l (x := rc1) (y := a3) ⟨by omega, by omega⟩
  rw [← e_b2] at h_b2
  have hpa : pop b2 ≤ pop (a1 % 4096) := by rw [e_b2, show rc1 = a1 % 4096 by omega]; exact pop_and ⟨by omega, by omega⟩ ⟨by omega, by omega⟩
  refine g_iload_n dX12_branchOf_6 rfl ?_
  refine g_sI (av := [vI a1]) (st := [vI b2]) (m_X12_columnsIn G P a1 ⟨by omega, by omega⟩ hB  _ (fun rc3 hc3 gc3_v => ⟨rc3, rfl, ?_⟩)) cf_X12_columnsIn t_2024 rfl (Nat.le_of_ble_eq_true rfl) (by decide) rfl dX12_branchOf_7
  have hcol := gc3_v
  refine g_iconst dX12_branchOf_10 ?_
  refine g_iload_n dX12_branchOf_11 rfl ?_
  refine g_ishl dX12_branchOf_12 ?_
  refine g_nm (fun b4 e_b4 => ?_)
  have h_b4 : 1 ≤ (ishl 1 a2) ∧ (ishl 1 a2) ≤ 8 := (ishl1 3 (by decide) (y := a2) ⟨by omega, by omega⟩).2
  rw [← e_b4] at h_b4
  refine g_iconst dX12_branchOf_13 ?_
  refine g_ixor dX12_branchOf_14 ?_
  refine g_nm (fun b5 e_b5 => ?_)
  have h_b5 := ixor_ir b4 (-1)
  rw [← e_b5] at h_b5
  refine g_iand dX12_branchOf_15 ?_
  refine g_nm (fun b6 e_b6 => ?_)
  have h_b6 := iand_l (x := rc3) (y := b5) ⟨by omega, by omega⟩
  rw [← e_b6] at h_b6
  have hp9 : iand (ishr (a1 / 4096) a2) 1 = 1 → pop b6 + 1 ≤ pop (a1 / 4096) := fun q => by
    rw [e_b6, e_b5, e_b4, hcol]
    exact pop_clr ⟨by omega, by omega⟩ ⟨by omega, by omega⟩ q
  have hb : iand (ishr (a1 / 4096) a2) 1 = 1 → b6 ≤ rc3 - 1 := fun q => by
    rw [e_b6, e_b5, e_b4]
    exact bclr ⟨by omega, by omega⟩ ⟨by omega, by omega⟩ (by rw [hcol]; exact q)
  refine g_sI (av := [vI b2, vI b6]) (st := []) (m_X12_leftOf G P b2 b6 ⟨by omega, by omega⟩ ⟨by omega, by omega⟩ hB  _ (fun rc7 hc7 gc7_v => ⟨rc7, rfl, ?_⟩)) cf_X12_leftOf t_2014 rfl (Nat.le_of_ble_eq_true rfl) (by decide) rfl dX12_branchOf_16
  have hwl : iand (ishr (a1 / 4096) a2) 1 ≠ 1 ∨ wgt rc7 + 1 ≤ wgt a1 := by
    rcases Classical.em (iand (ishr (a1 / 4096) a2) 1 = 1) with h9 | h9
    · right; have h8 := hp9 h9; rw [wgt_of (gc7_v) ⟨by omega, by omega⟩]; unfold wgt; omega
    · exact Or.inl h9
  exact g_retI dX12_branchOf_19 rfl (hQ rc7 ⟨by omega, by omega⟩ (by omega) (by omega) (by omega))
set_option maxRecDepth 100000 in
set_option maxHeartbeats 4000000 in
theorem m_X12_isDoor (G : GT) (P : PH) (a1 : Int) (h_a1 : 0 ≤ a1 ∧ a1 ≤ 65535) (hB : BdM P) (v_MV : MV P) (Q : Option PV → PH → Prop) (hQ : ∀ (r : Int) (_ : 0 ≤ r ∧ r ≤ 1) (P1 : PH) (_ : BdM P1) (_ : FrM ([78], [49, 50]) P P1) (_ : r = 0 ∨ a1 % 4096 ≠ 0) (_ : MV P1), Q (some (vI r)) P1) : Ct WSM G 4 iX12_isDoor [vR 0, vI a1] P Q := by
  refine Ct.of (by decide) (l0 := [(0, vR 0), (1, vI a1)]) rfl (Nat.le_of_ble_eq_true rfl) ?_
  refine g_iload_n dX12_isDoor_0 rfl ?_
  refine g_sI (av := [vI a1]) (st := []) (m_X12_armsIn G P a1 ⟨by omega, by omega⟩ hB  _ (fun rc1 hc1 gc1_v => ⟨rc1, rfl, ?_⟩)) cf_X12_armsIn t_2017 rfl (Nat.le_of_ble_eq_true rfl) (by decide) rfl dX12_isDoor_1
  refine g_if_eq (tgt := 36) dX12_isDoor_4 (by decide) ⟨by omega, by omega⟩ (fun k2 => ?_) (fun k2 => ?_)
  · refine g_iconst dX12_isDoor_36 ?_
    exact g_retZ dX12_isDoor_37 rfl (by decide) (hQ 0 (by decide) _ hB FrM.rf (by omega) v_MV)
  · refine g_aload_n dX12_isDoor_7 rfl ?_
    refine g_iload_n dX12_isDoor_8 rfl ?_
    refine g_vI (av := [vI a1]) (o := 0) (st := []) (m_X12_asksFor G P a1 ⟨by omega, by omega⟩ hB v_MV _ (fun rc3 hc3 Pc3 hBc3 hFc3 gc3_b vc3_MV => ⟨rc3, rfl, ?_⟩)) cf_X12_asksFor t_2020 rfl (by decide) rfl rfl rfl (Nat.le_of_ble_eq_true rfl) (by decide) rfl dX12_isDoor_9
    refine g_iconst dX12_isDoor_12 ?_
    refine g_icmp_ne (tgt := 36) dX12_isDoor_13 (by decide) ⟨by omega, by omega⟩ (by decide) (fun k4 => ?_) (fun k4 => ?_)
    · refine g_iconst dX12_isDoor_36 ?_
      exact g_retZ dX12_isDoor_37 rfl (by decide) (hQ 0 (by decide) _ hBc3 (FrM.c FrM.rf hFc3 rfl) (by omega) vc3_MV)
    · refine g_aload_n dX12_isDoor_16 rfl ?_
      refine m_g65 rfl dX12_isDoor_17 ?_
      refine g_iload_n dX12_isDoor_20 rfl ?_
      refine g_sI (av := [vI a1]) (st := [vR 43]) (m_X12_armsIn G Pc3 a1 ⟨by omega, by omega⟩ hBc3  _ (fun rc5 hc5 gc5_v => ⟨rc5, rfl, ?_⟩)) cf_X12_armsIn t_2017 rfl (Nat.le_of_ble_eq_true rfl) (by decide) rfl dX12_isDoor_21
      refine g_sI (av := [vI rc5]) (st := [vR 43]) (m_X12_lowest G Pc3 rc5 ⟨by omega, by omega⟩ hBc3  _ (fun rc6 hc6 gc6_l gc6_b => ⟨rc6, rfl, ?_⟩)) cf_X12_lowest t_1927 rfl (Nat.le_of_ble_eq_true rfl) (by decide) rfl dX12_isDoor_24
      refine m_l43 (z := (P 43 rc6)) dX12_isDoor_27 ⟨by omega, by omega⟩ ((congrFun (hFc3.2 43 rfl rfl) _).trans rfl) ?_
      refine g_iconst dX12_isDoor_28 ?_
      have f7 := bl_43 (k := rc6) hB
      refine g_icmp_eq (tgt := 36) dX12_isDoor_29 (by decide) ⟨by have q0 := bl_43 (k := rc6) hB; omega, by have q0 := bl_43 (k := rc6) hB; omega⟩ (by decide) (fun k8 => ?_) (fun k8 => ?_)
      · refine g_iconst dX12_isDoor_36 ?_
        exact g_retZ dX12_isDoor_37 rfl (by decide) (hQ 0 (by decide) _ hBc3 (FrM.c FrM.rf hFc3 rfl) (by omega) vc3_MV)
      · refine g_iconst dX12_isDoor_32 ?_
        refine g_goto (tgt := 37) dX12_isDoor_33 (by decide) ?_
        exact g_retZ dX12_isDoor_37 rfl (by decide) (hQ 1 (by decide) _ hBc3 (FrM.c FrM.rf hFc3 rfl) (by omega) vc3_MV)
set_option maxRecDepth 100000 in
set_option maxHeartbeats 4000000 in
theorem m_X12_testsFor (G : GT) (P : PH) (a1 : Int) (a2 : Int) (h_a1 : 0 ≤ a1 ∧ a1 ≤ 2147483647) (h_a2 : (-2147483648) ≤ a2 ∧ a2 ≤ 2147483647) (hB : BdM P) (v_okC : okC P) (v_MV : MV P) (Q : Option PV → PH → Prop) (hQ : ∀ (r : Int) (_ : 0 ≤ r ∧ r ≤ 65535) (P1 : PH) (_ : BdM P1) (_ : FrM ([78], [44, 49, 50]) P P1) (_ : MV P1), Q (some (vI r)) P1) : Ct WSM G 4 iX12_testsFor [vR 0, vI a1, vI a2] P Q := by
  refine Ct.of (by decide) (l0 := [(0, vR 0), (1, vI a1), (2, vI a2)]) rfl (Nat.le_of_ble_eq_true rfl) ?_
  refine g_aload_n dX12_testsFor_0 rfl ?_
  refine g_iload_n dX12_testsFor_1 rfl ?_
  refine g_vV (av := [vI a1]) (o := 0) (st := []) (m_X12_valuesIn G P a1 ⟨by omega, by omega⟩ hB v_okC _ (fun Pc1 hBc1 hFc1 gc1_vv => ⟨rfl, ?_⟩)) cf_X12_valuesIn t_1903 rfl (by decide) rfl rfl rfl (Nat.le_of_ble_eq_true rfl) (by decide) rfl dX12_testsFor_2
  refine g_aload_n dX12_testsFor_5 rfl ?_
  refine g_vI (av := []) (o := 0) (st := []) (m_X12_root G Pc1  hBc1  _ (fun rc2 hc2 => ⟨rc2, rfl, ?_⟩)) cf_X12_root t_2010 rfl (by decide) rfl rfl rfl (Nat.le_of_ble_eq_true rfl) (by decide) rfl dX12_testsFor_6
  refine g_istore_n (l1 := [(3, vI rc2), (0, vR 0), (1, vI a1), (2, vI a2)]) dX12_testsFor_9 (by decide) rfl ?_
  refine g_iconst dX12_testsFor_10 ?_
  refine g_istore (l1 := [(4, vI 0), (3, vI rc2), (0, vR 0), (1, vI a1), (2, vI a2)]) dX12_testsFor_11 (by decide) rfl ?_
  have L13_2 : ∀ (n13_2 : Nat) (x13_4_2 : Int) (h_x13_4_2 : 0 ≤ x13_4_2 ∧ x13_4_2 ≤ 65535) (x13_3_2 : Int) (h_x13_3_2 : 0 ≤ x13_3_2 ∧ x13_3_2 ≤ 65535) (H13_2 : PH) (hB13_2 : BdM H13_2) (hE13_2 : FrM ([78], [49, 50]) Pc1 H13_2) (i13_0_2 : x13_4_2 + x13_3_2 ≤ 65535) (w13_MV_2 : MV H13_2) (w13_MVw_2 : MVw H13_2) (hm13_2 : (x13_3_2 : Int).toNat < n13_2), Go WSM G 4 iX12_testsFor 13 [(0, vR 0), (2, vI a2), (3, vI x13_3_2), (4, vI x13_4_2)] [] H13_2 Q := by
    intro n13_2
    induction n13_2 with
    | zero => intro x13_4_2 h_x13_4_2 x13_3_2 h_x13_3_2 H13_2 hB13_2 hE13_2 i13_0_2 w13_MV_2 w13_MVw_2 hm13_2; exact absurd hm13_2 (Nat.not_lt_zero _)
    | succ n13_2 ih13_2 =>
    intro x13_4_2 h_x13_4_2 x13_3_2 h_x13_3_2 H13_2 hB13_2 hE13_2 i13_0_2 w13_MV_2 w13_MVw_2 hm13_2
    refine g_iload_n dX12_testsFor_13 rfl ?_
    refine g_sI (av := [vI x13_3_2]) (st := []) (m_X12_armsIn G H13_2 x13_3_2 ⟨by omega, by omega⟩ hB13_2  _ (fun rc56 hc56 gc56_v => ⟨rc56, rfl, ?_⟩)) cf_X12_armsIn t_2017 rfl (Nat.le_of_ble_eq_true rfl) (by decide) rfl dX12_testsFor_14
    refine g_if_eq (tgt := 86) dX12_testsFor_17 (by decide) ⟨by omega, by omega⟩ (fun k57 => ?_) (fun k57 => ?_)
    · refine g_iload dX12_testsFor_86 rfl ?_
      exact g_retI dX12_testsFor_88 rfl (hQ x13_4_2 ⟨by omega, by omega⟩ _ hB13_2 (FrM.c (FrM.c FrM.rf hFc1 rfl) hE13_2 rfl) w13_MV_2)
    · refine g_aload_n dX12_testsFor_20 rfl ?_
      refine g_iload_n dX12_testsFor_21 rfl ?_
      refine g_vI (av := [vI x13_3_2]) (o := 0) (st := []) (m_X12_asksFor G H13_2 x13_3_2 ⟨by omega, by omega⟩ hB13_2 w13_MV_2 _ (fun rc58 hc58 Pc58 hBc58 hFc58 gc58_b vc58_MV => ⟨rc58, rfl, ?_⟩)) cf_X12_asksFor t_2020 rfl (by decide) rfl rfl rfl (Nat.le_of_ble_eq_true rfl) (by decide) rfl dX12_testsFor_22
      refine g_istore (l1 := [(5, vI rc58), (0, vR 0), (2, vI a2), (3, vI x13_3_2), (4, vI x13_4_2)]) dX12_testsFor_25 (by decide) rfl ?_
      refine g_iload dX12_testsFor_27 rfl ?_
      refine g_iconst dX12_testsFor_29 ?_
      refine g_icmp_ne (tgt := 59) dX12_testsFor_30 (by decide) ⟨by omega, by omega⟩ (by decide) (fun k59 => ?_) (fun k59 => ?_)
      · refine g_iinc (l1 := [(4, vI (x13_4_2 + 1)), (5, vI rc58), (0, vR 0), (2, vI a2), (3, vI x13_3_2)]) dX12_testsFor_59 rfl (by decide) rfl ?_
        refine g_aload_n dX12_testsFor_62 rfl ?_
        refine g_iload_n dX12_testsFor_63 rfl ?_
        refine g_iload dX12_testsFor_64 rfl ?_
        refine g_aload_n dX12_testsFor_66 rfl ?_
        refine g_iload dX12_testsFor_67 rfl ?_
        refine g_aload_n dX12_testsFor_69 rfl ?_
        refine m_g67 rfl dX12_testsFor_70 ?_
        refine g_iload dX12_testsFor_73 rfl ?_
        refine m_l44 (z := (Pc1 44 rc58)) dX12_testsFor_75 ⟨by omega, by omega⟩ ((congrFun (hFc58.2 44 rfl rfl) _).trans ((congrFun (hE13_2.2 44 rfl rfl) _).trans rfl)) ?_
        have f60 := bl_44 (k := rc58) hBc1
        refine g_vI (av := [vI rc58, vI (Pc1 44 rc58)]) (o := 0) (st := [vI rc58, vI x13_3_2, vR 0]) (m_X12_setIn G Pc58 rc58 (Pc1 44 rc58) ⟨by omega, by omega⟩ ⟨by have q0 := bl_44 (k := rc58) hBc1; omega, by have q0 := bl_44 (k := rc58) hBc1; omega⟩ hBc58  _ (fun rc61 hc61 => ⟨rc61, rfl, ?_⟩)) cf_X12_setIn t_1907 rfl (by decide) rfl rfl rfl (Nat.le_of_ble_eq_true rfl) (by decide) rfl dX12_testsFor_76
        refine g_vI (av := [vI x13_3_2, vI rc58, vI rc61]) (o := 0) (st := []) (m_X12_branchOf G Pc58 x13_3_2 rc58 rc61 ⟨by omega, by omega⟩ ⟨by omega, by omega⟩ ⟨by omega, by omega⟩ hBc58  _ (fun rc62 hc62 gc62_lt gc62_le gc62_wl => ⟨rc62, rfl, ?_⟩)) cf_X12_branchOf t_2037 rfl (by decide) rfl rfl rfl (Nat.le_of_ble_eq_true rfl) (by decide) rfl dX12_testsFor_79
        refine g_istore_n (l1 := [(3, vI rc62), (4, vI (x13_4_2 + 1)), (5, vI rc58), (0, vR 0), (2, vI a2)]) dX12_testsFor_82 (by decide) rfl ?_
        refine g_goto (tgt := 13) dX12_testsFor_83 (by decide) ?_
        refine g_forget (l1 := [(0, vR 0), (2, vI a2), (3, vI rc62), (4, vI (x13_4_2 + 1))]) (by intro q hq; simp only [List.mem_cons, List.not_mem_nil, or_false] at hq ⊢; rcases hq with rfl | rfl | rfl | rfl <;> simp) ?_
        exact ih13_2 (x13_4_2 + 1) ⟨by omega, by omega⟩ rc62 ⟨by omega, by omega⟩ _ hBc58 (FrM.c (FrM.c FrM.rf hE13_2 rfl) hFc58 rfl) (by omega) vc58_MV (vc58_MV.w) (by omega)
      · refine g_iload_n dX12_testsFor_33 rfl ?_
        refine g_iload_n dX12_testsFor_34 rfl ?_
        refine g_sI (av := [vI x13_3_2]) (st := [vI a2]) (m_X12_armsIn G Pc58 x13_3_2 ⟨by omega, by omega⟩ hBc58  _ (fun rc63 hc63 gc63_v => ⟨rc63, rfl, ?_⟩)) cf_X12_armsIn t_2017 rfl (Nat.le_of_ble_eq_true rfl) (by decide) rfl dX12_testsFor_35
        refine g_sI (av := [vI rc63]) (st := [vI a2]) (m_X12_lowest G Pc58 rc63 ⟨by omega, by omega⟩ hBc58  _ (fun rc64 hc64 gc64_l gc64_b => ⟨rc64, rfl, ?_⟩)) cf_X12_lowest t_1927 rfl (Nat.le_of_ble_eq_true rfl) (by decide) rfl dX12_testsFor_38
        refine g_ishr dX12_testsFor_41 ?_
        refine g_nm (fun b65 e_b65 => ?_)
        have h_b65 := ishr_ir a2 rc64
        rw [← e_b65] at h_b65
        refine g_iconst dX12_testsFor_42 ?_
        refine g_iand dX12_testsFor_43 ?_
        refine g_nm (fun b66 e_b66 => ?_)
        have h_b66 := iand_r (x := b65) (y := 1) ⟨by omega, by omega⟩
        rw [← e_b66] at h_b66
        refine g_iconst dX12_testsFor_44 ?_
        refine g_icmp_ne (tgt := 51) dX12_testsFor_45 (by decide) ⟨by omega, by omega⟩ (by decide) (fun k67 => ?_) (fun k67 => ?_)
        · refine g_iload_n dX12_testsFor_51 rfl ?_
          refine g_sI (av := [vI x13_3_2]) (st := []) (m_X12_throughDoor G Pc58 x13_3_2 ⟨by omega, by omega⟩ hBc58  _ (fun rc68 hc68 gc68_lt gc68_le gc68_wl => ⟨rc68, rfl, ?_⟩)) cf_X12_throughDoor t_2034 rfl (Nat.le_of_ble_eq_true rfl) (by decide) rfl dX12_testsFor_52
          refine g_istore_n (l1 := [(3, vI rc68), (5, vI rc58), (0, vR 0), (2, vI a2), (4, vI x13_4_2)]) dX12_testsFor_55 (by decide) rfl ?_
          refine g_goto (tgt := 13) dX12_testsFor_56 (by decide) ?_
          refine g_forget (l1 := [(0, vR 0), (2, vI a2), (3, vI rc68), (4, vI x13_4_2)]) (by intro q hq; simp only [List.mem_cons, List.not_mem_nil, or_false] at hq ⊢; rcases hq with rfl | rfl | rfl | rfl <;> simp) ?_
          exact ih13_2 x13_4_2 ⟨by omega, by omega⟩ rc68 ⟨by omega, by omega⟩ _ hBc58 (FrM.c (FrM.c FrM.rf hE13_2 rfl) hFc58 rfl) (by omega) vc58_MV (vc58_MV.w) (by omega)
        · refine g_iload dX12_testsFor_48 rfl ?_
          exact g_retI dX12_testsFor_50 rfl (hQ x13_4_2 ⟨by omega, by omega⟩ _ hBc58 (FrM.c (FrM.c (FrM.c FrM.rf hFc1 rfl) hE13_2 rfl) hFc58 rfl) vc58_MV)
  refine g_forget (l1 := [(0, vR 0), (2, vI a2), (3, vI rc2), (4, vI 0)]) (by intro q hq; simp only [List.mem_cons, List.not_mem_nil, or_false] at hq ⊢; rcases hq with rfl | rfl | rfl | rfl <;> simp) ?_
  exact L13_2 _ 0 (by decide) rc2 ⟨by omega, by omega⟩ _ hBc1 FrM.rf (by omega) (MV.fr (F := ([], [44])) v_MV (FrM.c FrM.rf hFc1 rfl) rfl) ((MV.fr (F := ([], [44])) v_MV (FrM.c FrM.rf hFc1 rfl) rfl).w) (Nat.lt_succ_self _)
set_option maxRecDepth 100000 in
set_option maxHeartbeats 4000000 in
theorem m_X12_allTests (G : GT) (P : PH) (a1 : Int) (h_a1 : 0 ≤ a1 ∧ a1 ≤ 21) (hB : BdM P) (v_okC : okC P) (v_MV : MV P) (Q : Option PV → PH → Prop) (hQ : ∀ (r : Int) (_ : (-2147483648) ≤ r ∧ r ≤ 2147483647) (P1 : PH) (_ : BdM P1) (_ : FrM ([78], [44, 49, 50]) P P1) (_ : MV P1), Q (some (vI r)) P1) : Ct WSM G 5 iX12_allTests [vR 0, vI a1] P Q := by
  refine Ct.of (by decide) (l0 := [(0, vR 0), (1, vI a1)]) rfl (Nat.le_of_ble_eq_true rfl) ?_
  refine g_aload_n dX12_allTests_0 rfl ?_
  refine g_aload_n dX12_allTests_1 rfl ?_
  refine m_g55 rfl dX12_allTests_2 ?_
  refine g_iload_n dX12_allTests_5 rfl ?_
  refine m_l37 (z := (P 37 a1)) dX12_allTests_6 ⟨by omega, by omega⟩ rfl ?_
  have f1 := bl_37 (k := a1) hB
  refine g_vI (av := [vI (P 37 a1)]) (o := 0) (st := []) (m_X12_openBy G P (P 37 a1) ⟨by have q0 := bl_37 (k := a1) hB; omega, by have q0 := bl_37 (k := a1) hB; omega⟩ hB  _ (fun rc2 hc2 => ⟨rc2, rfl, ?_⟩)) cf_X12_openBy t_1923 rfl (by decide) rfl rfl rfl (Nat.le_of_ble_eq_true rfl) (by decide) rfl dX12_allTests_7
  refine g_istore_n (l1 := [(2, vI rc2), (0, vR 0), (1, vI a1)]) dX12_allTests_10 (by decide) rfl ?_
  refine g_iconst dX12_allTests_11 ?_
  refine g_istore_n (l1 := [(3, vI 0), (2, vI rc2), (0, vR 0), (1, vI a1)]) dX12_allTests_12 (by decide) rfl ?_
  refine g_iconst dX12_allTests_13 ?_
  refine g_istore (l1 := [(4, vI 0), (3, vI 0), (2, vI rc2), (0, vR 0), (1, vI a1)]) dX12_allTests_14 (by decide) rfl ?_
  have L16_2 : ∀ (n16_2 : Nat) (x16_4_2 : Int) (h_x16_4_2 : 0 ≤ x16_4_2 ∧ x16_4_2 ≤ 20000) (x16_3_2 : Int) (h_x16_3_2 : (-2147483648) ≤ x16_3_2 ∧ x16_3_2 ≤ 2147483647) (H16_2 : PH) (hB16_2 : BdM H16_2) (hE16_2 : FrM ([78], [44, 49, 50]) P H16_2) (w16_MV_2 : MV H16_2) (w16_MVw_2 : MVw H16_2) (hm16_2 : ((20001 - x16_4_2) : Int).toNat < n16_2), Go WSM G 5 iX12_allTests 16 [(0, vR 0), (2, vI rc2), (3, vI x16_3_2), (4, vI x16_4_2)] [] H16_2 Q := by
    intro n16_2
    induction n16_2 with
    | zero => intro x16_4_2 h_x16_4_2 x16_3_2 h_x16_3_2 H16_2 hB16_2 hE16_2 w16_MV_2 w16_MVw_2 hm16_2; exact absurd hm16_2 (Nat.not_lt_zero _)
    | succ n16_2 ih16_2 =>
    intro x16_4_2 h_x16_4_2 x16_3_2 h_x16_3_2 H16_2 hB16_2 hE16_2 w16_MV_2 w16_MVw_2 hm16_2
    refine g_iload dX12_allTests_16 rfl ?_
    refine g_aload_n dX12_allTests_18 rfl ?_
    refine m_g52 (z := (P 0 52)) rfl dX12_allTests_19 ((hE16_2.1 52 rfl).trans rfl) ?_
    have f80 := b0_52 hB
    refine g_icmp_ge (tgt := 41) dX12_allTests_22 (by decide) ⟨by omega, by omega⟩ ⟨by have q0 := b0_52 hB; omega, by have q0 := b0_52 hB; omega⟩ (fun k81 => ?_) (fun k81 => ?_)
    · refine g_iload_n dX12_allTests_41 rfl ?_
      exact g_retI dX12_allTests_42 rfl (hQ x16_3_2 ⟨by omega, by omega⟩ _ hB16_2 (FrM.c FrM.rf hE16_2 rfl) w16_MV_2)
    · refine g_iload_n dX12_allTests_25 rfl ?_
      refine g_aload_n dX12_allTests_26 rfl ?_
      refine g_iload dX12_allTests_27 rfl ?_
      refine g_iload_n dX12_allTests_29 rfl ?_
      refine g_vI (av := [vI x16_4_2, vI rc2]) (o := 0) (st := [vI x16_3_2]) (m_X12_testsFor G H16_2 x16_4_2 rc2 ⟨by omega, by omega⟩ ⟨by omega, by omega⟩ hB16_2 (okC.fr (F := ([78], [44, 49, 50])) v_okC (FrM.c FrM.rf hE16_2 rfl) rfl) w16_MV_2 _ (fun rc82 hc82 Pc82 hBc82 hFc82 vc82_MV => ⟨rc82, rfl, ?_⟩)) cf_X12_testsFor t_2006 rfl (by decide) rfl rfl rfl (Nat.le_of_ble_eq_true rfl) (by decide) rfl dX12_allTests_30
      refine g_iadd dX12_allTests_33 ?_
      refine g_norm (fun r83 h_r83 e_r83 => ?_)
      refine g_istore_n (l1 := [(3, vI r83), (0, vR 0), (2, vI rc2), (4, vI x16_4_2)]) dX12_allTests_34 (by decide) rfl ?_
      refine g_iinc (l1 := [(4, vI (x16_4_2 + 1)), (3, vI r83), (0, vR 0), (2, vI rc2)]) dX12_allTests_35 rfl (by decide) rfl ?_
      refine g_goto (tgt := 16) dX12_allTests_38 (by decide) ?_
      refine g_forget (l1 := [(0, vR 0), (2, vI rc2), (3, vI r83), (4, vI (x16_4_2 + 1))]) (by intro q hq; simp only [List.mem_cons, List.not_mem_nil, or_false] at hq ⊢; rcases hq with rfl | rfl | rfl | rfl <;> simp) ?_
      exact ih16_2 (x16_4_2 + 1) ⟨by omega, by omega⟩ r83 ⟨by omega, by omega⟩ _ hBc82 (FrM.c (FrM.c FrM.rf hE16_2 rfl) hFc82 rfl) vc82_MV (vc82_MV.w) (by omega)
  refine g_forget (l1 := [(0, vR 0), (2, vI rc2), (3, vI 0), (4, vI 0)]) (by intro q hq; simp only [List.mem_cons, List.not_mem_nil, or_false] at hq ⊢; rcases hq with rfl | rfl | rfl | rfl <;> simp) ?_
  exact L16_2 _ 0 (by decide) 0 (by decide) _ hB FrM.rf v_MV (v_MV.w) (Nat.lt_succ_self _)
set_option maxRecDepth 100000 in
set_option maxHeartbeats 4000000 in
theorem m_X12_reaches (G : GT) (P : PH) (a1 : Int) (h_a1 : 0 ≤ a1 ∧ a1 ≤ 65535) (hB : BdM P) (v_MV : MV P) (v_RE : RE P) (v_CN : CN P) (Q : Option PV → PH → Prop) (hQ : ∀ (P1 : PH) (_ : BdM P1) (_ : FrM ([81], [51, 52]) P P1) (_ : MV P1) (_ : RE P1) (_ : CN P1), Q none P1) : Ct WSM G 1 iX12_reaches [vR 0, vI a1] P Q := by
  refine Ct.of (by decide) (l0 := [(0, vR 0), (1, vI a1)]) rfl (Nat.le_of_ble_eq_true rfl) ?_
  refine g_aload_n dX12_reaches_0 rfl ?_
  refine m_g79 rfl dX12_reaches_1 ?_
  refine g_iload_n dX12_reaches_4 rfl ?_
  refine m_l51 (z := (P 51 a1)) dX12_reaches_5 ⟨by omega, by omega⟩ rfl ?_
  refine g_aload_n dX12_reaches_6 rfl ?_
  refine m_g74 (z := (P 0 74)) rfl dX12_reaches_7 rfl ?_
  have f1 := bl_51 (k := a1) hB
  have f2 := b0_74 hB
  refine g_icmp_ne (tgt := 14) dX12_reaches_10 (by decide) ⟨by have q0 := bl_51 (k := a1) hB; omega, by have q0 := bl_51 (k := a1) hB; omega⟩ ⟨by have q0 := b0_74 hB; omega, by have q0 := b0_74 hB; omega⟩ (fun k3 => ?_) (fun k3 => ?_)
  · have hne : P 51 a1 ≠ P 0 74 := by omega
    have hcn := v_CN.lt (k := a1) ⟨by omega, by omega⟩ hne
    refine g_aload_n dX12_reaches_14 rfl ?_
    refine m_g79 rfl dX12_reaches_15 ?_
    refine g_iload_n dX12_reaches_18 rfl ?_
    refine g_aload_n dX12_reaches_19 rfl ?_
    refine m_g74 (z := (P 0 74)) rfl dX12_reaches_20 rfl ?_
    refine m_s51 dX12_reaches_23 ⟨by omega, by omega⟩ ?_
    have hB4 := ba_51 (z := (P 0 74)) (k := a1) hB ⟨by have q0 := b0_74 hB; omega, by have q0 := b0_74 hB; omega⟩
    refine g_aload_n dX12_reaches_24 rfl ?_
    refine m_g80 rfl dX12_reaches_25 ?_
    refine g_aload_n dX12_reaches_28 rfl ?_
    refine m_g81 (z := (P 0 81)) rfl dX12_reaches_29 ((up_o (by decide)).trans rfl) ?_
    refine g_iload_n dX12_reaches_32 rfl ?_
    refine m_s52 dX12_reaches_33 ⟨by have q0 := b0_81 hB; omega, by have q0 := b0_81 hB; omega⟩ ?_
    have hB5 := ba_52 (z := a1) (k := (P 0 81)) hB4 ⟨by omega, by omega⟩
    refine g_aload_n dX12_reaches_34 rfl ?_
    refine g_dup dX12_reaches_35 rfl ?_
    refine m_g81 (z := (P 0 81)) rfl dX12_reaches_36 ((up_o (by decide)).trans ((up_o (by decide)).trans rfl)) ?_
    refine g_iconst dX12_reaches_39 ?_
    refine g_iadd dX12_reaches_40 ?_
    refine m_p81 rfl dX12_reaches_41 ?_
    have hB6 := bs_81 (z := ((P 0 81) + 1)) hB5 ⟨by have q0 := b0_81 hB; omega, by have q0 := b0_81 hB; omega⟩
    have iv7 : RE (up (up (up P 51 a1 (P 0 74)) 52 (P 0 81) a1) 0 81 ((P 0 81) + 1)) := v_RE.step (k := a1) ((up_k (by decide)).trans ((up_o (by decide)).trans ((up_o (by decide)).trans rfl))) ((up_o (by decide)).trans ((up_o (by decide)).trans up_same)) (fun j hj => (congrFun (show (up (up (up P 51 a1 (P 0 74)) 52 (P 0 81) a1) 0 81 ((P 0 81) + 1)) 51 = up P 51 a1 (P 0 74) 51 from by rw [up_row (by decide), up_row (by decide)]) j).trans (up_k hj))
    have iv8 : CN (up (up (up P 51 a1 (P 0 74)) 52 (P 0 81) a1) 0 81 ((P 0 81) + 1)) := v_CN.step (k := a1) ⟨by omega, by omega⟩ hne ((up_k (by decide)).trans ((up_o (by decide)).trans ((up_o (by decide)).trans rfl))) (by have q := (up_same : (up (up (up P 51 a1 (P 0 74)) 52 (P 0 81) a1) 0 81 ((P 0 81) + 1)) 0 81 = ((P 0 81) + 1)); omega) ((up_o (by decide)).trans ((up_o (by decide)).trans up_same)) (fun j hj => (congrFun (show (up (up (up P 51 a1 (P 0 74)) 52 (P 0 81) a1) 0 81 ((P 0 81) + 1)) 51 = up P 51 a1 (P 0 74) 51 from by rw [up_row (by decide), up_row (by decide)]) j).trans (up_k hj))
    exact g_retV dX12_reaches_44 rfl (hQ _ hB6 (FrM.s (FrM.a (FrM.a FrM.rf rfl rfl) rfl rfl) rfl) (MV.fr (F := ([81], [51, 52])) v_MV (FrM.s (FrM.a (FrM.a FrM.rf rfl rfl) rfl rfl) rfl) rfl) iv7 iv8)
  · exact g_retV dX12_reaches_13 rfl (hQ _ hB FrM.rf v_MV v_RE v_CN)
set_option maxRecDepth 100000 in
set_option maxHeartbeats 4000000 in
theorem m_X12_grows (G : GT) (P : PH) (hB : BdM P) (v_MV : MV P) (v_RLt : RLt P) (Q : Option PV → PH → Prop) (hQ : ∀ (P1 : PH) (_ : BdM P1) (_ : FrM ([78, 81], [49, 50, 51, 52]) P P1) (_ : MV P1) (_ : RE P1), Q none P1) : Ct WSM G 5 iX12_grows [vR 0] P Q := by
  refine Ct.of (by decide) (l0 := [(0, vR 0)]) rfl (Nat.le_of_ble_eq_true rfl) ?_
  refine g_aload_n dX12_grows_0 rfl ?_
  refine g_iconst dX12_grows_1 ?_
  refine m_p81 rfl dX12_grows_2 ?_
  have hB1 := bs_81 (z := 0) hB (by decide)
  have iv2 : CN (up P 0 81 0) := CN.zero (F := ([81], [])) v_RLt (FrM.s FrM.rf rfl) rfl (by have q := (up_same : (up P 0 81 0) 0 81 = 0); omega)
  have iv3 : RE (up P 0 81 0) := RE.fr (F := ([81], [])) v_RLt.RE (FrM.s FrM.rf rfl) rfl
  refine g_aload_n dX12_grows_5 rfl ?_
  refine g_aload_n dX12_grows_6 rfl ?_
  refine g_vI (av := []) (o := 0) (st := [vR 0]) (m_X12_root G (up P 0 81 0)  hB1  _ (fun rc4 hc4 => ⟨rc4, rfl, ?_⟩)) cf_X12_root t_2010 rfl (by decide) rfl rfl rfl (Nat.le_of_ble_eq_true rfl) (by decide) rfl dX12_grows_7
  refine g_vV (av := [vI rc4]) (o := 0) (st := []) (m_X12_reaches G (up P 0 81 0) rc4 ⟨by omega, by omega⟩ hB1 (MV.fr (F := ([81], [])) v_MV (FrM.s FrM.rf rfl) rfl) iv3 iv2 _ (fun Pc5 hBc5 hFc5 vc5_MV vc5_RE vc5_CN => ⟨rfl, ?_⟩)) cf_X12_reaches t_2045 rfl (by decide) rfl rfl rfl (Nat.le_of_ble_eq_true rfl) (by decide) rfl dX12_grows_10
  refine g_iconst dX12_grows_13 ?_
  refine g_istore_n (l1 := [(1, vI 0), (0, vR 0)]) dX12_grows_14 (by decide) rfl ?_
  have L15_5 : ∀ (n15_5 : Nat) (x15_1_5 : Int) (h_x15_1_5 : 0 ≤ x15_1_5 ∧ x15_1_5 ≤ 65536) (H15_5 : PH) (hB15_5 : BdM H15_5) (hE15_5 : FrM ([78, 81], [49, 50, 51, 52]) Pc5 H15_5) (w15_MV_5 : MV H15_5) (w15_RE_5 : RE H15_5) (w15_MVw_5 : MVw H15_5) (w15_CN_5 : CN H15_5) (hm15_5 : (65536 - x15_1_5 : Int).toNat < n15_5), Go WSM G 5 iX12_grows 15 [(0, vR 0), (1, vI x15_1_5)] [] H15_5 Q := by
    intro n15_5
    induction n15_5 with
    | zero => intro x15_1_5 h_x15_1_5 H15_5 hB15_5 hE15_5 w15_MV_5 w15_RE_5 w15_MVw_5 w15_CN_5 hm15_5; exact absurd hm15_5 (Nat.not_lt_zero _)
    | succ n15_5 ih15_5 =>
    intro x15_1_5 h_x15_1_5 H15_5 hB15_5 hE15_5 w15_MV_5 w15_RE_5 w15_MVw_5 w15_CN_5 hm15_5
    refine g_iload_n dX12_grows_15 rfl ?_
    refine g_aload_n dX12_grows_16 rfl ?_
    refine m_g81 (z := (H15_5 0 81)) rfl dX12_grows_17 rfl ?_
    have f795 := b0_81 hB15_5
    refine g_icmp_ge (tgt := 109) dX12_grows_20 (by decide) ⟨by omega, by omega⟩ ⟨by have q0 := b0_81 hB15_5; omega, by have q0 := b0_81 hB15_5; omega⟩ (fun k796 => ?_) (fun k796 => ?_)
    · exact g_retV dX12_grows_109 rfl (hQ _ hB15_5 (FrM.c (FrM.c (FrM.s FrM.rf rfl) hFc5 rfl) hE15_5 rfl) w15_MV_5 w15_RE_5)
    · refine g_aload_n dX12_grows_23 rfl ?_
      refine m_g80 rfl dX12_grows_24 ?_
      refine g_iload_n dX12_grows_27 rfl ?_
      refine m_l52 (z := (H15_5 52 x15_1_5)) dX12_grows_28 ⟨by omega, by omega⟩ rfl ?_
      refine g_istore_n (l1 := [(2, vI (H15_5 52 x15_1_5)), (0, vR 0), (1, vI x15_1_5)]) dX12_grows_29 (by decide) rfl ?_
      refine g_aload_n dX12_grows_30 rfl ?_
      refine g_iload_n dX12_grows_31 rfl ?_
      have f797 := bl_52 (k := x15_1_5) hB15_5
      refine g_vI (av := [vI (H15_5 52 x15_1_5)]) (o := 0) (st := []) (m_X12_asksFor G H15_5 (H15_5 52 x15_1_5) ⟨by have q0 := bl_52 (k := x15_1_5) hB15_5; omega, by have q0 := bl_52 (k := x15_1_5) hB15_5; omega⟩ hB15_5 w15_MV_5 _ (fun rc798 hc798 Pc798 hBc798 hFc798 gc798_b vc798_MV => ⟨rc798, rfl, ?_⟩)) cf_X12_asksFor t_2020 rfl (by decide) rfl rfl rfl (Nat.le_of_ble_eq_true rfl) (by decide) rfl dX12_grows_32
      refine g_istore_n (l1 := [(3, vI rc798), (2, vI (H15_5 52 x15_1_5)), (0, vR 0), (1, vI x15_1_5)]) dX12_grows_35 (by decide) rfl ?_
      refine g_iload_n dX12_grows_36 rfl ?_
      refine g_iconst dX12_grows_37 ?_
      have J103_894 : ∀ (H103_894 : PH) (hB103_894 : BdM H103_894) (hE103_894 : FrM ([78, 81], [49, 50, 51, 52]) Pc798 H103_894) (w103_MV_894 : MV H103_894) (w103_RE_894 : RE H103_894) (w103_MVw_894 : MVw H103_894) (w103_CN_894 : CN H103_894), Go WSM G 5 iX12_grows 103 [(0, vR 0), (1, vI x15_1_5)] [] H103_894 Q := by
        intro H103_894 hB103_894 hE103_894 w103_MV_894 w103_RE_894 w103_MVw_894 w103_CN_894
        refine g_iinc (l1 := [(1, vI (x15_1_5 + 1)), (0, vR 0)]) dX12_grows_103 rfl (by decide) rfl ?_
        refine g_goto (tgt := 15) dX12_grows_106 (by decide) ?_
        refine g_forget (l1 := [(0, vR 0), (1, vI (x15_1_5 + 1))]) (by intro q hq; simp only [List.mem_cons, List.not_mem_nil, or_false] at hq ⊢; rcases hq with rfl | rfl <;> simp) ?_
        exact ih15_5 (x15_1_5 + 1) ⟨by omega, by omega⟩ _ hB103_894 (FrM.c (FrM.c (FrM.c FrM.rf hE15_5 rfl) hFc798 rfl) hE103_894 rfl) w103_MV_894 w103_RE_894 w103_MVw_894 w103_CN_894 (by omega)
      refine g_icmp_ne (tgt := 60) dX12_grows_38 (by decide) ⟨by omega, by omega⟩ (by decide) (fun k896 => ?_) (fun k896 => ?_)
      · refine g_iconst dX12_grows_60 ?_
        refine g_istore (l1 := [(4, vI 0), (3, vI rc798), (2, vI (H15_5 52 x15_1_5)), (0, vR 0), (1, vI x15_1_5)]) dX12_grows_61 (by decide) rfl ?_
        have L63_896 : ∀ (n63_896 : Nat) (x63_4_896 : Int) (h_x63_4_896 : 0 ≤ x63_4_896 ∧ x63_4_896 ≤ 2009) (H63_896 : PH) (hB63_896 : BdM H63_896) (hE63_896 : FrM ([81], [51, 52]) Pc798 H63_896) (w63_RE_896 : RE H63_896) (w63_CN_896 : CN H63_896) (hm63_896 : ((2010 - x63_4_896) : Int).toNat < n63_896), Go WSM G 5 iX12_grows 63 [(0, vR 0), (1, vI x15_1_5), (2, vI (H15_5 52 x15_1_5)), (3, vI rc798), (4, vI x63_4_896)] [] H63_896 Q := by
          intro n63_896
          induction n63_896 with
          | zero => intro x63_4_896 h_x63_4_896 H63_896 hB63_896 hE63_896 w63_RE_896 w63_CN_896 hm63_896; exact absurd hm63_896 (Nat.not_lt_zero _)
          | succ n63_896 ih63_896 =>
          intro x63_4_896 h_x63_4_896 H63_896 hB63_896 hE63_896 w63_RE_896 w63_CN_896 hm63_896
          refine g_iload dX12_grows_63 rfl ?_
          refine g_aload_n dX12_grows_65 rfl ?_
          refine m_g50 rfl dX12_grows_66 ?_
          refine g_iload_n dX12_grows_69 rfl ?_
          refine m_l33 (z := (P 33 rc798)) dX12_grows_70 ⟨by omega, by omega⟩ ((congrFun (hE63_896.2 33 rfl rfl) _).trans ((congrFun (hFc798.2 33 rfl rfl) _).trans ((congrFun (hE15_5.2 33 rfl rfl) _).trans ((congrFun (hFc5.2 33 rfl rfl) _).trans ((up_o (by decide)).trans rfl))))) ?_
          have f983 := bl_33 (k := rc798) hB
          refine g_icmp_ge (tgt := 103) dX12_grows_71 (by decide) ⟨by omega, by omega⟩ ⟨by have q0 := bl_33 (k := rc798) hB; omega, by have q0 := bl_33 (k := rc798) hB; omega⟩ (fun k984 => ?_) (fun k984 => ?_)
          · refine g_forget (l1 := [(0, vR 0), (1, vI x15_1_5)]) (by intro q hq; simp only [List.mem_cons, List.not_mem_nil, or_false] at hq ⊢; rcases hq with rfl | rfl <;> simp) ?_
            exact J103_894 _ hB63_896 (FrM.c FrM.rf hE63_896 rfl) (MV.fr (F := ([81], [51, 52])) vc798_MV (FrM.c FrM.rf hE63_896 rfl) rfl) w63_RE_896 ((MV.fr (F := ([81], [51, 52])) vc798_MV (FrM.c FrM.rf hE63_896 rfl) rfl).w) w63_CN_896
          · refine g_aload_n dX12_grows_74 rfl ?_
            refine g_aload_n dX12_grows_75 rfl ?_
            refine g_iload_n dX12_grows_76 rfl ?_
            refine g_iload_n dX12_grows_77 rfl ?_
            refine g_aload_n dX12_grows_78 rfl ?_
            refine m_g63 rfl dX12_grows_79 ?_
            refine g_sipush dX12_grows_82 (by decide) ?_
            refine g_iload_n dX12_grows_85 rfl ?_
            refine g_imul dX12_grows_86 ?_
            refine g_iload dX12_grows_87 rfl ?_
            refine g_iadd dX12_grows_89 ?_
            refine m_l41 (z := (P 41 ((2010 * rc798) + x63_4_896))) dX12_grows_90 ⟨by omega, by omega⟩ ((congrFun (hE63_896.2 41 rfl rfl) _).trans ((congrFun (hFc798.2 41 rfl rfl) _).trans ((congrFun (hE15_5.2 41 rfl rfl) _).trans ((congrFun (hFc5.2 41 rfl rfl) _).trans ((up_o (by decide)).trans rfl))))) ?_
            have f985 := bl_41 (k := ((2010 * rc798) + x63_4_896)) hB
            refine g_vI (av := [vI (H15_5 52 x15_1_5), vI rc798, vI (P 41 ((2010 * rc798) + x63_4_896))]) (o := 0) (st := [vR 0]) (m_X12_branchOf G H63_896 (H15_5 52 x15_1_5) rc798 (P 41 ((2010 * rc798) + x63_4_896)) ⟨by have q0 := bl_52 (k := x15_1_5) hB15_5; omega, by have q0 := bl_52 (k := x15_1_5) hB15_5; omega⟩ ⟨by omega, by omega⟩ ⟨by have q0 := bl_41 (k := ((2010 * rc798) + x63_4_896)) hB; omega, by have q0 := bl_41 (k := ((2010 * rc798) + x63_4_896)) hB; omega⟩ hB63_896  _ (fun rc986 hc986 gc986_lt gc986_le gc986_wl => ⟨rc986, rfl, ?_⟩)) cf_X12_branchOf t_2037 rfl (by decide) rfl rfl rfl (Nat.le_of_ble_eq_true rfl) (by decide) rfl dX12_grows_91
            refine g_vV (av := [vI rc986]) (o := 0) (st := []) (m_X12_reaches G H63_896 rc986 ⟨by omega, by omega⟩ hB63_896 (MV.fr (F := ([81], [51, 52])) vc798_MV (FrM.c FrM.rf hE63_896 rfl) rfl) w63_RE_896 w63_CN_896 _ (fun Pc987 hBc987 hFc987 vc987_MV vc987_RE vc987_CN => ⟨rfl, ?_⟩)) cf_X12_reaches t_2045 rfl (by decide) rfl rfl rfl (Nat.le_of_ble_eq_true rfl) (by decide) rfl dX12_grows_94
            refine g_iinc (l1 := [(4, vI (x63_4_896 + 1)), (0, vR 0), (1, vI x15_1_5), (2, vI (H15_5 52 x15_1_5)), (3, vI rc798)]) dX12_grows_97 rfl (by decide) rfl ?_
            refine g_goto (tgt := 63) dX12_grows_100 (by decide) ?_
            refine g_forget (l1 := [(0, vR 0), (1, vI x15_1_5), (2, vI (H15_5 52 x15_1_5)), (3, vI rc798), (4, vI (x63_4_896 + 1))]) (by intro q hq; simp only [List.mem_cons, List.not_mem_nil, or_false] at hq ⊢; rcases hq with rfl | rfl | rfl | rfl | rfl <;> simp) ?_
            exact ih63_896 (x63_4_896 + 1) ⟨by omega, by omega⟩ _ hBc987 (FrM.c (FrM.c FrM.rf hE63_896 rfl) hFc987 rfl) vc987_RE vc987_CN (by omega)
        refine g_forget (l1 := [(0, vR 0), (1, vI x15_1_5), (2, vI (H15_5 52 x15_1_5)), (3, vI rc798), (4, vI 0)]) (by intro q hq; simp only [List.mem_cons, List.not_mem_nil, or_false] at hq ⊢; rcases hq with rfl | rfl | rfl | rfl | rfl <;> simp) ?_
        exact L63_896 _ 0 (by decide) _ hBc798 FrM.rf (RE.fr (F := ([78], [49, 50])) w15_RE_5 (FrM.c FrM.rf hFc798 rfl) rfl) (CN.fr (F := ([78], [49, 50])) w15_CN_5 (FrM.c FrM.rf hFc798 rfl) rfl) (Nat.lt_succ_self _)
      · refine g_aload_n dX12_grows_41 rfl ?_
        refine g_iload_n dX12_grows_42 rfl ?_
        refine g_vI (av := [vI (H15_5 52 x15_1_5)]) (o := 0) (st := []) (m_X12_isDoor G Pc798 (H15_5 52 x15_1_5) ⟨by have q0 := bl_52 (k := x15_1_5) hB15_5; omega, by have q0 := bl_52 (k := x15_1_5) hB15_5; omega⟩ hBc798 vc798_MV _ (fun rc988 hc988 Pc988 hBc988 hFc988 gc988_d vc988_MV => ⟨rc988, rfl, ?_⟩)) cf_X12_isDoor t_2049 rfl (by decide) rfl rfl rfl (Nat.le_of_ble_eq_true rfl) (by decide) rfl dX12_grows_43
        refine g_if_eq (tgt := 103) dX12_grows_46 (by decide) ⟨by omega, by omega⟩ (fun k989 => ?_) (fun k989 => ?_)
        · refine g_forget (l1 := [(0, vR 0), (1, vI x15_1_5)]) (by intro q hq; simp only [List.mem_cons, List.not_mem_nil, or_false] at hq ⊢; rcases hq with rfl | rfl <;> simp) ?_
          exact J103_894 _ hBc988 (FrM.c FrM.rf hFc988 rfl) vc988_MV (RE.fr (F := ([78], [49, 50])) w15_RE_5 (FrM.c (FrM.c FrM.rf hFc798 rfl) hFc988 rfl) rfl) (vc988_MV.w) (CN.fr (F := ([78], [49, 50])) w15_CN_5 (FrM.c (FrM.c FrM.rf hFc798 rfl) hFc988 rfl) rfl)
        · refine g_aload_n dX12_grows_49 rfl ?_
          refine g_iload_n dX12_grows_50 rfl ?_
          refine g_sI (av := [vI (H15_5 52 x15_1_5)]) (st := [vR 0]) (m_X12_throughDoor G Pc988 (H15_5 52 x15_1_5) ⟨by have q0 := bl_52 (k := x15_1_5) hB15_5; omega, by have q0 := bl_52 (k := x15_1_5) hB15_5; omega⟩ hBc988  _ (fun rc990 hc990 gc990_lt gc990_le gc990_wl => ⟨rc990, rfl, ?_⟩)) cf_X12_throughDoor t_2034 rfl (Nat.le_of_ble_eq_true rfl) (by decide) rfl dX12_grows_51
          refine g_vV (av := [vI rc990]) (o := 0) (st := []) (m_X12_reaches G Pc988 rc990 ⟨by omega, by omega⟩ hBc988 vc988_MV (RE.fr (F := ([78], [49, 50])) w15_RE_5 (FrM.c (FrM.c FrM.rf hFc798 rfl) hFc988 rfl) rfl) (CN.fr (F := ([78], [49, 50])) w15_CN_5 (FrM.c (FrM.c FrM.rf hFc798 rfl) hFc988 rfl) rfl) _ (fun Pc991 hBc991 hFc991 vc991_MV vc991_RE vc991_CN => ⟨rfl, ?_⟩)) cf_X12_reaches t_2045 rfl (by decide) rfl rfl rfl (Nat.le_of_ble_eq_true rfl) (by decide) rfl dX12_grows_54
          refine g_goto (tgt := 103) dX12_grows_57 (by decide) ?_
          refine g_forget (l1 := [(0, vR 0), (1, vI x15_1_5)]) (by intro q hq; simp only [List.mem_cons, List.not_mem_nil, or_false] at hq ⊢; rcases hq with rfl | rfl <;> simp) ?_
          exact J103_894 _ hBc991 (FrM.c (FrM.c FrM.rf hFc988 rfl) hFc991 rfl) vc991_MV vc991_RE (vc991_MV.w) vc991_CN
  refine g_forget (l1 := [(0, vR 0), (1, vI 0)]) (by intro q hq; simp only [List.mem_cons, List.not_mem_nil, or_false] at hq ⊢; rcases hq with rfl | rfl <;> simp) ?_
  exact L15_5 _ 0 (by decide) _ hBc5 FrM.rf vc5_MV vc5_RE (vc5_MV.w) vc5_CN (Nat.lt_succ_self _)
set_option maxRecDepth 100000 in
set_option maxHeartbeats 4000000 in
theorem m_X12_weighs (G : GT) (P : PH) (a1 : Int) (h_a1 : 0 ≤ a1 ∧ a1 ≤ 65535) (hB : BdM P) (v_MV : MV P) (Q : Option PV → PH → Prop) (hQ : ∀ (P1 : PH) (_ : BdM P1) (_ : FrM ([78], [49, 50, 53]) P P1) (_ : MV P1), Q none P1) : Ct WSM G 5 iX12_weighs [vR 0, vI a1] P Q := by
  refine Ct.of (by decide) (l0 := [(0, vR 0), (1, vI a1)]) rfl (Nat.le_of_ble_eq_true rfl) ?_
  refine g_aload_n dX12_weighs_0 rfl ?_
  refine g_iload_n dX12_weighs_1 rfl ?_
  refine g_vI (av := [vI a1]) (o := 0) (st := []) (m_X12_asksFor G P a1 ⟨by omega, by omega⟩ hB v_MV _ (fun rc1 hc1 Pc1 hBc1 hFc1 gc1_b vc1_MV => ⟨rc1, rfl, ?_⟩)) cf_X12_asksFor t_2020 rfl (by decide) rfl rfl rfl (Nat.le_of_ble_eq_true rfl) (by decide) rfl dX12_weighs_2
  refine g_istore_n (l1 := [(2, vI rc1), (0, vR 0), (1, vI a1)]) dX12_weighs_5 (by decide) rfl ?_
  refine g_iconst dX12_weighs_6 ?_
  refine g_istore_n (l1 := [(3, vI 1), (2, vI rc1), (0, vR 0), (1, vI a1)]) dX12_weighs_7 (by decide) rfl ?_
  refine g_iconst dX12_weighs_8 ?_
  refine g_istore (l1 := [(4, vI 0), (3, vI 1), (2, vI rc1), (0, vR 0), (1, vI a1)]) dX12_weighs_9 (by decide) rfl ?_
  refine g_iload_n dX12_weighs_11 rfl ?_
  refine g_iconst dX12_weighs_12 ?_
  have J52_1057 : ∀ (x52_4_1057 : Int) (h_x52_4_1057 : 0 ≤ x52_4_1057 ∧ x52_4_1057 ≤ 7) (x52_3_1057 : Int) (h_x52_3_1057 : (-268435455) ≤ x52_3_1057 ∧ x52_3_1057 ≤ 268435456) (H52_1057 : PH) (hB52_1057 : BdM H52_1057) (hE52_1057 : FrM ([78], [49, 50]) Pc1 H52_1057) (w52_MV_1057 : MV H52_1057) (w52_MVw_1057 : MVw H52_1057), Go WSM G 5 iX12_weighs 52 [(0, vR 0), (1, vI a1), (2, vI rc1), (3, vI x52_3_1057), (4, vI x52_4_1057)] [] H52_1057 Q := by
    intro x52_4_1057 h_x52_4_1057 x52_3_1057 h_x52_3_1057 H52_1057 hB52_1057 hE52_1057 w52_MV_1057 w52_MVw_1057
    refine g_aload_n dX12_weighs_52 rfl ?_
    refine g_dup dX12_weighs_53 rfl ?_
    refine m_g78 (z := (H52_1057 0 78)) rfl dX12_weighs_54 rfl ?_
    refine g_iconst dX12_weighs_57 ?_
    refine g_iadd dX12_weighs_58 ?_
    refine g_norm (fun r1059 h_r1059 e_r1059 => ?_)
    refine m_p78 rfl dX12_weighs_59 ?_
    have hB1060 := bs_78 (z := r1059) hB52_1057 ⟨by omega, by omega⟩
    refine g_iconst dX12_weighs_62 ?_
    refine g_istore (l1 := [(5, vI 0), (0, vR 0), (1, vI a1), (2, vI rc1), (3, vI x52_3_1057), (4, vI x52_4_1057)]) dX12_weighs_63 (by decide) rfl ?_
    have L65_1060 : ∀ (n65_1060 : Nat) (x65_5_1060 : Int) (h_x65_5_1060 : 0 ≤ x65_5_1060 ∧ x65_5_1060 ≤ 2009) (x65_3_1060 : Int) (h_x65_3_1060 : (-2147483648) ≤ x65_3_1060 ∧ x65_3_1060 ≤ 2147483647) (x65_4_1060 : Int) (h_x65_4_1060 : 0 ≤ x65_4_1060 ∧ x65_4_1060 ≤ 8) (H65_1060 : PH) (hB65_1060 : BdM H65_1060) (hE65_1060 : FrM ([], [50]) (up H52_1057 0 78 r1059) H65_1060) (hm65_1060 : ((2010 - x65_5_1060) : Int).toNat < n65_1060), Go WSM G 5 iX12_weighs 65 [(0, vR 0), (1, vI a1), (2, vI rc1), (3, vI x65_3_1060), (4, vI x65_4_1060), (5, vI x65_5_1060)] [] H65_1060 Q := by
      intro n65_1060
      induction n65_1060 with
      | zero => intro x65_5_1060 h_x65_5_1060 x65_3_1060 h_x65_3_1060 x65_4_1060 h_x65_4_1060 H65_1060 hB65_1060 hE65_1060 hm65_1060; exact absurd hm65_1060 (Nat.not_lt_zero _)
      | succ n65_1060 ih65_1060 =>
      intro x65_5_1060 h_x65_5_1060 x65_3_1060 h_x65_3_1060 x65_4_1060 h_x65_4_1060 H65_1060 hB65_1060 hE65_1060 hm65_1060
      refine g_iload_n dX12_weighs_65 rfl ?_
      refine g_iconst dX12_weighs_66 ?_
      have J184_2077 : ∀ (_ : True), Go WSM G 5 iX12_weighs 184 [(0, vR 0), (1, vI a1), (3, vI x65_3_1060), (4, vI x65_4_1060)] [] H65_1060 Q := by
        intro _
        refine g_aload_n dX12_weighs_184 rfl ?_
        refine m_g82 rfl dX12_weighs_185 ?_
        refine g_iload_n dX12_weighs_188 rfl ?_
        refine g_iload_n dX12_weighs_189 rfl ?_
        refine g_ldcw (z := 1000000) dX12_weighs_190 t_2060 (by decide) ?_
        refine g_icmp_le (tgt := 202) dX12_weighs_193 (by decide) ⟨by omega, by omega⟩ (by decide) (fun k2079 => ?_) (fun k2079 => ?_)
        · refine g_iload_n dX12_weighs_202 rfl ?_
          refine g_iconst dX12_weighs_203 ?_
          refine g_ishl dX12_weighs_204 ?_
          refine g_nm (fun b2080 e_b2080 => ?_)
          have h_b2080 := ishl_ir x65_3_1060 3
          rw [← e_b2080] at h_b2080
          refine g_iload dX12_weighs_205 rfl ?_
          refine g_ior dX12_weighs_207 ?_
          refine g_nm (fun b2081 e_b2081 => ?_)
          have h_b2081 := ior_ir b2080 x65_4_1060
          rw [← e_b2081] at h_b2081
          refine m_s53 dX12_weighs_208 ⟨by omega, by omega⟩ ?_
          have hB2082 := ba_53 (z := b2081) (k := a1) hB65_1060 ⟨by omega, by omega⟩
          exact g_retV dX12_weighs_209 rfl (hQ _ hB2082 (FrM.a (FrM.c (FrM.s (FrM.c (FrM.c FrM.rf hFc1 rfl) hE52_1057 rfl) rfl) hE65_1060 rfl) rfl rfl) (MV.fr (F := ([78], [50, 53])) w52_MV_1057 (FrM.a (FrM.c (FrM.s FrM.rf rfl) hE65_1060 rfl) rfl rfl) rfl))
        · refine g_ldcw (z := 1000000) dX12_weighs_196 t_2060 (by decide) ?_
          refine g_goto (tgt := 203) dX12_weighs_199 (by decide) ?_
          refine g_iconst dX12_weighs_203 ?_
          refine g_ishl dX12_weighs_204 ?_
          refine g_nm (fun b2083 e_b2083 => ?_)
          have h_b2083 : (ishl 1000000 3) = 1000000 * 8 := ishl_c 3 (by decide) (x := 1000000) (show IR (1000000 * 8) from ⟨by omega, by omega⟩)
          rw [← e_b2083] at h_b2083
          refine g_iload dX12_weighs_205 rfl ?_
          refine g_ior dX12_weighs_207 ?_
          refine g_nm (fun b2084 e_b2084 => ?_)
          have h_b2084 : 0 ≤ (ior b2083 x65_4_1060) ∧ (ior b2083 x65_4_1060) < 8388608 := ior_b 23 (by decide) (x := b2083) (y := x65_4_1060) (show 0 ≤ b2083 ∧ b2083 < 8388608 from ⟨by omega, by omega⟩) (show 0 ≤ x65_4_1060 ∧ x65_4_1060 < 8388608 from ⟨by omega, by omega⟩)
          rw [← e_b2084] at h_b2084
          refine m_s53 dX12_weighs_208 ⟨by omega, by omega⟩ ?_
          have hB2085 := ba_53 (z := b2084) (k := a1) hB65_1060 ⟨by omega, by omega⟩
          exact g_retV dX12_weighs_209 rfl (hQ _ hB2085 (FrM.a (FrM.c (FrM.s (FrM.c (FrM.c FrM.rf hFc1 rfl) hE52_1057 rfl) rfl) hE65_1060 rfl) rfl rfl) (MV.fr (F := ([78], [50, 53])) w52_MV_1057 (FrM.a (FrM.c (FrM.s FrM.rf rfl) hE65_1060 rfl) rfl rfl) rfl))
      refine g_icmp_ge (tgt := 184) dX12_weighs_67 (by decide) ⟨by omega, by omega⟩ (by decide) (fun k2086 => ?_) (fun k2086 => ?_)
      · refine g_forget (l1 := [(0, vR 0), (1, vI a1), (3, vI x65_3_1060), (4, vI x65_4_1060)]) (by intro q hq; simp only [List.mem_cons, List.not_mem_nil, or_false] at hq ⊢; rcases hq with rfl | rfl | rfl | rfl <;> simp) ?_
        exact J184_2077 trivial
      · refine g_iload dX12_weighs_70 rfl ?_
        refine g_aload_n dX12_weighs_72 rfl ?_
        refine m_g50 rfl dX12_weighs_73 ?_
        refine g_iload_n dX12_weighs_76 rfl ?_
        refine m_l33 (z := (P 33 rc1)) dX12_weighs_77 ⟨by omega, by omega⟩ ((congrFun (hE65_1060.2 33 rfl rfl) _).trans ((up_o (by decide)).trans ((congrFun (hE52_1057.2 33 rfl rfl) _).trans ((congrFun (hFc1.2 33 rfl rfl) _).trans rfl)))) ?_
        have f2087 := bl_33 (k := rc1) hB
        refine g_icmp_ge (tgt := 184) dX12_weighs_78 (by decide) ⟨by omega, by omega⟩ ⟨by have q0 := bl_33 (k := rc1) hB; omega, by have q0 := bl_33 (k := rc1) hB; omega⟩ (fun k2088 => ?_) (fun k2088 => ?_)
        · refine g_forget (l1 := [(0, vR 0), (1, vI a1), (3, vI x65_3_1060), (4, vI x65_4_1060)]) (by intro q hq; simp only [List.mem_cons, List.not_mem_nil, or_false] at hq ⊢; rcases hq with rfl | rfl | rfl | rfl <;> simp) ?_
          exact J184_2077 trivial
        · refine g_aload_n dX12_weighs_81 rfl ?_
          refine g_iload_n dX12_weighs_82 rfl ?_
          refine g_iload_n dX12_weighs_83 rfl ?_
          refine g_aload_n dX12_weighs_84 rfl ?_
          refine m_g63 rfl dX12_weighs_85 ?_
          refine g_sipush dX12_weighs_88 (by decide) ?_
          refine g_iload_n dX12_weighs_91 rfl ?_
          refine g_imul dX12_weighs_92 ?_
          refine g_iload dX12_weighs_93 rfl ?_
          refine g_iadd dX12_weighs_95 ?_
          refine m_l41 (z := (P 41 ((2010 * rc1) + x65_5_1060))) dX12_weighs_96 ⟨by omega, by omega⟩ ((congrFun (hE65_1060.2 41 rfl rfl) _).trans ((up_o (by decide)).trans ((congrFun (hE52_1057.2 41 rfl rfl) _).trans ((congrFun (hFc1.2 41 rfl rfl) _).trans rfl)))) ?_
          have f2089 := bl_41 (k := ((2010 * rc1) + x65_5_1060)) hB
          refine g_vI (av := [vI a1, vI rc1, vI (P 41 ((2010 * rc1) + x65_5_1060))]) (o := 0) (st := []) (m_X12_branchOf G H65_1060 a1 rc1 (P 41 ((2010 * rc1) + x65_5_1060)) ⟨by omega, by omega⟩ ⟨by omega, by omega⟩ ⟨by have q0 := bl_41 (k := ((2010 * rc1) + x65_5_1060)) hB; omega, by have q0 := bl_41 (k := ((2010 * rc1) + x65_5_1060)) hB; omega⟩ hB65_1060  _ (fun rc2090 hc2090 gc2090_lt gc2090_le gc2090_wl => ⟨rc2090, rfl, ?_⟩)) cf_X12_branchOf t_2037 rfl (by decide) rfl rfl rfl (Nat.le_of_ble_eq_true rfl) (by decide) rfl dX12_weighs_97
          refine g_istore (l1 := [(6, vI rc2090), (0, vR 0), (1, vI a1), (2, vI rc1), (3, vI x65_3_1060), (4, vI x65_4_1060), (5, vI x65_5_1060)]) dX12_weighs_100 (by decide) rfl ?_
          refine g_aload_n dX12_weighs_102 rfl ?_
          refine m_g77 rfl dX12_weighs_103 ?_
          refine g_iload dX12_weighs_106 rfl ?_
          refine g_sI (av := [vI rc2090]) (st := [vR 50]) (m_X12_armsIn G H65_1060 rc2090 ⟨by omega, by omega⟩ hB65_1060  _ (fun rc2091 hc2091 gc2091_v => ⟨rc2091, rfl, ?_⟩)) cf_X12_armsIn t_2017 rfl (Nat.le_of_ble_eq_true rfl) (by decide) rfl dX12_weighs_108
          refine m_l50 (z := (H65_1060 50 rc2091)) dX12_weighs_111 ⟨by omega, by omega⟩ rfl ?_
          refine g_aload_n dX12_weighs_112 rfl ?_
          refine m_g78 (z := r1059) rfl dX12_weighs_113 ((hE65_1060.1 78 rfl).trans up_same) ?_
          have f2092 := bl_50 (k := rc2091) hB65_1060
          have J178_2099 : ∀ (x178_4_2099 : Int) (h_x178_4_2099 : 0 ≤ x178_4_2099 ∧ x178_4_2099 ≤ 8) (x178_3_2099 : Int) (h_x178_3_2099 : (-2147483648) ≤ x178_3_2099 ∧ x178_3_2099 ≤ 2147483647) (H178_2099 : PH) (hB178_2099 : BdM H178_2099) (hE178_2099 : FrM ([], [50]) H65_1060 H178_2099), Go WSM G 5 iX12_weighs 178 [(0, vR 0), (1, vI a1), (2, vI rc1), (3, vI x178_3_2099), (4, vI x178_4_2099), (5, vI x65_5_1060)] [] H178_2099 Q := by
            intro x178_4_2099 h_x178_4_2099 x178_3_2099 h_x178_3_2099 H178_2099 hB178_2099 hE178_2099
            refine g_iinc (l1 := [(5, vI (x65_5_1060 + 1)), (0, vR 0), (1, vI a1), (2, vI rc1), (3, vI x178_3_2099), (4, vI x178_4_2099)]) dX12_weighs_178 rfl (by decide) rfl ?_
            refine g_goto (tgt := 65) dX12_weighs_181 (by decide) ?_
            refine g_forget (l1 := [(0, vR 0), (1, vI a1), (2, vI rc1), (3, vI x178_3_2099), (4, vI x178_4_2099), (5, vI (x65_5_1060 + 1))]) (by intro q hq; simp only [List.mem_cons, List.not_mem_nil, or_false] at hq ⊢; rcases hq with rfl | rfl | rfl | rfl | rfl | rfl <;> simp) ?_
            exact ih65_1060 (x65_5_1060 + 1) ⟨by omega, by omega⟩ x178_3_2099 ⟨by omega, by omega⟩ x178_4_2099 ⟨by omega, by omega⟩ _ hB178_2099 (FrM.c (FrM.c FrM.rf hE65_1060 rfl) hE178_2099 rfl) (by omega)
          refine g_icmp_ne (tgt := 122) dX12_weighs_116 (by decide) ⟨by have q0 := bl_50 (k := rc2091) hB65_1060; omega, by have q0 := bl_50 (k := rc2091) hB65_1060; omega⟩ ⟨by omega, by omega⟩ (fun k2101 => ?_) (fun k2101 => ?_)
          · refine g_aload_n dX12_weighs_122 rfl ?_
            refine m_g77 rfl dX12_weighs_123 ?_
            refine g_iload dX12_weighs_126 rfl ?_
            refine g_sI (av := [vI rc2090]) (st := [vR 50]) (m_X12_armsIn G H65_1060 rc2090 ⟨by omega, by omega⟩ hB65_1060  _ (fun rc2102 hc2102 gc2102_v => ⟨rc2102, rfl, ?_⟩)) cf_X12_armsIn t_2017 rfl (Nat.le_of_ble_eq_true rfl) (by decide) rfl dX12_weighs_128
            refine g_aload_n dX12_weighs_131 rfl ?_
            refine m_g78 (z := r1059) rfl dX12_weighs_132 ((hE65_1060.1 78 rfl).trans up_same) ?_
            refine m_s50 dX12_weighs_135 ⟨by omega, by omega⟩ ?_
            have hB2103 := ba_50 (z := r1059) (k := rc2102) hB65_1060 ⟨by omega, by omega⟩
            refine g_iload_n dX12_weighs_136 rfl ?_
            refine g_aload_n dX12_weighs_137 rfl ?_
            refine m_g82 rfl dX12_weighs_138 ?_
            refine g_iload dX12_weighs_141 rfl ?_
            refine m_l53 (z := (P 53 rc2090)) dX12_weighs_143 ⟨by omega, by omega⟩ ((up_o (by decide)).trans ((congrFun (hE65_1060.2 53 rfl rfl) _).trans ((up_o (by decide)).trans ((congrFun (hE52_1057.2 53 rfl rfl) _).trans ((congrFun (hFc1.2 53 rfl rfl) _).trans rfl))))) ?_
            refine g_iconst dX12_weighs_144 ?_
            refine g_ishr dX12_weighs_145 ?_
            refine g_nm (fun b2104 e_b2104 => ?_)
            have h_b2104 : (ishr (P 53 rc2090) 3) = (P 53 rc2090) / 8 := ishr_c 3 (by decide) (x := (P 53 rc2090)) ⟨by have q0 := bl_53 (k := rc2090) hB; omega, by have q0 := bl_53 (k := rc2090) hB; omega⟩
            rw [← e_b2104] at h_b2104
            have f_b2104_0 := bl_53 (k := rc2090) hB
            refine g_iadd dX12_weighs_146 ?_
            refine g_norm (fun r2105 h_r2105 e_r2105 => ?_)
            refine g_istore_n (l1 := [(3, vI r2105), (6, vI rc2090), (0, vR 0), (1, vI a1), (2, vI rc1), (4, vI x65_4_1060), (5, vI x65_5_1060)]) dX12_weighs_147 (by decide) rfl ?_
            refine g_aload_n dX12_weighs_148 rfl ?_
            refine m_g82 rfl dX12_weighs_149 ?_
            refine g_iload dX12_weighs_152 rfl ?_
            refine m_l53 (z := (P 53 rc2090)) dX12_weighs_154 ⟨by omega, by omega⟩ ((up_o (by decide)).trans ((congrFun (hE65_1060.2 53 rfl rfl) _).trans ((up_o (by decide)).trans ((congrFun (hE52_1057.2 53 rfl rfl) _).trans ((congrFun (hFc1.2 53 rfl rfl) _).trans rfl))))) ?_
            refine g_bipush dX12_weighs_155 (by decide) ?_
            refine g_iand dX12_weighs_157 ?_
            refine g_nm (fun b2106 e_b2106 => ?_)
            have h_b2106 := iand_r (x := (P 53 rc2090)) (y := 7) ⟨by omega, by omega⟩
            rw [← e_b2106] at h_b2106
            refine g_iconst dX12_weighs_158 ?_
            refine g_iadd dX12_weighs_159 ?_
            refine g_istore (l1 := [(7, vI (b2106 + 1)), (3, vI r2105), (6, vI rc2090), (0, vR 0), (1, vI a1), (2, vI rc1), (4, vI x65_4_1060), (5, vI x65_5_1060)]) dX12_weighs_160 (by decide) rfl ?_
            refine g_iload dX12_weighs_162 rfl ?_
            refine g_iload dX12_weighs_164 rfl ?_
            refine g_icmp_le (tgt := 174) dX12_weighs_166 (by decide) ⟨by omega, by omega⟩ ⟨by omega, by omega⟩ (fun k2107 => ?_) (fun k2107 => ?_)
            · refine g_iload dX12_weighs_174 rfl ?_
              refine g_istore (l1 := [(4, vI x65_4_1060), (7, vI (b2106 + 1)), (3, vI r2105), (6, vI rc2090), (0, vR 0), (1, vI a1), (2, vI rc1), (5, vI x65_5_1060)]) dX12_weighs_176 (by decide) rfl ?_
              refine g_forget (l1 := [(0, vR 0), (1, vI a1), (2, vI rc1), (3, vI r2105), (4, vI x65_4_1060), (5, vI x65_5_1060)]) (by intro q hq; simp only [List.mem_cons, List.not_mem_nil, or_false] at hq ⊢; rcases hq with rfl | rfl | rfl | rfl | rfl | rfl <;> simp) ?_
              exact J178_2099 x65_4_1060 ⟨by omega, by omega⟩ r2105 ⟨by omega, by omega⟩ _ hB2103 (FrM.a FrM.rf rfl rfl)
            · refine g_iload dX12_weighs_169 rfl ?_
              refine g_goto (tgt := 176) dX12_weighs_171 (by decide) ?_
              refine g_istore (l1 := [(4, vI (b2106 + 1)), (7, vI (b2106 + 1)), (3, vI r2105), (6, vI rc2090), (0, vR 0), (1, vI a1), (2, vI rc1), (5, vI x65_5_1060)]) dX12_weighs_176 (by decide) rfl ?_
              refine g_forget (l1 := [(0, vR 0), (1, vI a1), (2, vI rc1), (3, vI r2105), (4, vI (b2106 + 1)), (5, vI x65_5_1060)]) (by intro q hq; simp only [List.mem_cons, List.not_mem_nil, or_false] at hq ⊢; rcases hq with rfl | rfl | rfl | rfl | rfl | rfl <;> simp) ?_
              exact J178_2099 (b2106 + 1) ⟨by omega, by omega⟩ r2105 ⟨by omega, by omega⟩ _ hB2103 (FrM.a FrM.rf rfl rfl)
          · refine g_goto (tgt := 178) dX12_weighs_119 (by decide) ?_
            refine g_forget (l1 := [(0, vR 0), (1, vI a1), (2, vI rc1), (3, vI x65_3_1060), (4, vI x65_4_1060), (5, vI x65_5_1060)]) (by intro q hq; simp only [List.mem_cons, List.not_mem_nil, or_false] at hq ⊢; rcases hq with rfl | rfl | rfl | rfl | rfl | rfl <;> simp) ?_
            exact J178_2099 x65_4_1060 ⟨by omega, by omega⟩ x65_3_1060 ⟨by omega, by omega⟩ _ hB65_1060 FrM.rf
    refine g_forget (l1 := [(0, vR 0), (1, vI a1), (2, vI rc1), (3, vI x52_3_1057), (4, vI x52_4_1057), (5, vI 0)]) (by intro q hq; simp only [List.mem_cons, List.not_mem_nil, or_false] at hq ⊢; rcases hq with rfl | rfl | rfl | rfl | rfl | rfl <;> simp) ?_
    exact L65_1060 _ 0 (by decide) x52_3_1057 ⟨by omega, by omega⟩ x52_4_1057 ⟨by omega, by omega⟩ _ hB1060 FrM.rf (Nat.lt_succ_self _)
  refine g_icmp_ne (tgt := 52) dX12_weighs_13 (by decide) ⟨by omega, by omega⟩ (by decide) (fun k2108 => ?_) (fun k2108 => ?_)
  · refine g_forget (l1 := [(0, vR 0), (1, vI a1), (2, vI rc1), (3, vI 1), (4, vI 0)]) (by intro q hq; simp only [List.mem_cons, List.not_mem_nil, or_false] at hq ⊢; rcases hq with rfl | rfl | rfl | rfl | rfl <;> simp) ?_
    exact J52_1057 0 (by decide) 1 (by decide) _ hBc1 FrM.rf vc1_MV (vc1_MV.w)
  · refine g_aload_n dX12_weighs_16 rfl ?_
    refine g_iload_n dX12_weighs_17 rfl ?_
    refine g_vI (av := [vI a1]) (o := 0) (st := []) (m_X12_isDoor G Pc1 a1 ⟨by omega, by omega⟩ hBc1 vc1_MV _ (fun rc2109 hc2109 Pc2109 hBc2109 hFc2109 gc2109_d vc2109_MV => ⟨rc2109, rfl, ?_⟩)) cf_X12_isDoor t_2049 rfl (by decide) rfl rfl rfl (Nat.le_of_ble_eq_true rfl) (by decide) rfl dX12_weighs_18
    refine g_if_eq (tgt := 52) dX12_weighs_21 (by decide) ⟨by omega, by omega⟩ (fun k2110 => ?_) (fun k2110 => ?_)
    · refine g_forget (l1 := [(0, vR 0), (1, vI a1), (2, vI rc1), (3, vI 1), (4, vI 0)]) (by intro q hq; simp only [List.mem_cons, List.not_mem_nil, or_false] at hq ⊢; rcases hq with rfl | rfl | rfl | rfl | rfl <;> simp) ?_
      exact J52_1057 0 (by decide) 1 (by decide) _ hBc2109 (FrM.c FrM.rf hFc2109 rfl) vc2109_MV (vc2109_MV.w)
    · refine g_iload_n dX12_weighs_24 rfl ?_
      refine g_aload_n dX12_weighs_25 rfl ?_
      refine m_g82 rfl dX12_weighs_26 ?_
      refine g_iload_n dX12_weighs_29 rfl ?_
      refine g_sI (av := [vI a1]) (st := [vR 53, vI 1]) (m_X12_throughDoor G Pc2109 a1 ⟨by omega, by omega⟩ hBc2109  _ (fun rc2111 hc2111 gc2111_lt gc2111_le gc2111_wl => ⟨rc2111, rfl, ?_⟩)) cf_X12_throughDoor t_2034 rfl (Nat.le_of_ble_eq_true rfl) (by decide) rfl dX12_weighs_30
      refine m_l53 (z := (P 53 rc2111)) dX12_weighs_33 ⟨by omega, by omega⟩ ((congrFun (hFc2109.2 53 rfl rfl) _).trans ((congrFun (hFc1.2 53 rfl rfl) _).trans rfl)) ?_
      refine g_iconst dX12_weighs_34 ?_
      refine g_ishr dX12_weighs_35 ?_
      refine g_nm (fun b2112 e_b2112 => ?_)
      have h_b2112 : (ishr (P 53 rc2111) 3) = (P 53 rc2111) / 8 := ishr_c 3 (by decide) (x := (P 53 rc2111)) ⟨by have q0 := bl_53 (k := rc2111) hB; omega, by have q0 := bl_53 (k := rc2111) hB; omega⟩
      rw [← e_b2112] at h_b2112
      have f_b2112_0 := bl_53 (k := rc2111) hB
      refine g_iadd dX12_weighs_36 ?_
      refine g_istore_n (l1 := [(3, vI (1 + b2112)), (4, vI 0), (2, vI rc1), (0, vR 0), (1, vI a1)]) dX12_weighs_37 (by decide) rfl ?_
      refine g_aload_n dX12_weighs_38 rfl ?_
      refine m_g82 rfl dX12_weighs_39 ?_
      refine g_iload_n dX12_weighs_42 rfl ?_
      refine g_sI (av := [vI a1]) (st := [vR 53]) (m_X12_throughDoor G Pc2109 a1 ⟨by omega, by omega⟩ hBc2109  _ (fun rc2113 hc2113 gc2113_lt gc2113_le gc2113_wl => ⟨rc2113, rfl, ?_⟩)) cf_X12_throughDoor t_2034 rfl (Nat.le_of_ble_eq_true rfl) (by decide) rfl dX12_weighs_43
      refine m_l53 (z := (P 53 rc2113)) dX12_weighs_46 ⟨by omega, by omega⟩ ((congrFun (hFc2109.2 53 rfl rfl) _).trans ((congrFun (hFc1.2 53 rfl rfl) _).trans rfl)) ?_
      refine g_bipush dX12_weighs_47 (by decide) ?_
      refine g_iand dX12_weighs_49 ?_
      refine g_nm (fun b2114 e_b2114 => ?_)
      have h_b2114 := iand_r (x := (P 53 rc2113)) (y := 7) ⟨by omega, by omega⟩
      rw [← e_b2114] at h_b2114
      refine g_istore (l1 := [(4, vI b2114), (3, vI (1 + b2112)), (2, vI rc1), (0, vR 0), (1, vI a1)]) dX12_weighs_50 (by decide) rfl ?_
      refine g_forget (l1 := [(0, vR 0), (1, vI a1), (2, vI rc1), (3, vI (1 + b2112)), (4, vI b2114)]) (by intro q hq; simp only [List.mem_cons, List.not_mem_nil, or_false] at hq ⊢; rcases hq with rfl | rfl | rfl | rfl | rfl <;> simp) ?_
      exact J52_1057 b2114 ⟨by omega, by omega⟩ (1 + b2112) ⟨by omega, by omega⟩ _ hBc2109 (FrM.c FrM.rf hFc2109 rfl) vc2109_MV (vc2109_MV.w)
set_option maxRecDepth 100000 in
set_option maxHeartbeats 4000000 in
theorem m_X12_sizeOf (G : GT) (P : PH) (a1 : Int) (h_a1 : (-2147483648) ≤ a1 ∧ a1 ≤ 2147483647) (hB : BdM P) (Q : Option PV → PH → Prop) (hQ : ∀ (r : Int) (_ : (-2147483648) ≤ r ∧ r ≤ 2147483647), Q (some (vI r)) P) : Ct WSM G 2 iX12_sizeOf [vI a1] P Q := by
  refine Ct.of (by decide) (l0 := [(0, vI a1)]) rfl (Nat.le_of_ble_eq_true rfl) ?_
  refine g_iload_n dX12_sizeOf_0 rfl ?_
  refine g_sI (av := [vI a1]) (st := []) (m_X12_bitsOf G P a1 ⟨by omega, by omega⟩ hB  _ (fun rc1 hc1 => ⟨rc1, rfl, ?_⟩)) cf_X12_bitsOf t_2031 rfl (Nat.le_of_ble_eq_true rfl) (by decide) rfl dX12_sizeOf_1
  exact g_retI dX12_sizeOf_4 rfl (hQ rc1 ⟨by omega, by omega⟩ )
set_option maxRecDepth 100000 in
set_option maxHeartbeats 4000000 in
theorem m_X12_tree (G : GT) (P : PH) (a1 : Int) (a2 : Int) (h_a1 : (-2147483648) ≤ a1 ∧ a1 ≤ 2147483647) (h_a2 : (-2147483648) ≤ a2 ∧ a2 ≤ 2147483647) (hB : BdM P) (p_st : P 0 74 ≤ 199999999) (v_okC : okC P) (v_MVw : MVw P) (v_RE : RE P) (Q : Option PV → PH → Prop) (hQ : ∀ (r : Int) (_ : (-2147483648) ≤ r ∧ r ≤ 2147483647) (P1 : PH) (_ : BdM P1) (_ : FrM ([62, 66, 74, 76, 78, 81], [41, 42, 43, 44, 49, 50, 51, 52, 53]) P P1) (_ : P1 0 74 ≤ P 0 74 + 1) (_ : MVw P1) (_ : RE P1), Q (some (vI r)) P1) : Ct WSM G 6 iX12_tree [vR 0, vI a1, vI a2] P Q := by
  refine Ct.of (by decide) (l0 := [(0, vR 0), (1, vI a1), (2, vI a2)]) rfl (Nat.le_of_ble_eq_true rfl) ?_
  refine g_aload_n dX12_tree_0 rfl ?_
  refine m_g44 (z := (P 0 44)) rfl dX12_tree_1 rfl ?_
  have f1 := b0_44 hB
  refine g_if_eq (tgt := 25) dX12_tree_4 (by decide) ⟨by have q0 := b0_44 hB; omega, by have q0 := b0_44 hB; omega⟩ (fun k2 => ?_) (fun k2 => ?_)
  · refine g_iconst dX12_tree_25 ?_
    exact g_retI dX12_tree_26 rfl (hQ (-1) (by decide) _ hB FrM.rf (by have q0 := b0_74 hB; omega) v_MVw v_RE)
  · refine g_iload_n dX12_tree_7 rfl ?_
    refine g_iconst dX12_tree_8 ?_
    refine g_iconst dX12_tree_9 ?_
    refine g_sI (av := [vI a1, vI 0, vI 3]) (st := []) (m_X12_is G P a1 0 3 ⟨by omega, by omega⟩ (by decide) (by decide) hB  _ (fun rc3 hc3 gc3_is => ⟨rc3, rfl, ?_⟩)) cf_X12_is t_1800 rfl (Nat.le_of_ble_eq_true rfl) (by decide) rfl dX12_tree_10
    refine g_if_eq (tgt := 25) dX12_tree_13 (by decide) ⟨by omega, by omega⟩ (fun k4 => ?_) (fun k4 => ?_)
    · refine g_iconst dX12_tree_25 ?_
      exact g_retI dX12_tree_26 rfl (hQ (-1) (by decide) _ hB FrM.rf (by have q0 := b0_74 hB; omega) v_MVw v_RE)
    · refine g_iload_n dX12_tree_16 rfl ?_
      refine g_iconst dX12_tree_17 ?_
      refine g_iconst dX12_tree_18 ?_
      refine g_sI (av := [vI a2, vI 0, vI 3]) (st := []) (m_X12_is G P a2 0 3 ⟨by omega, by omega⟩ (by decide) (by decide) hB  _ (fun rc5 hc5 gc5_is => ⟨rc5, rfl, ?_⟩)) cf_X12_is t_1800 rfl (Nat.le_of_ble_eq_true rfl) (by decide) rfl dX12_tree_19
      refine g_if_ne (tgt := 27) dX12_tree_22 (by decide) ⟨by omega, by omega⟩ (fun k6 => ?_) (fun k6 => ?_)
      · refine g_aload_n dX12_tree_27 rfl ?_
        refine g_iconst dX12_tree_28 ?_
        refine g_iload_n dX12_tree_29 rfl ?_
        refine g_vV (av := [vI 0, vI a1]) (o := 0) (st := []) (m_X12_plants G P 0 a1 (by decide) ⟨by omega, by omega⟩ hB (by have q0 := b0_74 hB; omega) v_MVw v_RE _ (fun Pc7 hBc7 hFc7 gc7_st vc7_MV vc7_RE vc7_RLt => ⟨rfl, ?_⟩)) cf_X12_plants t_1998 rfl (by decide) rfl rfl rfl (Nat.le_of_ble_eq_true rfl) (by decide) rfl dX12_tree_30
        refine g_iload_n dX12_tree_33 rfl ?_
        refine g_iconst dX12_tree_34 ?_
        refine g_icmp_ne (tgt := 44) dX12_tree_35 (by decide) ⟨by omega, by omega⟩ (by decide) (fun k8 => ?_) (fun k8 => ?_)
        · refine g_aload_n dX12_tree_44 rfl ?_
          refine g_vV (av := []) (o := 0) (st := []) (m_X12_grows G Pc7  hBc7 vc7_MV vc7_RLt _ (fun Pc9 hBc9 hFc9 vc9_MV vc9_RE => ⟨rfl, ?_⟩)) cf_X12_grows t_2041 rfl (by decide) rfl rfl rfl (Nat.le_of_ble_eq_true rfl) (by decide) rfl dX12_tree_45
          refine g_iload_n dX12_tree_48 rfl ?_
          refine g_iconst dX12_tree_49 ?_
          refine g_icmp_ne (tgt := 58) dX12_tree_50 (by decide) ⟨by omega, by omega⟩ (by decide) (fun k10 => ?_) (fun k10 => ?_)
          · refine g_iconst dX12_tree_58 ?_
            refine g_istore_n (l1 := [(3, vI 0), (0, vR 0), (1, vI a1), (2, vI a2)]) dX12_tree_59 (by decide) rfl ?_
            have L60_10 : ∀ (n60_10 : Nat) (x60_3_10 : Int) (h_x60_3_10 : 0 ≤ x60_3_10 ∧ x60_3_10 ≤ 17) (H60_10 : PH) (hB60_10 : BdM H60_10) (hE60_10 : FrM ([78], [49, 50, 53]) Pc9 H60_10) (w60_MV_10 : MV H60_10) (w60_MVw_10 : MVw H60_10) (hm60_10 : ((18 - x60_3_10) : Int).toNat < n60_10), Go WSM G 6 iX12_tree 60 [(0, vR 0), (2, vI a2), (3, vI x60_3_10)] [] H60_10 Q := by
              intro n60_10
              induction n60_10 with
              | zero => intro x60_3_10 h_x60_3_10 H60_10 hB60_10 hE60_10 w60_MV_10 w60_MVw_10 hm60_10; exact absurd hm60_10 (Nat.not_lt_zero _)
              | succ n60_10 ih60_10 =>
              intro x60_3_10 h_x60_3_10 H60_10 hB60_10 hE60_10 w60_MV_10 w60_MVw_10 hm60_10
              refine g_iload_n dX12_tree_60 rfl ?_
              refine g_bipush dX12_tree_61 (by decide) ?_
              refine g_icmp_gt (tgt := 115) dX12_tree_63 (by decide) ⟨by omega, by omega⟩ (by decide) (fun k2524 => ?_) (fun k2524 => ?_)
              · refine g_iload_n dX12_tree_115 rfl ?_
                refine g_if_ne (tgt := 133) dX12_tree_116 (by decide) ⟨by omega, by omega⟩ (fun k2525 => ?_) (fun k2525 => ?_)
                · refine g_aload_n dX12_tree_133 rfl ?_
                  refine m_g82 rfl dX12_tree_134 ?_
                  refine g_aload_n dX12_tree_137 rfl ?_
                  refine g_vI (av := []) (o := 0) (st := [vR 53]) (m_X12_root G H60_10  hB60_10  _ (fun rc2526 hc2526 => ⟨rc2526, rfl, ?_⟩)) cf_X12_root t_2010 rfl (by decide) rfl rfl rfl (Nat.le_of_ble_eq_true rfl) (by decide) rfl dX12_tree_138
                  refine m_l53 (z := (H60_10 53 rc2526)) dX12_tree_141 ⟨by omega, by omega⟩ rfl ?_
                  refine g_bipush dX12_tree_142 (by decide) ?_
                  refine g_iand dX12_tree_144 ?_
                  refine g_nm (fun b2527 e_b2527 => ?_)
                  have h_b2527 := iand_r (x := (H60_10 53 rc2526)) (y := 7) ⟨by omega, by omega⟩
                  rw [← e_b2527] at h_b2527
                  exact g_retI dX12_tree_145 rfl (hQ b2527 ⟨by omega, by omega⟩ _ hB60_10 (FrM.c (FrM.c (FrM.c FrM.rf hFc7 rfl) hFc9 rfl) hE60_10 rfl) (by have q0 := (((hE60_10.1 74 rfl).trans ((hFc9.1 74 rfl).trans rfl)) : H60_10 0 74 = (Pc7 0 74)); have q1 := b0_74 hBc7; omega) w60_MVw_10 (RE.fr (F := ([78], [49, 50, 53])) vc9_RE (FrM.c FrM.rf hE60_10 rfl) rfl))
                · refine g_aload_n dX12_tree_119 rfl ?_
                  refine m_g82 rfl dX12_tree_120 ?_
                  refine g_aload_n dX12_tree_123 rfl ?_
                  refine g_vI (av := []) (o := 0) (st := [vR 53]) (m_X12_root G H60_10  hB60_10  _ (fun rc2528 hc2528 => ⟨rc2528, rfl, ?_⟩)) cf_X12_root t_2010 rfl (by decide) rfl rfl rfl (Nat.le_of_ble_eq_true rfl) (by decide) rfl dX12_tree_124
                  refine m_l53 (z := (H60_10 53 rc2528)) dX12_tree_127 ⟨by omega, by omega⟩ rfl ?_
                  refine g_iconst dX12_tree_128 ?_
                  refine g_ishr dX12_tree_129 ?_
                  refine g_nm (fun b2529 e_b2529 => ?_)
                  have h_b2529 : (ishr (H60_10 53 rc2528) 3) = (H60_10 53 rc2528) / 8 := ishr_c 3 (by decide) (x := (H60_10 53 rc2528)) ⟨by have q0 := bl_53 (k := rc2528) hB60_10; omega, by have q0 := bl_53 (k := rc2528) hB60_10; omega⟩
                  rw [← e_b2529] at h_b2529
                  have f_b2529_0 := bl_53 (k := rc2528) hB60_10
                  refine g_goto (tgt := 145) dX12_tree_130 (by decide) ?_
                  exact g_retI dX12_tree_145 rfl (hQ b2529 ⟨by omega, by omega⟩ _ hB60_10 (FrM.c (FrM.c (FrM.c FrM.rf hFc7 rfl) hFc9 rfl) hE60_10 rfl) (by have q0 := (((hE60_10.1 74 rfl).trans ((hFc9.1 74 rfl).trans rfl)) : H60_10 0 74 = (Pc7 0 74)); have q1 := b0_74 hBc7; omega) w60_MVw_10 (RE.fr (F := ([78], [49, 50, 53])) vc9_RE (FrM.c FrM.rf hE60_10 rfl) rfl))
              · refine g_iconst dX12_tree_66 ?_
                refine g_istore (l1 := [(4, vI 0), (0, vR 0), (2, vI a2), (3, vI x60_3_10)]) dX12_tree_67 (by decide) rfl ?_
                have L69_2529 : ∀ (n69_2529 : Nat) (x69_4_2529 : Int) (h_x69_4_2529 : 0 ≤ x69_4_2529 ∧ x69_4_2529 ≤ 65536) (H69_2529 : PH) (hB69_2529 : BdM H69_2529) (hE69_2529 : FrM ([78], [49, 50, 53]) H60_10 H69_2529) (w69_MV_2529 : MV H69_2529) (w69_MVw_2529 : MVw H69_2529) (hm69_2529 : ((65537 - x69_4_2529) : Int).toNat < n69_2529), Go WSM G 6 iX12_tree 69 [(0, vR 0), (2, vI a2), (3, vI x60_3_10), (4, vI x69_4_2529)] [] H69_2529 Q := by
                  intro n69_2529
                  induction n69_2529 with
                  | zero => intro x69_4_2529 h_x69_4_2529 H69_2529 hB69_2529 hE69_2529 w69_MV_2529 w69_MVw_2529 hm69_2529; exact absurd hm69_2529 (Nat.not_lt_zero _)
                  | succ n69_2529 ih69_2529 =>
                  intro x69_4_2529 h_x69_4_2529 H69_2529 hB69_2529 hE69_2529 w69_MV_2529 w69_MVw_2529 hm69_2529
                  refine g_iload dX12_tree_69 rfl ?_
                  refine g_aload_n dX12_tree_71 rfl ?_
                  refine m_g81 (z := (Pc9 0 81)) rfl dX12_tree_72 ((hE69_2529.1 81 rfl).trans ((hE60_10.1 81 rfl).trans rfl)) ?_
                  have f2747 := b0_81 hBc9
                  refine g_icmp_ge (tgt := 109) dX12_tree_75 (by decide) ⟨by omega, by omega⟩ ⟨by have q0 := b0_81 hBc9; omega, by have q0 := b0_81 hBc9; omega⟩ (fun k2748 => ?_) (fun k2748 => ?_)
                  · refine g_iinc (l1 := [(3, vI (x60_3_10 + 1)), (0, vR 0), (2, vI a2), (4, vI x69_4_2529)]) dX12_tree_109 rfl (by decide) rfl ?_
                    refine g_goto (tgt := 60) dX12_tree_112 (by decide) ?_
                    refine g_forget (l1 := [(0, vR 0), (2, vI a2), (3, vI (x60_3_10 + 1))]) (by intro q hq; simp only [List.mem_cons, List.not_mem_nil, or_false] at hq ⊢; rcases hq with rfl | rfl | rfl <;> simp) ?_
                    exact ih60_10 (x60_3_10 + 1) ⟨by omega, by omega⟩ _ hB69_2529 (FrM.c (FrM.c FrM.rf hE60_10 rfl) hE69_2529 rfl) w69_MV_2529 w69_MVw_2529 (by omega)
                  · refine g_aload_n dX12_tree_78 rfl ?_
                    refine m_g80 rfl dX12_tree_79 ?_
                    refine g_iload dX12_tree_82 rfl ?_
                    refine m_l52 (z := (Pc9 52 x69_4_2529)) dX12_tree_84 ⟨by omega, by omega⟩ ((congrFun (hE69_2529.2 52 rfl rfl) _).trans ((congrFun (hE60_10.2 52 rfl rfl) _).trans rfl)) ?_
                    have f2749 := bl_52 (k := x69_4_2529) hBc9
                    refine g_sI (av := [vI (Pc9 52 x69_4_2529)]) (st := []) (m_X12_sizeOf G H69_2529 (Pc9 52 x69_4_2529) ⟨by have q0 := bl_52 (k := x69_4_2529) hBc9; omega, by have q0 := bl_52 (k := x69_4_2529) hBc9; omega⟩ hB69_2529  _ (fun rc2750 hc2750 => ⟨rc2750, rfl, ?_⟩)) cf_X12_sizeOf t_2053 rfl (Nat.le_of_ble_eq_true rfl) (by decide) rfl dX12_tree_85
                    refine g_iload_n dX12_tree_88 rfl ?_
                    have J103_2752 : ∀ (H103_2752 : PH) (hB103_2752 : BdM H103_2752) (hE103_2752 : FrM ([78], [49, 50, 53]) H69_2529 H103_2752) (w103_MV_2752 : MV H103_2752) (w103_MVw_2752 : MVw H103_2752), Go WSM G 6 iX12_tree 103 [(0, vR 0), (2, vI a2), (3, vI x60_3_10), (4, vI x69_4_2529)] [] H103_2752 Q := by
                      intro H103_2752 hB103_2752 hE103_2752 w103_MV_2752 w103_MVw_2752
                      refine g_iinc (l1 := [(4, vI (x69_4_2529 + 1)), (0, vR 0), (2, vI a2), (3, vI x60_3_10)]) dX12_tree_103 rfl (by decide) rfl ?_
                      refine g_goto (tgt := 69) dX12_tree_106 (by decide) ?_
                      refine g_forget (l1 := [(0, vR 0), (2, vI a2), (3, vI x60_3_10), (4, vI (x69_4_2529 + 1))]) (by intro q hq; simp only [List.mem_cons, List.not_mem_nil, or_false] at hq ⊢; rcases hq with rfl | rfl | rfl | rfl <;> simp) ?_
                      exact ih69_2529 (x69_4_2529 + 1) ⟨by omega, by omega⟩ _ hB103_2752 (FrM.c (FrM.c FrM.rf hE69_2529 rfl) hE103_2752 rfl) w103_MV_2752 w103_MVw_2752 (by omega)
                    refine g_icmp_ne (tgt := 103) dX12_tree_89 (by decide) ⟨by omega, by omega⟩ ⟨by omega, by omega⟩ (fun k2754 => ?_) (fun k2754 => ?_)
                    · refine g_forget (l1 := [(0, vR 0), (2, vI a2), (3, vI x60_3_10), (4, vI x69_4_2529)]) (by intro q hq; simp only [List.mem_cons, List.not_mem_nil, or_false] at hq ⊢; rcases hq with rfl | rfl | rfl | rfl <;> simp) ?_
                      exact J103_2752 _ hB69_2529 FrM.rf w69_MV_2529 w69_MVw_2529
                    · refine g_aload_n dX12_tree_92 rfl ?_
                      refine g_aload_n dX12_tree_93 rfl ?_
                      refine m_g80 rfl dX12_tree_94 ?_
                      refine g_iload dX12_tree_97 rfl ?_
                      refine m_l52 (z := (Pc9 52 x69_4_2529)) dX12_tree_99 ⟨by omega, by omega⟩ ((congrFun (hE69_2529.2 52 rfl rfl) _).trans ((congrFun (hE60_10.2 52 rfl rfl) _).trans rfl)) ?_
                      refine g_vV (av := [vI (Pc9 52 x69_4_2529)]) (o := 0) (st := []) (m_X12_weighs G H69_2529 (Pc9 52 x69_4_2529) ⟨by have q0 := bl_52 (k := x69_4_2529) hBc9; omega, by have q0 := bl_52 (k := x69_4_2529) hBc9; omega⟩ hB69_2529 w69_MV_2529 _ (fun Pc2755 hBc2755 hFc2755 vc2755_MV => ⟨rfl, ?_⟩)) cf_X12_weighs t_2056 rfl (by decide) rfl rfl rfl (Nat.le_of_ble_eq_true rfl) (by decide) rfl dX12_tree_100
                      refine g_forget (l1 := [(0, vR 0), (2, vI a2), (3, vI x60_3_10), (4, vI x69_4_2529)]) (by intro q hq; simp only [List.mem_cons, List.not_mem_nil, or_false] at hq ⊢; rcases hq with rfl | rfl | rfl | rfl <;> simp) ?_
                      exact J103_2752 _ hBc2755 (FrM.c FrM.rf hFc2755 rfl) vc2755_MV (vc2755_MV.w)
                refine g_forget (l1 := [(0, vR 0), (2, vI a2), (3, vI x60_3_10), (4, vI 0)]) (by intro q hq; simp only [List.mem_cons, List.not_mem_nil, or_false] at hq ⊢; rcases hq with rfl | rfl | rfl | rfl <;> simp) ?_
                exact L69_2529 _ 0 (by decide) _ hB60_10 FrM.rf w60_MV_10 w60_MVw_10 (Nat.lt_succ_self _)
            refine g_forget (l1 := [(0, vR 0), (2, vI a2), (3, vI 0)]) (by intro q hq; simp only [List.mem_cons, List.not_mem_nil, or_false] at hq ⊢; rcases hq with rfl | rfl | rfl <;> simp) ?_
            exact L60_10 _ 0 (by decide) _ hBc9 FrM.rf vc9_MV (vc9_MV.w) (Nat.lt_succ_self _)
          · refine g_aload_n dX12_tree_53 rfl ?_
            refine m_g81 (z := (Pc9 0 81)) rfl dX12_tree_54 rfl ?_
            exact g_retI dX12_tree_57 rfl (hQ (Pc9 0 81) ⟨by have q0 := b0_81 hBc9; omega, by have q0 := b0_81 hBc9; omega⟩ _ hBc9 (FrM.c (FrM.c FrM.rf hFc7 rfl) hFc9 rfl) (by have q0 := b0_81 hBc9; have q1 := (((hFc9.1 74 rfl).trans rfl) : Pc9 0 74 = (Pc7 0 74)); have q2 := b0_74 hBc7; omega) (vc9_MV.w) vc9_RE)
        · refine g_aload_n dX12_tree_38 rfl ?_
          refine g_iconst dX12_tree_39 ?_
          refine g_vI (av := [vI 0]) (o := 0) (st := []) (m_X12_allTests G Pc7 0 (by decide) hBc7 (okC.fr (F := ([62, 66, 74, 76], [41, 42, 43])) v_okC (FrM.c FrM.rf hFc7 rfl) rfl) vc7_MV _ (fun rc2756 hc2756 Pc2756 hBc2756 hFc2756 vc2756_MV => ⟨rc2756, rfl, ?_⟩)) cf_X12_allTests t_2002 rfl (by decide) rfl rfl rfl (Nat.le_of_ble_eq_true rfl) (by decide) rfl dX12_tree_40
          exact g_retI dX12_tree_43 rfl (hQ rc2756 ⟨by omega, by omega⟩ _ hBc2756 (FrM.c (FrM.c FrM.rf hFc7 rfl) hFc2756 rfl) (by have q0 := (((hFc2756.1 74 rfl).trans rfl) : Pc2756 0 74 = (Pc7 0 74)); have q1 := b0_74 hBc7; omega) (vc2756_MV.w) (RE.fr (F := ([78], [44, 49, 50])) vc7_RE (FrM.c FrM.rf hFc2756 rfl) rfl))
      · refine g_iconst dX12_tree_25 ?_
        exact g_retI dX12_tree_26 rfl (hQ (-1) (by decide) _ hB FrM.rf (by have q0 := b0_74 hB; omega) v_MVw v_RE)
set_option maxRecDepth 100000 in
set_option maxHeartbeats 4000000 in
theorem m_X12_first (G : GT) (P : PH) (a1 : Int) (h_a1 : (-2147483648) ≤ a1 ∧ a1 ≤ 2147483647) (hB : BdM P) (p_st : P 0 74 ≤ 199999999) (v_okC : okC P) (v_MVw : MVw P) (v_RE : RE P) (Q : Option PV → PH → Prop) (hQ : ∀ (r : Int) (_ : (-2147483648) ≤ r ∧ r ≤ 2147483647) (P1 : PH) (_ : BdM P1) (_ : FrM ([62, 66, 74, 76, 78], [41, 42, 43, 49, 50]) P P1) (_ : P1 0 74 ≤ P 0 74 + 1) (_ : MVw P1) (_ : RE P1), Q (some (vI r)) P1) : Ct WSM G 5 iX12_first [vR 0, vI a1] P Q := by
  refine Ct.of (by decide) (l0 := [(0, vR 0), (1, vI a1)]) rfl (Nat.le_of_ble_eq_true rfl) ?_
  refine g_aload_n dX12_first_0 rfl ?_
  refine m_g44 (z := (P 0 44)) rfl dX12_first_1 rfl ?_
  have f1 := b0_44 hB
  refine g_if_eq (tgt := 16) dX12_first_4 (by decide) ⟨by have q0 := b0_44 hB; omega, by have q0 := b0_44 hB; omega⟩ (fun k2 => ?_) (fun k2 => ?_)
  · refine g_iconst dX12_first_16 ?_
    exact g_retI dX12_first_17 rfl (hQ (-1) (by decide) _ hB FrM.rf (by have q0 := b0_74 hB; omega) v_MVw v_RE)
  · refine g_iload_n dX12_first_7 rfl ?_
    refine g_iconst dX12_first_8 ?_
    refine g_iconst dX12_first_9 ?_
    refine g_sI (av := [vI a1, vI 0, vI 3]) (st := []) (m_X12_is G P a1 0 3 ⟨by omega, by omega⟩ (by decide) (by decide) hB  _ (fun rc3 hc3 gc3_is => ⟨rc3, rfl, ?_⟩)) cf_X12_is t_1800 rfl (Nat.le_of_ble_eq_true rfl) (by decide) rfl dX12_first_10
    refine g_if_ne (tgt := 18) dX12_first_13 (by decide) ⟨by omega, by omega⟩ (fun k4 => ?_) (fun k4 => ?_)
    · refine g_aload_n dX12_first_18 rfl ?_
      refine g_iconst dX12_first_19 ?_
      refine g_iload_n dX12_first_20 rfl ?_
      refine g_vV (av := [vI 0, vI a1]) (o := 0) (st := []) (m_X12_plants G P 0 a1 (by decide) ⟨by omega, by omega⟩ hB (by have q0 := b0_74 hB; omega) v_MVw v_RE _ (fun Pc5 hBc5 hFc5 gc5_st vc5_MV vc5_RE vc5_RLt => ⟨rfl, ?_⟩)) cf_X12_plants t_1998 rfl (by decide) rfl rfl rfl (Nat.le_of_ble_eq_true rfl) (by decide) rfl dX12_first_21
      refine g_aload_n dX12_first_24 rfl ?_
      refine g_vI (av := []) (o := 0) (st := []) (m_X12_root G Pc5  hBc5  _ (fun rc6 hc6 => ⟨rc6, rfl, ?_⟩)) cf_X12_root t_2010 rfl (by decide) rfl rfl rfl (Nat.le_of_ble_eq_true rfl) (by decide) rfl dX12_first_25
      refine g_istore_n (l1 := [(2, vI rc6), (0, vR 0), (1, vI a1)]) dX12_first_28 (by decide) rfl ?_
      have L29_6 : ∀ (n29_6 : Nat) (x29_2_6 : Int) (h_x29_2_6 : 0 ≤ x29_2_6 ∧ x29_2_6 ≤ 65535) (H29_6 : PH) (hB29_6 : BdM H29_6) (hE29_6 : FrM ([78], [49, 50]) Pc5 H29_6) (w29_MV_6 : MV H29_6) (w29_MVw_6 : MVw H29_6) (hm29_6 : (x29_2_6 : Int).toNat < n29_6), Go WSM G 5 iX12_first 29 [(0, vR 0), (2, vI x29_2_6)] [] H29_6 Q := by
        intro n29_6
        induction n29_6 with
        | zero => intro x29_2_6 h_x29_2_6 H29_6 hB29_6 hE29_6 w29_MV_6 w29_MVw_6 hm29_6; exact absurd hm29_6 (Nat.not_lt_zero _)
        | succ n29_6 ih29_6 =>
        intro x29_2_6 h_x29_2_6 H29_6 hB29_6 hE29_6 w29_MV_6 w29_MVw_6 hm29_6
        refine g_aload_n dX12_first_29 rfl ?_
        refine g_iload_n dX12_first_30 rfl ?_
        refine g_vI (av := [vI x29_2_6]) (o := 0) (st := []) (m_X12_isDoor G H29_6 x29_2_6 ⟨by omega, by omega⟩ hB29_6 w29_MV_6 _ (fun rc28 hc28 Pc28 hBc28 hFc28 gc28_d vc28_MV => ⟨rc28, rfl, ?_⟩)) cf_X12_isDoor t_2049 rfl (by decide) rfl rfl rfl (Nat.le_of_ble_eq_true rfl) (by decide) rfl dX12_first_31
        refine g_if_eq (tgt := 45) dX12_first_34 (by decide) ⟨by omega, by omega⟩ (fun k29 => ?_) (fun k29 => ?_)
        · refine g_aload_n dX12_first_45 rfl ?_
          refine g_iload_n dX12_first_46 rfl ?_
          refine g_vI (av := [vI x29_2_6]) (o := 0) (st := []) (m_X12_asksFor G Pc28 x29_2_6 ⟨by omega, by omega⟩ hBc28 vc28_MV _ (fun rc30 hc30 Pc30 hBc30 hFc30 gc30_b vc30_MV => ⟨rc30, rfl, ?_⟩)) cf_X12_asksFor t_2020 rfl (by decide) rfl rfl rfl (Nat.le_of_ble_eq_true rfl) (by decide) rfl dX12_first_47
          refine g_istore_n (l1 := [(3, vI rc30), (0, vR 0), (2, vI x29_2_6)]) dX12_first_50 (by decide) rfl ?_
          refine g_iload_n dX12_first_51 rfl ?_
          refine g_iconst dX12_first_52 ?_
          refine g_icmp_ne (tgt := 60) dX12_first_53 (by decide) ⟨by omega, by omega⟩ (by decide) (fun k31 => ?_) (fun k31 => ?_)
          · refine g_iload_n dX12_first_60 rfl ?_
            exact g_retI dX12_first_61 rfl (hQ rc30 ⟨by omega, by omega⟩ _ hBc30 (FrM.c (FrM.c (FrM.c (FrM.c FrM.rf hFc5 rfl) hE29_6 rfl) hFc28 rfl) hFc30 rfl) (by have q0 := (((hFc30.1 74 rfl).trans ((hFc28.1 74 rfl).trans ((hE29_6.1 74 rfl).trans rfl))) : Pc30 0 74 = (Pc5 0 74)); have q1 := b0_74 hBc5; omega) (vc30_MV.w) (RE.fr (F := ([78], [49, 50])) vc5_RE (FrM.c (FrM.c (FrM.c FrM.rf hE29_6 rfl) hFc28 rfl) hFc30 rfl) rfl))
          · refine g_iconst dX12_first_56 ?_
            refine g_goto (tgt := 61) dX12_first_57 (by decide) ?_
            exact g_retI dX12_first_61 rfl (hQ (-1) (by decide) _ hBc30 (FrM.c (FrM.c (FrM.c (FrM.c FrM.rf hFc5 rfl) hE29_6 rfl) hFc28 rfl) hFc30 rfl) (by have q0 := (((hFc30.1 74 rfl).trans ((hFc28.1 74 rfl).trans ((hE29_6.1 74 rfl).trans rfl))) : Pc30 0 74 = (Pc5 0 74)); have q1 := b0_74 hBc5; omega) (vc30_MV.w) (RE.fr (F := ([78], [49, 50])) vc5_RE (FrM.c (FrM.c (FrM.c FrM.rf hE29_6 rfl) hFc28 rfl) hFc30 rfl) rfl))
        · refine g_iload_n dX12_first_37 rfl ?_
          refine g_sI (av := [vI x29_2_6]) (st := []) (m_X12_throughDoor G Pc28 x29_2_6 ⟨by omega, by omega⟩ hBc28  _ (fun rc32 hc32 gc32_lt gc32_le gc32_wl => ⟨rc32, rfl, ?_⟩)) cf_X12_throughDoor t_2034 rfl (Nat.le_of_ble_eq_true rfl) (by decide) rfl dX12_first_38
          refine g_istore_n (l1 := [(2, vI rc32), (0, vR 0)]) dX12_first_41 (by decide) rfl ?_
          refine g_goto (tgt := 29) dX12_first_42 (by decide) ?_
          refine g_forget (l1 := [(0, vR 0), (2, vI rc32)]) (by intro q hq; simp only [List.mem_cons, List.not_mem_nil, or_false] at hq ⊢; rcases hq with rfl | rfl <;> simp) ?_
          exact ih29_6 rc32 ⟨by omega, by omega⟩ _ hBc28 (FrM.c (FrM.c FrM.rf hE29_6 rfl) hFc28 rfl) vc28_MV (vc28_MV.w) (by omega)
      refine g_forget (l1 := [(0, vR 0), (2, vI rc6)]) (by intro q hq; simp only [List.mem_cons, List.not_mem_nil, or_false] at hq ⊢; rcases hq with rfl | rfl <;> simp) ?_
      exact L29_6 _ rc6 ⟨by omega, by omega⟩ _ hBc5 FrM.rf vc5_MV (vc5_MV.w) (Nat.lt_succ_self _)
    · refine g_iconst dX12_first_16 ?_
      exact g_retI dX12_first_17 rfl (hQ (-1) (by decide) _ hB FrM.rf (by have q0 := b0_74 hB; omega) v_MVw v_RE)
end
