section
section
/-! What emits and later do, said once. -/
/-- a code is emitted -/
def EM (op a b : Int) (P P1 : PH) : Prop := P1 0 36 = P 0 36 + 1 ∧ (∀ j : Int, j ≠ 2800 * P 0 37 + P 0 36 → P1 19 j = P 19 j ∧ P1 20 j = P 20 j ∧ P1 21 j = P 21 j) ∧ P1 19 (2800 * P 0 37 + P 0 36) = op ∧ P1 20 (2800 * P 0 37 + P 0 36) = a ∧ P1 21 (2800 * P 0 37 + P 0 36) = b
/-- something is put on the pile -/
def LA (k v : Int) (P P1 : PH) : Prop := P1 0 73 = P 0 73 + 1 ∧ (∀ j : Int, j ≠ P 0 73 → P1 47 j = P 47 j ∧ P1 48 j = P 48 j) ∧ P1 47 (P 0 73) = k ∧ P1 48 (P 0 73) = v
/-- how many values a kind has -/
def vals (P : PH) (b k : Int) : Int := if k = 4 then 20 else P 3 (4 * b + k)
theorem vals_of {P : PH} {b k r : Int} (h : (k = 4 ∧ r = 20) ∨ (k < 4 ∧ r = P 3 (4 * b + k))) : r = vals P b k := by
  unfold vals
  rcases h with ⟨h, e⟩ | ⟨h, e⟩
  · rw [if_pos h]; exact e
  · rw [if_neg (by omega)]; exact e
theorem vals_eq {P P1 : PH} {b k : Int} (h : k ≠ 4 → P1 3 (4 * b + k) = P 3 (4 * b + k)) : vals P1 b k = vals P b k := by
  unfold vals
  by_cases e : k = 4
  · rw [if_pos e, if_pos e]
  · rw [if_neg e, if_neg e]; exact h e
theorem vals_row {P P1 : PH} {b k : Int} (h : P1 3 = P 3) : vals P1 b k = vals P b k := vals_eq fun _ => congrFun h _
/-- what is known of the choices before the first stamp -/
def MVw (P : PH) : Prop := ∀ k : Int, 0 ≤ P 49 k ∧ P 49 k / 8 ≤ P 0 74
theorem MVw.fr {P P1 : PH} {F : FS} (h : MVw P) (hf : FrM F P P1) (hd : disF F ([74], [49]) = true) : MVw P1 := by
  unfold disF at hd
  simp only [List.all_cons, List.all_nil, Bool.and_true, Bool.true_and, Bool.and_eq_true, Bool.not_eq_true'] at hd
  unfold MVw at h ⊢
  rw [hf.1 74 hd.1, hf.2 49 rfl hd.2]
  exact h
theorem MV.w {P : PH} (h : MV P) : MVw P := fun k => ⟨(h k).1, (h k).2.1⟩
theorem MVw.next {P P1 : PH} {F : FS} (h : MVw P) (hf : FrM F P P1) (h49 : F.2.contains 49 = false) (hs : P1 0 74 = P 0 74 + 1) : MV P1 := by
  intro k
  have e := hf.2 49 rfl h49
  have h1 := h k
  rw [e, hs]
  exact ⟨h1.1, by omega, fun q => by omega⟩
end
section
/-! Contracts of the reference: m1. -/
set_option maxRecDepth 100000 in
set_option maxHeartbeats 4000000 in
theorem m_X12_is (G : GT) (P : PH) (a1 : Int) (a2 : Int) (a3 : Int) (h_a1 : (-2147483648) ≤ a1 ∧ a1 ≤ 2147483647) (h_a2 : (-2147483648) ≤ a2 ∧ a2 ≤ 2147483647) (h_a3 : (-2147483648) ≤ a3 ∧ a3 ≤ 2147483647) (hB : BdM P) (Q : Option PV → PH → Prop) (hQ : ∀ (r : Int) (_ : 0 ≤ r ∧ r ≤ 1) (_ : (r = 1 ∧ a2 ≤ a1 ∧ a1 ≤ a3) ∨ (r = 0 ∧ (a1 < a2 ∨ a3 < a1))), Q (some (vI r)) P) : Ct WSM G 1 iX12_is [vI a1, vI a2, vI a3] P Q := by
  refine Ct.of (by decide) (l0 := [(0, vI a1), (1, vI a2), (2, vI a3)]) rfl (Nat.le_of_ble_eq_true rfl) ?_
  refine g_iload_n dX12_is_0 rfl ?_
  refine g_iload_n dX12_is_1 rfl ?_
  refine g_icmp_lt (tgt := 14) dX12_is_2 (by decide) ⟨by omega, by omega⟩ ⟨by omega, by omega⟩ (fun k1 => ?_) (fun k1 => ?_)
  · refine g_iconst dX12_is_14 ?_
    exact g_retZ dX12_is_15 rfl (by decide) (hQ 0 (by decide) (by omega))
  · refine g_iload_n dX12_is_5 rfl ?_
    refine g_iload_n dX12_is_6 rfl ?_
    refine g_icmp_gt (tgt := 14) dX12_is_7 (by decide) ⟨by omega, by omega⟩ ⟨by omega, by omega⟩ (fun k2 => ?_) (fun k2 => ?_)
    · refine g_iconst dX12_is_14 ?_
      exact g_retZ dX12_is_15 rfl (by decide) (hQ 0 (by decide) (by omega))
    · refine g_iconst dX12_is_10 ?_
      refine g_goto (tgt := 15) dX12_is_11 (by decide) ?_
      exact g_retZ dX12_is_15 rfl (by decide) (hQ 1 (by decide) (by omega))
set_option maxRecDepth 100000 in
set_option maxHeartbeats 4000000 in
theorem m_X12_isLetter (G : GT) (P : PH) (a1 : Int) (h_a1 : (-2147483648) ≤ a1 ∧ a1 ≤ 2147483647) (hB : BdM P) (Q : Option PV → PH → Prop) (hQ : ∀ (r : Int) (_ : 0 ≤ r ∧ r ≤ 1) (_ : r = 1 ↔ 97 ≤ a1 ∧ a1 ≤ 122), Q (some (vI r)) P) : Ct WSM G 1 iX12_isLetter [vI a1] P Q := by
  refine Ct.of (by decide) (l0 := [(0, vI a1)]) rfl (Nat.le_of_ble_eq_true rfl) ?_
  refine g_iload_n dX12_isLetter_0 rfl ?_
  refine g_bipush dX12_isLetter_1 (by decide) ?_
  refine g_icmp_lt (tgt := 16) dX12_isLetter_3 (by decide) ⟨by omega, by omega⟩ (by decide) (fun k1 => ?_) (fun k1 => ?_)
  · refine g_iconst dX12_isLetter_16 ?_
    exact g_retZ dX12_isLetter_17 rfl (by decide) (hQ 0 (by decide) (by omega))
  · refine g_iload_n dX12_isLetter_6 rfl ?_
    refine g_bipush dX12_isLetter_7 (by decide) ?_
    refine g_icmp_gt (tgt := 16) dX12_isLetter_9 (by decide) ⟨by omega, by omega⟩ (by decide) (fun k2 => ?_) (fun k2 => ?_)
    · refine g_iconst dX12_isLetter_16 ?_
      exact g_retZ dX12_isLetter_17 rfl (by decide) (hQ 0 (by decide) (by omega))
    · refine g_iconst dX12_isLetter_12 ?_
      refine g_goto (tgt := 17) dX12_isLetter_13 (by decide) ?_
      exact g_retZ dX12_isLetter_17 rfl (by decide) (hQ 1 (by decide) (by omega))
set_option maxRecDepth 100000 in
set_option maxHeartbeats 4000000 in
theorem m_X12_isDigit (G : GT) (P : PH) (a1 : Int) (h_a1 : (-2147483648) ≤ a1 ∧ a1 ≤ 2147483647) (hB : BdM P) (Q : Option PV → PH → Prop) (hQ : ∀ (r : Int) (_ : 0 ≤ r ∧ r ≤ 1) (_ : r = 1 ↔ 48 ≤ a1 ∧ a1 ≤ 57), Q (some (vI r)) P) : Ct WSM G 1 iX12_isDigit [vI a1] P Q := by
  refine Ct.of (by decide) (l0 := [(0, vI a1)]) rfl (Nat.le_of_ble_eq_true rfl) ?_
  refine g_iload_n dX12_isDigit_0 rfl ?_
  refine g_bipush dX12_isDigit_1 (by decide) ?_
  refine g_icmp_lt (tgt := 16) dX12_isDigit_3 (by decide) ⟨by omega, by omega⟩ (by decide) (fun k1 => ?_) (fun k1 => ?_)
  · refine g_iconst dX12_isDigit_16 ?_
    exact g_retZ dX12_isDigit_17 rfl (by decide) (hQ 0 (by decide) (by omega))
  · refine g_iload_n dX12_isDigit_6 rfl ?_
    refine g_bipush dX12_isDigit_7 (by decide) ?_
    refine g_icmp_gt (tgt := 16) dX12_isDigit_9 (by decide) ⟨by omega, by omega⟩ (by decide) (fun k2 => ?_) (fun k2 => ?_)
    · refine g_iconst dX12_isDigit_16 ?_
      exact g_retZ dX12_isDigit_17 rfl (by decide) (hQ 0 (by decide) (by omega))
    · refine g_iconst dX12_isDigit_12 ?_
      refine g_goto (tgt := 17) dX12_isDigit_13 (by decide) ?_
      exact g_retZ dX12_isDigit_17 rfl (by decide) (hQ 1 (by decide) (by omega))
set_option maxRecDepth 100000 in
set_option maxHeartbeats 4000000 in
theorem m_X12_columns (G : GT) (P : PH) (hB : BdM P) (Q : Option PV → PH → Prop) (hQ : ∀ (r : Int) (_ : 0 ≤ r ∧ r ≤ 4) (_ : r = P 11 (P 0 13)), Q (some (vI r)) P) : Ct WSM G 1 iX12_columns [vR 0] P Q := by
  refine Ct.of (by decide) (l0 := [(0, vR 0)]) rfl (Nat.le_of_ble_eq_true rfl) ?_
  refine g_aload_n dX12_columns_0 rfl ?_
  refine m_g23 rfl dX12_columns_1 ?_
  refine g_aload_n dX12_columns_4 rfl ?_
  refine m_g13 (z := (P 0 13)) rfl dX12_columns_5 rfl ?_
  refine m_l11 (z := (P 11 (P 0 13))) dX12_columns_8 ⟨by have q0 := b0_13 hB; omega, by have q0 := b0_13 hB; omega⟩ rfl ?_
  exact g_retI dX12_columns_9 rfl (hQ (P 11 (P 0 13)) ⟨by have q0 := bl_11 (k := (P 0 13)) hB; omega, by have q0 := bl_11 (k := (P 0 13)) hB; omega⟩ (by have q0 := bl_11 (k := (P 0 13)) hB; omega))
set_option maxRecDepth 100000 in
set_option maxHeartbeats 4000000 in
theorem m_X12_valuesOf (G : GT) (P : PH) (a1 : Int) (a2 : Int) (h_a1 : 0 ≤ a1 ∧ a1 ≤ 1) (h_a2 : 0 ≤ a2 ∧ a2 ≤ 4) (hB : BdM P) (Q : Option PV → PH → Prop) (hQ : ∀ (r : Int) (_ : 0 ≤ r ∧ r ≤ 2006) (_ : (a2 = 4 ∧ r = 20) ∨ (a2 < 4 ∧ r = P 3 ((4 * a1) + a2))), Q (some (vI r)) P) : Ct WSM G 1 iX12_valuesOf [vR 0, vI a1, vI a2] P Q := by
  refine Ct.of (by decide) (l0 := [(0, vR 0), (1, vI a1), (2, vI a2)]) rfl (Nat.le_of_ble_eq_true rfl) ?_
  refine g_iload_n dX12_valuesOf_0 rfl ?_
  refine g_iconst dX12_valuesOf_1 ?_
  refine g_icmp_ne (tgt := 10) dX12_valuesOf_2 (by decide) ⟨by omega, by omega⟩ (by decide) (fun k1 => ?_) (fun k1 => ?_)
  · refine g_aload_n dX12_valuesOf_10 rfl ?_
    refine m_g15 rfl dX12_valuesOf_11 ?_
    refine g_iconst dX12_valuesOf_14 ?_
    refine g_iload_n dX12_valuesOf_15 rfl ?_
    refine g_imul dX12_valuesOf_16 ?_
    refine g_iload_n dX12_valuesOf_17 rfl ?_
    refine g_iadd dX12_valuesOf_18 ?_
    refine m_l3 (z := (P 3 ((4 * a1) + a2))) dX12_valuesOf_19 ⟨by omega, by omega⟩ rfl ?_
    exact g_retI dX12_valuesOf_20 rfl (hQ (P 3 ((4 * a1) + a2)) ⟨by have q0 := bl_3 (k := ((4 * a1) + a2)) hB; omega, by have q0 := bl_3 (k := ((4 * a1) + a2)) hB; omega⟩ (by have q0 := bl_3 (k := ((4 * a1) + a2)) hB; omega))
  · refine g_bipush dX12_valuesOf_5 (by decide) ?_
    refine g_goto (tgt := 20) dX12_valuesOf_7 (by decide) ?_
    exact g_retI dX12_valuesOf_20 rfl (hQ 20 (by decide) (by omega))
set_option maxRecDepth 100000 in
set_option maxHeartbeats 4000000 in
theorem m_X12_refuses (G : GT) (P : PH) (a1 : Int) (h_a1 : 0 ≤ a1 ∧ a1 ≤ 5) (hB : BdM P) (Q : Option PV → PH → Prop) (hQ : ∀ (r : Int) (_ : (-1) ≤ r ∧ r ≤ (-1)) (P1 : PH) (_ : BdM P1) (_ : FrM ([], [28]) P P1), Q (some (vI r)) P1) : Ct WSM G 1 iX12_refuses [vR 0, vI a1] P Q := by
  refine Ct.of (by decide) (l0 := [(0, vR 0), (1, vI a1)]) rfl (Nat.le_of_ble_eq_true rfl) ?_
  refine g_aload_n dX12_refuses_0 rfl ?_
  refine m_g45 rfl dX12_refuses_1 ?_
  refine g_iload_n dX12_refuses_4 rfl ?_
  refine g_dup2 dX12_refuses_5 rfl rfl ?_
  refine m_l28 (z := (P 28 a1)) dX12_refuses_6 ⟨by omega, by omega⟩ rfl ?_
  refine g_iconst dX12_refuses_7 ?_
  refine g_iadd dX12_refuses_8 ?_
  refine g_norm (fun r1 h_r1 e_r1 => ?_)
  refine m_s28 dX12_refuses_9 ⟨by omega, by omega⟩ ?_
  have hB2 := ba_28 (z := r1) (k := a1) hB ⟨by omega, by omega⟩
  refine g_iconst dX12_refuses_10 ?_
  exact g_retI dX12_refuses_11 rfl (hQ (-1) (by decide) _ hB2 (FrM.a FrM.rf rfl rfl) )
set_option maxRecDepth 100000 in
set_option maxHeartbeats 4000000 in
theorem m_X12_status (G : GT) (P : PH) (a1 : Int) (h_a1 : (-2147483648) ≤ a1 ∧ a1 ≤ 2147483647) (hB : BdM P) (Q : Option PV → PH → Prop) (hQ : ∀ (r : Int) (_ : (-2147483648) ≤ r ∧ r ≤ 2147483647), Q (some (vI r)) P) : Ct WSM G 2 iX12_status [vR 0, vI a1] P Q := by
  refine Ct.of (by decide) (l0 := [(0, vR 0), (1, vI a1)]) rfl (Nat.le_of_ble_eq_true rfl) ?_
  refine g_iload_n dX12_status_0 rfl ?_
  refine g_iconst dX12_status_1 ?_
  refine g_iconst dX12_status_2 ?_
  refine g_sI (av := [vI a1, vI 0, vI 5]) (st := []) (m_X12_is G P a1 0 5 ⟨by omega, by omega⟩ (by decide) (by decide) hB  _ (fun rc1 hc1 gc1_is => ⟨rc1, rfl, ?_⟩)) cf_X12_is t_1800 rfl (Nat.le_of_ble_eq_true rfl) (by decide) rfl dX12_status_3
  refine g_if_eq (tgt := 18) dX12_status_6 (by decide) ⟨by omega, by omega⟩ (fun k2 => ?_) (fun k2 => ?_)
  · refine g_iconst dX12_status_18 ?_
    exact g_retI dX12_status_19 rfl (hQ (-1) (by decide) )
  · refine g_aload_n dX12_status_9 rfl ?_
    refine m_g45 rfl dX12_status_10 ?_
    refine g_iload_n dX12_status_13 rfl ?_
    refine m_l28 (z := (P 28 a1)) dX12_status_14 ⟨by omega, by omega⟩ rfl ?_
    refine g_goto (tgt := 19) dX12_status_15 (by decide) ?_
    exact g_retI dX12_status_19 rfl (hQ (P 28 a1) ⟨by have q0 := bl_28 (k := a1) hB; omega, by have q0 := bl_28 (k := a1) hB; omega⟩ )
end
end
section
/-! Contracts of the reference: m3. -/
set_option maxRecDepth 100000 in
set_option maxHeartbeats 4000000 in
theorem m_X12_lowest (G : GT) (P : PH) (a1 : Int) (h_a1 : 0 ≤ a1 ∧ a1 ≤ 4095) (hB : BdM P) (Q : Option PV → PH → Prop) (hQ : ∀ (r : Int) (_ : (-1) ≤ r ∧ r ≤ 11) (_ : (a1 = 0 ∧ r = -1) ∨ (a1 ≠ 0 ∧ 0 ≤ r)) (_ : r = -1 ∨ iand (ishr a1 r) 1 = 1), Q (some (vI r)) P) : Ct WSM G 1 iX12_lowest [vI a1] P Q := by
  refine Ct.of (by decide) (l0 := [(0, vI a1)]) rfl (Nat.le_of_ble_eq_true rfl) ?_
  refine g_iload_n dX12_lowest_0 rfl ?_
  refine g_if_ne (tgt := 6) dX12_lowest_1 (by decide) ⟨by omega, by omega⟩ (fun k1 => ?_) (fun k1 => ?_)
  · refine g_iconst dX12_lowest_6 ?_
    refine g_istore_n (l1 := [(1, vI 0), (0, vI a1)]) dX12_lowest_7 (by decide) rfl ?_
    have L8_1 : ∀ (n8_1 : Nat) (x8_1_1 : Int) (h_x8_1_1 : 0 ≤ x8_1_1 ∧ x8_1_1 ≤ 11) (i8_0_1 : ∀ q : Nat, (q : Int) < x8_1_1 → iand (ishr a1 (q : Int)) 1 = 0) (hm8_1 : ((12 - x8_1_1) : Int).toNat < n8_1), Go WSM G 1 iX12_lowest 8 [(0, vI a1), (1, vI x8_1_1)] [] P Q := by
      intro n8_1
      induction n8_1 with
      | zero => intro x8_1_1 h_x8_1_1 i8_0_1 hm8_1; exact absurd hm8_1 (Nat.not_lt_zero _)
      | succ n8_1 ih8_1 =>
      intro x8_1_1 h_x8_1_1 i8_0_1 hm8_1
      refine g_iload_n dX12_lowest_8 rfl ?_
      refine g_iload_n dX12_lowest_9 rfl ?_
      refine g_ishr dX12_lowest_10 ?_
      refine g_nm (fun b15 e_b15 => ?_)
      have h_b15 := ishr_ir a1 x8_1_1
      rw [← e_b15] at h_b15
      refine g_iconst dX12_lowest_11 ?_
      refine g_iand dX12_lowest_12 ?_
      refine g_nm (fun b16 e_b16 => ?_)
      have h_b16 := iand_r (x := b15) (y := 1) ⟨by omega, by omega⟩
      rw [← e_b16] at h_b16
      have hz := e_b16
      rw [e_b15] at hz
      have hne : b16 = 0 → x8_1_1 ≤ 10 := fun h0 => by
        rcases (show x8_1_1 < 11 ∨ 11 ≤ x8_1_1 by omega) with h | h
        · omega
        · exfalso
          have := low12' (x := a1) ⟨by omega, by omega⟩ (fun q hq => by
            rcases (show (q : Int) < x8_1_1 ∨ (q : Int) = x8_1_1 by omega) with h9 | h9
            · exact i8_0_1 q h9
            · rw [h9, ← hz]; exact h0)
          omega
      have hstep : b16 = 0 → ∀ q : Nat, (q : Int) < (x8_1_1 + 1) → iand (ishr a1 (q : Int)) 1 = 0 := fun h0 q hq => by
        rcases (show (q : Int) < x8_1_1 ∨ (q : Int) = x8_1_1 by omega) with h9 | h9
        · exact i8_0_1 q h9
        · rw [h9, ← hz]; exact h0
      refine g_if_ne (tgt := 22) dX12_lowest_13 (by decide) ⟨by omega, by omega⟩ (fun k17 => ?_) (fun k17 => ?_)
      · refine g_iload_n dX12_lowest_22 rfl ?_
        exact g_retI dX12_lowest_23 rfl (hQ x8_1_1 ⟨by omega, by omega⟩ (by omega) (Or.inr (by omega)))
      · refine g_iinc (l1 := [(1, vI (x8_1_1 + 1)), (0, vI a1)]) dX12_lowest_16 rfl (by decide) rfl ?_
        refine g_goto (tgt := 8) dX12_lowest_19 (by decide) ?_
        refine g_forget (l1 := [(0, vI a1), (1, vI (x8_1_1 + 1))]) (by intro q hq; simp only [List.mem_cons, List.not_mem_nil, or_false] at hq ⊢; rcases hq with rfl | rfl <;> simp) ?_
        exact ih8_1 (x8_1_1 + 1) ⟨by omega, by omega⟩ (by first | (intro q hq; exfalso; omega) | exact hstep (by assumption)) (by omega)
    refine g_forget (l1 := [(0, vI a1), (1, vI 0)]) (by intro q hq; simp only [List.mem_cons, List.not_mem_nil, or_false] at hq ⊢; rcases hq with rfl | rfl <;> simp) ?_
    exact L8_1 _ 0 (by decide) (by first | (intro q hq; exfalso; omega) | exact hstep (by assumption)) (Nat.lt_succ_self _)
  · refine g_iconst dX12_lowest_4 ?_
    exact g_retI dX12_lowest_5 rfl (hQ (-1) (by decide) (by omega) (Or.inl rfl))
set_option maxRecDepth 100000 in
set_option maxHeartbeats 4000000 in
theorem m_X12_bitsOf (G : GT) (P : PH) (a1 : Int) (h_a1 : (-2147483648) ≤ a1 ∧ a1 ≤ 2147483647) (hB : BdM P) (Q : Option PV → PH → Prop) (hQ : ∀ (r : Int) (_ : (-2147483648) ≤ r ∧ r ≤ 2147483647), Q (some (vI r)) P) : Ct WSM G 1 iX12_bitsOf [vI a1] P Q := by
  refine Ct.of (by decide) (l0 := [(0, vI a1)]) rfl (Nat.le_of_ble_eq_true rfl) ?_
  refine g_iconst dX12_bitsOf_0 ?_
  refine g_istore_n (l1 := [(1, vI 0), (0, vI a1)]) dX12_bitsOf_1 (by decide) rfl ?_
  refine g_iload_n dX12_bitsOf_2 rfl ?_
  refine g_istore_n (l1 := [(2, vI a1), (1, vI 0), (0, vI a1)]) dX12_bitsOf_3 (by decide) rfl ?_
  have L4_0 : ∀ (n4_0 : Nat) (x4_2_0 : Int) (h_x4_2_0 : (-2147483648) ≤ x4_2_0 ∧ x4_2_0 ≤ 2147483647) (x4_1_0 : Int) (h_x4_1_0 : (-2147483648) ≤ x4_1_0 ∧ x4_1_0 ≤ 2147483647) (hm4_0 : (x4_2_0 : Int).toNat < n4_0), Go WSM G 1 iX12_bitsOf 4 [(1, vI x4_1_0), (2, vI x4_2_0)] [] P Q := by
    intro n4_0
    induction n4_0 with
    | zero => intro x4_2_0 h_x4_2_0 x4_1_0 h_x4_1_0 hm4_0; exact absurd hm4_0 (Nat.not_lt_zero _)
    | succ n4_0 ih4_0 =>
    intro x4_2_0 h_x4_2_0 x4_1_0 h_x4_1_0 hm4_0
    refine g_iload_n dX12_bitsOf_4 rfl ?_
    refine g_if_le (tgt := 21) dX12_bitsOf_5 (by decide) ⟨by omega, by omega⟩ (fun k75 => ?_) (fun k75 => ?_)
    · refine g_iload_n dX12_bitsOf_21 rfl ?_
      exact g_retI dX12_bitsOf_22 rfl (hQ x4_1_0 ⟨by omega, by omega⟩ )
    · refine g_iload_n dX12_bitsOf_8 rfl ?_
      refine g_iload_n dX12_bitsOf_9 rfl ?_
      refine g_iconst dX12_bitsOf_10 ?_
      refine g_iand dX12_bitsOf_11 ?_
      refine g_nm (fun b76 e_b76 => ?_)
      have h_b76 := iand_r (x := x4_2_0) (y := 1) ⟨by omega, by omega⟩
      rw [← e_b76] at h_b76
      refine g_iadd dX12_bitsOf_12 ?_
      refine g_norm (fun r77 h_r77 e_r77 => ?_)
      refine g_istore_n (l1 := [(1, vI r77), (2, vI x4_2_0)]) dX12_bitsOf_13 (by decide) rfl ?_
      refine g_iload_n dX12_bitsOf_14 rfl ?_
      refine g_iconst dX12_bitsOf_15 ?_
      refine g_ishr dX12_bitsOf_16 ?_
      refine g_nm (fun b78 e_b78 => ?_)
      have h_b78 : (ishr x4_2_0 1) = x4_2_0 / 2 := ishr_c 1 (by decide) (x := x4_2_0) ⟨by omega, by omega⟩
      rw [← e_b78] at h_b78
      refine g_istore_n (l1 := [(2, vI b78), (1, vI r77)]) dX12_bitsOf_17 (by decide) rfl ?_
      refine g_goto (tgt := 4) dX12_bitsOf_18 (by decide) ?_
      refine g_forget (l1 := [(1, vI r77), (2, vI b78)]) (by intro q hq; simp only [List.mem_cons, List.not_mem_nil, or_false] at hq ⊢; rcases hq with rfl | rfl <;> simp) ?_
      exact ih4_0 b78 ⟨by omega, by omega⟩ r77 ⟨by omega, by omega⟩ (by omega)
  refine g_forget (l1 := [(1, vI 0), (2, vI a1)]) (by intro q hq; simp only [List.mem_cons, List.not_mem_nil, or_false] at hq ⊢; rcases hq with rfl | rfl <;> simp) ?_
  exact L4_0 _ a1 ⟨by omega, by omega⟩ 0 (by decide) (Nat.lt_succ_self _)
set_option maxRecDepth 100000 in
set_option maxHeartbeats 4000000 in
theorem m_X12_lettersOf (G : GT) (P : PH) (a1 : Int) (h_a1 : (-9223372036854775808) ≤ a1 ∧ a1 ≤ 9223372036854775807) (hB : BdM P) (Q : Option PV → PH → Prop) (hQ : ∀ (r : Int) (_ : 0 ≤ r ∧ r ≤ 8), Q (some (vI r)) P) : Ct WSM G 1 iX12_lettersOf [vL a1] P Q := by
  refine Ct.of (by decide) (l0 := [(0, vL a1)]) rfl (Nat.le_of_ble_eq_true rfl) ?_
  refine g_iconst dX12_lettersOf_0 ?_
  refine g_istore_n (l1 := [(2, vI 0), (0, vL a1)]) dX12_lettersOf_1 (by decide) rfl ?_
  refine g_lload_n dX12_lettersOf_2 rfl ?_
  refine g_lstore_n (l1 := [(3, vL a1), (2, vI 0), (0, vL a1)]) dX12_lettersOf_3 (by decide) rfl ?_
  have L4_0 : ∀ (n4_0 : Nat) (x4_3_0 : Int) (h_x4_3_0 : (-9223372036854775808) ≤ x4_3_0 ∧ x4_3_0 ≤ 9223372036854775807) (x4_2_0 : Int) (h_x4_2_0 : 0 ≤ x4_2_0 ∧ x4_2_0 ≤ 8) (i4_0_0 : (x4_2_0 = 0 ∧ x4_3_0 < 9223372036854775808) ∨ (x4_2_0 = 1 ∧ x4_3_0 < 36028797018963968) ∨ (x4_2_0 = 2 ∧ x4_3_0 < 140737488355328) ∨ (x4_2_0 = 3 ∧ x4_3_0 < 549755813888) ∨ (x4_2_0 = 4 ∧ x4_3_0 < 2147483648) ∨ (x4_2_0 = 5 ∧ x4_3_0 < 8388608) ∨ (x4_2_0 = 6 ∧ x4_3_0 < 32768) ∨ (x4_2_0 = 7 ∧ x4_3_0 < 128) ∨ (x4_2_0 = 8 ∧ x4_3_0 ≤ 0) ∨ (x4_2_0 = 0 ∧ x4_3_0 ≤ 0)) (hm4_0 : (x4_3_0 : Int).toNat < n4_0), Go WSM G 1 iX12_lettersOf 4 [(2, vI x4_2_0), (3, vL x4_3_0)] [] P Q := by
    intro n4_0
    induction n4_0 with
    | zero => intro x4_3_0 h_x4_3_0 x4_2_0 h_x4_2_0 i4_0_0 hm4_0; exact absurd hm4_0 (Nat.not_lt_zero _)
    | succ n4_0 ih4_0 =>
    intro x4_3_0 h_x4_3_0 x4_2_0 h_x4_2_0 i4_0_0 hm4_0
    refine g_lload_n dX12_lettersOf_4 rfl ?_
    refine g_lconst (z := 0) dX12_lettersOf_5 (by decide) ?_
    refine g_lcmp dX12_lettersOf_6 ⟨by omega, by omega⟩ (by decide) ?_
    refine g_nm (fun b14 e_b14 => ?_)
    have h_b14 := lcmpv_b x4_3_0 0
    have h0_b14 := lcmpv_0 (x := x4_3_0) (y := 0)
    have h1_b14 := lcmpv_lt (x := x4_3_0) (y := 0)
    have h2_b14 := lcmpv_gt (x := x4_3_0) (y := 0)
    rw [← e_b14] at h_b14 h0_b14 h1_b14 h2_b14
    refine g_if_le (tgt := 21) dX12_lettersOf_7 (by decide) ⟨by omega, by omega⟩ (fun k15 => ?_) (fun k15 => ?_)
    · refine g_iload_n dX12_lettersOf_21 rfl ?_
      exact g_retI dX12_lettersOf_22 rfl (hQ x4_2_0 ⟨by omega, by omega⟩ )
    · refine g_iinc (l1 := [(2, vI (x4_2_0 + 1)), (3, vL x4_3_0)]) dX12_lettersOf_10 rfl (by decide) rfl ?_
      refine g_lload_n dX12_lettersOf_13 rfl ?_
      refine g_bipush dX12_lettersOf_14 (by decide) ?_
      refine g_lshr dX12_lettersOf_16 ?_
      refine g_nm (fun b16 e_b16 => ?_)
      have h_b16 : (llshr x4_3_0 8) = x4_3_0 / 256 := llshr_c 8 (by decide) (x := x4_3_0) ⟨by omega, by omega⟩
      rw [← e_b16] at h_b16
      refine g_lstore_n (l1 := [(3, vL b16), (2, vI (x4_2_0 + 1))]) dX12_lettersOf_17 (by decide) rfl ?_
      refine g_goto (tgt := 4) dX12_lettersOf_18 (by decide) ?_
      refine g_forget (l1 := [(2, vI (x4_2_0 + 1)), (3, vL b16)]) (by intro q hq; simp only [List.mem_cons, List.not_mem_nil, or_false] at hq ⊢; rcases hq with rfl | rfl <;> simp) ?_
      exact ih4_0 b16 ⟨by omega, by omega⟩ (x4_2_0 + 1) ⟨by omega, by omega⟩ (by omega) (by omega)
  refine g_forget (l1 := [(2, vI 0), (3, vL a1)]) (by intro q hq; simp only [List.mem_cons, List.not_mem_nil, or_false] at hq ⊢; rcases hq with rfl | rfl <;> simp) ?_
  exact L4_0 _ a1 ⟨by omega, by omega⟩ 0 (by decide) (by omega) (Nat.lt_succ_self _)
set_option maxRecDepth 100000 in
set_option maxHeartbeats 4000000 in
theorem m_X12_columnValues (G : GT) (P : PH) (a1 : Int) (h_a1 : 0 ≤ a1 ∧ a1 ≤ 3) (hB : BdM P) (p_c : a1 < P 11 (P 0 13)) (v_okC : okC P) (Q : Option PV → PH → Prop) (hQ : ∀ (r : Int) (_ : 1 ≤ r ∧ r ≤ 2006) (_ : r = vals P (P 0 13) (P 12 (4 * P 0 13 + a1))), Q (some (vI r)) P) : Ct WSM G 2 iX12_columnValues [vR 0, vI a1] P Q := by
  refine Ct.of (by decide) (l0 := [(0, vR 0), (1, vI a1)]) rfl (Nat.le_of_ble_eq_true rfl) ?_
  refine g_aload_n dX12_columnValues_0 rfl ?_
  refine g_aload_n dX12_columnValues_1 rfl ?_
  refine m_g13 (z := (P 0 13)) rfl dX12_columnValues_2 rfl ?_
  refine g_aload_n dX12_columnValues_5 rfl ?_
  refine m_g24 rfl dX12_columnValues_6 ?_
  refine g_iconst dX12_columnValues_9 ?_
  refine g_aload_n dX12_columnValues_10 rfl ?_
  refine m_g13 (z := (P 0 13)) rfl dX12_columnValues_11 rfl ?_
  refine g_imul dX12_columnValues_14 ?_
  refine g_iload_n dX12_columnValues_15 rfl ?_
  refine g_iadd dX12_columnValues_16 ?_
  refine m_l12 (z := (P 12 ((4 * (P 0 13)) + a1))) dX12_columnValues_17 ⟨by have q0 := b0_13 hB; omega, by have q0 := b0_13 hB; omega⟩ rfl ?_
  have f1 := b0_13 hB
  have f2 := bl_12 (k := ((4 * (P 0 13)) + a1)) hB
  refine g_vI (av := [vI (P 0 13), vI (P 12 ((4 * (P 0 13)) + a1))]) (o := 0) (st := []) (m_X12_valuesOf G P (P 0 13) (P 12 ((4 * (P 0 13)) + a1)) ⟨by have q0 := b0_13 hB; omega, by have q0 := b0_13 hB; omega⟩ ⟨by have q0 := bl_12 (k := ((4 * (P 0 13)) + a1)) hB; omega, by have q0 := bl_12 (k := ((4 * (P 0 13)) + a1)) hB; omega⟩ hB  _ (fun rc3 hc3 gc3_v => ⟨rc3, rfl, ?_⟩)) cf_X12_valuesOf t_1756 rfl (by decide) rfl rfl rfl (Nat.le_of_ble_eq_true rfl) (by decide) rfl dX12_columnValues_18
  have ho := v_okC a1 (by omega) (by omega)
  exact g_retI dX12_columnValues_21 rfl (hQ rc3 ⟨by omega, by omega⟩ (vals_of gc3_v))
set_option maxRecDepth 100000 in
set_option maxHeartbeats 4000000 in
theorem m_X12_setIn (G : GT) (P : PH) (a1 : Int) (a2 : Int) (h_a1 : 0 ≤ a1 ∧ a1 ≤ 3) (h_a2 : 0 ≤ a2 ∧ a2 ≤ 2009) (hB : BdM P) (Q : Option PV → PH → Prop) (hQ : ∀ (r : Int) (_ : 0 ≤ r ∧ r ≤ 4095), Q (some (vI r)) P) : Ct WSM G 1 iX12_setIn [vR 0, vI a1, vI a2] P Q := by
  refine Ct.of (by decide) (l0 := [(0, vR 0), (1, vI a1), (2, vI a2)]) rfl (Nat.le_of_ble_eq_true rfl) ?_
  refine g_aload_n dX12_setIn_0 rfl ?_
  refine m_g63 rfl dX12_setIn_1 ?_
  refine g_sipush dX12_setIn_4 (by decide) ?_
  refine g_iload_n dX12_setIn_7 rfl ?_
  refine g_imul dX12_setIn_8 ?_
  refine g_aload_n dX12_setIn_9 rfl ?_
  refine m_g48 rfl dX12_setIn_10 ?_
  refine g_sipush dX12_setIn_13 (by decide) ?_
  refine g_iload_n dX12_setIn_16 rfl ?_
  refine g_imul dX12_setIn_17 ?_
  refine g_iload_n dX12_setIn_18 rfl ?_
  refine g_iadd dX12_setIn_19 ?_
  refine m_l31 (z := (P 31 ((2010 * a1) + a2))) dX12_setIn_20 ⟨by omega, by omega⟩ rfl ?_
  refine g_iadd dX12_setIn_21 ?_
  refine m_l41 (z := (P 41 ((2010 * a1) + (P 31 ((2010 * a1) + a2))))) dX12_setIn_22 ⟨by have q0 := bl_31 (k := ((2010 * a1) + a2)) hB; omega, by have q0 := bl_31 (k := ((2010 * a1) + a2)) hB; omega⟩ rfl ?_
  exact g_retI dX12_setIn_23 rfl (hQ (P 41 ((2010 * a1) + (P 31 ((2010 * a1) + a2)))) ⟨by have q0 := bl_41 (k := ((2010 * a1) + (P 31 ((2010 * a1) + a2)))) hB; omega, by have q0 := bl_41 (k := ((2010 * a1) + (P 31 ((2010 * a1) + a2)))) hB; omega⟩ )
set_option maxRecDepth 100000 in
set_option maxHeartbeats 4000000 in
theorem m_X12_isPlace (G : GT) (P : PH) (a1 : Int) (h_a1 : (-2147483648) ≤ a1 ∧ a1 ≤ 2147483647) (hB : BdM P) (Q : Option PV → PH → Prop) (hQ : ∀ (r : Int) (_ : 0 ≤ r ∧ r ≤ 1) (_ : r = 0 ∨ (P 0 44 ≠ 0 ∧ 0 ≤ a1 ∧ a1 < P 35 0)), Q (some (vI r)) P) : Ct WSM G 2 iX12_isPlace [vR 0, vI a1] P Q := by
  refine Ct.of (by decide) (l0 := [(0, vR 0), (1, vI a1)]) rfl (Nat.le_of_ble_eq_true rfl) ?_
  refine g_aload_n dX12_isPlace_0 rfl ?_
  refine m_g44 (z := (P 0 44)) rfl dX12_isPlace_1 rfl ?_
  have f1 := b0_44 hB
  refine g_if_eq (tgt := 27) dX12_isPlace_4 (by decide) ⟨by have q0 := b0_44 hB; omega, by have q0 := b0_44 hB; omega⟩ (fun k2 => ?_) (fun k2 => ?_)
  · refine g_iconst dX12_isPlace_27 ?_
    exact g_retZ dX12_isPlace_28 rfl (by decide) (hQ 0 (by decide) (by have q0 := b0_44 hB; have q1 := bl_35 (k := 0) hB; omega))
  · refine g_iload_n dX12_isPlace_7 rfl ?_
    refine g_iconst dX12_isPlace_8 ?_
    refine g_aload_n dX12_isPlace_9 rfl ?_
    refine m_g53 rfl dX12_isPlace_10 ?_
    refine g_iconst dX12_isPlace_13 ?_
    refine m_l35 (z := (P 35 0)) dX12_isPlace_14 (by decide) rfl ?_
    refine g_iconst dX12_isPlace_15 ?_
    refine g_isub dX12_isPlace_16 ?_
    have f3 := bl_35 (k := 0) hB
    refine g_sI (av := [vI a1, vI 0, vI ((P 35 0) - 1)]) (st := []) (m_X12_is G P a1 0 ((P 35 0) - 1) ⟨by omega, by omega⟩ (by decide) ⟨by have q0 := bl_35 (k := 0) hB; omega, by have q0 := bl_35 (k := 0) hB; omega⟩ hB  _ (fun rc4 hc4 gc4_is => ⟨rc4, rfl, ?_⟩)) cf_X12_is t_1800 rfl (Nat.le_of_ble_eq_true rfl) (by decide) rfl dX12_isPlace_17
    refine g_if_eq (tgt := 27) dX12_isPlace_20 (by decide) ⟨by omega, by omega⟩ (fun k5 => ?_) (fun k5 => ?_)
    · refine g_iconst dX12_isPlace_27 ?_
      exact g_retZ dX12_isPlace_28 rfl (by decide) (hQ 0 (by decide) (by have q0 := b0_44 hB; have q1 := bl_35 (k := 0) hB; omega))
    · refine g_iconst dX12_isPlace_23 ?_
      refine g_goto (tgt := 28) dX12_isPlace_24 (by decide) ?_
      exact g_retZ dX12_isPlace_28 rfl (by decide) (hQ 1 (by decide) (by have q0 := b0_44 hB; have q1 := bl_35 (k := 0) hB; omega))
set_option maxRecDepth 100000 in
set_option maxHeartbeats 4000000 in
theorem m_X12_isRow (G : GT) (P : PH) (a1 : Int) (h_a1 : (-2147483648) ≤ a1 ∧ a1 ≤ 2147483647) (hB : BdM P) (Q : Option PV → PH → Prop) (hQ : ∀ (r : Int) (_ : 0 ≤ r ∧ r ≤ 1) (_ : r = 0 ∨ (P 0 44 ≠ 0 ∧ 0 ≤ a1 ∧ a1 < P 0 52)), Q (some (vI r)) P) : Ct WSM G 2 iX12_isRow [vR 0, vI a1] P Q := by
  refine Ct.of (by decide) (l0 := [(0, vR 0), (1, vI a1)]) rfl (Nat.le_of_ble_eq_true rfl) ?_
  refine g_aload_n dX12_isRow_0 rfl ?_
  refine m_g44 (z := (P 0 44)) rfl dX12_isRow_1 rfl ?_
  have f1 := b0_44 hB
  refine g_if_eq (tgt := 25) dX12_isRow_4 (by decide) ⟨by have q0 := b0_44 hB; omega, by have q0 := b0_44 hB; omega⟩ (fun k2 => ?_) (fun k2 => ?_)
  · refine g_iconst dX12_isRow_25 ?_
    exact g_retZ dX12_isRow_26 rfl (by decide) (hQ 0 (by decide) (by have q0 := b0_44 hB; have q1 := b0_52 hB; omega))
  · refine g_iload_n dX12_isRow_7 rfl ?_
    refine g_iconst dX12_isRow_8 ?_
    refine g_aload_n dX12_isRow_9 rfl ?_
    refine m_g52 (z := (P 0 52)) rfl dX12_isRow_10 rfl ?_
    refine g_iconst dX12_isRow_13 ?_
    refine g_isub dX12_isRow_14 ?_
    have f3 := b0_52 hB
    refine g_sI (av := [vI a1, vI 0, vI ((P 0 52) - 1)]) (st := []) (m_X12_is G P a1 0 ((P 0 52) - 1) ⟨by omega, by omega⟩ (by decide) ⟨by have q0 := b0_52 hB; omega, by have q0 := b0_52 hB; omega⟩ hB  _ (fun rc4 hc4 gc4_is => ⟨rc4, rfl, ?_⟩)) cf_X12_is t_1800 rfl (Nat.le_of_ble_eq_true rfl) (by decide) rfl dX12_isRow_15
    refine g_if_eq (tgt := 25) dX12_isRow_18 (by decide) ⟨by omega, by omega⟩ (fun k5 => ?_) (fun k5 => ?_)
    · refine g_iconst dX12_isRow_25 ?_
      exact g_retZ dX12_isRow_26 rfl (by decide) (hQ 0 (by decide) (by have q0 := b0_44 hB; have q1 := b0_52 hB; omega))
    · refine g_iconst dX12_isRow_21 ?_
      refine g_goto (tgt := 26) dX12_isRow_22 (by decide) ?_
      exact g_retZ dX12_isRow_26 rfl (by decide) (hQ 1 (by decide) (by have q0 := b0_44 hB; have q1 := b0_52 hB; omega))
set_option maxRecDepth 100000 in
set_option maxHeartbeats 4000000 in
theorem m_X12_opensPattern (G : GT) (P : PH) (a1 : Int) (h_a1 : 0 ≤ a1 ∧ a1 ≤ 4) (hB : BdM P) (p_o : P 0 43 ≤ 8) (Q : Option PV → PH → Prop) (hQ : ∀ (P1 : PH) (_ : BdM P1) (_ : FrM ([43], [24, 25]) P P1) (_ : P1 0 43 = P 0 43 + 1) (_ : P1 24 (P 0 43 + 1) = a1) (_ : P1 25 (P 0 43 + 1) = 0) (_ : ∀ j : Int, j ≠ P 0 43 + 1 → P1 24 j = P 24 j) (_ : ∀ j : Int, j ≠ P 0 43 + 1 → P1 25 j = P 25 j), Q none P1) : Ct WSM G 1 iX12_opensPattern [vR 0, vI a1] P Q := by
  refine Ct.of (by decide) (l0 := [(0, vR 0), (1, vI a1)]) rfl (Nat.le_of_ble_eq_true rfl) ?_
  refine g_aload_n dX12_opensPattern_0 rfl ?_
  refine g_dup dX12_opensPattern_1 rfl ?_
  refine m_g43 (z := (P 0 43)) rfl dX12_opensPattern_2 rfl ?_
  refine g_iconst dX12_opensPattern_5 ?_
  refine g_iadd dX12_opensPattern_6 ?_
  refine m_p43 rfl dX12_opensPattern_7 ?_
  have hB1 := bs_43 (z := ((P 0 43) + 1)) hB ⟨by have q0 := b0_43 hB; omega, by have q0 := b0_43 hB; omega⟩
  refine g_aload_n dX12_opensPattern_10 rfl ?_
  refine m_g39 rfl dX12_opensPattern_11 ?_
  refine g_aload_n dX12_opensPattern_14 rfl ?_
  refine m_g43 (z := ((P 0 43) + 1)) rfl dX12_opensPattern_15 up_same ?_
  refine g_iload_n dX12_opensPattern_18 rfl ?_
  refine m_s24 dX12_opensPattern_19 ⟨by have q0 := b0_43 hB; omega, by have q0 := b0_43 hB; omega⟩ ?_
  have hB2 := ba_24 (z := a1) (k := ((P 0 43) + 1)) hB1 ⟨by omega, by omega⟩
  refine g_aload_n dX12_opensPattern_20 rfl ?_
  refine m_g40 rfl dX12_opensPattern_21 ?_
  refine g_aload_n dX12_opensPattern_24 rfl ?_
  refine m_g43 (z := ((P 0 43) + 1)) rfl dX12_opensPattern_25 ((up_o (by decide)).trans up_same) ?_
  refine g_iconst dX12_opensPattern_28 ?_
  refine m_s25 dX12_opensPattern_29 ⟨by have q0 := b0_43 hB; omega, by have q0 := b0_43 hB; omega⟩ ?_
  have hB3 := ba_25 (z := 0) (k := ((P 0 43) + 1)) hB2 (by decide)
  exact g_retV dX12_opensPattern_30 rfl (hQ _ hB3 (FrM.a (FrM.a (FrM.s FrM.rf rfl) rfl rfl) rfl rfl) (by have q0 := (((up_o (by decide)).trans ((up_o (by decide)).trans up_same)) : (up (up (up P 0 43 ((P 0 43) + 1)) 24 ((P 0 43) + 1) a1) 25 ((P 0 43) + 1) 0) 0 43 = ((P 0 43) + 1)); have q1 := b0_43 hB; omega) (((up_o (by decide)).trans up_same)) (up_same) (fun j hj => ((up_o (by decide)).trans ((up_k hj).trans ((up_o (by decide)).trans rfl)))) (fun j hj => ((up_k hj).trans ((up_o (by decide)).trans ((up_o (by decide)).trans rfl)))))
set_option maxRecDepth 100000 in
set_option maxHeartbeats 4000000 in
theorem m_X12_writes (G : GT) (P : PH) (a1 : Int) (h_a1 : (-2147483648) ≤ a1 ∧ a1 ≤ 2147483647) (hB : BdM P) (p_o : P 0 70 ≤ 1799) (Q : Option PV → PH → Prop) (hQ : ∀ (P1 : PH) (_ : BdM P1) (_ : FrM ([70], [46]) P P1) (_ : P1 0 70 = P 0 70 + 1), Q none P1) : Ct WSM G 1 iX12_writes [vR 0, vI a1] P Q := by
  refine Ct.of (by decide) (l0 := [(0, vR 0), (1, vI a1)]) rfl (Nat.le_of_ble_eq_true rfl) ?_
  refine g_aload_n dX12_writes_0 rfl ?_
  refine m_g69 rfl dX12_writes_1 ?_
  refine g_aload_n dX12_writes_4 rfl ?_
  refine m_g70 (z := (P 0 70)) rfl dX12_writes_5 rfl ?_
  refine g_iload_n dX12_writes_8 rfl ?_
  refine g_sipush dX12_writes_9 (by decide) ?_
  refine g_iand dX12_writes_12 ?_
  refine g_nm (fun b1 e_b1 => ?_)
  have h_b1 := iand_r (x := a1) (y := 255) ⟨by omega, by omega⟩
  rw [← e_b1] at h_b1
  refine m_s46 dX12_writes_13 ⟨by have q0 := b0_70 hB; omega, by have q0 := b0_70 hB; omega⟩ ?_
  have hB2 := ba_46 (z := b1) (k := (P 0 70)) hB ⟨by omega, by omega⟩
  refine g_aload_n dX12_writes_14 rfl ?_
  refine g_dup dX12_writes_15 rfl ?_
  refine m_g70 (z := (P 0 70)) rfl dX12_writes_16 ((up_o (by decide)).trans rfl) ?_
  refine g_iconst dX12_writes_19 ?_
  refine g_iadd dX12_writes_20 ?_
  refine m_p70 rfl dX12_writes_21 ?_
  have hB3 := bs_70 (z := ((P 0 70) + 1)) hB2 ⟨by have q0 := b0_70 hB; omega, by have q0 := b0_70 hB; omega⟩
  exact g_retV dX12_writes_24 rfl (hQ _ hB3 (FrM.s (FrM.a FrM.rf rfl rfl) rfl) (by have q0 := (up_same : (up (up P 46 (P 0 70) b1) 0 70 ((P 0 70) + 1)) 0 70 = ((P 0 70) + 1)); have q1 := b0_70 hB; omega))
set_option maxRecDepth 100000 in
set_option maxHeartbeats 4000000 in
theorem m_X12_later (G : GT) (P : PH) (a1 : Int) (a2 : Int) (h_a1 : 0 ≤ a1 ∧ a1 ≤ 5) (h_a2 : (-2147483648) ≤ a2 ∧ a2 ≤ 2147483647) (hB : BdM P) (p_o : P 0 73 ≤ 39) (Q : Option PV → PH → Prop) (hQ : ∀ (P1 : PH) (_ : BdM P1) (_ : FrM ([73], [47, 48]) P P1) (_ : P1 0 73 = P 0 73 + 1) (_ : LA a1 a2 P P1), Q none P1) : Ct WSM G 1 iX12_later [vR 0, vI a1, vI a2] P Q := by
  refine Ct.of (by decide) (l0 := [(0, vR 0), (1, vI a1), (2, vI a2)]) rfl (Nat.le_of_ble_eq_true rfl) ?_
  refine g_aload_n dX12_later_0 rfl ?_
  refine m_g71 rfl dX12_later_1 ?_
  refine g_aload_n dX12_later_4 rfl ?_
  refine m_g73 (z := (P 0 73)) rfl dX12_later_5 rfl ?_
  refine g_iload_n dX12_later_8 rfl ?_
  refine m_s47 dX12_later_9 ⟨by have q0 := b0_73 hB; omega, by have q0 := b0_73 hB; omega⟩ ?_
  have hB1 := ba_47 (z := a1) (k := (P 0 73)) hB ⟨by omega, by omega⟩
  refine g_aload_n dX12_later_10 rfl ?_
  refine m_g72 rfl dX12_later_11 ?_
  refine g_aload_n dX12_later_14 rfl ?_
  refine m_g73 (z := (P 0 73)) rfl dX12_later_15 ((up_o (by decide)).trans rfl) ?_
  refine g_iload_n dX12_later_18 rfl ?_
  refine m_s48 dX12_later_19 ⟨by have q0 := b0_73 hB; omega, by have q0 := b0_73 hB; omega⟩ ?_
  have hB2 := ba_48 (z := a2) (k := (P 0 73)) hB1 ⟨by omega, by omega⟩
  refine g_aload_n dX12_later_20 rfl ?_
  refine g_dup dX12_later_21 rfl ?_
  refine m_g73 (z := (P 0 73)) rfl dX12_later_22 ((up_o (by decide)).trans ((up_o (by decide)).trans rfl)) ?_
  refine g_iconst dX12_later_25 ?_
  refine g_iadd dX12_later_26 ?_
  refine m_p73 rfl dX12_later_27 ?_
  have hB3 := bs_73 (z := ((P 0 73) + 1)) hB2 ⟨by have q0 := b0_73 hB; omega, by have q0 := b0_73 hB; omega⟩
  exact g_retV dX12_later_30 rfl (hQ _ hB3 (FrM.s (FrM.a (FrM.a FrM.rf rfl rfl) rfl rfl) rfl) (by have q0 := (up_same : (up (up (up P 47 (P 0 73) a1) 48 (P 0 73) a2) 0 73 ((P 0 73) + 1)) 0 73 = ((P 0 73) + 1)); have q1 := b0_73 hB; omega) (⟨up_same, fun j hj => ⟨((up_o (by decide)).trans ((up_o (by decide)).trans ((up_k hj).trans rfl))), ((up_o (by decide)).trans ((up_k hj).trans ((up_o (by decide)).trans rfl)))⟩, ((up_o (by decide)).trans ((up_o (by decide)).trans up_same)), ((up_o (by decide)).trans up_same)⟩))
set_option maxRecDepth 100000 in
set_option maxHeartbeats 4000000 in
theorem m_X12_octet (G : GT) (P : PH) (a1 : Int) (h_a1 : (-2147483648) ≤ a1 ∧ a1 ≤ 2147483647) (hB : BdM P) (Q : Option PV → PH → Prop) (hQ : ∀ (r : Int) (_ : (-1) ≤ r ∧ r ≤ 255), Q (some (vI r)) P) : Ct WSM G 2 iX12_octet [vR 0, vI a1] P Q := by
  refine Ct.of (by decide) (l0 := [(0, vR 0), (1, vI a1)]) rfl (Nat.le_of_ble_eq_true rfl) ?_
  refine g_iload_n dX12_octet_0 rfl ?_
  refine g_iconst dX12_octet_1 ?_
  refine g_aload_n dX12_octet_2 rfl ?_
  refine m_g70 (z := (P 0 70)) rfl dX12_octet_3 rfl ?_
  refine g_iconst dX12_octet_6 ?_
  refine g_isub dX12_octet_7 ?_
  have f1 := b0_70 hB
  refine g_sI (av := [vI a1, vI 0, vI ((P 0 70) - 1)]) (st := []) (m_X12_is G P a1 0 ((P 0 70) - 1) ⟨by omega, by omega⟩ (by decide) ⟨by have q0 := b0_70 hB; omega, by have q0 := b0_70 hB; omega⟩ hB  _ (fun rc2 hc2 gc2_is => ⟨rc2, rfl, ?_⟩)) cf_X12_is t_1800 rfl (Nat.le_of_ble_eq_true rfl) (by decide) rfl dX12_octet_8
  refine g_if_eq (tgt := 23) dX12_octet_11 (by decide) ⟨by omega, by omega⟩ (fun k3 => ?_) (fun k3 => ?_)
  · refine g_iconst dX12_octet_23 ?_
    exact g_retI dX12_octet_24 rfl (hQ (-1) (by decide) )
  · refine g_aload_n dX12_octet_14 rfl ?_
    refine m_g69 rfl dX12_octet_15 ?_
    refine g_iload_n dX12_octet_18 rfl ?_
    refine m_l46 (z := (P 46 a1)) dX12_octet_19 ⟨by omega, by omega⟩ rfl ?_
    refine g_goto (tgt := 24) dX12_octet_20 (by decide) ?_
    exact g_retI dX12_octet_24 rfl (hQ (P 46 a1) ⟨by have q0 := bl_46 (k := a1) hB; omega, by have q0 := bl_46 (k := a1) hB; omega⟩ )
set_option maxRecDepth 100000 in
set_option maxHeartbeats 4000000 in
theorem m_X12_leftOf (G : GT) (P : PH) (a1 : Int) (a2 : Int) (h_a1 : 0 ≤ a1 ∧ a1 ≤ 4095) (h_a2 : 0 ≤ a2 ∧ a2 ≤ 15) (hB : BdM P) (Q : Option PV → PH → Prop) (hQ : ∀ (r : Int) (_ : 0 ≤ r ∧ r ≤ 65535) (_ : r = a1 + 4096 * a2), Q (some (vI r)) P) : Ct WSM G 1 iX12_leftOf [vI a1, vI a2] P Q := by
  refine Ct.of (by decide) (l0 := [(0, vI a1), (1, vI a2)]) rfl (Nat.le_of_ble_eq_true rfl) ?_
  refine g_iload_n dX12_leftOf_0 rfl ?_
  refine g_iload_n dX12_leftOf_1 rfl ?_
  refine g_bipush dX12_leftOf_2 (by decide) ?_
  refine g_ishl dX12_leftOf_4 ?_
  refine g_nm (fun b1 e_b1 => ?_)
  have h_b1 : (ishl a2 12) = a2 * 4096 := ishl_c 12 (by decide) (x := a2) (show IR (a2 * 4096) from ⟨by omega, by omega⟩)
  rw [← e_b1] at h_b1
  refine g_ior dX12_leftOf_5 ?_
  refine g_nm (fun b2 e_b2 => ?_)
  have h_b2 : 0 ≤ (ior a1 b1) ∧ (ior a1 b1) < 65536 := ior_b 16 (by decide) (x := a1) (y := b1) (show 0 ≤ a1 ∧ a1 < 65536 from ⟨by omega, by omega⟩) (show 0 ≤ b1 ∧ b1 < 65536 from ⟨by omega, by omega⟩)
  rw [← e_b2] at h_b2
  have hz := ior_hl12 (x := a1) (y := a2) ⟨by omega, by omega⟩ (by omega) (by omega)
  have e9 : b2 = a2 * 4096 + a1 := by rw [e_b2, h_b1]; exact hz
  exact g_retI dX12_leftOf_6 rfl (hQ b2 ⟨by omega, by omega⟩ (by omega))
set_option maxRecDepth 100000 in
set_option maxHeartbeats 4000000 in
theorem m_X12_armsIn (G : GT) (P : PH) (a1 : Int) (h_a1 : 0 ≤ a1 ∧ a1 ≤ 65535) (hB : BdM P) (Q : Option PV → PH → Prop) (hQ : ∀ (r : Int) (_ : 0 ≤ r ∧ r ≤ 4095) (_ : r = a1 % 4096), Q (some (vI r)) P) : Ct WSM G 1 iX12_armsIn [vI a1] P Q := by
  refine Ct.of (by decide) (l0 := [(0, vI a1)]) rfl (Nat.le_of_ble_eq_true rfl) ?_
  refine g_iload_n dX12_armsIn_0 rfl ?_
  refine g_sipush dX12_armsIn_1 (by decide) ?_
  refine g_iand dX12_armsIn_4 ?_
  refine g_nm (fun b1 e_b1 => ?_)
  have h_b1 := iand_r (x := a1) (y := 4095) ⟨by omega, by omega⟩
  rw [← e_b1] at h_b1
  have e9 : b1 = a1 % 4096 := by rw [e_b1]; exact iand4095 ⟨by omega, by omega⟩
  exact g_retI dX12_armsIn_5 rfl (hQ b1 ⟨by omega, by omega⟩ (by omega))
set_option maxRecDepth 100000 in
set_option maxHeartbeats 4000000 in
theorem m_X12_columnsIn (G : GT) (P : PH) (a1 : Int) (h_a1 : 0 ≤ a1 ∧ a1 ≤ 65535) (hB : BdM P) (Q : Option PV → PH → Prop) (hQ : ∀ (r : Int) (_ : 0 ≤ r ∧ r ≤ 15) (_ : r = a1 / 4096), Q (some (vI r)) P) : Ct WSM G 1 iX12_columnsIn [vI a1] P Q := by
  refine Ct.of (by decide) (l0 := [(0, vI a1)]) rfl (Nat.le_of_ble_eq_true rfl) ?_
  refine g_iload_n dX12_columnsIn_0 rfl ?_
  refine g_bipush dX12_columnsIn_1 (by decide) ?_
  refine g_ishr dX12_columnsIn_3 ?_
  refine g_nm (fun b1 e_b1 => ?_)
  have h_b1 : (ishr a1 12) = a1 / 4096 := ishr_c 12 (by decide) (x := a1) ⟨by omega, by omega⟩
  rw [← e_b1] at h_b1
  exact g_retI dX12_columnsIn_4 rfl (hQ b1 ⟨by omega, by omega⟩ (by omega))
set_option maxRecDepth 100000 in
set_option maxHeartbeats 4000000 in
theorem m_X12_swapped (G : GT) (P : PH) (a1 : Int) (a2 : Int) (a3 : Int) (h_a1 : 0 ≤ a1 ∧ a1 ≤ 4095) (h_a2 : 0 ≤ a2 ∧ a2 ≤ 11) (h_a3 : 0 ≤ a3 ∧ a3 ≤ 11) (hB : BdM P) (Q : Option PV → PH → Prop) (hQ : ∀ (r : Int) (_ : 0 ≤ r ∧ r ≤ 4095), Q (some (vI r)) P) : Ct WSM G 1 iX12_swapped [vI a1, vI a2, vI a3] P Q := by
  refine Ct.of (by decide) (l0 := [(0, vI a1), (1, vI a2), (2, vI a3)]) rfl (Nat.le_of_ble_eq_true rfl) ?_
  refine g_iload_n dX12_swapped_0 rfl ?_
  refine g_iload_n dX12_swapped_1 rfl ?_
  refine g_ishr dX12_swapped_2 ?_
  refine g_nm (fun b1 e_b1 => ?_)
  have h_b1 := ishr_ir a1 a2
  rw [← e_b1] at h_b1
  refine g_iconst dX12_swapped_3 ?_
  refine g_iand dX12_swapped_4 ?_
  refine g_nm (fun b2 e_b2 => ?_)
  have h_b2 := iand_r (x := b1) (y := 1) ⟨by omega, by omega⟩
  rw [← e_b2] at h_b2
  refine g_iload_n dX12_swapped_5 rfl ?_
  refine g_iload_n dX12_swapped_6 rfl ?_
  refine g_ishr dX12_swapped_7 ?_
  refine g_nm (fun b3 e_b3 => ?_)
  have h_b3 := ishr_ir a1 a3
  rw [← e_b3] at h_b3
  refine g_iconst dX12_swapped_8 ?_
  refine g_iand dX12_swapped_9 ?_
  refine g_nm (fun b4 e_b4 => ?_)
  have h_b4 := iand_r (x := b3) (y := 1) ⟨by omega, by omega⟩
  rw [← e_b4] at h_b4
  refine g_icmp_ne (tgt := 15) dX12_swapped_10 (by decide) ⟨by omega, by omega⟩ ⟨by omega, by omega⟩ (fun k5 => ?_) (fun k5 => ?_)
  · refine g_iload_n dX12_swapped_15 rfl ?_
    refine g_iconst dX12_swapped_16 ?_
    refine g_iload_n dX12_swapped_17 rfl ?_
    refine g_ishl dX12_swapped_18 ?_
    refine g_nm (fun b6 e_b6 => ?_)
    have h_b6 : 1 ≤ (ishl 1 a2) ∧ (ishl 1 a2) ≤ 2048 := (ishl1 11 (by decide) (y := a2) ⟨by omega, by omega⟩).2
    rw [← e_b6] at h_b6
    refine g_iconst dX12_swapped_19 ?_
    refine g_iload_n dX12_swapped_20 rfl ?_
    refine g_ishl dX12_swapped_21 ?_
    refine g_nm (fun b7 e_b7 => ?_)
    have h_b7 : 1 ≤ (ishl 1 a3) ∧ (ishl 1 a3) ≤ 2048 := (ishl1 11 (by decide) (y := a3) ⟨by omega, by omega⟩).2
    rw [← e_b7] at h_b7
    refine g_ior dX12_swapped_22 ?_
    refine g_nm (fun b8 e_b8 => ?_)
    have h_b8 : 0 ≤ (ior b6 b7) ∧ (ior b6 b7) < 4096 := ior_b 12 (by decide) (x := b6) (y := b7) (show 0 ≤ b6 ∧ b6 < 4096 from ⟨by omega, by omega⟩) (show 0 ≤ b7 ∧ b7 < 4096 from ⟨by omega, by omega⟩)
    rw [← e_b8] at h_b8
    refine g_ixor dX12_swapped_23 ?_
    refine g_nm (fun b9 e_b9 => ?_)
    have h_b9 : 0 ≤ (ixor a1 b8) ∧ (ixor a1 b8) < 4096 := ixor_b 12 (by decide) (x := a1) (y := b8) (show 0 ≤ a1 ∧ a1 < 4096 from ⟨by omega, by omega⟩) (show 0 ≤ b8 ∧ b8 < 4096 from ⟨by omega, by omega⟩)
    rw [← e_b9] at h_b9
    exact g_retI dX12_swapped_24 rfl (hQ b9 ⟨by omega, by omega⟩ )
  · refine g_iload_n dX12_swapped_13 rfl ?_
    exact g_retI dX12_swapped_14 rfl (hQ a1 ⟨by omega, by omega⟩ )
set_option maxRecDepth 100000 in
set_option maxHeartbeats 4000000 in
theorem m_X12_moved (G : GT) (P : PH) (a1 : Int) (a2 : Int) (a3 : Int) (h_a1 : (-2147483648) ≤ a1 ∧ a1 ≤ 2147483647) (h_a2 : (-2147483648) ≤ a2 ∧ a2 ≤ 2147483647) (h_a3 : (-2147483648) ≤ a3 ∧ a3 ≤ 2147483647) (hB : BdM P) (Q : Option PV → PH → Prop) (hQ : ∀ (r : Int) (_ : (-2147483648) ≤ r ∧ r ≤ 2147483647), Q (some (vI r)) P) : Ct WSM G 1 iX12_moved [vI a1, vI a2, vI a3] P Q := by
  refine Ct.of (by decide) (l0 := [(0, vI a1), (1, vI a2), (2, vI a3)]) rfl (Nat.le_of_ble_eq_true rfl) ?_
  refine g_iload_n dX12_moved_0 rfl ?_
  refine g_iload_n dX12_moved_1 rfl ?_
  refine g_icmp_ne (tgt := 9) dX12_moved_2 (by decide) ⟨by omega, by omega⟩ ⟨by omega, by omega⟩ (fun k1 => ?_) (fun k1 => ?_)
  · refine g_iload_n dX12_moved_9 rfl ?_
    refine g_iload_n dX12_moved_10 rfl ?_
    refine g_icmp_ne (tgt := 18) dX12_moved_11 (by decide) ⟨by omega, by omega⟩ ⟨by omega, by omega⟩ (fun k2 => ?_) (fun k2 => ?_)
    · refine g_iload_n dX12_moved_18 rfl ?_
      exact g_retI dX12_moved_19 rfl (hQ a1 ⟨by omega, by omega⟩ )
    · refine g_iload_n dX12_moved_14 rfl ?_
      refine g_goto (tgt := 19) dX12_moved_15 (by decide) ?_
      exact g_retI dX12_moved_19 rfl (hQ a2 ⟨by omega, by omega⟩ )
  · refine g_iload_n dX12_moved_5 rfl ?_
    refine g_goto (tgt := 19) dX12_moved_6 (by decide) ?_
    exact g_retI dX12_moved_19 rfl (hQ a3 ⟨by omega, by omega⟩ )
set_option maxRecDepth 100000 in
set_option maxHeartbeats 4000000 in
theorem m_X12_begin (G : GT) (P : PH) (hB : BdM P) (Q : Option PV → PH → Prop) (hQ : ∀ (P1 : PH) (_ : BdM P1) (_ : FrM ([60, 92], [35, 36, 37, 38, 39]) P P1) (_ : P1 35 0 = P 13 (P 0 13)) (_ : (P 0 44 = 0 ∧ P1 37 0 = 0) ∨ P 0 44 = 1) (_ : P1 38 0 = P 15 (P 0 13)) (_ : P1 39 0 = 0 ∧ P1 0 60 = 0 ∧ P1 0 92 = 0), Q none P1) : Ct WSM G 1 iX12_begin [vR 0] P Q := by
  refine Ct.of (by decide) (l0 := [(0, vR 0)]) rfl (Nat.le_of_ble_eq_true rfl) ?_
  refine g_aload_n dX12_begin_0 rfl ?_
  refine m_g53 rfl dX12_begin_1 ?_
  refine g_iconst dX12_begin_4 ?_
  refine g_aload_n dX12_begin_5 rfl ?_
  refine m_g25 rfl dX12_begin_6 ?_
  refine g_aload_n dX12_begin_9 rfl ?_
  refine m_g13 (z := (P 0 13)) rfl dX12_begin_10 rfl ?_
  refine m_l13 (z := (P 13 (P 0 13))) dX12_begin_13 ⟨by have q0 := b0_13 hB; omega, by have q0 := b0_13 hB; omega⟩ rfl ?_
  refine m_s35 dX12_begin_14 (by decide) ?_
  have hB1 := ba_35 (z := (P 13 (P 0 13))) (k := 0) hB ⟨by have q0 := bl_13 (k := (P 0 13)) hB; omega, by have q0 := bl_13 (k := (P 0 13)) hB; omega⟩
  refine g_iconst dX12_begin_15 ?_
  refine g_istore_n (l1 := [(1, vI 0), (0, vR 0)]) dX12_begin_16 (by decide) rfl ?_
  have L17_1 : ∀ (n17_1 : Nat) (x17_1_1 : Int) (h_x17_1_1 : 0 ≤ x17_1_1 ∧ x17_1_1 ≤ 12) (H17_1 : PH) (hB17_1 : BdM H17_1) (hE17_1 : FrM ([], [36]) (up P 35 0 (P 13 (P 0 13))) H17_1) (hm17_1 : ((13 - x17_1_1) : Int).toNat < n17_1), Go WSM G 1 iX12_begin 17 [(0, vR 0), (1, vI x17_1_1)] [] H17_1 Q := by
    intro n17_1
    induction n17_1 with
    | zero => intro x17_1_1 h_x17_1_1 H17_1 hB17_1 hE17_1 hm17_1; exact absurd hm17_1 (Nat.not_lt_zero _)
    | succ n17_1 ih17_1 =>
    intro x17_1_1 h_x17_1_1 H17_1 hB17_1 hE17_1 hm17_1
    refine g_iload_n dX12_begin_17 rfl ?_
    refine g_bipush dX12_begin_18 (by decide) ?_
    refine g_icmp_ge (tgt := 36) dX12_begin_20 (by decide) ⟨by omega, by omega⟩ (by decide) (fun k57 => ?_) (fun k57 => ?_)
    · refine g_aload_n dX12_begin_36 rfl ?_
      refine m_g55 rfl dX12_begin_37 ?_
      refine g_iconst dX12_begin_40 ?_
      refine g_aload_n dX12_begin_41 rfl ?_
      refine m_g44 (z := (P 0 44)) rfl dX12_begin_42 ((hE17_1.1 44 rfl).trans ((up_o (by decide)).trans rfl)) ?_
      have f58 := b0_44 hB
      refine g_if_eq (tgt := 54) dX12_begin_45 (by decide) ⟨by have q0 := b0_44 hB; omega, by have q0 := b0_44 hB; omega⟩ (fun k59 => ?_) (fun k59 => ?_)
      · refine g_iconst dX12_begin_54 ?_
        refine m_s37 dX12_begin_55 (by decide) ?_
        have hB60 := ba_37 (z := 0) (k := 0) hB17_1 (by decide)
        refine g_aload_n dX12_begin_56 rfl ?_
        refine m_g56 rfl dX12_begin_57 ?_
        refine g_iconst dX12_begin_60 ?_
        refine g_aload_n dX12_begin_61 rfl ?_
        refine m_g27 rfl dX12_begin_62 ?_
        refine g_aload_n dX12_begin_65 rfl ?_
        refine m_g13 (z := (P 0 13)) rfl dX12_begin_66 ((up_o (by decide)).trans ((hE17_1.1 13 rfl).trans ((up_o (by decide)).trans rfl))) ?_
        refine m_l15 (z := (P 15 (P 0 13))) dX12_begin_69 ⟨by have q0 := b0_13 hB; omega, by have q0 := b0_13 hB; omega⟩ ((up_o (by decide)).trans ((congrFun (hE17_1.2 15 rfl rfl) _).trans ((up_o (by decide)).trans rfl))) ?_
        refine m_s38 dX12_begin_70 (by decide) ?_
        have hB61 := ba_38 (z := (P 15 (P 0 13))) (k := 0) hB60 ⟨by have q0 := bl_15 (k := (P 0 13)) hB; omega, by have q0 := bl_15 (k := (P 0 13)) hB; omega⟩
        refine g_aload_n dX12_begin_71 rfl ?_
        refine m_g57 rfl dX12_begin_72 ?_
        refine g_iconst dX12_begin_75 ?_
        refine g_iconst dX12_begin_76 ?_
        refine m_s39 dX12_begin_77 (by decide) ?_
        have hB62 := ba_39 (z := 0) (k := 0) hB61 (by decide)
        refine g_aload_n dX12_begin_78 rfl ?_
        refine g_iconst dX12_begin_79 ?_
        refine m_p60 rfl dX12_begin_80 ?_
        have hB63 := bs_60 (z := 0) hB62 (by decide)
        refine g_aload_n dX12_begin_83 rfl ?_
        refine g_iconst dX12_begin_84 ?_
        refine m_p92 rfl dX12_begin_85 ?_
        have hB64 := bs_92 (z := 0) hB63 (by decide)
        exact g_retV dX12_begin_88 rfl (hQ _ hB64 (FrM.s (FrM.s (FrM.a (FrM.a (FrM.a (FrM.c (FrM.a FrM.rf rfl rfl) hE17_1 rfl) rfl rfl) rfl rfl) rfl rfl) rfl) rfl) (((up_o (by decide)).trans ((up_o (by decide)).trans ((up_o (by decide)).trans ((up_o (by decide)).trans ((up_o (by decide)).trans ((congrFun (hE17_1.2 35 rfl rfl) _).trans up_same))))))) (by have q44 := b0_44 hB; have q37 := (((up_o (by decide)).trans ((up_o (by decide)).trans ((up_o (by decide)).trans ((up_o (by decide)).trans up_same)))) : (up (up (up (up (up H17_1 37 0 0) 38 0 (P 15 (P 0 13))) 39 0 0) 0 60 0) 0 92 0) 37 0 = 0); omega) (((up_o (by decide)).trans ((up_o (by decide)).trans ((up_o (by decide)).trans up_same)))) (⟨((up_o (by decide)).trans ((up_o (by decide)).trans up_same)), ((up_k (by decide)).trans up_same), up_same⟩))
      · refine g_sipush dX12_begin_48 (by decide) ?_
        refine g_goto (tgt := 55) dX12_begin_51 (by decide) ?_
        refine m_s37 dX12_begin_55 (by decide) ?_
        have hB65 := ba_37 (z := 255) (k := 0) hB17_1 (by decide)
        refine g_aload_n dX12_begin_56 rfl ?_
        refine m_g56 rfl dX12_begin_57 ?_
        refine g_iconst dX12_begin_60 ?_
        refine g_aload_n dX12_begin_61 rfl ?_
        refine m_g27 rfl dX12_begin_62 ?_
        refine g_aload_n dX12_begin_65 rfl ?_
        refine m_g13 (z := (P 0 13)) rfl dX12_begin_66 ((up_o (by decide)).trans ((hE17_1.1 13 rfl).trans ((up_o (by decide)).trans rfl))) ?_
        refine m_l15 (z := (P 15 (P 0 13))) dX12_begin_69 ⟨by have q0 := b0_13 hB; omega, by have q0 := b0_13 hB; omega⟩ ((up_o (by decide)).trans ((congrFun (hE17_1.2 15 rfl rfl) _).trans ((up_o (by decide)).trans rfl))) ?_
        refine m_s38 dX12_begin_70 (by decide) ?_
        have hB66 := ba_38 (z := (P 15 (P 0 13))) (k := 0) hB65 ⟨by have q0 := bl_15 (k := (P 0 13)) hB; omega, by have q0 := bl_15 (k := (P 0 13)) hB; omega⟩
        refine g_aload_n dX12_begin_71 rfl ?_
        refine m_g57 rfl dX12_begin_72 ?_
        refine g_iconst dX12_begin_75 ?_
        refine g_iconst dX12_begin_76 ?_
        refine m_s39 dX12_begin_77 (by decide) ?_
        have hB67 := ba_39 (z := 0) (k := 0) hB66 (by decide)
        refine g_aload_n dX12_begin_78 rfl ?_
        refine g_iconst dX12_begin_79 ?_
        refine m_p60 rfl dX12_begin_80 ?_
        have hB68 := bs_60 (z := 0) hB67 (by decide)
        refine g_aload_n dX12_begin_83 rfl ?_
        refine g_iconst dX12_begin_84 ?_
        refine m_p92 rfl dX12_begin_85 ?_
        have hB69 := bs_92 (z := 0) hB68 (by decide)
        exact g_retV dX12_begin_88 rfl (hQ _ hB69 (FrM.s (FrM.s (FrM.a (FrM.a (FrM.a (FrM.c (FrM.a FrM.rf rfl rfl) hE17_1 rfl) rfl rfl) rfl rfl) rfl rfl) rfl) rfl) (((up_o (by decide)).trans ((up_o (by decide)).trans ((up_o (by decide)).trans ((up_o (by decide)).trans ((up_o (by decide)).trans ((congrFun (hE17_1.2 35 rfl rfl) _).trans up_same))))))) (by have q44 := b0_44 hB; have q37 := (((up_o (by decide)).trans ((up_o (by decide)).trans ((up_o (by decide)).trans ((up_o (by decide)).trans up_same)))) : (up (up (up (up (up H17_1 37 0 255) 38 0 (P 15 (P 0 13))) 39 0 0) 0 60 0) 0 92 0) 37 0 = 255); omega) (((up_o (by decide)).trans ((up_o (by decide)).trans ((up_o (by decide)).trans up_same)))) (⟨((up_o (by decide)).trans ((up_o (by decide)).trans up_same)), ((up_k (by decide)).trans up_same), up_same⟩))
    · refine g_aload_n dX12_begin_23 rfl ?_
      refine m_g54 rfl dX12_begin_24 ?_
      refine g_iload_n dX12_begin_27 rfl ?_
      refine g_iload_n dX12_begin_28 rfl ?_
      refine m_s36 dX12_begin_29 ⟨by omega, by omega⟩ ?_
      have hB70 := ba_36 (z := x17_1_1) (k := x17_1_1) hB17_1 ⟨by omega, by omega⟩
      refine g_iinc (l1 := [(1, vI (x17_1_1 + 1)), (0, vR 0)]) dX12_begin_30 rfl (by decide) rfl ?_
      refine g_goto (tgt := 17) dX12_begin_33 (by decide) ?_
      refine g_forget (l1 := [(0, vR 0), (1, vI (x17_1_1 + 1))]) (by intro q hq; simp only [List.mem_cons, List.not_mem_nil, or_false] at hq ⊢; rcases hq with rfl | rfl <;> simp) ?_
      exact ih17_1 (x17_1_1 + 1) ⟨by omega, by omega⟩ _ hB70 (FrM.a (FrM.c FrM.rf hE17_1 rfl) rfl rfl) (by omega)
  refine g_forget (l1 := [(0, vR 0), (1, vI 0)]) (by intro q hq; simp only [List.mem_cons, List.not_mem_nil, or_false] at hq ⊢; rcases hq with rfl | rfl <;> simp) ?_
  exact L17_1 _ 0 (by decide) _ hB1 FrM.rf (Nat.lt_succ_self _)
set_option maxRecDepth 100000 in
set_option maxHeartbeats 4000000 in
theorem m_X12_placed (G : GT) (P : PH) (a1 : Int) (a2 : Int) (h_a1 : 0 ≤ a1 ∧ a1 ≤ 21) (h_a2 : 0 ≤ a2 ∧ a2 ≤ 4095) (hB : BdM P) (Q : Option PV → PH → Prop) (hQ : ∀ (r : Int) (_ : 0 ≤ r ∧ r ≤ 4095), Q (some (vI r)) P) : Ct WSM G 1 iX12_placed [vR 0, vI a1, vI a2] P Q := by
  refine Ct.of (by decide) (l0 := [(0, vR 0), (1, vI a1), (2, vI a2)]) rfl (Nat.le_of_ble_eq_true rfl) ?_
  refine g_iconst dX12_placed_0 ?_
  refine g_istore_n (l1 := [(3, vI 0), (0, vR 0), (1, vI a1), (2, vI a2)]) dX12_placed_1 (by decide) rfl ?_
  refine g_iconst dX12_placed_2 ?_
  refine g_istore (l1 := [(4, vI 0), (3, vI 0), (0, vR 0), (1, vI a1), (2, vI a2)]) dX12_placed_3 (by decide) rfl ?_
  have L5_0 : ∀ (n5_0 : Nat) (x5_4_0 : Int) (h_x5_4_0 : 0 ≤ x5_4_0 ∧ x5_4_0 ≤ 12) (x5_3_0 : Int) (h_x5_3_0 : 0 ≤ x5_3_0 ∧ x5_3_0 ≤ 4095) (hm5_0 : ((13 - x5_4_0) : Int).toNat < n5_0), Go WSM G 1 iX12_placed 5 [(0, vR 0), (1, vI a1), (2, vI a2), (3, vI x5_3_0), (4, vI x5_4_0)] [] P Q := by
    intro n5_0
    induction n5_0 with
    | zero => intro x5_4_0 h_x5_4_0 x5_3_0 h_x5_3_0 hm5_0; exact absurd hm5_0 (Nat.not_lt_zero _)
    | succ n5_0 ih5_0 =>
    intro x5_4_0 h_x5_4_0 x5_3_0 h_x5_3_0 hm5_0
    refine g_iload dX12_placed_5 rfl ?_
    refine g_aload_n dX12_placed_7 rfl ?_
    refine m_g62 (z := (P 0 62)) rfl dX12_placed_8 rfl ?_
    have f56 := b0_62 hB
    refine g_icmp_ge (tgt := 42) dX12_placed_11 (by decide) ⟨by omega, by omega⟩ ⟨by have q0 := b0_62 hB; omega, by have q0 := b0_62 hB; omega⟩ (fun k57 => ?_) (fun k57 => ?_)
    · refine g_iload_n dX12_placed_42 rfl ?_
      exact g_retI dX12_placed_43 rfl (hQ x5_3_0 ⟨by omega, by omega⟩ )
    · refine g_iload_n dX12_placed_14 rfl ?_
      refine g_iload_n dX12_placed_15 rfl ?_
      refine g_aload_n dX12_placed_16 rfl ?_
      refine m_g54 rfl dX12_placed_17 ?_
      refine g_bipush dX12_placed_20 (by decide) ?_
      refine g_iload_n dX12_placed_22 rfl ?_
      refine g_imul dX12_placed_23 ?_
      refine g_iload dX12_placed_24 rfl ?_
      refine g_iadd dX12_placed_26 ?_
      refine m_l36 (z := (P 36 ((12 * a1) + x5_4_0))) dX12_placed_27 ⟨by omega, by omega⟩ rfl ?_
      refine g_ishr dX12_placed_28 ?_
      refine g_nm (fun b58 e_b58 => ?_)
      have h_b58 := ishr_ir a2 (P 36 ((12 * a1) + x5_4_0))
      rw [← e_b58] at h_b58
      have f_b58_0 := bl_36 (k := ((12 * a1) + x5_4_0)) hB
      refine g_iconst dX12_placed_29 ?_
      refine g_iand dX12_placed_30 ?_
      refine g_nm (fun b59 e_b59 => ?_)
      have h_b59 := iand_r (x := b58) (y := 1) ⟨by omega, by omega⟩
      rw [← e_b59] at h_b59
      refine g_iload dX12_placed_31 rfl ?_
      refine g_ishl dX12_placed_33 ?_
      refine g_nm (fun b60 e_b60 => ?_)
      have h_b60 : 0 ≤ (ishl b59 x5_4_0) ∧ (ishl b59 x5_4_0) ≤ 2048 := (ishl01 11 (by decide) (x := b59) (y := x5_4_0) ⟨by omega, by omega⟩ ⟨by omega, by omega⟩)
      rw [← e_b60] at h_b60
      refine g_ior dX12_placed_34 ?_
      refine g_nm (fun b61 e_b61 => ?_)
      have h_b61 : 0 ≤ (ior x5_3_0 b60) ∧ (ior x5_3_0 b60) < 4096 := ior_b 12 (by decide) (x := x5_3_0) (y := b60) (show 0 ≤ x5_3_0 ∧ x5_3_0 < 4096 from ⟨by omega, by omega⟩) (show 0 ≤ b60 ∧ b60 < 4096 from ⟨by omega, by omega⟩)
      rw [← e_b61] at h_b61
      refine g_istore_n (l1 := [(3, vI b61), (0, vR 0), (1, vI a1), (2, vI a2), (4, vI x5_4_0)]) dX12_placed_35 (by decide) rfl ?_
      refine g_iinc (l1 := [(4, vI (x5_4_0 + 1)), (3, vI b61), (0, vR 0), (1, vI a1), (2, vI a2)]) dX12_placed_36 rfl (by decide) rfl ?_
      refine g_goto (tgt := 5) dX12_placed_39 (by decide) ?_
      refine g_forget (l1 := [(0, vR 0), (1, vI a1), (2, vI a2), (3, vI b61), (4, vI (x5_4_0 + 1))]) (by intro q hq; simp only [List.mem_cons, List.not_mem_nil, or_false] at hq ⊢; rcases hq with rfl | rfl | rfl | rfl | rfl <;> simp) ?_
      exact ih5_0 (x5_4_0 + 1) ⟨by omega, by omega⟩ b61 ⟨by omega, by omega⟩ (by omega)
  refine g_forget (l1 := [(0, vR 0), (1, vI a1), (2, vI a2), (3, vI 0), (4, vI 0)]) (by intro q hq; simp only [List.mem_cons, List.not_mem_nil, or_false] at hq ⊢; rcases hq with rfl | rfl | rfl | rfl | rfl <;> simp) ?_
  exact L5_0 _ 0 (by decide) 0 (by decide) (Nat.lt_succ_self _)
set_option maxRecDepth 100000 in
set_option maxHeartbeats 4000000 in
theorem m_X12_openBy (G : GT) (P : PH) (a1 : Int) (h_a1 : (-2147483648) ≤ a1 ∧ a1 ≤ 2147483647) (hB : BdM P) (Q : Option PV → PH → Prop) (hQ : ∀ (r : Int) (_ : 0 ≤ r ∧ r ≤ 4095), Q (some (vI r)) P) : Ct WSM G 1 iX12_openBy [vR 0, vI a1] P Q := by
  refine Ct.of (by decide) (l0 := [(0, vR 0), (1, vI a1)]) rfl (Nat.le_of_ble_eq_true rfl) ?_
  refine g_aload_n dX12_openBy_0 rfl ?_
  refine m_g66 (z := (P 0 66)) rfl dX12_openBy_1 rfl ?_
  refine g_istore_n (l1 := [(2, vI (P 0 66)), (0, vR 0), (1, vI a1)]) dX12_openBy_4 (by decide) rfl ?_
  refine g_iconst dX12_openBy_5 ?_
  refine g_istore_n (l1 := [(3, vI 0), (2, vI (P 0 66)), (0, vR 0), (1, vI a1)]) dX12_openBy_6 (by decide) rfl ?_
  have L7_0 : ∀ (n7_0 : Nat) (x7_3_0 : Int) (h_x7_3_0 : 0 ≤ x7_3_0 ∧ x7_3_0 ≤ 12) (x7_2_0 : Int) (h_x7_2_0 : 0 ≤ x7_2_0 ∧ x7_2_0 ≤ 4095) (hm7_0 : ((13 - x7_3_0) : Int).toNat < n7_0), Go WSM G 1 iX12_openBy 7 [(0, vR 0), (1, vI a1), (2, vI x7_2_0), (3, vI x7_3_0)] [] P Q := by
    intro n7_0
    induction n7_0 with
    | zero => intro x7_3_0 h_x7_3_0 x7_2_0 h_x7_2_0 hm7_0; exact absurd hm7_0 (Nat.not_lt_zero _)
    | succ n7_0 ih7_0 =>
    intro x7_3_0 h_x7_3_0 x7_2_0 h_x7_2_0 hm7_0
    refine g_iload_n dX12_openBy_7 rfl ?_
    refine g_aload_n dX12_openBy_8 rfl ?_
    refine m_g62 (z := (P 0 62)) rfl dX12_openBy_9 rfl ?_
    have f101 := b0_62 hB
    refine g_icmp_ge (tgt := 55) dX12_openBy_12 (by decide) ⟨by omega, by omega⟩ ⟨by have q0 := b0_62 hB; omega, by have q0 := b0_62 hB; omega⟩ (fun k102 => ?_) (fun k102 => ?_)
    · refine g_iload_n dX12_openBy_55 rfl ?_
      exact g_retI dX12_openBy_56 rfl (hQ x7_2_0 ⟨by omega, by omega⟩ )
    · refine g_iload_n dX12_openBy_15 rfl ?_
      refine g_aload_n dX12_openBy_16 rfl ?_
      refine m_g65 rfl dX12_openBy_17 ?_
      refine g_iload_n dX12_openBy_20 rfl ?_
      refine m_l43 (z := (P 43 x7_3_0)) dX12_openBy_21 ⟨by omega, by omega⟩ rfl ?_
      refine g_iconst dX12_openBy_22 ?_
      have f103 := bl_43 (k := x7_3_0) hB
      refine g_icmp_eq (tgt := 46) dX12_openBy_23 (by decide) ⟨by have q0 := bl_43 (k := x7_3_0) hB; omega, by have q0 := bl_43 (k := x7_3_0) hB; omega⟩ (by decide) (fun k104 => ?_) (fun k104 => ?_)
      · refine g_iconst dX12_openBy_46 ?_
        refine g_ior dX12_openBy_47 ?_
        refine g_nm (fun b105 e_b105 => ?_)
        have h_b105 : 0 ≤ (ior x7_2_0 0) ∧ (ior x7_2_0 0) < 4096 := ior_b 12 (by decide) (x := x7_2_0) (y := 0) (show 0 ≤ x7_2_0 ∧ x7_2_0 < 4096 from ⟨by omega, by omega⟩) (show 0 ≤ 0 ∧ 0 < 4096 from ⟨by omega, by omega⟩)
        rw [← e_b105] at h_b105
        refine g_istore_n (l1 := [(2, vI b105), (0, vR 0), (1, vI a1), (3, vI x7_3_0)]) dX12_openBy_48 (by decide) rfl ?_
        refine g_iinc (l1 := [(3, vI (x7_3_0 + 1)), (2, vI b105), (0, vR 0), (1, vI a1)]) dX12_openBy_49 rfl (by decide) rfl ?_
        refine g_goto (tgt := 7) dX12_openBy_52 (by decide) ?_
        refine g_forget (l1 := [(0, vR 0), (1, vI a1), (2, vI b105), (3, vI (x7_3_0 + 1))]) (by intro q hq; simp only [List.mem_cons, List.not_mem_nil, or_false] at hq ⊢; rcases hq with rfl | rfl | rfl | rfl <;> simp) ?_
        exact ih7_0 (x7_3_0 + 1) ⟨by omega, by omega⟩ b105 ⟨by omega, by omega⟩ (by omega)
      · refine g_iload_n dX12_openBy_26 rfl ?_
        refine g_aload_n dX12_openBy_27 rfl ?_
        refine m_g65 rfl dX12_openBy_28 ?_
        refine g_iload_n dX12_openBy_31 rfl ?_
        refine m_l43 (z := (P 43 x7_3_0)) dX12_openBy_32 ⟨by omega, by omega⟩ rfl ?_
        refine g_ishr dX12_openBy_33 ?_
        refine g_nm (fun b106 e_b106 => ?_)
        have h_b106 := ishr_ir a1 (P 43 x7_3_0)
        rw [← e_b106] at h_b106
        have f_b106_0 := bl_43 (k := x7_3_0) hB
        refine g_iconst dX12_openBy_34 ?_
        refine g_iand dX12_openBy_35 ?_
        refine g_nm (fun b107 e_b107 => ?_)
        have h_b107 := iand_r (x := b106) (y := 1) ⟨by omega, by omega⟩
        rw [← e_b107] at h_b107
        refine g_iconst dX12_openBy_36 ?_
        refine g_icmp_ne (tgt := 46) dX12_openBy_37 (by decide) ⟨by omega, by omega⟩ (by decide) (fun k108 => ?_) (fun k108 => ?_)
        · refine g_iconst dX12_openBy_46 ?_
          refine g_ior dX12_openBy_47 ?_
          refine g_nm (fun b109 e_b109 => ?_)
          have h_b109 : 0 ≤ (ior x7_2_0 0) ∧ (ior x7_2_0 0) < 4096 := ior_b 12 (by decide) (x := x7_2_0) (y := 0) (show 0 ≤ x7_2_0 ∧ x7_2_0 < 4096 from ⟨by omega, by omega⟩) (show 0 ≤ 0 ∧ 0 < 4096 from ⟨by omega, by omega⟩)
          rw [← e_b109] at h_b109
          refine g_istore_n (l1 := [(2, vI b109), (0, vR 0), (1, vI a1), (3, vI x7_3_0)]) dX12_openBy_48 (by decide) rfl ?_
          refine g_iinc (l1 := [(3, vI (x7_3_0 + 1)), (2, vI b109), (0, vR 0), (1, vI a1)]) dX12_openBy_49 rfl (by decide) rfl ?_
          refine g_goto (tgt := 7) dX12_openBy_52 (by decide) ?_
          refine g_forget (l1 := [(0, vR 0), (1, vI a1), (2, vI b109), (3, vI (x7_3_0 + 1))]) (by intro q hq; simp only [List.mem_cons, List.not_mem_nil, or_false] at hq ⊢; rcases hq with rfl | rfl | rfl | rfl <;> simp) ?_
          exact ih7_0 (x7_3_0 + 1) ⟨by omega, by omega⟩ b109 ⟨by omega, by omega⟩ (by omega)
        · refine g_iconst dX12_openBy_40 ?_
          refine g_iload_n dX12_openBy_41 rfl ?_
          refine g_ishl dX12_openBy_42 ?_
          refine g_nm (fun b110 e_b110 => ?_)
          have h_b110 : 1 ≤ (ishl 1 x7_3_0) ∧ (ishl 1 x7_3_0) ≤ 2048 := (ishl1 11 (by decide) (y := x7_3_0) ⟨by omega, by omega⟩).2
          rw [← e_b110] at h_b110
          refine g_goto (tgt := 47) dX12_openBy_43 (by decide) ?_
          refine g_ior dX12_openBy_47 ?_
          refine g_nm (fun b111 e_b111 => ?_)
          have h_b111 : 0 ≤ (ior x7_2_0 b110) ∧ (ior x7_2_0 b110) < 4096 := ior_b 12 (by decide) (x := x7_2_0) (y := b110) (show 0 ≤ x7_2_0 ∧ x7_2_0 < 4096 from ⟨by omega, by omega⟩) (show 0 ≤ b110 ∧ b110 < 4096 from ⟨by omega, by omega⟩)
          rw [← e_b111] at h_b111
          refine g_istore_n (l1 := [(2, vI b111), (0, vR 0), (1, vI a1), (3, vI x7_3_0)]) dX12_openBy_48 (by decide) rfl ?_
          refine g_iinc (l1 := [(3, vI (x7_3_0 + 1)), (2, vI b111), (0, vR 0), (1, vI a1)]) dX12_openBy_49 rfl (by decide) rfl ?_
          refine g_goto (tgt := 7) dX12_openBy_52 (by decide) ?_
          refine g_forget (l1 := [(0, vR 0), (1, vI a1), (2, vI b111), (3, vI (x7_3_0 + 1))]) (by intro q hq; simp only [List.mem_cons, List.not_mem_nil, or_false] at hq ⊢; rcases hq with rfl | rfl | rfl | rfl <;> simp) ?_
          exact ih7_0 (x7_3_0 + 1) ⟨by omega, by omega⟩ b111 ⟨by omega, by omega⟩ (by omega)
  refine g_forget (l1 := [(0, vR 0), (1, vI a1), (2, vI (P 0 66)), (3, vI 0)]) (by intro q hq; simp only [List.mem_cons, List.not_mem_nil, or_false] at hq ⊢; rcases hq with rfl | rfl | rfl | rfl <;> simp) ?_
  exact L7_0 _ 0 (by decide) (P 0 66) ⟨by have q0 := b0_66 hB; omega, by have q0 := b0_66 hB; omega⟩ (Nat.lt_succ_self _)
set_option maxRecDepth 100000 in
set_option maxHeartbeats 4000000 in
theorem m_X12_kept (G : GT) (P : PH) (a1 : Int) (a2 : Int) (h_a1 : (-2147483648) ≤ a1 ∧ a1 ≤ 2147483647) (h_a2 : (-2147483648) ≤ a2 ∧ a2 ≤ 2147483647) (hB : BdM P) (Q : Option PV → PH → Prop) (hQ : ∀ (r : Int) (_ : (-2147483648) ≤ r ∧ r ≤ 2147483647), Q (some (vI r)) P) : Ct WSM G 2 iX12_kept [vR 0, vI a1, vI a2] P Q := by
  refine Ct.of (by decide) (l0 := [(0, vR 0), (1, vI a1), (2, vI a2)]) rfl (Nat.le_of_ble_eq_true rfl) ?_
  refine g_iload_n dX12_kept_0 rfl ?_
  refine g_iconst dX12_kept_1 ?_
  refine g_aload_n dX12_kept_2 rfl ?_
  refine m_g57 rfl dX12_kept_3 ?_
  refine g_iconst dX12_kept_6 ?_
  refine m_l39 (z := (P 39 0)) dX12_kept_7 (by decide) rfl ?_
  refine g_iconst dX12_kept_8 ?_
  refine g_isub dX12_kept_9 ?_
  have f1 := bl_39 (k := 0) hB
  refine g_sI (av := [vI a1, vI 0, vI ((P 39 0) - 1)]) (st := []) (m_X12_is G P a1 0 ((P 39 0) - 1) ⟨by omega, by omega⟩ (by decide) ⟨by have q0 := bl_39 (k := 0) hB; omega, by have q0 := bl_39 (k := 0) hB; omega⟩ hB  _ (fun rc2 hc2 gc2_is => ⟨rc2, rfl, ?_⟩)) cf_X12_is t_1800 rfl (Nat.le_of_ble_eq_true rfl) (by decide) rfl dX12_kept_10
  refine g_if_eq (tgt := 38) dX12_kept_13 (by decide) ⟨by omega, by omega⟩ (fun k3 => ?_) (fun k3 => ?_)
  · refine g_iconst dX12_kept_38 ?_
    exact g_retI dX12_kept_39 rfl (hQ (-1) (by decide) )
  · refine g_iload_n dX12_kept_16 rfl ?_
    refine g_iconst dX12_kept_17 ?_
    refine g_iconst dX12_kept_18 ?_
    refine g_sI (av := [vI a2, vI 0, vI 2]) (st := []) (m_X12_is G P a2 0 2 ⟨by omega, by omega⟩ (by decide) (by decide) hB  _ (fun rc4 hc4 gc4_is => ⟨rc4, rfl, ?_⟩)) cf_X12_is t_1800 rfl (Nat.le_of_ble_eq_true rfl) (by decide) rfl dX12_kept_19
    refine g_if_eq (tgt := 38) dX12_kept_22 (by decide) ⟨by omega, by omega⟩ (fun k5 => ?_) (fun k5 => ?_)
    · refine g_iconst dX12_kept_38 ?_
      exact g_retI dX12_kept_39 rfl (hQ (-1) (by decide) )
    · refine g_aload_n dX12_kept_25 rfl ?_
      refine m_g58 rfl dX12_kept_26 ?_
      refine g_iconst dX12_kept_29 ?_
      refine g_iload_n dX12_kept_30 rfl ?_
      refine g_imul dX12_kept_31 ?_
      refine g_iload_n dX12_kept_32 rfl ?_
      refine g_iadd dX12_kept_33 ?_
      refine m_l40 (z := (P 40 ((3 * a1) + a2))) dX12_kept_34 ⟨by omega, by omega⟩ rfl ?_
      refine g_goto (tgt := 39) dX12_kept_35 (by decide) ?_
      exact g_retI dX12_kept_39 rfl (hQ (P 40 ((3 * a1) + a2)) ⟨by have q0 := bl_40 (k := ((3 * a1) + a2)) hB; omega, by have q0 := bl_40 (k := ((3 * a1) + a2)) hB; omega⟩ )
end
