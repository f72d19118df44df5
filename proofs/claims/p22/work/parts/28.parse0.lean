section
section
/-! What emits and later do, said once. -/
/-- a code is emitted -/
def EM (op a b : Int) (P P1 : PH) : Prop := P1 0 36 = P 0 36 + 1 ∧ (∀ j : Int, j ≠ 2800 * P 0 37 + P 0 36 → P1 19 j = P 19 j ∧ P1 20 j = P 20 j ∧ P1 21 j = P 21 j) ∧ P1 19 (2800 * P 0 37 + P 0 36) = op ∧ P1 20 (2800 * P 0 37 + P 0 36) = a ∧ P1 21 (2800 * P 0 37 + P 0 36) = b
/-- something is put on the pile -/
def LA (k v : Int) (P P1 : PH) : Prop := P1 0 73 = P 0 73 + 1 ∧ (∀ j : Int, j ≠ P 0 73 → P1 47 j = P 47 j ∧ P1 48 j = P 48 j) ∧ P1 47 (P 0 73) = k ∧ P1 48 (P 0 73) = v
/-- how many values a kind has -/
def vals (P : PH) (b k : Int) : Int := if k = 4 then 20 else P 3 (4 * b + k)
theorem vals_of {P : PH} {b k r : Int} (h : (k = 4 ∧ r = 20) ∨ (k < 4 ∧ r = P 3 (4 * b + k))) : r = vals P b k := by
  unfold vals
  rcases h with ⟨h, e⟩ | ⟨h, e⟩
  · rw [if_pos h]; exact e
  · rw [if_neg (by omega)]; exact e
theorem vals_eq {P P1 : PH} {b k : Int} (h : k ≠ 4 → P1 3 (4 * b + k) = P 3 (4 * b + k)) : vals P1 b k = vals P b k := by
  unfold vals
  by_cases e : k = 4
  · rw [if_pos e, if_pos e]
  · rw [if_neg e, if_neg e]; exact h e
/-- what is known of the choices before the first stamp -/
def MVw (P : PH) : Prop := ∀ k : Int, 0 ≤ P 49 k ∧ P 49 k / 8 ≤ P 0 74
theorem MVw.fr {P P1 : PH} {F : FS} (h : MVw P) (hf : FrM F P P1) (hd : disF F ([74], [49]) = true) : MVw P1 := by
  unfold disF at hd
  simp only [List.all_cons, List.all_nil, Bool.and_true, Bool.true_and, Bool.and_eq_true, Bool.not_eq_true'] at hd
  unfold MVw at h ⊢
  rw [hf.1 74 hd.1, hf.2 49 rfl hd.2]
  exact h
theorem MV.w {P : PH} (h : MV P) : MVw P := fun k => ⟨(h k).1, (h k).2.1⟩
theorem MVw.next {P P1 : PH} {F : FS} (h : MVw P) (hf : FrM F P P1) (h49 : F.2.contains 49 = false) (hs : P1 0 74 = P 0 74 + 1) : MV P1 := by
  intro k
  have e := hf.2 49 rfl h49
  have h1 := h k
  rw [e, hs]
  exact ⟨h1.1, by omega, fun q => by omega⟩
end
section
/-! Contracts of the reference: m1. -/
set_option maxRecDepth 100000 in
set_option maxHeartbeats 4000000 in
theorem m_X12_is (G : GT) (P : PH) (a1 : Int) (a2 : Int) (a3 : Int) (h_a1 : (-2147483648) ≤ a1 ∧ a1 ≤ 2147483647) (h_a2 : (-2147483648) ≤ a2 ∧ a2 ≤ 2147483647) (h_a3 : (-2147483648) ≤ a3 ∧ a3 ≤ 2147483647) (hB : BdM P) (Q : Option PV → PH → Prop) (hQ : ∀ (r : Int) (_ : 0 ≤ r ∧ r ≤ 1) (_ : (r = 1 ∧ a2 ≤ a1 ∧ a1 ≤ a3) ∨ (r = 0 ∧ (a1 < a2 ∨ a3 < a1))), Q (some (vI r)) P) : Ct WSM G 1 iX12_is [vI a1, vI a2, vI a3] P Q := by
  refine Ct.of (by decide) (l0 := [(0, vI a1), (1, vI a2), (2, vI a3)]) rfl (Nat.le_of_ble_eq_true rfl) ?_
  refine g_iload_n dX12_is_0 rfl ?_
  refine g_iload_n dX12_is_1 rfl ?_
  refine g_icmp_lt (tgt := 14) dX12_is_2 (by decide) ⟨by omega, by omega⟩ ⟨by omega, by omega⟩ (fun k1 => ?_) (fun k1 => ?_)
  · refine g_iconst dX12_is_14 ?_
    exact g_retZ dX12_is_15 rfl (by decide) (hQ 0 (by decide) (by omega))
  · refine g_iload_n dX12_is_5 rfl ?_
    refine g_iload_n dX12_is_6 rfl ?_
    refine g_icmp_gt (tgt := 14) dX12_is_7 (by decide) ⟨by omega, by omega⟩ ⟨by omega, by omega⟩ (fun k2 => ?_) (fun k2 => ?_)
    · refine g_iconst dX12_is_14 ?_
      exact g_retZ dX12_is_15 rfl (by decide) (hQ 0 (by decide) (by omega))
    · refine g_iconst dX12_is_10 ?_
      refine g_goto (tgt := 15) dX12_is_11 (by decide) ?_
      exact g_retZ dX12_is_15 rfl (by decide) (hQ 1 (by decide) (by omega))
set_option maxRecDepth 100000 in
set_option maxHeartbeats 4000000 in
theorem m_X12_blame (G : GT) (P : PH) (a1 : Int) (a2 : Int) (h_a1 : 0 ≤ a1 ∧ a1 ≤ 6) (h_a2 : (-1) ≤ a2 ∧ a2 ≤ 1600) (hB : BdM P) (Q : Option PV → PH → Prop) (hQ : ∀ (P1 : PH) (_ : BdM P1) (_ : FrM ([8, 9], []) P P1) (_ : 0 < P1 0 8 ∨ a1 ≤ 0) (_ : P 0 8 ≤ 0 ∨ 0 < P1 0 8), Q none P1) : Ct WSM G 1 iX12_blame [vR 0, vI a1, vI a2] P Q := by
  refine Ct.of (by decide) (l0 := [(0, vR 0), (1, vI a1), (2, vI a2)]) rfl (Nat.le_of_ble_eq_true rfl) ?_
  refine g_aload_n dX12_blame_0 rfl ?_
  refine m_g8 (z := (P 0 8)) rfl dX12_blame_1 rfl ?_
  have f1 := b0_8 hB
  refine g_if_le (tgt := 8) dX12_blame_4 (by decide) ⟨by have q0 := b0_8 hB; omega, by have q0 := b0_8 hB; omega⟩ (fun k2 => ?_) (fun k2 => ?_)
  · refine g_aload_n dX12_blame_8 rfl ?_
    refine g_iload_n dX12_blame_9 rfl ?_
    refine m_p8 rfl dX12_blame_10 ?_
    have hB3 := bs_8 (z := a1) hB ⟨by omega, by omega⟩
    refine g_aload_n dX12_blame_13 rfl ?_
    refine g_iload_n dX12_blame_14 rfl ?_
    refine m_p9 rfl dX12_blame_15 ?_
    have hB4 := bs_9 (z := a2) hB3 ⟨by omega, by omega⟩
    exact g_retV dX12_blame_18 rfl (hQ _ hB4 (FrM.s (FrM.s FrM.rf rfl) rfl) (by have q0 := (((up_k (by decide)).trans up_same) : (up (up P 0 8 a1) 0 9 a2) 0 8 = a1); omega) (by have q0 := (((up_k (by decide)).trans up_same) : (up (up P 0 8 a1) 0 9 a2) 0 8 = a1); omega))
  · exact g_retV dX12_blame_7 rfl (hQ _ hB FrM.rf (by have q0 := b0_8 hB; omega) (by have q0 := b0_8 hB; omega))
set_option maxRecDepth 100000 in
set_option maxHeartbeats 4000000 in
theorem m_X12_isLetter (G : GT) (P : PH) (a1 : Int) (h_a1 : (-2147483648) ≤ a1 ∧ a1 ≤ 2147483647) (hB : BdM P) (Q : Option PV → PH → Prop) (hQ : ∀ (r : Int) (_ : 0 ≤ r ∧ r ≤ 1) (_ : r = 1 ↔ 97 ≤ a1 ∧ a1 ≤ 122), Q (some (vI r)) P) : Ct WSM G 1 iX12_isLetter [vI a1] P Q := by
  refine Ct.of (by decide) (l0 := [(0, vI a1)]) rfl (Nat.le_of_ble_eq_true rfl) ?_
  refine g_iload_n dX12_isLetter_0 rfl ?_
  refine g_bipush dX12_isLetter_1 (by decide) ?_
  refine g_icmp_lt (tgt := 16) dX12_isLetter_3 (by decide) ⟨by omega, by omega⟩ (by decide) (fun k1 => ?_) (fun k1 => ?_)
  · refine g_iconst dX12_isLetter_16 ?_
    exact g_retZ dX12_isLetter_17 rfl (by decide) (hQ 0 (by decide) (by omega))
  · refine g_iload_n dX12_isLetter_6 rfl ?_
    refine g_bipush dX12_isLetter_7 (by decide) ?_
    refine g_icmp_gt (tgt := 16) dX12_isLetter_9 (by decide) ⟨by omega, by omega⟩ (by decide) (fun k2 => ?_) (fun k2 => ?_)
    · refine g_iconst dX12_isLetter_16 ?_
      exact g_retZ dX12_isLetter_17 rfl (by decide) (hQ 0 (by decide) (by omega))
    · refine g_iconst dX12_isLetter_12 ?_
      refine g_goto (tgt := 17) dX12_isLetter_13 (by decide) ?_
      exact g_retZ dX12_isLetter_17 rfl (by decide) (hQ 1 (by decide) (by omega))
set_option maxRecDepth 100000 in
set_option maxHeartbeats 4000000 in
theorem m_X12_isDigit (G : GT) (P : PH) (a1 : Int) (h_a1 : (-2147483648) ≤ a1 ∧ a1 ≤ 2147483647) (hB : BdM P) (Q : Option PV → PH → Prop) (hQ : ∀ (r : Int) (_ : 0 ≤ r ∧ r ≤ 1) (_ : r = 1 ↔ 48 ≤ a1 ∧ a1 ≤ 57), Q (some (vI r)) P) : Ct WSM G 1 iX12_isDigit [vI a1] P Q := by
  refine Ct.of (by decide) (l0 := [(0, vI a1)]) rfl (Nat.le_of_ble_eq_true rfl) ?_
  refine g_iload_n dX12_isDigit_0 rfl ?_
  refine g_bipush dX12_isDigit_1 (by decide) ?_
  refine g_icmp_lt (tgt := 16) dX12_isDigit_3 (by decide) ⟨by omega, by omega⟩ (by decide) (fun k1 => ?_) (fun k1 => ?_)
  · refine g_iconst dX12_isDigit_16 ?_
    exact g_retZ dX12_isDigit_17 rfl (by decide) (hQ 0 (by decide) (by omega))
  · refine g_iload_n dX12_isDigit_6 rfl ?_
    refine g_bipush dX12_isDigit_7 (by decide) ?_
    refine g_icmp_gt (tgt := 16) dX12_isDigit_9 (by decide) ⟨by omega, by omega⟩ (by decide) (fun k2 => ?_) (fun k2 => ?_)
    · refine g_iconst dX12_isDigit_16 ?_
      exact g_retZ dX12_isDigit_17 rfl (by decide) (hQ 0 (by decide) (by omega))
    · refine g_iconst dX12_isDigit_12 ?_
      refine g_goto (tgt := 17) dX12_isDigit_13 (by decide) ?_
      exact g_retZ dX12_isDigit_17 rfl (by decide) (hQ 1 (by decide) (by omega))
set_option maxRecDepth 100000 in
set_option maxHeartbeats 4000000 in
theorem m_X12_lex (G : GT) (P : PH) (hB : BdM P) (Q : Option PV → PH → Prop) (hQ : ∀ (P1 : PH) (_ : BdM P1) (_ : FrM ([8, 9], []) P P1) (_ : P 0 8 ≤ 0 ∨ 0 < P1 0 8), Q none P1) : Ct WSM G 2 iX12_lex [vR 0] P Q := by
  refine Ct.of (by decide) (l0 := [(0, vR 0)]) rfl (Nat.le_of_ble_eq_true rfl) ?_
  refine g_aload_n dX12_lex_0 rfl ?_
  refine m_g12 (z := (P 0 12)) rfl dX12_lex_1 rfl ?_
  refine g_iconst dX12_lex_4 ?_
  have f1 := b0_12 hB
  refine g_icmp_eq (tgt := 17) dX12_lex_5 (by decide) ⟨by have q0 := b0_12 hB; omega, by have q0 := b0_12 hB; omega⟩ (by decide) (fun k2 => ?_) (fun k2 => ?_)
  · exact g_retV dX12_lex_17 rfl (hQ _ hB FrM.rf (by have q0 := b0_8 hB; omega))
  · refine g_aload_n dX12_lex_8 rfl ?_
    refine g_iconst dX12_lex_9 ?_
    refine g_aload_n dX12_lex_10 rfl ?_
    refine m_g12 (z := (P 0 12)) rfl dX12_lex_11 rfl ?_
    refine g_vV (av := [vI 1, vI (P 0 12)]) (o := 0) (st := []) (m_X12_blame G P 1 (P 0 12) (by decide) ⟨by have q0 := b0_12 hB; omega, by have q0 := b0_12 hB; omega⟩ hB  _ (fun Pc3 hBc3 hFc3 gc3_f gc3_pe => ⟨rfl, ?_⟩)) cf_X12_blame t_1701 rfl (by decide) rfl rfl rfl (Nat.le_of_ble_eq_true rfl) (by decide) rfl dX12_lex_14
    exact g_retV dX12_lex_17 rfl (hQ _ hBc3 (FrM.c FrM.rf hFc3 rfl) (by have q0 := b0_8 hBc3; omega))
set_option maxRecDepth 100000 in
set_option maxHeartbeats 4000000 in
theorem m_X12_isSign (G : GT) (P : PH) (a1 : Int) (h_a1 : (-2147483648) ≤ a1 ∧ a1 ≤ 2147483647) (hB : BdM P) (Q : Option PV → PH → Prop) (hQ : ∀ (r : Int) (_ : 0 ≤ r ∧ r ≤ 1) (_ : r = 0 ∨ (P 0 3 = 3 ∧ P 0 6 = a1)), Q (some (vI r)) P) : Ct WSM G 1 iX12_isSign [vR 0, vI a1] P Q := by
  refine Ct.of (by decide) (l0 := [(0, vR 0), (1, vI a1)]) rfl (Nat.le_of_ble_eq_true rfl) ?_
  refine g_aload_n dX12_isSign_0 rfl ?_
  refine m_g3 (z := (P 0 3)) rfl dX12_isSign_1 rfl ?_
  refine g_iconst dX12_isSign_4 ?_
  have f1 := b0_3 hB
  refine g_icmp_ne (tgt := 20) dX12_isSign_5 (by decide) ⟨by have q0 := b0_3 hB; omega, by have q0 := b0_3 hB; omega⟩ (by decide) (fun k2 => ?_) (fun k2 => ?_)
  · refine g_iconst dX12_isSign_20 ?_
    exact g_retZ dX12_isSign_21 rfl (by decide) (hQ 0 (by decide) (by have q0 := b0_3 hB; have q1 := b0_6 hB; omega))
  · refine g_aload_n dX12_isSign_8 rfl ?_
    refine m_g6 (z := (P 0 6)) rfl dX12_isSign_9 rfl ?_
    refine g_iload_n dX12_isSign_12 rfl ?_
    have f3 := b0_6 hB
    refine g_icmp_ne (tgt := 20) dX12_isSign_13 (by decide) ⟨by have q0 := b0_6 hB; omega, by have q0 := b0_6 hB; omega⟩ ⟨by omega, by omega⟩ (fun k4 => ?_) (fun k4 => ?_)
    · refine g_iconst dX12_isSign_20 ?_
      exact g_retZ dX12_isSign_21 rfl (by decide) (hQ 0 (by decide) (by have q0 := b0_3 hB; have q1 := b0_6 hB; omega))
    · refine g_iconst dX12_isSign_16 ?_
      refine g_goto (tgt := 21) dX12_isSign_17 (by decide) ?_
      exact g_retZ dX12_isSign_21 rfl (by decide) (hQ 1 (by decide) (by have q0 := b0_3 hB; have q1 := b0_6 hB; omega))
set_option maxRecDepth 100000 in
set_option maxHeartbeats 4000000 in
theorem m_X12_columns (G : GT) (P : PH) (hB : BdM P) (Q : Option PV → PH → Prop) (hQ : ∀ (r : Int) (_ : 0 ≤ r ∧ r ≤ 4) (_ : r = P 11 (P 0 13)), Q (some (vI r)) P) : Ct WSM G 1 iX12_columns [vR 0] P Q := by
  refine Ct.of (by decide) (l0 := [(0, vR 0)]) rfl (Nat.le_of_ble_eq_true rfl) ?_
  refine g_aload_n dX12_columns_0 rfl ?_
  refine m_g23 rfl dX12_columns_1 ?_
  refine g_aload_n dX12_columns_4 rfl ?_
  refine m_g13 (z := (P 0 13)) rfl dX12_columns_5 rfl ?_
  refine m_l11 (z := (P 11 (P 0 13))) dX12_columns_8 ⟨by have q0 := b0_13 hB; omega, by have q0 := b0_13 hB; omega⟩ rfl ?_
  exact g_retI dX12_columns_9 rfl (hQ (P 11 (P 0 13)) ⟨by have q0 := bl_11 (k := (P 0 13)) hB; omega, by have q0 := bl_11 (k := (P 0 13)) hB; omega⟩ (by have q0 := bl_11 (k := (P 0 13)) hB; omega))
set_option maxRecDepth 100000 in
set_option maxHeartbeats 4000000 in
theorem m_X12_valuesOf (G : GT) (P : PH) (a1 : Int) (a2 : Int) (h_a1 : 0 ≤ a1 ∧ a1 ≤ 1) (h_a2 : 0 ≤ a2 ∧ a2 ≤ 4) (hB : BdM P) (Q : Option PV → PH → Prop) (hQ : ∀ (r : Int) (_ : 0 ≤ r ∧ r ≤ 2006) (_ : (a2 = 4 ∧ r = 20) ∨ (a2 < 4 ∧ r = P 3 ((4 * a1) + a2))), Q (some (vI r)) P) : Ct WSM G 1 iX12_valuesOf [vR 0, vI a1, vI a2] P Q := by
  refine Ct.of (by decide) (l0 := [(0, vR 0), (1, vI a1), (2, vI a2)]) rfl (Nat.le_of_ble_eq_true rfl) ?_
  refine g_iload_n dX12_valuesOf_0 rfl ?_
  refine g_iconst dX12_valuesOf_1 ?_
  refine g_icmp_ne (tgt := 10) dX12_valuesOf_2 (by decide) ⟨by omega, by omega⟩ (by decide) (fun k1 => ?_) (fun k1 => ?_)
  · refine g_aload_n dX12_valuesOf_10 rfl ?_
    refine m_g15 rfl dX12_valuesOf_11 ?_
    refine g_iconst dX12_valuesOf_14 ?_
    refine g_iload_n dX12_valuesOf_15 rfl ?_
    refine g_imul dX12_valuesOf_16 ?_
    refine g_iload_n dX12_valuesOf_17 rfl ?_
    refine g_iadd dX12_valuesOf_18 ?_
    refine m_l3 (z := (P 3 ((4 * a1) + a2))) dX12_valuesOf_19 ⟨by omega, by omega⟩ rfl ?_
    exact g_retI dX12_valuesOf_20 rfl (hQ (P 3 ((4 * a1) + a2)) ⟨by have q0 := bl_3 (k := ((4 * a1) + a2)) hB; omega, by have q0 := bl_3 (k := ((4 * a1) + a2)) hB; omega⟩ (by have q0 := bl_3 (k := ((4 * a1) + a2)) hB; omega))
  · refine g_bipush dX12_valuesOf_5 (by decide) ?_
    refine g_goto (tgt := 20) dX12_valuesOf_7 (by decide) ?_
    exact g_retI dX12_valuesOf_20 rfl (hQ 20 (by decide) (by omega))
set_option maxRecDepth 100000 in
set_option maxHeartbeats 4000000 in
theorem m_X12_fault (G : GT) (P : PH) (a1 : Int) (h_a1 : (-2147483648) ≤ a1 ∧ a1 ≤ 2147483647) (hB : BdM P) (Q : Option PV → PH → Prop) (hQ : ∀ (r : Int) (_ : (-1) ≤ r ∧ r ≤ 1600), Q (some (vI r)) P) : Ct WSM G 1 iX12_fault [vR 0, vI a1] P Q := by
  refine Ct.of (by decide) (l0 := [(0, vR 0), (1, vI a1)]) rfl (Nat.le_of_ble_eq_true rfl) ?_
  refine g_iload_n dX12_fault_0 rfl ?_
  refine g_if_ne (tgt := 11) dX12_fault_1 (by decide) ⟨by omega, by omega⟩ (fun k1 => ?_) (fun k1 => ?_)
  · refine g_iload_n dX12_fault_11 rfl ?_
    refine g_iconst dX12_fault_12 ?_
    refine g_icmp_ne (tgt := 23) dX12_fault_13 (by decide) ⟨by omega, by omega⟩ (by decide) (fun k2 => ?_) (fun k2 => ?_)
    · refine g_iconst dX12_fault_23 ?_
      exact g_retI dX12_fault_24 rfl (hQ (-1) (by decide) )
    · refine g_aload_n dX12_fault_16 rfl ?_
      refine m_g11 (z := (P 0 11)) rfl dX12_fault_17 rfl ?_
      refine g_goto (tgt := 24) dX12_fault_20 (by decide) ?_
      exact g_retI dX12_fault_24 rfl (hQ (P 0 11) ⟨by have q0 := b0_11 hB; omega, by have q0 := b0_11 hB; omega⟩ )
  · refine g_aload_n dX12_fault_4 rfl ?_
    refine m_g10 (z := (P 0 10)) rfl dX12_fault_5 rfl ?_
    refine g_goto (tgt := 24) dX12_fault_8 (by decide) ?_
    exact g_retI dX12_fault_24 rfl (hQ (P 0 10) ⟨by have q0 := b0_10 hB; omega, by have q0 := b0_10 hB; omega⟩ )
set_option maxRecDepth 100000 in
set_option maxHeartbeats 4000000 in
theorem m_X12_refuses (G : GT) (P : PH) (a1 : Int) (h_a1 : 0 ≤ a1 ∧ a1 ≤ 5) (hB : BdM P) (Q : Option PV → PH → Prop) (hQ : ∀ (r : Int) (_ : (-1) ≤ r ∧ r ≤ (-1)) (P1 : PH) (_ : BdM P1) (_ : FrM ([], [28]) P P1), Q (some (vI r)) P1) : Ct WSM G 1 iX12_refuses [vR 0, vI a1] P Q := by
  refine Ct.of (by decide) (l0 := [(0, vR 0), (1, vI a1)]) rfl (Nat.le_of_ble_eq_true rfl) ?_
  refine g_aload_n dX12_refuses_0 rfl ?_
  refine m_g45 rfl dX12_refuses_1 ?_
  refine g_iload_n dX12_refuses_4 rfl ?_
  refine g_dup2 dX12_refuses_5 rfl rfl ?_
  refine m_l28 (z := (P 28 a1)) dX12_refuses_6 ⟨by omega, by omega⟩ rfl ?_
  refine g_iconst dX12_refuses_7 ?_
  refine g_iadd dX12_refuses_8 ?_
  refine g_norm (fun r1 h_r1 e_r1 => ?_)
  refine m_s28 dX12_refuses_9 ⟨by omega, by omega⟩ ?_
  have hB2 := ba_28 (z := r1) (k := a1) hB ⟨by omega, by omega⟩
  refine g_iconst dX12_refuses_10 ?_
  exact g_retI dX12_refuses_11 rfl (hQ (-1) (by decide) _ hB2 (FrM.a FrM.rf rfl rfl) )
set_option maxRecDepth 100000 in
set_option maxHeartbeats 4000000 in
theorem m_X12_status (G : GT) (P : PH) (a1 : Int) (h_a1 : (-2147483648) ≤ a1 ∧ a1 ≤ 2147483647) (hB : BdM P) (Q : Option PV → PH → Prop) (hQ : ∀ (r : Int) (_ : (-2147483648) ≤ r ∧ r ≤ 2147483647), Q (some (vI r)) P) : Ct WSM G 2 iX12_status [vR 0, vI a1] P Q := by
  refine Ct.of (by decide) (l0 := [(0, vR 0), (1, vI a1)]) rfl (Nat.le_of_ble_eq_true rfl) ?_
  refine g_iload_n dX12_status_0 rfl ?_
  refine g_iconst dX12_status_1 ?_
  refine g_iconst dX12_status_2 ?_
  refine g_sI (av := [vI a1, vI 0, vI 5]) (st := []) (m_X12_is G P a1 0 5 ⟨by omega, by omega⟩ (by decide) (by decide) hB  _ (fun rc1 hc1 gc1_is => ⟨rc1, rfl, ?_⟩)) cf_X12_is t_1800 rfl (Nat.le_of_ble_eq_true rfl) (by decide) rfl dX12_status_3
  refine g_if_eq (tgt := 18) dX12_status_6 (by decide) ⟨by omega, by omega⟩ (fun k2 => ?_) (fun k2 => ?_)
  · refine g_iconst dX12_status_18 ?_
    exact g_retI dX12_status_19 rfl (hQ (-1) (by decide) )
  · refine g_aload_n dX12_status_9 rfl ?_
    refine m_g45 rfl dX12_status_10 ?_
    refine g_iload_n dX12_status_13 rfl ?_
    refine m_l28 (z := (P 28 a1)) dX12_status_14 ⟨by omega, by omega⟩ rfl ?_
    refine g_goto (tgt := 19) dX12_status_15 (by decide) ?_
    exact g_retI dX12_status_19 rfl (hQ (P 28 a1) ⟨by have q0 := bl_28 (k := a1) hB; omega, by have q0 := bl_28 (k := a1) hB; omega⟩ )
end
section
/-! Contracts of the reference: m2. -/
set_option maxRecDepth 100000 in
set_option maxHeartbeats 4000000 in
theorem m_X12_ahead (G : GT) (P : PH) (hB : BdM P) (Q : Option PV → PH → Prop) (hQ : ∀ (P1 : PH) (_ : BdM P1) (_ : FrM ([3, 4, 5, 6, 7, 12], []) P P1) (_ : (P1 0 3 = 0 ∨ P1 0 4 + 1 ≤ P1 0 5) ∧ P1 0 4 ≤ P1 0 5) (_ : P 0 5 ≤ P1 0 4), Q none P1) : Ct WSM G 2 iX12_ahead [vR 0] P Q := by
  refine Ct.of (by decide) (l0 := [(0, vR 0)]) rfl (Nat.le_of_ble_eq_true rfl) ?_
  refine g_aload_n dX12_ahead_0 rfl ?_
  refine m_g5 (z := (P 0 5)) rfl dX12_ahead_1 rfl ?_
  refine g_istore_n (l1 := [(1, vI (P 0 5)), (0, vR 0)]) dX12_ahead_4 (by decide) rfl ?_
  have L5_0 : ∀ (n5_0 : Nat) (x5_1_0 : Int) (h_x5_1_0 : 0 ≤ x5_1_0 ∧ x5_1_0 ≤ 1600) (i5_0_0 : P 0 5 ≤ x5_1_0) (hm5_0 : ((1601 - x5_1_0) : Int).toNat < n5_0), Go WSM G 2 iX12_ahead 5 [(0, vR 0), (1, vI x5_1_0)] [] P Q := by
    intro n5_0
    induction n5_0 with
    | zero => intro x5_1_0 h_x5_1_0 i5_0_0 hm5_0; exact absurd hm5_0 (Nat.not_lt_zero _)
    | succ n5_0 ih5_0 =>
    intro x5_1_0 h_x5_1_0 i5_0_0 hm5_0
    refine g_iload_n dX12_ahead_5 rfl ?_
    refine g_aload_n dX12_ahead_6 rfl ?_
    refine m_g2 (z := (P 0 2)) rfl dX12_ahead_7 rfl ?_
    have f60939 := b0_2 hB
    have J41_68555 : ∀ (i41_0_68555 : P 0 5 ≤ x5_1_0), Go WSM G 2 iX12_ahead 41 [(0, vR 0), (1, vI x5_1_0)] [] P Q := by
      intro i41_0_68555
      refine g_aload_n dX12_ahead_41 rfl ?_
      refine g_iload_n dX12_ahead_42 rfl ?_
      refine m_p4 rfl dX12_ahead_43 ?_
      have hB68557 := bs_4 (z := x5_1_0) hB ⟨by omega, by omega⟩
      refine g_aload_n dX12_ahead_46 rfl ?_
      refine g_iload_n dX12_ahead_47 rfl ?_
      refine m_p5 rfl dX12_ahead_48 ?_
      have hB68558 := bs_5 (z := x5_1_0) hB68557 ⟨by omega, by omega⟩
      refine g_aload_n dX12_ahead_51 rfl ?_
      refine g_iconst dX12_ahead_52 ?_
      refine m_p3 rfl dX12_ahead_53 ?_
      have hB68559 := bs_3 (z := 0) hB68558 (by decide)
      refine g_aload_n dX12_ahead_56 rfl ?_
      refine g_iconst dX12_ahead_57 ?_
      refine m_p12 rfl dX12_ahead_58 ?_
      have hB68560 := bs_12 (z := (-1)) hB68559 (by decide)
      refine g_iload_n dX12_ahead_61 rfl ?_
      refine g_aload_n dX12_ahead_62 rfl ?_
      refine m_g2 (z := (P 0 2)) rfl dX12_ahead_63 ((up_k (by decide)).trans ((up_k (by decide)).trans ((up_k (by decide)).trans ((up_k (by decide)).trans rfl)))) ?_
      refine g_icmp_lt (tgt := 70) dX12_ahead_66 (by decide) ⟨by omega, by omega⟩ ⟨by have q0 := b0_2 hB; omega, by have q0 := b0_2 hB; omega⟩ (fun k68561 => ?_) (fun k68561 => ?_)
      · refine g_aload_n dX12_ahead_70 rfl ?_
        refine m_g0 rfl dX12_ahead_71 ?_
        refine g_iload_n dX12_ahead_74 rfl ?_
        refine m_l1 (z := (P 1 x5_1_0)) dX12_ahead_75 ⟨by omega, by omega⟩ ((up_o (by decide)).trans ((up_o (by decide)).trans ((up_o (by decide)).trans ((up_o (by decide)).trans rfl)))) ?_
        have f68562 := bl_1 (k := x5_1_0) hB
        refine g_sI (av := [vI (P 1 x5_1_0)]) (st := []) (m_X12_isLetter G (up (up (up (up P 0 4 x5_1_0) 0 5 x5_1_0) 0 3 0) 0 12 (-1)) (P 1 x5_1_0) ⟨by have q0 := bl_1 (k := x5_1_0) hB; omega, by have q0 := bl_1 (k := x5_1_0) hB; omega⟩ hB68560  _ (fun rc68563 hc68563 gc68563_i => ⟨rc68563, rfl, ?_⟩)) cf_X12_isLetter t_1687 rfl (Nat.le_of_ble_eq_true rfl) (by decide) rfl dX12_ahead_76
        refine g_istore_n (l1 := [(2, vI rc68563), (0, vR 0), (1, vI x5_1_0)]) dX12_ahead_79 (by decide) rfl ?_
        refine g_aload_n dX12_ahead_80 rfl ?_
        refine m_g0 rfl dX12_ahead_81 ?_
        refine g_iload_n dX12_ahead_84 rfl ?_
        refine m_l1 (z := (P 1 x5_1_0)) dX12_ahead_85 ⟨by omega, by omega⟩ ((up_o (by decide)).trans ((up_o (by decide)).trans ((up_o (by decide)).trans ((up_o (by decide)).trans rfl)))) ?_
        refine g_sI (av := [vI (P 1 x5_1_0)]) (st := []) (m_X12_isDigit G (up (up (up (up P 0 4 x5_1_0) 0 5 x5_1_0) 0 3 0) 0 12 (-1)) (P 1 x5_1_0) ⟨by have q0 := bl_1 (k := x5_1_0) hB; omega, by have q0 := bl_1 (k := x5_1_0) hB; omega⟩ hB68560  _ (fun rc68564 hc68564 gc68564_i => ⟨rc68564, rfl, ?_⟩)) cf_X12_isDigit t_1690 rfl (Nat.le_of_ble_eq_true rfl) (by decide) rfl dX12_ahead_86
        refine g_istore_n (l1 := [(3, vI rc68564), (2, vI rc68563), (0, vR 0), (1, vI x5_1_0)]) dX12_ahead_89 (by decide) rfl ?_
        refine g_iload_n dX12_ahead_90 rfl ?_
        have J135_72364 : ∀ (H135_72364 : PH) (hB135_72364 : BdM H135_72364) (hE135_72364 : FrM ([12], []) (up (up (up (up P 0 4 x5_1_0) 0 5 x5_1_0) 0 3 0) 0 12 (-1)) H135_72364), Go WSM G 2 iX12_ahead 135 [(0, vR 0), (1, vI x5_1_0), (2, vI rc68563), (3, vI rc68564)] [] H135_72364 Q := by
          intro H135_72364 hB135_72364 hE135_72364
          refine g_aload_n dX12_ahead_135 rfl ?_
          refine g_iconst dX12_ahead_136 ?_
          refine m_p6 rfl dX12_ahead_137 ?_
          have hB72366 := bs_6 (z := 0) hB135_72364 (by decide)
          refine g_aload_n dX12_ahead_140 rfl ?_
          refine g_lconst (z := 0) dX12_ahead_141 (by decide) ?_
          refine m_p7 rfl dX12_ahead_142 ?_
          have hB72367 := bs_7 (z := 0) hB72366 (by decide)
          refine g_aload_n dX12_ahead_145 rfl ?_
          refine g_iconst dX12_ahead_146 ?_
          refine m_p3 rfl dX12_ahead_147 ?_
          have hB72368 := bs_3 (z := 3) hB72367 (by decide)
          refine g_aload_n dX12_ahead_150 rfl ?_
          refine g_iload_n dX12_ahead_151 rfl ?_
          refine g_iconst dX12_ahead_152 ?_
          refine g_iadd dX12_ahead_153 ?_
          refine m_p5 rfl dX12_ahead_154 ?_
          have hB72369 := bs_5 (z := (x5_1_0 + 1)) hB72368 ⟨by omega, by omega⟩
          refine g_iload_n dX12_ahead_157 rfl ?_
          have J176_74259 : ∀ (i176_0_74259 : rc68563 ≠ 0 ∨ rc68564 ≠ 0), Go WSM G 2 iX12_ahead 176 [(0, vR 0), (1, vI x5_1_0), (2, vI rc68563), (3, vI rc68564)] [] (up (up (up (up H135_72364 0 6 0) 0 7 0) 0 3 3) 0 5 (x5_1_0 + 1)) Q := by
            intro i176_0_74259
            refine g_aload_n dX12_ahead_176 rfl ?_
            refine g_iload_n dX12_ahead_177 rfl ?_
            refine g_if_eq (tgt := 185) dX12_ahead_178 (by decide) ⟨by omega, by omega⟩ (fun k74261 => ?_) (fun k74261 => ?_)
            · refine g_iconst dX12_ahead_185 ?_
              refine m_p3 rfl dX12_ahead_186 ?_
              have hB74262 := bs_3 (z := 2) hB72369 (by decide)
              refine g_iload_n dX12_ahead_189 rfl ?_
              refine g_if_eq (tgt := 198) dX12_ahead_190 (by decide) ⟨by omega, by omega⟩ (fun k74263 => ?_) (fun k74263 => by exfalso; omega)
              refine g_iconst dX12_ahead_198 ?_
              refine g_istore (l1 := [(4, vI 4), (0, vR 0), (1, vI x5_1_0), (2, vI rc68563), (3, vI rc68564)]) dX12_ahead_199 (by decide) rfl ?_
              refine g_iconst dX12_ahead_201 ?_
              refine g_istore (l1 := [(5, vI 0), (4, vI 4), (0, vR 0), (1, vI x5_1_0), (2, vI rc68563), (3, vI rc68564)]) dX12_ahead_202 (by decide) rfl ?_
              have L204_74263 : ∀ (n204_74263 : Nat) (x204_5_74263 : Int) (h_x204_5_74263 : 0 ≤ x204_5_74263 ∧ x204_5_74263 ≤ 1600) (x204_1_74263 : Int) (h_x204_1_74263 : 0 ≤ x204_1_74263 ∧ x204_1_74263 ≤ 1600) (H204_74263 : PH) (hB204_74263 : BdM H204_74263) (hE204_74263 : FrM ([6, 12], []) (up (up (up (up (up H135_72364 0 6 0) 0 7 0) 0 3 3) 0 5 (x5_1_0 + 1)) 0 3 2) H204_74263) (i204_0_74263 : x5_1_0 ≤ x204_1_74263) (i204_1_74263 : x204_5_74263 ≤ x204_1_74263) (hm204_74263 : ((1601 - x204_5_74263) : Int).toNat < n204_74263), Go WSM G 2 iX12_ahead 204 [(0, vR 0), (1, vI x204_1_74263), (2, vI rc68563), (3, vI rc68564), (4, vI 4), (5, vI x204_5_74263)] [] H204_74263 Q := by
                intro n204_74263
                induction n204_74263 with
                | zero => intro x204_5_74263 h_x204_5_74263 x204_1_74263 h_x204_1_74263 H204_74263 hB204_74263 hE204_74263 i204_0_74263 i204_1_74263 hm204_74263; exact absurd hm204_74263 (Nat.not_lt_zero _)
                | succ n204_74263 ih204_74263 =>
                intro x204_5_74263 h_x204_5_74263 x204_1_74263 h_x204_1_74263 H204_74263 hB204_74263 hE204_74263 i204_0_74263 i204_1_74263 hm204_74263
                refine g_iload_n dX12_ahead_204 rfl ?_
                refine g_aload_n dX12_ahead_205 rfl ?_
                refine m_g2 (z := (P 0 2)) rfl dX12_ahead_206 ((hE204_74263.1 2 rfl).trans ((up_k (by decide)).trans ((up_k (by decide)).trans ((up_k (by decide)).trans ((up_k (by decide)).trans ((up_k (by decide)).trans ((hE135_72364.1 2 rfl).trans ((up_k (by decide)).trans ((up_k (by decide)).trans ((up_k (by decide)).trans ((up_k (by decide)).trans rfl))))))))))) ?_
                refine g_icmp_ge (tgt := 334) dX12_ahead_209 (by decide) ⟨by omega, by omega⟩ ⟨by have q0 := b0_2 hB; omega, by have q0 := b0_2 hB; omega⟩ (fun k74978 => ?_) (fun k74978 => ?_)
                · have hne : x204_1_74263 ≠ x5_1_0 := by intro e; subst e; omega
                  refine g_aload_n dX12_ahead_334 rfl ?_
                  refine g_iload_n dX12_ahead_335 rfl ?_
                  refine m_p5 rfl dX12_ahead_336 ?_
                  have hB74979 := bs_5 (z := x204_1_74263) hB204_74263 ⟨by omega, by omega⟩
                  exact g_retV dX12_ahead_339 rfl (hQ _ hB74979 (FrM.s (FrM.c (FrM.s (FrM.s (FrM.s (FrM.s (FrM.s (FrM.c (FrM.s (FrM.s (FrM.s (FrM.s FrM.rf rfl) rfl) rfl) rfl) hE135_72364 rfl) rfl) rfl) rfl) rfl) rfl) hE204_74263 rfl) rfl) (by have q0 := (((up_k (by decide)).trans ((hE204_74263.1 3 rfl).trans up_same)) : (up H204_74263 0 5 x204_1_74263) 0 3 = 2); have q1 := (((up_k (by decide)).trans ((hE204_74263.1 4 rfl).trans ((up_k (by decide)).trans ((up_k (by decide)).trans ((up_k (by decide)).trans ((up_k (by decide)).trans ((up_k (by decide)).trans ((hE135_72364.1 4 rfl).trans ((up_k (by decide)).trans ((up_k (by decide)).trans ((up_k (by decide)).trans up_same))))))))))) : (up H204_74263 0 5 x204_1_74263) 0 4 = x5_1_0); have q2 := (up_same : (up H204_74263 0 5 x204_1_74263) 0 5 = x204_1_74263); omega) (by have q0 := (up_same : (up H204_74263 0 5 x204_1_74263) 0 5 = x204_1_74263); have q1 := (((up_k (by decide)).trans ((hE204_74263.1 4 rfl).trans ((up_k (by decide)).trans ((up_k (by decide)).trans ((up_k (by decide)).trans ((up_k (by decide)).trans ((up_k (by decide)).trans ((hE135_72364.1 4 rfl).trans ((up_k (by decide)).trans ((up_k (by decide)).trans ((up_k (by decide)).trans up_same))))))))))) : (up H204_74263 0 5 x204_1_74263) 0 4 = x5_1_0); omega))
                · refine g_iload_n dX12_ahead_212 rfl ?_
                  have J243_75055 : ∀ (_ : True), Go WSM G 2 iX12_ahead 243 [(0, vR 0), (1, vI x204_1_74263), (2, vI rc68563), (3, vI rc68564), (4, vI 4), (5, vI x204_5_74263)] [] H204_74263 Q := by
                    intro _
                    refine g_iload dX12_ahead_243 rfl ?_
                    refine g_iload dX12_ahead_245 rfl ?_
                    have J263_75091 : ∀ (H263_75091 : PH) (hB263_75091 : BdM H263_75091) (hE263_75091 : FrM ([12], []) H204_74263 H263_75091), Go WSM G 2 iX12_ahead 263 [(0, vR 0), (1, vI x204_1_74263), (2, vI rc68563), (3, vI rc68564), (4, vI 4), (5, vI x204_5_74263)] [] H263_75091 Q := by
                      intro H263_75091 hB263_75091 hE263_75091
                      refine g_iload dX12_ahead_263 rfl ?_
                      refine g_iload dX12_ahead_265 rfl ?_
                      have J293_75107 : ∀ (_ : True), Go WSM G 2 iX12_ahead 293 [(0, vR 0), (1, vI x204_1_74263), (2, vI rc68563), (3, vI rc68564), (4, vI 4), (5, vI x204_5_74263)] [] H263_75091 Q := by
                        intro _
                        refine g_iload dX12_ahead_293 rfl ?_
                        refine g_iload dX12_ahead_295 rfl ?_
                        have J325_75114 : ∀ (H325_75114 : PH) (hB325_75114 : BdM H325_75114) (hE325_75114 : FrM ([6], []) H263_75091 H325_75114), Go WSM G 2 iX12_ahead 325 [(0, vR 0), (1, vI x204_1_74263), (2, vI rc68563), (3, vI rc68564), (4, vI 4), (5, vI x204_5_74263)] [] H325_75114 Q := by
                          intro H325_75114 hB325_75114 hE325_75114
                          refine g_iinc (l1 := [(5, vI (x204_5_74263 + 1)), (0, vR 0), (1, vI x204_1_74263), (2, vI rc68563), (3, vI rc68564), (4, vI 4)]) dX12_ahead_325 rfl (by decide) rfl ?_
                          refine g_iinc (l1 := [(1, vI (x204_1_74263 + 1)), (5, vI (x204_5_74263 + 1)), (0, vR 0), (2, vI rc68563), (3, vI rc68564), (4, vI 4)]) dX12_ahead_328 rfl (by decide) rfl ?_
                          refine g_goto (tgt := 204) dX12_ahead_331 (by decide) ?_
                          refine g_forget (l1 := [(0, vR 0), (1, vI (x204_1_74263 + 1)), (2, vI rc68563), (3, vI rc68564), (4, vI 4), (5, vI (x204_5_74263 + 1))]) (by intro q hq; simp only [List.mem_cons, List.not_mem_nil, or_false] at hq ⊢; rcases hq with rfl | rfl | rfl | rfl | rfl | rfl <;> simp) ?_
                          exact ih204_74263 (x204_5_74263 + 1) ⟨by have q0 := b0_2 hB; omega, by have q0 := b0_2 hB; omega⟩ (x204_1_74263 + 1) ⟨by have q0 := b0_2 hB; omega, by have q0 := b0_2 hB; omega⟩ _ hB325_75114 (FrM.c (FrM.c (FrM.c FrM.rf hE204_74263 rfl) hE263_75091 rfl) hE325_75114 rfl) (by omega) (by omega) (by omega)
                        refine g_icmp_ge (tgt := 325) dX12_ahead_297 (by decide) ⟨by omega, by omega⟩ (by decide) (fun k75116 => ?_) (fun k75116 => ?_)
                        · refine g_forget (l1 := [(0, vR 0), (1, vI x204_1_74263), (2, vI rc68563), (3, vI rc68564), (4, vI 4), (5, vI x204_5_74263)]) (by intro q hq; simp only [List.mem_cons, List.not_mem_nil, or_false] at hq ⊢; rcases hq with rfl | rfl | rfl | rfl | rfl | rfl <;> simp) ?_
                          exact J325_75114 _ hB263_75091 FrM.rf
                        · refine g_iload_n dX12_ahead_300 rfl ?_
                          refine g_if_eq (tgt := 325) dX12_ahead_301 (by decide) ⟨by omega, by omega⟩ (fun k75117 => ?_) (fun k75117 => ?_)
                          · refine g_forget (l1 := [(0, vR 0), (1, vI x204_1_74263), (2, vI rc68563), (3, vI rc68564), (4, vI 4), (5, vI x204_5_74263)]) (by intro q hq; simp only [List.mem_cons, List.not_mem_nil, or_false] at hq ⊢; rcases hq with rfl | rfl | rfl | rfl | rfl | rfl <;> simp) ?_
                            exact J325_75114 _ hB263_75091 FrM.rf
                          · refine g_aload_n dX12_ahead_304 rfl ?_
                            refine g_bipush dX12_ahead_305 (by decide) ?_
                            refine g_aload_n dX12_ahead_307 rfl ?_
                            refine m_g6 (z := (H204_74263 0 6)) rfl dX12_ahead_308 ((hE263_75091.1 6 rfl).trans rfl) ?_
                            refine g_imul dX12_ahead_311 ?_
                            refine g_norm (fun r75118 h_r75118 e_r75118 => ?_)
                            refine g_aload_n dX12_ahead_312 rfl ?_
                            refine m_g0 rfl dX12_ahead_313 ?_
                            refine g_iload_n dX12_ahead_316 rfl ?_
                            refine m_l1 (z := (P 1 x204_1_74263)) dX12_ahead_317 ⟨by omega, by omega⟩ ((congrFun (hE263_75091.2 1 rfl rfl) _).trans ((congrFun (hE204_74263.2 1 rfl rfl) _).trans ((up_o (by decide)).trans ((up_o (by decide)).trans ((up_o (by decide)).trans ((up_o (by decide)).trans ((up_o (by decide)).trans ((congrFun (hE135_72364.2 1 rfl rfl) _).trans ((up_o (by decide)).trans ((up_o (by decide)).trans ((up_o (by decide)).trans ((up_o (by decide)).trans rfl)))))))))))) ?_
                            refine g_iadd dX12_ahead_318 ?_
                            refine g_norm (fun r75119 h_r75119 e_r75119 => ?_)
                            refine g_bipush dX12_ahead_319 (by decide) ?_
                            refine g_isub dX12_ahead_321 ?_
                            refine g_norm (fun r75120 h_r75120 e_r75120 => ?_)
                            refine m_p6 rfl dX12_ahead_322 ?_
                            have hB75121 := bs_6 (z := r75120) hB263_75091 ⟨by omega, by omega⟩
                            refine g_forget (l1 := [(0, vR 0), (1, vI x204_1_74263), (2, vI rc68563), (3, vI rc68564), (4, vI 4), (5, vI x204_5_74263)]) (by intro q hq; simp only [List.mem_cons, List.not_mem_nil, or_false] at hq ⊢; rcases hq with rfl | rfl | rfl | rfl | rfl | rfl <;> simp) ?_
                            exact J325_75114 _ hB75121 (FrM.s FrM.rf rfl)
                      refine g_icmp_ge (tgt := 293) dX12_ahead_267 (by decide) ⟨by omega, by omega⟩ (by decide) (fun k75122 => ?_) (fun k75122 => ?_)
                      · refine g_forget (l1 := [(0, vR 0), (1, vI x204_1_74263), (2, vI rc68563), (3, vI rc68564), (4, vI 4), (5, vI x204_5_74263)]) (by intro q hq; simp only [List.mem_cons, List.not_mem_nil, or_false] at hq ⊢; rcases hq with rfl | rfl | rfl | rfl | rfl | rfl <;> simp) ?_
                        exact J293_75107 trivial
                      · refine g_iload_n dX12_ahead_270 rfl ?_
                        refine g_if_eq (tgt := 293) dX12_ahead_271 (by decide) ⟨by omega, by omega⟩ (fun k75123 => ?_) (fun k75123 => by exfalso; omega)
                        refine g_forget (l1 := [(0, vR 0), (1, vI x204_1_74263), (2, vI rc68563), (3, vI rc68564), (4, vI 4), (5, vI x204_5_74263)]) (by intro q hq; simp only [List.mem_cons, List.not_mem_nil, or_false] at hq ⊢; rcases hq with rfl | rfl | rfl | rfl | rfl | rfl <;> simp) ?_
                        exact J293_75107 trivial
                    refine g_icmp_ne (tgt := 263) dX12_ahead_247 (by decide) ⟨by omega, by omega⟩ (by decide) (fun k75124 => ?_) (fun k75124 => ?_)
                    · refine g_forget (l1 := [(0, vR 0), (1, vI x204_1_74263), (2, vI rc68563), (3, vI rc68564), (4, vI 4), (5, vI x204_5_74263)]) (by intro q hq; simp only [List.mem_cons, List.not_mem_nil, or_false] at hq ⊢; rcases hq with rfl | rfl | rfl | rfl | rfl | rfl <;> simp) ?_
                      exact J263_75091 _ hB204_74263 FrM.rf
                    · refine g_aload_n dX12_ahead_250 rfl ?_
                      refine m_g12 (z := (H204_74263 0 12)) rfl dX12_ahead_251 rfl ?_
                      refine g_iconst dX12_ahead_254 ?_
                      have f75125 := b0_12 hB204_74263
                      refine g_icmp_ne (tgt := 263) dX12_ahead_255 (by decide) ⟨by have q0 := b0_12 hB204_74263; omega, by have q0 := b0_12 hB204_74263; omega⟩ (by decide) (fun k75126 => ?_) (fun k75126 => ?_)
                      · refine g_forget (l1 := [(0, vR 0), (1, vI x204_1_74263), (2, vI rc68563), (3, vI rc68564), (4, vI 4), (5, vI x204_5_74263)]) (by intro q hq; simp only [List.mem_cons, List.not_mem_nil, or_false] at hq ⊢; rcases hq with rfl | rfl | rfl | rfl | rfl | rfl <;> simp) ?_
                        exact J263_75091 _ hB204_74263 FrM.rf
                      · refine g_aload_n dX12_ahead_258 rfl ?_
                        refine g_iload_n dX12_ahead_259 rfl ?_
                        refine m_p12 rfl dX12_ahead_260 ?_
                        have hB75127 := bs_12 (z := x204_1_74263) hB204_74263 ⟨by omega, by omega⟩
                        refine g_forget (l1 := [(0, vR 0), (1, vI x204_1_74263), (2, vI rc68563), (3, vI rc68564), (4, vI 4), (5, vI x204_5_74263)]) (by intro q hq; simp only [List.mem_cons, List.not_mem_nil, or_false] at hq ⊢; rcases hq with rfl | rfl | rfl | rfl | rfl | rfl <;> simp) ?_
                        exact J263_75091 _ hB75127 (FrM.s FrM.rf rfl)
                  refine g_if_eq (tgt := 231) dX12_ahead_213 (by decide) ⟨by omega, by omega⟩ (fun k75128 => ?_) (fun k75128 => by exfalso; omega)
                  refine g_aload_n dX12_ahead_231 rfl ?_
                  refine m_g0 rfl dX12_ahead_232 ?_
                  refine g_iload_n dX12_ahead_235 rfl ?_
                  refine m_l1 (z := (P 1 x204_1_74263)) dX12_ahead_236 ⟨by omega, by omega⟩ ((congrFun (hE204_74263.2 1 rfl rfl) _).trans ((up_o (by decide)).trans ((up_o (by decide)).trans ((up_o (by decide)).trans ((up_o (by decide)).trans ((up_o (by decide)).trans ((congrFun (hE135_72364.2 1 rfl rfl) _).trans ((up_o (by decide)).trans ((up_o (by decide)).trans ((up_o (by decide)).trans ((up_o (by decide)).trans rfl))))))))))) ?_
                  have f75129 := bl_1 (k := x204_1_74263) hB
                  refine g_sI (av := [vI (P 1 x204_1_74263)]) (st := []) (m_X12_isDigit G H204_74263 (P 1 x204_1_74263) ⟨by have q0 := bl_1 (k := x204_1_74263) hB; omega, by have q0 := bl_1 (k := x204_1_74263) hB; omega⟩ hB204_74263  _ (fun rc75130 hc75130 gc75130_i => ⟨rc75130, rfl, ?_⟩)) cf_X12_isDigit t_1690 rfl (Nat.le_of_ble_eq_true rfl) (by decide) rfl dX12_ahead_237
                  refine g_if_eq (tgt := 334) dX12_ahead_240 (by decide) ⟨by omega, by omega⟩ (fun k75131 => ?_) (fun k75131 => ?_)
                  · have hne : x204_1_74263 ≠ x5_1_0 := by intro e; subst e; omega
                    refine g_aload_n dX12_ahead_334 rfl ?_
                    refine g_iload_n dX12_ahead_335 rfl ?_
                    refine m_p5 rfl dX12_ahead_336 ?_
                    have hB75132 := bs_5 (z := x204_1_74263) hB204_74263 ⟨by omega, by omega⟩
                    exact g_retV dX12_ahead_339 rfl (hQ _ hB75132 (FrM.s (FrM.c (FrM.s (FrM.s (FrM.s (FrM.s (FrM.s (FrM.c (FrM.s (FrM.s (FrM.s (FrM.s FrM.rf rfl) rfl) rfl) rfl) hE135_72364 rfl) rfl) rfl) rfl) rfl) rfl) hE204_74263 rfl) rfl) (by have q0 := (((up_k (by decide)).trans ((hE204_74263.1 3 rfl).trans up_same)) : (up H204_74263 0 5 x204_1_74263) 0 3 = 2); have q1 := (((up_k (by decide)).trans ((hE204_74263.1 4 rfl).trans ((up_k (by decide)).trans ((up_k (by decide)).trans ((up_k (by decide)).trans ((up_k (by decide)).trans ((up_k (by decide)).trans ((hE135_72364.1 4 rfl).trans ((up_k (by decide)).trans ((up_k (by decide)).trans ((up_k (by decide)).trans up_same))))))))))) : (up H204_74263 0 5 x204_1_74263) 0 4 = x5_1_0); have q2 := (up_same : (up H204_74263 0 5 x204_1_74263) 0 5 = x204_1_74263); omega) (by have q0 := (up_same : (up H204_74263 0 5 x204_1_74263) 0 5 = x204_1_74263); have q1 := (((up_k (by decide)).trans ((hE204_74263.1 4 rfl).trans ((up_k (by decide)).trans ((up_k (by decide)).trans ((up_k (by decide)).trans ((up_k (by decide)).trans ((up_k (by decide)).trans ((hE135_72364.1 4 rfl).trans ((up_k (by decide)).trans ((up_k (by decide)).trans ((up_k (by decide)).trans up_same))))))))))) : (up H204_74263 0 5 x204_1_74263) 0 4 = x5_1_0); omega))
                  · refine g_forget (l1 := [(0, vR 0), (1, vI x204_1_74263), (2, vI rc68563), (3, vI rc68564), (4, vI 4), (5, vI x204_5_74263)]) (by intro q hq; simp only [List.mem_cons, List.not_mem_nil, or_false] at hq ⊢; rcases hq with rfl | rfl | rfl | rfl | rfl | rfl <;> simp) ?_
                    exact J243_75055 trivial
              refine g_forget (l1 := [(0, vR 0), (1, vI x5_1_0), (2, vI rc68563), (3, vI rc68564), (4, vI 4), (5, vI 0)]) (by intro q hq; simp only [List.mem_cons, List.not_mem_nil, or_false] at hq ⊢; rcases hq with rfl | rfl | rfl | rfl | rfl | rfl <;> simp) ?_
              exact L204_74263 _ 0 (by decide) x5_1_0 ⟨by have q0 := b0_2 hB; omega, by have q0 := b0_2 hB; omega⟩ _ hB74262 FrM.rf (by omega) (by omega) (Nat.lt_succ_self _)
            · refine g_iconst dX12_ahead_181 ?_
              refine g_goto (tgt := 186) dX12_ahead_182 (by decide) ?_
              refine m_p3 rfl dX12_ahead_186 ?_
              have hB75133 := bs_3 (z := 1) hB72369 (by decide)
              refine g_iload_n dX12_ahead_189 rfl ?_
              refine g_if_eq (tgt := 198) dX12_ahead_190 (by decide) ⟨by omega, by omega⟩ (fun k75134 => by exfalso; omega) (fun k75134 => ?_)
              refine g_bipush dX12_ahead_193 (by decide) ?_
              refine g_goto (tgt := 199) dX12_ahead_195 (by decide) ?_
              refine g_istore (l1 := [(4, vI 6), (0, vR 0), (1, vI x5_1_0), (2, vI rc68563), (3, vI rc68564)]) dX12_ahead_199 (by decide) rfl ?_
              refine g_iconst dX12_ahead_201 ?_
              refine g_istore (l1 := [(5, vI 0), (4, vI 6), (0, vR 0), (1, vI x5_1_0), (2, vI rc68563), (3, vI rc68564)]) dX12_ahead_202 (by decide) rfl ?_
              have L204_75134 : ∀ (n204_75134 : Nat) (x204_5_75134 : Int) (h_x204_5_75134 : 0 ≤ x204_5_75134 ∧ x204_5_75134 ≤ 1600) (x204_1_75134 : Int) (h_x204_1_75134 : 0 ≤ x204_1_75134 ∧ x204_1_75134 ≤ 1600) (H204_75134 : PH) (hB204_75134 : BdM H204_75134) (hE204_75134 : FrM ([6, 7, 12], []) (up (up (up (up (up H135_72364 0 6 0) 0 7 0) 0 3 3) 0 5 (x5_1_0 + 1)) 0 3 1) H204_75134) (i204_0_75134 : x5_1_0 ≤ x204_1_75134) (i204_1_75134 : x204_5_75134 ≤ x204_1_75134) (hm204_75134 : ((1601 - x204_5_75134) : Int).toNat < n204_75134), Go WSM G 2 iX12_ahead 204 [(0, vR 0), (1, vI x204_1_75134), (2, vI rc68563), (3, vI rc68564), (4, vI 6), (5, vI x204_5_75134)] [] H204_75134 Q := by
                intro n204_75134
                induction n204_75134 with
                | zero => intro x204_5_75134 h_x204_5_75134 x204_1_75134 h_x204_1_75134 H204_75134 hB204_75134 hE204_75134 i204_0_75134 i204_1_75134 hm204_75134; exact absurd hm204_75134 (Nat.not_lt_zero _)
                | succ n204_75134 ih204_75134 =>
                intro x204_5_75134 h_x204_5_75134 x204_1_75134 h_x204_1_75134 H204_75134 hB204_75134 hE204_75134 i204_0_75134 i204_1_75134 hm204_75134
                refine g_iload_n dX12_ahead_204 rfl ?_
                refine g_aload_n dX12_ahead_205 rfl ?_
                refine m_g2 (z := (P 0 2)) rfl dX12_ahead_206 ((hE204_75134.1 2 rfl).trans ((up_k (by decide)).trans ((up_k (by decide)).trans ((up_k (by decide)).trans ((up_k (by decide)).trans ((up_k (by decide)).trans ((hE135_72364.1 2 rfl).trans ((up_k (by decide)).trans ((up_k (by decide)).trans ((up_k (by decide)).trans ((up_k (by decide)).trans rfl))))))))))) ?_
                refine g_icmp_ge (tgt := 334) dX12_ahead_209 (by decide) ⟨by omega, by omega⟩ ⟨by have q0 := b0_2 hB; omega, by have q0 := b0_2 hB; omega⟩ (fun k75969 => ?_) (fun k75969 => ?_)
                · have hne : x204_1_75134 ≠ x5_1_0 := by intro e; subst e; omega
                  refine g_aload_n dX12_ahead_334 rfl ?_
                  refine g_iload_n dX12_ahead_335 rfl ?_
                  refine m_p5 rfl dX12_ahead_336 ?_
                  have hB75970 := bs_5 (z := x204_1_75134) hB204_75134 ⟨by omega, by omega⟩
                  exact g_retV dX12_ahead_339 rfl (hQ _ hB75970 (FrM.s (FrM.c (FrM.s (FrM.s (FrM.s (FrM.s (FrM.s (FrM.c (FrM.s (FrM.s (FrM.s (FrM.s FrM.rf rfl) rfl) rfl) rfl) hE135_72364 rfl) rfl) rfl) rfl) rfl) rfl) hE204_75134 rfl) rfl) (by have q0 := (((up_k (by decide)).trans ((hE204_75134.1 3 rfl).trans up_same)) : (up H204_75134 0 5 x204_1_75134) 0 3 = 1); have q1 := (((up_k (by decide)).trans ((hE204_75134.1 4 rfl).trans ((up_k (by decide)).trans ((up_k (by decide)).trans ((up_k (by decide)).trans ((up_k (by decide)).trans ((up_k (by decide)).trans ((hE135_72364.1 4 rfl).trans ((up_k (by decide)).trans ((up_k (by decide)).trans ((up_k (by decide)).trans up_same))))))))))) : (up H204_75134 0 5 x204_1_75134) 0 4 = x5_1_0); have q2 := (up_same : (up H204_75134 0 5 x204_1_75134) 0 5 = x204_1_75134); omega) (by have q0 := (up_same : (up H204_75134 0 5 x204_1_75134) 0 5 = x204_1_75134); have q1 := (((up_k (by decide)).trans ((hE204_75134.1 4 rfl).trans ((up_k (by decide)).trans ((up_k (by decide)).trans ((up_k (by decide)).trans ((up_k (by decide)).trans ((up_k (by decide)).trans ((hE135_72364.1 4 rfl).trans ((up_k (by decide)).trans ((up_k (by decide)).trans ((up_k (by decide)).trans up_same))))))))))) : (up H204_75134 0 5 x204_1_75134) 0 4 = x5_1_0); omega))
                · refine g_iload_n dX12_ahead_212 rfl ?_
                  have J243_76058 : ∀ (_ : True), Go WSM G 2 iX12_ahead 243 [(0, vR 0), (1, vI x204_1_75134), (2, vI rc68563), (3, vI rc68564), (4, vI 6), (5, vI x204_5_75134)] [] H204_75134 Q := by
                    intro _
                    refine g_iload dX12_ahead_243 rfl ?_
                    refine g_iload dX12_ahead_245 rfl ?_
                    have J263_76100 : ∀ (H263_76100 : PH) (hB263_76100 : BdM H263_76100) (hE263_76100 : FrM ([12], []) H204_75134 H263_76100), Go WSM G 2 iX12_ahead 263 [(0, vR 0), (1, vI x204_1_75134), (2, vI rc68563), (3, vI rc68564), (4, vI 6), (5, vI x204_5_75134)] [] H263_76100 Q := by
                      intro H263_76100 hB263_76100 hE263_76100
                      refine g_iload dX12_ahead_263 rfl ?_
                      refine g_iload dX12_ahead_265 rfl ?_
                      have J293_76119 : ∀ (H293_76119 : PH) (hB293_76119 : BdM H293_76119) (hE293_76119 : FrM ([7], []) H263_76100 H293_76119), Go WSM G 2 iX12_ahead 293 [(0, vR 0), (1, vI x204_1_75134), (2, vI rc68563), (3, vI rc68564), (4, vI 6), (5, vI x204_5_75134)] [] H293_76119 Q := by
                        intro H293_76119 hB293_76119 hE293_76119
                        refine g_iload dX12_ahead_293 rfl ?_
                        refine g_iload dX12_ahead_295 rfl ?_
                        have J325_76126 : ∀ (H325_76126 : PH) (hB325_76126 : BdM H325_76126) (hE325_76126 : FrM ([6], []) H293_76119 H325_76126), Go WSM G 2 iX12_ahead 325 [(0, vR 0), (1, vI x204_1_75134), (2, vI rc68563), (3, vI rc68564), (4, vI 6), (5, vI x204_5_75134)] [] H325_76126 Q := by
                          intro H325_76126 hB325_76126 hE325_76126
                          refine g_iinc (l1 := [(5, vI (x204_5_75134 + 1)), (0, vR 0), (1, vI x204_1_75134), (2, vI rc68563), (3, vI rc68564), (4, vI 6)]) dX12_ahead_325 rfl (by decide) rfl ?_
                          refine g_iinc (l1 := [(1, vI (x204_1_75134 + 1)), (5, vI (x204_5_75134 + 1)), (0, vR 0), (2, vI rc68563), (3, vI rc68564), (4, vI 6)]) dX12_ahead_328 rfl (by decide) rfl ?_
                          refine g_goto (tgt := 204) dX12_ahead_331 (by decide) ?_
                          refine g_forget (l1 := [(0, vR 0), (1, vI (x204_1_75134 + 1)), (2, vI rc68563), (3, vI rc68564), (4, vI 6), (5, vI (x204_5_75134 + 1))]) (by intro q hq; simp only [List.mem_cons, List.not_mem_nil, or_false] at hq ⊢; rcases hq with rfl | rfl | rfl | rfl | rfl | rfl <;> simp) ?_
                          exact ih204_75134 (x204_5_75134 + 1) ⟨by have q0 := b0_2 hB; omega, by have q0 := b0_2 hB; omega⟩ (x204_1_75134 + 1) ⟨by have q0 := b0_2 hB; omega, by have q0 := b0_2 hB; omega⟩ _ hB325_76126 (FrM.c (FrM.c (FrM.c (FrM.c FrM.rf hE204_75134 rfl) hE263_76100 rfl) hE293_76119 rfl) hE325_76126 rfl) (by omega) (by omega) (by omega)
                        refine g_icmp_ge (tgt := 325) dX12_ahead_297 (by decide) ⟨by omega, by omega⟩ (by decide) (fun k76128 => ?_) (fun k76128 => ?_)
                        · refine g_forget (l1 := [(0, vR 0), (1, vI x204_1_75134), (2, vI rc68563), (3, vI rc68564), (4, vI 6), (5, vI x204_5_75134)]) (by intro q hq; simp only [List.mem_cons, List.not_mem_nil, or_false] at hq ⊢; rcases hq with rfl | rfl | rfl | rfl | rfl | rfl <;> simp) ?_
                          exact J325_76126 _ hB293_76119 FrM.rf
                        · refine g_iload_n dX12_ahead_300 rfl ?_
                          refine g_if_eq (tgt := 325) dX12_ahead_301 (by decide) ⟨by omega, by omega⟩ (fun k76129 => ?_) (fun k76129 => ?_)
                          · refine g_forget (l1 := [(0, vR 0), (1, vI x204_1_75134), (2, vI rc68563), (3, vI rc68564), (4, vI 6), (5, vI x204_5_75134)]) (by intro q hq; simp only [List.mem_cons, List.not_mem_nil, or_false] at hq ⊢; rcases hq with rfl | rfl | rfl | rfl | rfl | rfl <;> simp) ?_
                            exact J325_76126 _ hB293_76119 FrM.rf
                          · refine g_aload_n dX12_ahead_304 rfl ?_
                            refine g_bipush dX12_ahead_305 (by decide) ?_
                            refine g_aload_n dX12_ahead_307 rfl ?_
                            refine m_g6 (z := (H204_75134 0 6)) rfl dX12_ahead_308 ((hE293_76119.1 6 rfl).trans ((hE263_76100.1 6 rfl).trans rfl)) ?_
                            refine g_imul dX12_ahead_311 ?_
                            refine g_norm (fun r76130 h_r76130 e_r76130 => ?_)
                            refine g_aload_n dX12_ahead_312 rfl ?_
                            refine m_g0 rfl dX12_ahead_313 ?_
                            refine g_iload_n dX12_ahead_316 rfl ?_
                            refine m_l1 (z := (P 1 x204_1_75134)) dX12_ahead_317 ⟨by omega, by omega⟩ ((congrFun (hE293_76119.2 1 rfl rfl) _).trans ((congrFun (hE263_76100.2 1 rfl rfl) _).trans ((congrFun (hE204_75134.2 1 rfl rfl) _).trans ((up_o (by decide)).trans ((up_o (by decide)).trans ((up_o (by decide)).trans ((up_o (by decide)).trans ((up_o (by decide)).trans ((congrFun (hE135_72364.2 1 rfl rfl) _).trans ((up_o (by decide)).trans ((up_o (by decide)).trans ((up_o (by decide)).trans ((up_o (by decide)).trans rfl))))))))))))) ?_
                            refine g_iadd dX12_ahead_318 ?_
                            refine g_norm (fun r76131 h_r76131 e_r76131 => ?_)
                            refine g_bipush dX12_ahead_319 (by decide) ?_
                            refine g_isub dX12_ahead_321 ?_
                            refine g_norm (fun r76132 h_r76132 e_r76132 => ?_)
                            refine m_p6 rfl dX12_ahead_322 ?_
                            have hB76133 := bs_6 (z := r76132) hB293_76119 ⟨by omega, by omega⟩
                            refine g_forget (l1 := [(0, vR 0), (1, vI x204_1_75134), (2, vI rc68563), (3, vI rc68564), (4, vI 6), (5, vI x204_5_75134)]) (by intro q hq; simp only [List.mem_cons, List.not_mem_nil, or_false] at hq ⊢; rcases hq with rfl | rfl | rfl | rfl | rfl | rfl <;> simp) ?_
                            exact J325_76126 _ hB76133 (FrM.s FrM.rf rfl)
                      refine g_icmp_ge (tgt := 293) dX12_ahead_267 (by decide) ⟨by omega, by omega⟩ (by decide) (fun k76134 => ?_) (fun k76134 => ?_)
                      · refine g_forget (l1 := [(0, vR 0), (1, vI x204_1_75134), (2, vI rc68563), (3, vI rc68564), (4, vI 6), (5, vI x204_5_75134)]) (by intro q hq; simp only [List.mem_cons, List.not_mem_nil, or_false] at hq ⊢; rcases hq with rfl | rfl | rfl | rfl | rfl | rfl <;> simp) ?_
                        exact J293_76119 _ hB263_76100 FrM.rf
                      · refine g_iload_n dX12_ahead_270 rfl ?_
                        refine g_if_eq (tgt := 293) dX12_ahead_271 (by decide) ⟨by omega, by omega⟩ (fun k76135 => by exfalso; omega) (fun k76135 => ?_)
                        refine g_aload_n dX12_ahead_274 rfl ?_
                        refine g_aload_n dX12_ahead_275 rfl ?_
                        refine m_g7 (z := (H204_75134 0 7)) rfl dX12_ahead_276 ((hE263_76100.1 7 rfl).trans rfl) ?_
                        refine g_bipush dX12_ahead_279 (by decide) ?_
                        refine g_lshl dX12_ahead_281 ?_
                        refine g_nm (fun b76136 e_b76136 => ?_)
                        have h_b76136 := llshl_ir (H204_75134 0 7) 8
                        rw [← e_b76136] at h_b76136
                        refine g_aload_n dX12_ahead_282 rfl ?_
                        refine m_g0 rfl dX12_ahead_283 ?_
                        refine g_iload_n dX12_ahead_286 rfl ?_
                        refine m_l1 (z := (P 1 x204_1_75134)) dX12_ahead_287 ⟨by omega, by omega⟩ ((congrFun (hE263_76100.2 1 rfl rfl) _).trans ((congrFun (hE204_75134.2 1 rfl rfl) _).trans ((up_o (by decide)).trans ((up_o (by decide)).trans ((up_o (by decide)).trans ((up_o (by decide)).trans ((up_o (by decide)).trans ((congrFun (hE135_72364.2 1 rfl rfl) _).trans ((up_o (by decide)).trans ((up_o (by decide)).trans ((up_o (by decide)).trans ((up_o (by decide)).trans rfl)))))))))))) ?_
                        refine g_i2l dX12_ahead_288 ⟨by have q0 := bl_1 (k := x204_1_75134) hB; omega, by have q0 := bl_1 (k := x204_1_75134) hB; omega⟩ ?_
                        refine g_lor dX12_ahead_289 ?_
                        refine g_nm (fun b76137 e_b76137 => ?_)
                        have h_b76137 := llor_ir b76136 (P 1 x204_1_75134)
                        rw [← e_b76137] at h_b76137
                        refine m_p7 rfl dX12_ahead_290 ?_
                        have hB76138 := bs_7 (z := b76137) hB263_76100 ⟨by omega, by omega⟩
                        refine g_forget (l1 := [(0, vR 0), (1, vI x204_1_75134), (2, vI rc68563), (3, vI rc68564), (4, vI 6), (5, vI x204_5_75134)]) (by intro q hq; simp only [List.mem_cons, List.not_mem_nil, or_false] at hq ⊢; rcases hq with rfl | rfl | rfl | rfl | rfl | rfl <;> simp) ?_
                        exact J293_76119 _ hB76138 (FrM.s FrM.rf rfl)
                    refine g_icmp_ne (tgt := 263) dX12_ahead_247 (by decide) ⟨by omega, by omega⟩ (by decide) (fun k76139 => ?_) (fun k76139 => ?_)
                    · refine g_forget (l1 := [(0, vR 0), (1, vI x204_1_75134), (2, vI rc68563), (3, vI rc68564), (4, vI 6), (5, vI x204_5_75134)]) (by intro q hq; simp only [List.mem_cons, List.not_mem_nil, or_false] at hq ⊢; rcases hq with rfl | rfl | rfl | rfl | rfl | rfl <;> simp) ?_
                      exact J263_76100 _ hB204_75134 FrM.rf
                    · refine g_aload_n dX12_ahead_250 rfl ?_
                      refine m_g12 (z := (H204_75134 0 12)) rfl dX12_ahead_251 rfl ?_
                      refine g_iconst dX12_ahead_254 ?_
                      have f76140 := b0_12 hB204_75134
                      refine g_icmp_ne (tgt := 263) dX12_ahead_255 (by decide) ⟨by have q0 := b0_12 hB204_75134; omega, by have q0 := b0_12 hB204_75134; omega⟩ (by decide) (fun k76141 => ?_) (fun k76141 => ?_)
                      · refine g_forget (l1 := [(0, vR 0), (1, vI x204_1_75134), (2, vI rc68563), (3, vI rc68564), (4, vI 6), (5, vI x204_5_75134)]) (by intro q hq; simp only [List.mem_cons, List.not_mem_nil, or_false] at hq ⊢; rcases hq with rfl | rfl | rfl | rfl | rfl | rfl <;> simp) ?_
                        exact J263_76100 _ hB204_75134 FrM.rf
                      · refine g_aload_n dX12_ahead_258 rfl ?_
                        refine g_iload_n dX12_ahead_259 rfl ?_
                        refine m_p12 rfl dX12_ahead_260 ?_
                        have hB76142 := bs_12 (z := x204_1_75134) hB204_75134 ⟨by omega, by omega⟩
                        refine g_forget (l1 := [(0, vR 0), (1, vI x204_1_75134), (2, vI rc68563), (3, vI rc68564), (4, vI 6), (5, vI x204_5_75134)]) (by intro q hq; simp only [List.mem_cons, List.not_mem_nil, or_false] at hq ⊢; rcases hq with rfl | rfl | rfl | rfl | rfl | rfl <;> simp) ?_
                        exact J263_76100 _ hB76142 (FrM.s FrM.rf rfl)
                  refine g_if_eq (tgt := 231) dX12_ahead_213 (by decide) ⟨by omega, by omega⟩ (fun k76143 => by exfalso; omega) (fun k76143 => ?_)
                  refine g_aload_n dX12_ahead_216 rfl ?_
                  refine m_g0 rfl dX12_ahead_217 ?_
                  refine g_iload_n dX12_ahead_220 rfl ?_
                  refine m_l1 (z := (P 1 x204_1_75134)) dX12_ahead_221 ⟨by omega, by omega⟩ ((congrFun (hE204_75134.2 1 rfl rfl) _).trans ((up_o (by decide)).trans ((up_o (by decide)).trans ((up_o (by decide)).trans ((up_o (by decide)).trans ((up_o (by decide)).trans ((congrFun (hE135_72364.2 1 rfl rfl) _).trans ((up_o (by decide)).trans ((up_o (by decide)).trans ((up_o (by decide)).trans ((up_o (by decide)).trans rfl))))))))))) ?_
                  have f76144 := bl_1 (k := x204_1_75134) hB
                  refine g_sI (av := [vI (P 1 x204_1_75134)]) (st := []) (m_X12_isLetter G H204_75134 (P 1 x204_1_75134) ⟨by have q0 := bl_1 (k := x204_1_75134) hB; omega, by have q0 := bl_1 (k := x204_1_75134) hB; omega⟩ hB204_75134  _ (fun rc76145 hc76145 gc76145_i => ⟨rc76145, rfl, ?_⟩)) cf_X12_isLetter t_1687 rfl (Nat.le_of_ble_eq_true rfl) (by decide) rfl dX12_ahead_222
                  refine g_if_eq (tgt := 334) dX12_ahead_225 (by decide) ⟨by omega, by omega⟩ (fun k76146 => ?_) (fun k76146 => ?_)
                  · have hne : x204_1_75134 ≠ x5_1_0 := by intro e; subst e; omega
                    refine g_aload_n dX12_ahead_334 rfl ?_
                    refine g_iload_n dX12_ahead_335 rfl ?_
                    refine m_p5 rfl dX12_ahead_336 ?_
                    have hB76147 := bs_5 (z := x204_1_75134) hB204_75134 ⟨by omega, by omega⟩
                    exact g_retV dX12_ahead_339 rfl (hQ _ hB76147 (FrM.s (FrM.c (FrM.s (FrM.s (FrM.s (FrM.s (FrM.s (FrM.c (FrM.s (FrM.s (FrM.s (FrM.s FrM.rf rfl) rfl) rfl) rfl) hE135_72364 rfl) rfl) rfl) rfl) rfl) rfl) hE204_75134 rfl) rfl) (by have q0 := (((up_k (by decide)).trans ((hE204_75134.1 3 rfl).trans up_same)) : (up H204_75134 0 5 x204_1_75134) 0 3 = 1); have q1 := (((up_k (by decide)).trans ((hE204_75134.1 4 rfl).trans ((up_k (by decide)).trans ((up_k (by decide)).trans ((up_k (by decide)).trans ((up_k (by decide)).trans ((up_k (by decide)).trans ((hE135_72364.1 4 rfl).trans ((up_k (by decide)).trans ((up_k (by decide)).trans ((up_k (by decide)).trans up_same))))))))))) : (up H204_75134 0 5 x204_1_75134) 0 4 = x5_1_0); have q2 := (up_same : (up H204_75134 0 5 x204_1_75134) 0 5 = x204_1_75134); omega) (by have q0 := (up_same : (up H204_75134 0 5 x204_1_75134) 0 5 = x204_1_75134); have q1 := (((up_k (by decide)).trans ((hE204_75134.1 4 rfl).trans ((up_k (by decide)).trans ((up_k (by decide)).trans ((up_k (by decide)).trans ((up_k (by decide)).trans ((up_k (by decide)).trans ((hE135_72364.1 4 rfl).trans ((up_k (by decide)).trans ((up_k (by decide)).trans ((up_k (by decide)).trans up_same))))))))))) : (up H204_75134 0 5 x204_1_75134) 0 4 = x5_1_0); omega))
                  · refine g_goto (tgt := 243) dX12_ahead_228 (by decide) ?_
                    refine g_forget (l1 := [(0, vR 0), (1, vI x204_1_75134), (2, vI rc68563), (3, vI rc68564), (4, vI 6), (5, vI x204_5_75134)]) (by intro q hq; simp only [List.mem_cons, List.not_mem_nil, or_false] at hq ⊢; rcases hq with rfl | rfl | rfl | rfl | rfl | rfl <;> simp) ?_
                    exact J243_76058 trivial
              refine g_forget (l1 := [(0, vR 0), (1, vI x5_1_0), (2, vI rc68563), (3, vI rc68564), (4, vI 6), (5, vI 0)]) (by intro q hq; simp only [List.mem_cons, List.not_mem_nil, or_false] at hq ⊢; rcases hq with rfl | rfl | rfl | rfl | rfl | rfl <;> simp) ?_
              exact L204_75134 _ 0 (by decide) x5_1_0 ⟨by have q0 := b0_2 hB; omega, by have q0 := b0_2 hB; omega⟩ _ hB75133 FrM.rf (by omega) (by omega) (Nat.lt_succ_self _)
          refine g_if_ne (tgt := 176) dX12_ahead_158 (by decide) ⟨by omega, by omega⟩ (fun k76148 => ?_) (fun k76148 => ?_)
          · refine g_forget (l1 := [(0, vR 0), (1, vI x5_1_0), (2, vI rc68563), (3, vI rc68564)]) (by intro q hq; simp only [List.mem_cons, List.not_mem_nil, or_false] at hq ⊢; rcases hq with rfl | rfl | rfl | rfl <;> simp) ?_
            exact J176_74259 (by omega)
          · refine g_iload_n dX12_ahead_161 rfl ?_
            refine g_if_ne (tgt := 176) dX12_ahead_162 (by decide) ⟨by omega, by omega⟩ (fun k76149 => ?_) (fun k76149 => ?_)
            · refine g_forget (l1 := [(0, vR 0), (1, vI x5_1_0), (2, vI rc68563), (3, vI rc68564)]) (by intro q hq; simp only [List.mem_cons, List.not_mem_nil, or_false] at hq ⊢; rcases hq with rfl | rfl | rfl | rfl <;> simp) ?_
              exact J176_74259 (by omega)
            · refine g_aload_n dX12_ahead_165 rfl ?_
              refine g_aload_n dX12_ahead_166 rfl ?_
              refine m_g0 rfl dX12_ahead_167 ?_
              refine g_iload_n dX12_ahead_170 rfl ?_
              refine m_l1 (z := (P 1 x5_1_0)) dX12_ahead_171 ⟨by omega, by omega⟩ ((up_o (by decide)).trans ((up_o (by decide)).trans ((up_o (by decide)).trans ((up_o (by decide)).trans ((congrFun (hE135_72364.2 1 rfl rfl) _).trans ((up_o (by decide)).trans ((up_o (by decide)).trans ((up_o (by decide)).trans ((up_o (by decide)).trans rfl))))))))) ?_
              refine m_p6 rfl dX12_ahead_172 ?_
              have hB76150 := bs_6 (z := (P 1 x5_1_0)) hB72369 ⟨by have q0 := bl_1 (k := x5_1_0) hB; omega, by have q0 := bl_1 (k := x5_1_0) hB; omega⟩
              exact g_retV dX12_ahead_175 rfl (hQ _ hB76150 (FrM.s (FrM.s (FrM.s (FrM.s (FrM.s (FrM.c (FrM.s (FrM.s (FrM.s (FrM.s FrM.rf rfl) rfl) rfl) rfl) hE135_72364 rfl) rfl) rfl) rfl) rfl) rfl) (by have q0 := (((up_k (by decide)).trans ((up_k (by decide)).trans up_same)) : (up (up (up (up (up H135_72364 0 6 0) 0 7 0) 0 3 3) 0 5 (x5_1_0 + 1)) 0 6 (P 1 x5_1_0)) 0 3 = 3); have q1 := (((up_k (by decide)).trans ((up_k (by decide)).trans ((up_k (by decide)).trans ((up_k (by decide)).trans ((up_k (by decide)).trans ((hE135_72364.1 4 rfl).trans ((up_k (by decide)).trans ((up_k (by decide)).trans ((up_k (by decide)).trans up_same))))))))) : (up (up (up (up (up H135_72364 0 6 0) 0 7 0) 0 3 3) 0 5 (x5_1_0 + 1)) 0 6 (P 1 x5_1_0)) 0 4 = x5_1_0); have q2 := (((up_k (by decide)).trans up_same) : (up (up (up (up (up H135_72364 0 6 0) 0 7 0) 0 3 3) 0 5 (x5_1_0 + 1)) 0 6 (P 1 x5_1_0)) 0 5 = (x5_1_0 + 1)); omega) (by have q0 := (((up_k (by decide)).trans up_same) : (up (up (up (up (up H135_72364 0 6 0) 0 7 0) 0 3 3) 0 5 (x5_1_0 + 1)) 0 6 (P 1 x5_1_0)) 0 5 = (x5_1_0 + 1)); have q1 := (((up_k (by decide)).trans ((up_k (by decide)).trans ((up_k (by decide)).trans ((up_k (by decide)).trans ((up_k (by decide)).trans ((hE135_72364.1 4 rfl).trans ((up_k (by decide)).trans ((up_k (by decide)).trans ((up_k (by decide)).trans up_same))))))))) : (up (up (up (up (up H135_72364 0 6 0) 0 7 0) 0 3 3) 0 5 (x5_1_0 + 1)) 0 6 (P 1 x5_1_0)) 0 4 = x5_1_0); omega))
        have J98_76150 : ∀ (_ : True), Go WSM G 2 iX12_ahead 98 [(0, vR 0), (1, vI x5_1_0), (2, vI rc68563), (3, vI rc68564)] [] (up (up (up (up P 0 4 x5_1_0) 0 5 x5_1_0) 0 3 0) 0 12 (-1)) Q := by
          intro _
          refine g_iload_n dX12_ahead_98 rfl ?_
          refine g_if_le (tgt := 135) dX12_ahead_99 (by decide) ⟨by omega, by omega⟩ (fun k76152 => ?_) (fun k76152 => ?_)
          · refine g_forget (l1 := [(0, vR 0), (1, vI x5_1_0), (2, vI rc68563), (3, vI rc68564)]) (by intro q hq; simp only [List.mem_cons, List.not_mem_nil, or_false] at hq ⊢; rcases hq with rfl | rfl | rfl | rfl <;> simp) ?_
            exact J135_72364 _ hB68560 FrM.rf
          · refine g_aload_n dX12_ahead_102 rfl ?_
            refine m_g0 rfl dX12_ahead_103 ?_
            refine g_iload_n dX12_ahead_106 rfl ?_
            refine g_iconst dX12_ahead_107 ?_
            refine g_isub dX12_ahead_108 ?_
            refine m_l1 (z := (P 1 (x5_1_0 - 1))) dX12_ahead_109 ⟨by omega, by omega⟩ ((up_o (by decide)).trans ((up_o (by decide)).trans ((up_o (by decide)).trans ((up_o (by decide)).trans rfl)))) ?_
            have f76153 := bl_1 (k := (x5_1_0 - 1)) hB
            refine g_sI (av := [vI (P 1 (x5_1_0 - 1))]) (st := []) (m_X12_isLetter G (up (up (up (up P 0 4 x5_1_0) 0 5 x5_1_0) 0 3 0) 0 12 (-1)) (P 1 (x5_1_0 - 1)) ⟨by have q0 := bl_1 (k := (x5_1_0 - 1)) hB; omega, by have q0 := bl_1 (k := (x5_1_0 - 1)) hB; omega⟩ hB68560  _ (fun rc76154 hc76154 gc76154_i => ⟨rc76154, rfl, ?_⟩)) cf_X12_isLetter t_1687 rfl (Nat.le_of_ble_eq_true rfl) (by decide) rfl dX12_ahead_110
            have J130_76158 : ∀ (_ : True), Go WSM G 2 iX12_ahead 130 [(0, vR 0), (1, vI x5_1_0), (2, vI rc68563), (3, vI rc68564)] [] (up (up (up (up P 0 4 x5_1_0) 0 5 x5_1_0) 0 3 0) 0 12 (-1)) Q := by
              intro _
              refine g_aload_n dX12_ahead_130 rfl ?_
              refine g_iload_n dX12_ahead_131 rfl ?_
              refine m_p12 rfl dX12_ahead_132 ?_
              have hB76160 := bs_12 (z := x5_1_0) hB68560 ⟨by omega, by omega⟩
              refine g_forget (l1 := [(0, vR 0), (1, vI x5_1_0), (2, vI rc68563), (3, vI rc68564)]) (by intro q hq; simp only [List.mem_cons, List.not_mem_nil, or_false] at hq ⊢; rcases hq with rfl | rfl | rfl | rfl <;> simp) ?_
              exact J135_72364 _ hB76160 (FrM.s FrM.rf rfl)
            refine g_if_ne (tgt := 130) dX12_ahead_113 (by decide) ⟨by omega, by omega⟩ (fun k76161 => ?_) (fun k76161 => ?_)
            · refine g_forget (l1 := [(0, vR 0), (1, vI x5_1_0), (2, vI rc68563), (3, vI rc68564)]) (by intro q hq; simp only [List.mem_cons, List.not_mem_nil, or_false] at hq ⊢; rcases hq with rfl | rfl | rfl | rfl <;> simp) ?_
              exact J130_76158 trivial
            · refine g_aload_n dX12_ahead_116 rfl ?_
              refine m_g0 rfl dX12_ahead_117 ?_
              refine g_iload_n dX12_ahead_120 rfl ?_
              refine g_iconst dX12_ahead_121 ?_
              refine g_isub dX12_ahead_122 ?_
              refine m_l1 (z := (P 1 (x5_1_0 - 1))) dX12_ahead_123 ⟨by omega, by omega⟩ ((up_o (by decide)).trans ((up_o (by decide)).trans ((up_o (by decide)).trans ((up_o (by decide)).trans rfl)))) ?_
              refine g_sI (av := [vI (P 1 (x5_1_0 - 1))]) (st := []) (m_X12_isDigit G (up (up (up (up P 0 4 x5_1_0) 0 5 x5_1_0) 0 3 0) 0 12 (-1)) (P 1 (x5_1_0 - 1)) ⟨by have q0 := bl_1 (k := (x5_1_0 - 1)) hB; omega, by have q0 := bl_1 (k := (x5_1_0 - 1)) hB; omega⟩ hB68560  _ (fun rc76162 hc76162 gc76162_i => ⟨rc76162, rfl, ?_⟩)) cf_X12_isDigit t_1690 rfl (Nat.le_of_ble_eq_true rfl) (by decide) rfl dX12_ahead_124
              refine g_if_eq (tgt := 135) dX12_ahead_127 (by decide) ⟨by omega, by omega⟩ (fun k76163 => ?_) (fun k76163 => ?_)
              · refine g_forget (l1 := [(0, vR 0), (1, vI x5_1_0), (2, vI rc68563), (3, vI rc68564)]) (by intro q hq; simp only [List.mem_cons, List.not_mem_nil, or_false] at hq ⊢; rcases hq with rfl | rfl | rfl | rfl <;> simp) ?_
                exact J135_72364 _ hB68560 FrM.rf
              · refine g_forget (l1 := [(0, vR 0), (1, vI x5_1_0), (2, vI rc68563), (3, vI rc68564)]) (by intro q hq; simp only [List.mem_cons, List.not_mem_nil, or_false] at hq ⊢; rcases hq with rfl | rfl | rfl | rfl <;> simp) ?_
                exact J130_76158 trivial
        refine g_if_ne (tgt := 98) dX12_ahead_91 (by decide) ⟨by omega, by omega⟩ (fun k76164 => ?_) (fun k76164 => ?_)
        · refine g_forget (l1 := [(0, vR 0), (1, vI x5_1_0), (2, vI rc68563), (3, vI rc68564)]) (by intro q hq; simp only [List.mem_cons, List.not_mem_nil, or_false] at hq ⊢; rcases hq with rfl | rfl | rfl | rfl <;> simp) ?_
          exact J98_76150 trivial
        · refine g_iload_n dX12_ahead_94 rfl ?_
          refine g_if_eq (tgt := 135) dX12_ahead_95 (by decide) ⟨by omega, by omega⟩ (fun k76165 => ?_) (fun k76165 => ?_)
          · refine g_forget (l1 := [(0, vR 0), (1, vI x5_1_0), (2, vI rc68563), (3, vI rc68564)]) (by intro q hq; simp only [List.mem_cons, List.not_mem_nil, or_false] at hq ⊢; rcases hq with rfl | rfl | rfl | rfl <;> simp) ?_
            exact J135_72364 _ hB68560 FrM.rf
          · refine g_forget (l1 := [(0, vR 0), (1, vI x5_1_0), (2, vI rc68563), (3, vI rc68564)]) (by intro q hq; simp only [List.mem_cons, List.not_mem_nil, or_false] at hq ⊢; rcases hq with rfl | rfl | rfl | rfl <;> simp) ?_
            exact J98_76150 trivial
      · exact g_retV dX12_ahead_69 rfl (hQ _ hB68560 (FrM.s (FrM.s (FrM.s (FrM.s FrM.rf rfl) rfl) rfl) rfl) (by have q0 := (((up_k (by decide)).trans up_same) : (up (up (up (up P 0 4 x5_1_0) 0 5 x5_1_0) 0 3 0) 0 12 (-1)) 0 3 = 0); have q1 := (((up_k (by decide)).trans ((up_k (by decide)).trans ((up_k (by decide)).trans up_same))) : (up (up (up (up P 0 4 x5_1_0) 0 5 x5_1_0) 0 3 0) 0 12 (-1)) 0 4 = x5_1_0); have q2 := (((up_k (by decide)).trans ((up_k (by decide)).trans up_same)) : (up (up (up (up P 0 4 x5_1_0) 0 5 x5_1_0) 0 3 0) 0 12 (-1)) 0 5 = x5_1_0); omega) (by have q0 := (((up_k (by decide)).trans ((up_k (by decide)).trans up_same)) : (up (up (up (up P 0 4 x5_1_0) 0 5 x5_1_0) 0 3 0) 0 12 (-1)) 0 5 = x5_1_0); have q1 := (((up_k (by decide)).trans ((up_k (by decide)).trans ((up_k (by decide)).trans up_same))) : (up (up (up (up P 0 4 x5_1_0) 0 5 x5_1_0) 0 3 0) 0 12 (-1)) 0 4 = x5_1_0); omega))
    refine g_icmp_ge (tgt := 41) dX12_ahead_10 (by decide) ⟨by omega, by omega⟩ ⟨by have q0 := b0_2 hB; omega, by have q0 := b0_2 hB; omega⟩ (fun k76166 => ?_) (fun k76166 => ?_)
    · refine g_forget (l1 := [(0, vR 0), (1, vI x5_1_0)]) (by intro q hq; simp only [List.mem_cons, List.not_mem_nil, or_false] at hq ⊢; rcases hq with rfl | rfl <;> simp) ?_
      exact J41_68555 (by omega)
    · refine g_aload_n dX12_ahead_13 rfl ?_
      refine m_g0 rfl dX12_ahead_14 ?_
      refine g_iload_n dX12_ahead_17 rfl ?_
      refine m_l1 (z := (P 1 x5_1_0)) dX12_ahead_18 ⟨by omega, by omega⟩ rfl ?_
      refine g_bipush dX12_ahead_19 (by decide) ?_
      have f76167 := bl_1 (k := x5_1_0) hB
      have J35_76169 : ∀ (_ : True), Go WSM G 2 iX12_ahead 35 [(0, vR 0), (1, vI x5_1_0)] [] P Q := by
        intro _
        refine g_iinc (l1 := [(1, vI (x5_1_0 + 1)), (0, vR 0)]) dX12_ahead_35 rfl (by decide) rfl ?_
        refine g_goto (tgt := 5) dX12_ahead_38 (by decide) ?_
        refine g_forget (l1 := [(0, vR 0), (1, vI (x5_1_0 + 1))]) (by intro q hq; simp only [List.mem_cons, List.not_mem_nil, or_false] at hq ⊢; rcases hq with rfl | rfl <;> simp) ?_
        exact ih5_0 (x5_1_0 + 1) ⟨by omega, by omega⟩ (by omega) (by omega)
      refine g_icmp_eq (tgt := 35) dX12_ahead_21 (by decide) ⟨by have q0 := bl_1 (k := x5_1_0) hB; omega, by have q0 := bl_1 (k := x5_1_0) hB; omega⟩ (by decide) (fun k76171 => ?_) (fun k76171 => ?_)
      · refine g_forget (l1 := [(0, vR 0), (1, vI x5_1_0)]) (by intro q hq; simp only [List.mem_cons, List.not_mem_nil, or_false] at hq ⊢; rcases hq with rfl | rfl <;> simp) ?_
        exact J35_76169 trivial
      · refine g_aload_n dX12_ahead_24 rfl ?_
        refine m_g0 rfl dX12_ahead_25 ?_
        refine g_iload_n dX12_ahead_28 rfl ?_
        refine m_l1 (z := (P 1 x5_1_0)) dX12_ahead_29 ⟨by omega, by omega⟩ rfl ?_
        refine g_bipush dX12_ahead_30 (by decide) ?_
        refine g_icmp_ne (tgt := 41) dX12_ahead_32 (by decide) ⟨by have q0 := bl_1 (k := x5_1_0) hB; omega, by have q0 := bl_1 (k := x5_1_0) hB; omega⟩ (by decide) (fun k76172 => ?_) (fun k76172 => ?_)
        · refine g_forget (l1 := [(0, vR 0), (1, vI x5_1_0)]) (by intro q hq; simp only [List.mem_cons, List.not_mem_nil, or_false] at hq ⊢; rcases hq with rfl | rfl <;> simp) ?_
          exact J41_68555 (by omega)
        · refine g_forget (l1 := [(0, vR 0), (1, vI x5_1_0)]) (by intro q hq; simp only [List.mem_cons, List.not_mem_nil, or_false] at hq ⊢; rcases hq with rfl | rfl <;> simp) ?_
          exact J35_76169 trivial
  refine g_forget (l1 := [(0, vR 0), (1, vI (P 0 5))]) (by intro q hq; simp only [List.mem_cons, List.not_mem_nil, or_false] at hq ⊢; rcases hq with rfl | rfl <;> simp) ?_
  exact L5_0 _ (P 0 5) ⟨by have q0 := b0_5 hB; omega, by have q0 := b0_5 hB; omega⟩ (by have q0 := b0_5 hB; omega) (Nat.lt_succ_self _)
set_option maxRecDepth 100000 in
set_option maxHeartbeats 4000000 in
theorem m_X12_isOwn (G : GT) (P : PH) (a1 : Int) (h_a1 : (-9223372036854775808) ≤ a1 ∧ a1 ≤ 9223372036854775807) (hB : BdM P) (Q : Option PV → PH → Prop) (hQ : ∀ (r : Int) (_ : 0 ≤ r ∧ r ≤ 1), Q (some (vI r)) P) : Ct WSM G 1 iX12_isOwn [vR 0, vL a1] P Q := by
  refine Ct.of (by decide) (l0 := [(0, vR 0), (1, vL a1)]) rfl (Nat.le_of_ble_eq_true rfl) ?_
  refine g_lload_n dX12_isOwn_0 rfl ?_
  refine g_ldc2 (z := 1802071652) dX12_isOwn_1 t_1705 (by decide) ?_
  refine g_lcmp dX12_isOwn_4 ⟨by omega, by omega⟩ (by decide) ?_
  refine g_nm (fun b1 e_b1 => ?_)
  have h_b1 := lcmpv_b a1 1802071652
  have h0_b1 := lcmpv_0 (x := a1) (y := 1802071652)
  have h1_b1 := lcmpv_lt (x := a1) (y := 1802071652)
  have h2_b1 := lcmpv_gt (x := a1) (y := 1802071652)
  rw [← e_b1] at h_b1 h0_b1 h1_b1 h2_b1
  refine g_if_eq (tgt := 40) dX12_isOwn_5 (by decide) ⟨by omega, by omega⟩ (fun k2 => ?_) (fun k2 => ?_)
  · refine g_iconst dX12_isOwn_40 ?_
    exact g_retZ dX12_isOwn_41 rfl (by decide) (hQ 1 (by decide) )
  · refine g_lload_n dX12_isOwn_8 rfl ?_
    refine g_ldc2 (z := 6516590) dX12_isOwn_9 t_1726 (by decide) ?_
    refine g_lcmp dX12_isOwn_12 ⟨by omega, by omega⟩ (by decide) ?_
    refine g_nm (fun b3 e_b3 => ?_)
    have h_b3 := lcmpv_b a1 6516590
    have h0_b3 := lcmpv_0 (x := a1) (y := 6516590)
    have h1_b3 := lcmpv_lt (x := a1) (y := 6516590)
    have h2_b3 := lcmpv_gt (x := a1) (y := 6516590)
    rw [← e_b3] at h_b3 h0_b3 h1_b3 h2_b3
    refine g_if_eq (tgt := 40) dX12_isOwn_13 (by decide) ⟨by omega, by omega⟩ (fun k4 => ?_) (fun k4 => ?_)
    · refine g_iconst dX12_isOwn_40 ?_
      exact g_retZ dX12_isOwn_41 rfl (by decide) (hQ 1 (by decide) )
    · refine g_lload_n dX12_isOwn_16 rfl ?_
      refine g_ldc2 (z := 469786452840) dX12_isOwn_17 t_1727 (by decide) ?_
      refine g_lcmp dX12_isOwn_20 ⟨by omega, by omega⟩ (by decide) ?_
      refine g_nm (fun b5 e_b5 => ?_)
      have h_b5 := lcmpv_b a1 469786452840
      have h0_b5 := lcmpv_0 (x := a1) (y := 469786452840)
      have h1_b5 := lcmpv_lt (x := a1) (y := 469786452840)
      have h2_b5 := lcmpv_gt (x := a1) (y := 469786452840)
      rw [← e_b5] at h_b5 h0_b5 h1_b5 h2_b5
      refine g_if_eq (tgt := 40) dX12_isOwn_21 (by decide) ⟨by omega, by omega⟩ (fun k6 => ?_) (fun k6 => ?_)
      · refine g_iconst dX12_isOwn_40 ?_
        exact g_retZ dX12_isOwn_41 rfl (by decide) (hQ 1 (by decide) )
      · refine g_lload_n dX12_isOwn_24 rfl ?_
        refine g_ldc2 (z := 6386285) dX12_isOwn_25 t_1728 (by decide) ?_
        refine g_lcmp dX12_isOwn_28 ⟨by omega, by omega⟩ (by decide) ?_
        refine g_nm (fun b7 e_b7 => ?_)
        have h_b7 := lcmpv_b a1 6386285
        have h0_b7 := lcmpv_0 (x := a1) (y := 6386285)
        have h1_b7 := lcmpv_lt (x := a1) (y := 6386285)
        have h2_b7 := lcmpv_gt (x := a1) (y := 6386285)
        rw [← e_b7] at h_b7 h0_b7 h1_b7 h2_b7
        refine g_if_eq (tgt := 40) dX12_isOwn_29 (by decide) ⟨by omega, by omega⟩ (fun k8 => ?_) (fun k8 => ?_)
        · refine g_iconst dX12_isOwn_40 ?_
          exact g_retZ dX12_isOwn_41 rfl (by decide) (hQ 1 (by decide) )
        · refine g_lload_n dX12_isOwn_32 rfl ?_
          refine g_ldc2 (z := 2003330414) dX12_isOwn_33 t_1729 (by decide) ?_
          refine g_lcmp dX12_isOwn_36 ⟨by omega, by omega⟩ (by decide) ?_
          refine g_nm (fun b9 e_b9 => ?_)
          have h_b9 := lcmpv_b a1 2003330414
          have h0_b9 := lcmpv_0 (x := a1) (y := 2003330414)
          have h1_b9 := lcmpv_lt (x := a1) (y := 2003330414)
          have h2_b9 := lcmpv_gt (x := a1) (y := 2003330414)
          rw [← e_b9] at h_b9 h0_b9 h1_b9 h2_b9
          refine g_if_ne (tgt := 42) dX12_isOwn_37 (by decide) ⟨by omega, by omega⟩ (fun k10 => ?_) (fun k10 => ?_)
          · refine g_lload_n dX12_isOwn_42 rfl ?_
            refine g_ldc2 (z := 1920298085) dX12_isOwn_43 t_1730 (by decide) ?_
            refine g_lcmp dX12_isOwn_46 ⟨by omega, by omega⟩ (by decide) ?_
            refine g_nm (fun b11 e_b11 => ?_)
            have h_b11 := lcmpv_b a1 1920298085
            have h0_b11 := lcmpv_0 (x := a1) (y := 1920298085)
            have h1_b11 := lcmpv_lt (x := a1) (y := 1920298085)
            have h2_b11 := lcmpv_gt (x := a1) (y := 1920298085)
            rw [← e_b11] at h_b11 h0_b11 h1_b11 h2_b11
            refine g_if_eq (tgt := 82) dX12_isOwn_47 (by decide) ⟨by omega, by omega⟩ (fun k12 => ?_) (fun k12 => ?_)
            · refine g_iconst dX12_isOwn_82 ?_
              exact g_retZ dX12_isOwn_83 rfl (by decide) (hQ 1 (by decide) )
            · refine g_lload_n dX12_isOwn_50 rfl ?_
              refine g_ldc2 (z := 108256335193460) dX12_isOwn_51 t_1731 (by decide) ?_
              refine g_lcmp dX12_isOwn_54 ⟨by omega, by omega⟩ (by decide) ?_
              refine g_nm (fun b13 e_b13 => ?_)
              have h_b13 := lcmpv_b a1 108256335193460
              have h0_b13 := lcmpv_0 (x := a1) (y := 108256335193460)
              have h1_b13 := lcmpv_lt (x := a1) (y := 108256335193460)
              have h2_b13 := lcmpv_gt (x := a1) (y := 108256335193460)
              rw [← e_b13] at h_b13 h0_b13 h1_b13 h2_b13
              refine g_if_eq (tgt := 82) dX12_isOwn_55 (by decide) ⟨by omega, by omega⟩ (fun k14 => ?_) (fun k14 => ?_)
              · refine g_iconst dX12_isOwn_82 ?_
                exact g_retZ dX12_isOwn_83 rfl (by decide) (hQ 1 (by decide) )
              · refine g_lload_n dX12_isOwn_58 rfl ?_
                refine g_ldc2 (z := 7239021) dX12_isOwn_59 t_1732 (by decide) ?_
                refine g_lcmp dX12_isOwn_62 ⟨by omega, by omega⟩ (by decide) ?_
                refine g_nm (fun b15 e_b15 => ?_)
                have h_b15 := lcmpv_b a1 7239021
                have h0_b15 := lcmpv_0 (x := a1) (y := 7239021)
                have h1_b15 := lcmpv_lt (x := a1) (y := 7239021)
                have h2_b15 := lcmpv_gt (x := a1) (y := 7239021)
                rw [← e_b15] at h_b15 h0_b15 h1_b15 h2_b15
                refine g_if_eq (tgt := 82) dX12_isOwn_63 (by decide) ⟨by omega, by omega⟩ (fun k16 => ?_) (fun k16 => ?_)
                · refine g_iconst dX12_isOwn_82 ?_
                  exact g_retZ dX12_isOwn_83 rfl (by decide) (hQ 1 (by decide) )
                · refine g_lload_n dX12_isOwn_66 rfl ?_
                  refine g_ldc2 (z := 6385273) dX12_isOwn_67 t_1733 (by decide) ?_
                  refine g_lcmp dX12_isOwn_70 ⟨by omega, by omega⟩ (by decide) ?_
                  refine g_nm (fun b17 e_b17 => ?_)
                  have h_b17 := lcmpv_b a1 6385273
                  have h0_b17 := lcmpv_0 (x := a1) (y := 6385273)
                  have h1_b17 := lcmpv_lt (x := a1) (y := 6385273)
                  have h2_b17 := lcmpv_gt (x := a1) (y := 6385273)
                  rw [← e_b17] at h_b17 h0_b17 h1_b17 h2_b17
                  refine g_if_eq (tgt := 82) dX12_isOwn_71 (by decide) ⟨by omega, by omega⟩ (fun k18 => ?_) (fun k18 => ?_)
                  · refine g_iconst dX12_isOwn_82 ?_
                    exact g_retZ dX12_isOwn_83 rfl (by decide) (hQ 1 (by decide) )
                  · refine g_lload_n dX12_isOwn_74 rfl ?_
                    refine g_ldc2 (z := 28530) dX12_isOwn_75 t_1734 (by decide) ?_
                    refine g_lcmp dX12_isOwn_78 ⟨by omega, by omega⟩ (by decide) ?_
                    refine g_nm (fun b19 e_b19 => ?_)
                    have h_b19 := lcmpv_b a1 28530
                    have h0_b19 := lcmpv_0 (x := a1) (y := 28530)
                    have h1_b19 := lcmpv_lt (x := a1) (y := 28530)
                    have h2_b19 := lcmpv_gt (x := a1) (y := 28530)
                    rw [← e_b19] at h_b19 h0_b19 h1_b19 h2_b19
                    refine g_if_ne (tgt := 84) dX12_isOwn_79 (by decide) ⟨by omega, by omega⟩ (fun k20 => ?_) (fun k20 => ?_)
                    · refine g_lload_n dX12_isOwn_84 rfl ?_
                      refine g_ldc2 (z := 29807) dX12_isOwn_85 t_1735 (by decide) ?_
                      refine g_lcmp dX12_isOwn_88 ⟨by omega, by omega⟩ (by decide) ?_
                      refine g_nm (fun b21 e_b21 => ?_)
                      have h_b21 := lcmpv_b a1 29807
                      have h0_b21 := lcmpv_0 (x := a1) (y := 29807)
                      have h1_b21 := lcmpv_lt (x := a1) (y := 29807)
                      have h2_b21 := lcmpv_gt (x := a1) (y := 29807)
                      rw [← e_b21] at h_b21 h0_b21 h1_b21 h2_b21
                      refine g_if_ne (tgt := 94) dX12_isOwn_89 (by decide) ⟨by omega, by omega⟩ (fun k22 => ?_) (fun k22 => ?_)
                      · refine g_iconst dX12_isOwn_94 ?_
                        exact g_retZ dX12_isOwn_95 rfl (by decide) (hQ 0 (by decide) )
                      · refine g_iconst dX12_isOwn_92 ?_
                        exact g_retZ dX12_isOwn_93 rfl (by decide) (hQ 1 (by decide) )
                    · refine g_iconst dX12_isOwn_82 ?_
                      exact g_retZ dX12_isOwn_83 rfl (by decide) (hQ 1 (by decide) )
          · refine g_iconst dX12_isOwn_40 ?_
            exact g_retZ dX12_isOwn_41 rfl (by decide) (hQ 1 (by decide) )
set_option maxRecDepth 100000 in
set_option maxHeartbeats 4000000 in
theorem m_X12_must (G : GT) (P : PH) (a1 : Int) (h_a1 : (-2147483648) ≤ a1 ∧ a1 ≤ 2147483647) (hB : BdM P) (p_lx : (P 0 3 = 0 ∨ P 0 4 + 1 ≤ P 0 5) ∧ P 0 4 ≤ P 0 5) (Q : Option PV → PH → Prop) (hQ : ∀ (P1 : PH) (_ : BdM P1) (_ : FrM ([3, 4, 5, 6, 7, 8, 9, 12], []) P P1) (_ : (P1 0 3 = 0 ∨ P1 0 4 + 1 ≤ P1 0 5) ∧ P1 0 4 ≤ P1 0 5) (_ : P 0 4 ≤ P1 0 4) (_ : P 0 8 ≤ 0 ∨ 0 < P1 0 8) (_ : 0 < P1 0 8 ∨ P 0 4 + 1 ≤ P1 0 4), Q none P1) : Ct WSM G 3 iX12_must [vR 0, vI a1] P Q := by
  refine Ct.of (by decide) (l0 := [(0, vR 0), (1, vI a1)]) rfl (Nat.le_of_ble_eq_true rfl) ?_
  refine g_aload_n dX12_must_0 rfl ?_
  refine g_vV (av := []) (o := 0) (st := []) (m_X12_lex G P  hB  _ (fun Pc1 hBc1 hFc1 gc1_pe => ⟨rfl, ?_⟩)) cf_X12_lex t_1697 rfl (by decide) rfl rfl rfl (Nat.le_of_ble_eq_true rfl) (by decide) rfl dX12_must_1
  refine g_aload_n dX12_must_4 rfl ?_
  refine g_iload_n dX12_must_5 rfl ?_
  refine g_vI (av := [vI a1]) (o := 0) (st := []) (m_X12_isSign G Pc1 a1 ⟨by omega, by omega⟩ hBc1  _ (fun rc2 hc2 gc2_s => ⟨rc2, rfl, ?_⟩)) cf_X12_isSign t_1772 rfl (by decide) rfl rfl rfl (Nat.le_of_ble_eq_true rfl) (by decide) rfl dX12_must_6
  have z3 : Pc1 0 3 = (P 0 3) := ((hFc1.1 3 rfl).trans rfl)
  have z4 : Pc1 0 6 = (P 0 6) := ((hFc1.1 6 rfl).trans rfl)
  refine g_if_ne (tgt := 21) dX12_must_9 (by decide) ⟨by omega, by omega⟩ (fun k5 => ?_) (fun k5 => ?_)
  · refine g_aload_n dX12_must_21 rfl ?_
    refine m_g8 (z := (Pc1 0 8)) rfl dX12_must_22 rfl ?_
    have f6 := b0_8 hBc1
    refine g_if_ne (tgt := 32) dX12_must_25 (by decide) ⟨by have q0 := b0_8 hBc1; omega, by have q0 := b0_8 hBc1; omega⟩ (fun k7 => ?_) (fun k7 => ?_)
    · exact g_retV dX12_must_32 rfl (hQ _ hBc1 (FrM.c FrM.rf hFc1 rfl) (by have q0 := (((hFc1.1 3 rfl).trans rfl) : Pc1 0 3 = (P 0 3)); have q1 := b0_3 hB; have q2 := (((hFc1.1 4 rfl).trans rfl) : Pc1 0 4 = (P 0 4)); have q3 := b0_4 hB; have q4 := (((hFc1.1 5 rfl).trans rfl) : Pc1 0 5 = (P 0 5)); have q5 := b0_5 hB; omega) (by have q0 := (((hFc1.1 4 rfl).trans rfl) : Pc1 0 4 = (P 0 4)); have q1 := b0_4 hB; omega) (by have q0 := b0_8 hBc1; omega) (by have q0 := b0_8 hBc1; have q1 := (((hFc1.1 4 rfl).trans rfl) : Pc1 0 4 = (P 0 4)); have q2 := b0_4 hB; omega))
    · refine g_aload_n dX12_must_28 rfl ?_
      refine g_vV (av := []) (o := 0) (st := []) (m_X12_ahead G Pc1  hBc1  _ (fun Pc8 hBc8 hFc8 gc8_lx gc8_nx => ⟨rfl, ?_⟩)) cf_X12_ahead t_1683 rfl (by decide) rfl rfl rfl (Nat.le_of_ble_eq_true rfl) (by decide) rfl dX12_must_29
      have z9 : Pc1 0 5 = (P 0 5) := ((hFc1.1 5 rfl).trans rfl)
      exact g_retV dX12_must_32 rfl (hQ _ hBc8 (FrM.c (FrM.c FrM.rf hFc1 rfl) hFc8 rfl) (by have q0 := b0_3 hBc8; have q1 := b0_4 hBc8; have q2 := b0_5 hBc8; omega) (by have q0 := b0_4 hBc8; omega) (by have q0 := (((hFc8.1 8 rfl).trans rfl) : Pc8 0 8 = (Pc1 0 8)); have q1 := b0_8 hBc1; omega) (by have q0 := (((hFc8.1 8 rfl).trans rfl) : Pc8 0 8 = (Pc1 0 8)); have q1 := b0_8 hBc1; have q2 := b0_4 hBc8; omega))
  · refine g_aload_n dX12_must_12 rfl ?_
    refine g_iconst dX12_must_13 ?_
    refine g_aload_n dX12_must_14 rfl ?_
    refine m_g4 (z := (P 0 4)) rfl dX12_must_15 ((hFc1.1 4 rfl).trans rfl) ?_
    have f10 := b0_4 hB
    refine g_vV (av := [vI 1, vI (P 0 4)]) (o := 0) (st := []) (m_X12_blame G Pc1 1 (P 0 4) (by decide) ⟨by have q0 := b0_4 hB; omega, by have q0 := b0_4 hB; omega⟩ hBc1  _ (fun Pc11 hBc11 hFc11 gc11_f gc11_pe => ⟨rfl, ?_⟩)) cf_X12_blame t_1701 rfl (by decide) rfl rfl rfl (Nat.le_of_ble_eq_true rfl) (by decide) rfl dX12_must_18
    refine g_aload_n dX12_must_21 rfl ?_
    refine m_g8 (z := (Pc11 0 8)) rfl dX12_must_22 rfl ?_
    have f12 := b0_8 hBc11
    refine g_if_ne (tgt := 32) dX12_must_25 (by decide) ⟨by have q0 := b0_8 hBc11; omega, by have q0 := b0_8 hBc11; omega⟩ (fun k13 => ?_) (fun k13 => ?_)
    · exact g_retV dX12_must_32 rfl (hQ _ hBc11 (FrM.c (FrM.c FrM.rf hFc1 rfl) hFc11 rfl) (by have q0 := (((hFc11.1 3 rfl).trans ((hFc1.1 3 rfl).trans rfl)) : Pc11 0 3 = (P 0 3)); have q1 := b0_3 hB; have q2 := (((hFc11.1 4 rfl).trans ((hFc1.1 4 rfl).trans rfl)) : Pc11 0 4 = (P 0 4)); have q3 := b0_4 hB; have q4 := (((hFc11.1 5 rfl).trans ((hFc1.1 5 rfl).trans rfl)) : Pc11 0 5 = (P 0 5)); have q5 := b0_5 hB; omega) (by have q0 := (((hFc11.1 4 rfl).trans ((hFc1.1 4 rfl).trans rfl)) : Pc11 0 4 = (P 0 4)); have q1 := b0_4 hB; omega) (by have q0 := b0_8 hBc11; omega) (by have q0 := b0_8 hBc11; have q1 := (((hFc11.1 4 rfl).trans ((hFc1.1 4 rfl).trans rfl)) : Pc11 0 4 = (P 0 4)); have q2 := b0_4 hB; omega))
    · refine g_aload_n dX12_must_28 rfl ?_
      refine g_vV (av := []) (o := 0) (st := []) (m_X12_ahead G Pc11  hBc11  _ (fun Pc14 hBc14 hFc14 gc14_lx gc14_nx => ⟨rfl, ?_⟩)) cf_X12_ahead t_1683 rfl (by decide) rfl rfl rfl (Nat.le_of_ble_eq_true rfl) (by decide) rfl dX12_must_29
      have z15 : Pc11 0 5 = (P 0 5) := ((hFc11.1 5 rfl).trans ((hFc1.1 5 rfl).trans rfl))
      exact g_retV dX12_must_32 rfl (hQ _ hBc14 (FrM.c (FrM.c (FrM.c FrM.rf hFc1 rfl) hFc11 rfl) hFc14 rfl) (by have q0 := b0_3 hBc14; have q1 := b0_4 hBc14; have q2 := b0_5 hBc14; omega) (by have q0 := b0_4 hBc14; omega) (by have q0 := (((hFc14.1 8 rfl).trans rfl) : Pc14 0 8 = (Pc11 0 8)); have q1 := b0_8 hBc11; omega) (by have q0 := (((hFc14.1 8 rfl).trans rfl) : Pc14 0 8 = (Pc11 0 8)); have q1 := b0_8 hBc11; have q2 := b0_4 hBc14; omega))
set_option maxRecDepth 100000 in
set_option maxHeartbeats 4000000 in
theorem m_X12_number (G : GT) (P : PH) (a1 : Int) (a2 : Int) (h_a1 : (-2147483648) ≤ a1 ∧ a1 ≤ 2147483647) (h_a2 : (-2147483648) ≤ a2 ∧ a2 ≤ 2147483647) (hB : BdM P) (p_lx : (P 0 3 = 0 ∨ P 0 4 + 1 ≤ P 0 5) ∧ P 0 4 ≤ P 0 5) (Q : Option PV → PH → Prop) (hQ : ∀ (r : Int) (_ : (-2147483648) ≤ r ∧ r ≤ 2147483647) (P1 : PH) (_ : BdM P1) (_ : FrM ([3, 4, 5, 6, 7, 8, 9, 12], []) P P1) (_ : (P1 0 3 = 0 ∨ P1 0 4 + 1 ≤ P1 0 5) ∧ P1 0 4 ≤ P1 0 5) (_ : P 0 4 ≤ P1 0 4) (_ : P 0 8 ≤ 0 ∨ 0 < P1 0 8) (_ : 0 < P1 0 8 ∨ (a1 ≤ r ∧ r ≤ a2 ∧ P 0 4 + 1 ≤ P1 0 4)), Q (some (vI r)) P1) : Ct WSM G 3 iX12_number [vR 0, vI a1, vI a2] P Q := by
  refine Ct.of (by decide) (l0 := [(0, vR 0), (1, vI a1), (2, vI a2)]) rfl (Nat.le_of_ble_eq_true rfl) ?_
  refine g_aload_n dX12_number_0 rfl ?_
  refine g_vV (av := []) (o := 0) (st := []) (m_X12_lex G P  hB  _ (fun Pc1 hBc1 hFc1 gc1_pe => ⟨rfl, ?_⟩)) cf_X12_lex t_1697 rfl (by decide) rfl rfl rfl (Nat.le_of_ble_eq_true rfl) (by decide) rfl dX12_number_1
  refine g_aload_n dX12_number_4 rfl ?_
  refine m_g8 (z := (Pc1 0 8)) rfl dX12_number_5 rfl ?_
  have f2 := b0_8 hBc1
  refine g_if_le (tgt := 13) dX12_number_8 (by decide) ⟨by have q0 := b0_8 hBc1; omega, by have q0 := b0_8 hBc1; omega⟩ (fun k3 => ?_) (fun k3 => ?_)
  · refine g_aload_n dX12_number_13 rfl ?_
    refine m_g3 (z := (P 0 3)) rfl dX12_number_14 ((hFc1.1 3 rfl).trans rfl) ?_
    refine g_iconst dX12_number_17 ?_
    have f4 := b0_3 hB
    refine g_icmp_eq (tgt := 30) dX12_number_18 (by decide) ⟨by have q0 := b0_3 hB; omega, by have q0 := b0_3 hB; omega⟩ (by decide) (fun k5 => ?_) (fun k5 => ?_)
    · refine g_aload_n dX12_number_30 rfl ?_
      refine m_g8 (z := (Pc1 0 8)) rfl dX12_number_31 rfl ?_
      refine g_if_ne (tgt := 58) dX12_number_34 (by decide) ⟨by have q0 := b0_8 hBc1; omega, by have q0 := b0_8 hBc1; omega⟩ (fun k6 => by exfalso; have q0 := b0_8 hBc1; omega) (fun k6 => ?_)
      refine g_aload_n dX12_number_37 rfl ?_
      refine m_g6 (z := (P 0 6)) rfl dX12_number_38 ((hFc1.1 6 rfl).trans rfl) ?_
      refine g_iload_n dX12_number_41 rfl ?_
      refine g_iload_n dX12_number_42 rfl ?_
      have f7 := b0_6 hB
      refine g_sI (av := [vI (P 0 6), vI a1, vI a2]) (st := []) (m_X12_is G Pc1 (P 0 6) a1 a2 ⟨by have q0 := b0_6 hB; omega, by have q0 := b0_6 hB; omega⟩ ⟨by omega, by omega⟩ ⟨by omega, by omega⟩ hBc1  _ (fun rc8 hc8 gc8_is => ⟨rc8, rfl, ?_⟩)) cf_X12_is t_1800 rfl (Nat.le_of_ble_eq_true rfl) (by decide) rfl dX12_number_43
      refine g_if_ne (tgt := 58) dX12_number_46 (by decide) ⟨by omega, by omega⟩ (fun k9 => ?_) (fun k9 => ?_)
      · refine g_aload_n dX12_number_58 rfl ?_
        refine m_g6 (z := (P 0 6)) rfl dX12_number_59 ((hFc1.1 6 rfl).trans rfl) ?_
        refine g_istore_n (l1 := [(3, vI (P 0 6)), (0, vR 0), (1, vI a1), (2, vI a2)]) dX12_number_62 (by decide) rfl ?_
        refine g_aload_n dX12_number_63 rfl ?_
        refine m_g8 (z := (Pc1 0 8)) rfl dX12_number_64 rfl ?_
        refine g_if_ne (tgt := 74) dX12_number_67 (by decide) ⟨by have q0 := b0_8 hBc1; omega, by have q0 := b0_8 hBc1; omega⟩ (fun k10 => by exfalso; have q0 := b0_8 hBc1; omega) (fun k10 => ?_)
        refine g_aload_n dX12_number_70 rfl ?_
        refine g_vV (av := []) (o := 0) (st := []) (m_X12_ahead G Pc1  hBc1  _ (fun Pc11 hBc11 hFc11 gc11_lx gc11_nx => ⟨rfl, ?_⟩)) cf_X12_ahead t_1683 rfl (by decide) rfl rfl rfl (Nat.le_of_ble_eq_true rfl) (by decide) rfl dX12_number_71
        have z12 : Pc1 0 5 = (P 0 5) := ((hFc1.1 5 rfl).trans rfl)
        refine g_iload_n dX12_number_74 rfl ?_
        exact g_retI dX12_number_75 rfl (hQ (P 0 6) ⟨by have q0 := b0_6 hB; omega, by have q0 := b0_6 hB; omega⟩ _ hBc11 (FrM.c (FrM.c FrM.rf hFc1 rfl) hFc11 rfl) (by have q0 := b0_6 hB; have q1 := b0_3 hBc11; have q2 := b0_4 hBc11; have q3 := b0_5 hBc11; omega) (by have q0 := b0_6 hB; have q1 := b0_4 hBc11; omega) (by have q0 := b0_6 hB; have q1 := (((hFc11.1 8 rfl).trans rfl) : Pc11 0 8 = (Pc1 0 8)); have q2 := b0_8 hBc1; omega) (by have q0 := b0_6 hB; have q1 := (((hFc11.1 8 rfl).trans rfl) : Pc11 0 8 = (Pc1 0 8)); have q2 := b0_8 hBc1; have q3 := b0_4 hBc11; omega))
      · refine g_aload_n dX12_number_49 rfl ?_
        refine g_iconst dX12_number_50 ?_
        refine g_aload_n dX12_number_51 rfl ?_
        refine m_g4 (z := (P 0 4)) rfl dX12_number_52 ((hFc1.1 4 rfl).trans rfl) ?_
        have f13 := b0_4 hB
        refine g_vV (av := [vI 4, vI (P 0 4)]) (o := 0) (st := []) (m_X12_blame G Pc1 4 (P 0 4) (by decide) ⟨by have q0 := b0_4 hB; omega, by have q0 := b0_4 hB; omega⟩ hBc1  _ (fun Pc14 hBc14 hFc14 gc14_f gc14_pe => ⟨rfl, ?_⟩)) cf_X12_blame t_1701 rfl (by decide) rfl rfl rfl (Nat.le_of_ble_eq_true rfl) (by decide) rfl dX12_number_55
        refine g_aload_n dX12_number_58 rfl ?_
        refine m_g6 (z := (P 0 6)) rfl dX12_number_59 ((hFc14.1 6 rfl).trans ((hFc1.1 6 rfl).trans rfl)) ?_
        refine g_istore_n (l1 := [(3, vI (P 0 6)), (0, vR 0), (1, vI a1), (2, vI a2)]) dX12_number_62 (by decide) rfl ?_
        refine g_aload_n dX12_number_63 rfl ?_
        refine m_g8 (z := (Pc14 0 8)) rfl dX12_number_64 rfl ?_
        have f15 := b0_8 hBc14
        refine g_if_ne (tgt := 74) dX12_number_67 (by decide) ⟨by have q0 := b0_8 hBc14; omega, by have q0 := b0_8 hBc14; omega⟩ (fun k16 => ?_) (fun k16 => ?_)
        · refine g_iload_n dX12_number_74 rfl ?_
          exact g_retI dX12_number_75 rfl (hQ (P 0 6) ⟨by have q0 := b0_6 hB; omega, by have q0 := b0_6 hB; omega⟩ _ hBc14 (FrM.c (FrM.c FrM.rf hFc1 rfl) hFc14 rfl) (by have q0 := b0_6 hB; have q1 := (((hFc14.1 3 rfl).trans ((hFc1.1 3 rfl).trans rfl)) : Pc14 0 3 = (P 0 3)); have q2 := b0_3 hB; have q3 := (((hFc14.1 4 rfl).trans ((hFc1.1 4 rfl).trans rfl)) : Pc14 0 4 = (P 0 4)); have q4 := b0_4 hB; have q5 := (((hFc14.1 5 rfl).trans ((hFc1.1 5 rfl).trans rfl)) : Pc14 0 5 = (P 0 5)); have q6 := b0_5 hB; omega) (by have q0 := b0_6 hB; have q1 := (((hFc14.1 4 rfl).trans ((hFc1.1 4 rfl).trans rfl)) : Pc14 0 4 = (P 0 4)); have q2 := b0_4 hB; omega) (by have q0 := b0_6 hB; have q1 := b0_8 hBc14; omega) (by have q0 := b0_6 hB; have q1 := b0_8 hBc14; have q2 := (((hFc14.1 4 rfl).trans ((hFc1.1 4 rfl).trans rfl)) : Pc14 0 4 = (P 0 4)); have q3 := b0_4 hB; omega))
        · refine g_aload_n dX12_number_70 rfl ?_
          refine g_vV (av := []) (o := 0) (st := []) (m_X12_ahead G Pc14  hBc14  _ (fun Pc17 hBc17 hFc17 gc17_lx gc17_nx => ⟨rfl, ?_⟩)) cf_X12_ahead t_1683 rfl (by decide) rfl rfl rfl (Nat.le_of_ble_eq_true rfl) (by decide) rfl dX12_number_71
          have z18 : Pc14 0 5 = (P 0 5) := ((hFc14.1 5 rfl).trans ((hFc1.1 5 rfl).trans rfl))
          refine g_iload_n dX12_number_74 rfl ?_
          exact g_retI dX12_number_75 rfl (hQ (P 0 6) ⟨by have q0 := b0_6 hB; omega, by have q0 := b0_6 hB; omega⟩ _ hBc17 (FrM.c (FrM.c (FrM.c FrM.rf hFc1 rfl) hFc14 rfl) hFc17 rfl) (by have q0 := b0_6 hB; have q1 := b0_3 hBc17; have q2 := b0_4 hBc17; have q3 := b0_5 hBc17; omega) (by have q0 := b0_6 hB; have q1 := b0_4 hBc17; omega) (by have q0 := b0_6 hB; have q1 := (((hFc17.1 8 rfl).trans rfl) : Pc17 0 8 = (Pc14 0 8)); have q2 := b0_8 hBc14; omega) (by have q0 := b0_6 hB; have q1 := (((hFc17.1 8 rfl).trans rfl) : Pc17 0 8 = (Pc14 0 8)); have q2 := b0_8 hBc14; have q3 := b0_4 hBc17; omega))
    · refine g_aload_n dX12_number_21 rfl ?_
      refine g_iconst dX12_number_22 ?_
      refine g_aload_n dX12_number_23 rfl ?_
      refine m_g4 (z := (P 0 4)) rfl dX12_number_24 ((hFc1.1 4 rfl).trans rfl) ?_
      have f19 := b0_4 hB
      refine g_vV (av := [vI 1, vI (P 0 4)]) (o := 0) (st := []) (m_X12_blame G Pc1 1 (P 0 4) (by decide) ⟨by have q0 := b0_4 hB; omega, by have q0 := b0_4 hB; omega⟩ hBc1  _ (fun Pc20 hBc20 hFc20 gc20_f gc20_pe => ⟨rfl, ?_⟩)) cf_X12_blame t_1701 rfl (by decide) rfl rfl rfl (Nat.le_of_ble_eq_true rfl) (by decide) rfl dX12_number_27
      refine g_aload_n dX12_number_30 rfl ?_
      refine m_g8 (z := (Pc20 0 8)) rfl dX12_number_31 rfl ?_
      have f21 := b0_8 hBc20
      refine g_if_ne (tgt := 58) dX12_number_34 (by decide) ⟨by have q0 := b0_8 hBc20; omega, by have q0 := b0_8 hBc20; omega⟩ (fun k22 => ?_) (fun k22 => ?_)
      · refine g_aload_n dX12_number_58 rfl ?_
        refine m_g6 (z := (P 0 6)) rfl dX12_number_59 ((hFc20.1 6 rfl).trans ((hFc1.1 6 rfl).trans rfl)) ?_
        refine g_istore_n (l1 := [(3, vI (P 0 6)), (0, vR 0), (1, vI a1), (2, vI a2)]) dX12_number_62 (by decide) rfl ?_
        refine g_aload_n dX12_number_63 rfl ?_
        refine m_g8 (z := (Pc20 0 8)) rfl dX12_number_64 rfl ?_
        refine g_if_ne (tgt := 74) dX12_number_67 (by decide) ⟨by have q0 := b0_8 hBc20; omega, by have q0 := b0_8 hBc20; omega⟩ (fun k23 => ?_) (fun k23 => by exfalso; have q0 := b0_8 hBc20; omega)
        refine g_iload_n dX12_number_74 rfl ?_
        exact g_retI dX12_number_75 rfl (hQ (P 0 6) ⟨by have q0 := b0_6 hB; omega, by have q0 := b0_6 hB; omega⟩ _ hBc20 (FrM.c (FrM.c FrM.rf hFc1 rfl) hFc20 rfl) (by have q0 := b0_6 hB; have q1 := (((hFc20.1 3 rfl).trans ((hFc1.1 3 rfl).trans rfl)) : Pc20 0 3 = (P 0 3)); have q2 := b0_3 hB; have q3 := (((hFc20.1 4 rfl).trans ((hFc1.1 4 rfl).trans rfl)) : Pc20 0 4 = (P 0 4)); have q4 := b0_4 hB; have q5 := (((hFc20.1 5 rfl).trans ((hFc1.1 5 rfl).trans rfl)) : Pc20 0 5 = (P 0 5)); have q6 := b0_5 hB; omega) (by have q0 := b0_6 hB; have q1 := (((hFc20.1 4 rfl).trans ((hFc1.1 4 rfl).trans rfl)) : Pc20 0 4 = (P 0 4)); have q2 := b0_4 hB; omega) (by have q0 := b0_6 hB; have q1 := b0_8 hBc20; omega) (by have q0 := b0_6 hB; have q1 := b0_8 hBc20; have q2 := (((hFc20.1 4 rfl).trans ((hFc1.1 4 rfl).trans rfl)) : Pc20 0 4 = (P 0 4)); have q3 := b0_4 hB; omega))
      · refine g_aload_n dX12_number_37 rfl ?_
        refine m_g6 (z := (P 0 6)) rfl dX12_number_38 ((hFc20.1 6 rfl).trans ((hFc1.1 6 rfl).trans rfl)) ?_
        refine g_iload_n dX12_number_41 rfl ?_
        refine g_iload_n dX12_number_42 rfl ?_
        have f24 := b0_6 hB
        refine g_sI (av := [vI (P 0 6), vI a1, vI a2]) (st := []) (m_X12_is G Pc20 (P 0 6) a1 a2 ⟨by have q0 := b0_6 hB; omega, by have q0 := b0_6 hB; omega⟩ ⟨by omega, by omega⟩ ⟨by omega, by omega⟩ hBc20  _ (fun rc25 hc25 gc25_is => ⟨rc25, rfl, ?_⟩)) cf_X12_is t_1800 rfl (Nat.le_of_ble_eq_true rfl) (by decide) rfl dX12_number_43
        refine g_if_ne (tgt := 58) dX12_number_46 (by decide) ⟨by omega, by omega⟩ (fun k26 => ?_) (fun k26 => ?_)
        · refine g_aload_n dX12_number_58 rfl ?_
          refine m_g6 (z := (P 0 6)) rfl dX12_number_59 ((hFc20.1 6 rfl).trans ((hFc1.1 6 rfl).trans rfl)) ?_
          refine g_istore_n (l1 := [(3, vI (P 0 6)), (0, vR 0), (1, vI a1), (2, vI a2)]) dX12_number_62 (by decide) rfl ?_
          refine g_aload_n dX12_number_63 rfl ?_
          refine m_g8 (z := (Pc20 0 8)) rfl dX12_number_64 rfl ?_
          refine g_if_ne (tgt := 74) dX12_number_67 (by decide) ⟨by have q0 := b0_8 hBc20; omega, by have q0 := b0_8 hBc20; omega⟩ (fun k27 => by exfalso; have q0 := b0_8 hBc20; omega) (fun k27 => ?_)
          refine g_aload_n dX12_number_70 rfl ?_
          refine g_vV (av := []) (o := 0) (st := []) (m_X12_ahead G Pc20  hBc20  _ (fun Pc28 hBc28 hFc28 gc28_lx gc28_nx => ⟨rfl, ?_⟩)) cf_X12_ahead t_1683 rfl (by decide) rfl rfl rfl (Nat.le_of_ble_eq_true rfl) (by decide) rfl dX12_number_71
          have z29 : Pc20 0 5 = (P 0 5) := ((hFc20.1 5 rfl).trans ((hFc1.1 5 rfl).trans rfl))
          refine g_iload_n dX12_number_74 rfl ?_
          exact g_retI dX12_number_75 rfl (hQ (P 0 6) ⟨by have q0 := b0_6 hB; omega, by have q0 := b0_6 hB; omega⟩ _ hBc28 (FrM.c (FrM.c (FrM.c FrM.rf hFc1 rfl) hFc20 rfl) hFc28 rfl) (by have q0 := b0_6 hB; have q1 := b0_3 hBc28; have q2 := b0_4 hBc28; have q3 := b0_5 hBc28; omega) (by have q0 := b0_6 hB; have q1 := b0_4 hBc28; omega) (by have q0 := b0_6 hB; have q1 := (((hFc28.1 8 rfl).trans rfl) : Pc28 0 8 = (Pc20 0 8)); have q2 := b0_8 hBc20; omega) (by have q0 := b0_6 hB; have q1 := (((hFc28.1 8 rfl).trans rfl) : Pc28 0 8 = (Pc20 0 8)); have q2 := b0_8 hBc20; have q3 := b0_4 hBc28; omega))
        · refine g_aload_n dX12_number_49 rfl ?_
          refine g_iconst dX12_number_50 ?_
          refine g_aload_n dX12_number_51 rfl ?_
          refine m_g4 (z := (P 0 4)) rfl dX12_number_52 ((hFc20.1 4 rfl).trans ((hFc1.1 4 rfl).trans rfl)) ?_
          refine g_vV (av := [vI 4, vI (P 0 4)]) (o := 0) (st := []) (m_X12_blame G Pc20 4 (P 0 4) (by decide) ⟨by have q0 := b0_4 hB; omega, by have q0 := b0_4 hB; omega⟩ hBc20  _ (fun Pc30 hBc30 hFc30 gc30_f gc30_pe => ⟨rfl, ?_⟩)) cf_X12_blame t_1701 rfl (by decide) rfl rfl rfl (Nat.le_of_ble_eq_true rfl) (by decide) rfl dX12_number_55
          refine g_aload_n dX12_number_58 rfl ?_
          refine m_g6 (z := (P 0 6)) rfl dX12_number_59 ((hFc30.1 6 rfl).trans ((hFc20.1 6 rfl).trans ((hFc1.1 6 rfl).trans rfl))) ?_
          refine g_istore_n (l1 := [(3, vI (P 0 6)), (0, vR 0), (1, vI a1), (2, vI a2)]) dX12_number_62 (by decide) rfl ?_
          refine g_aload_n dX12_number_63 rfl ?_
          refine m_g8 (z := (Pc30 0 8)) rfl dX12_number_64 rfl ?_
          have f31 := b0_8 hBc30
          refine g_if_ne (tgt := 74) dX12_number_67 (by decide) ⟨by have q0 := b0_8 hBc30; omega, by have q0 := b0_8 hBc30; omega⟩ (fun k32 => ?_) (fun k32 => ?_)
          · refine g_iload_n dX12_number_74 rfl ?_
            exact g_retI dX12_number_75 rfl (hQ (P 0 6) ⟨by have q0 := b0_6 hB; omega, by have q0 := b0_6 hB; omega⟩ _ hBc30 (FrM.c (FrM.c (FrM.c FrM.rf hFc1 rfl) hFc20 rfl) hFc30 rfl) (by have q0 := b0_6 hB; have q1 := (((hFc30.1 3 rfl).trans ((hFc20.1 3 rfl).trans ((hFc1.1 3 rfl).trans rfl))) : Pc30 0 3 = (P 0 3)); have q2 := b0_3 hB; have q3 := (((hFc30.1 4 rfl).trans ((hFc20.1 4 rfl).trans ((hFc1.1 4 rfl).trans rfl))) : Pc30 0 4 = (P 0 4)); have q4 := b0_4 hB; have q5 := (((hFc30.1 5 rfl).trans ((hFc20.1 5 rfl).trans ((hFc1.1 5 rfl).trans rfl))) : Pc30 0 5 = (P 0 5)); have q6 := b0_5 hB; omega) (by have q0 := b0_6 hB; have q1 := (((hFc30.1 4 rfl).trans ((hFc20.1 4 rfl).trans ((hFc1.1 4 rfl).trans rfl))) : Pc30 0 4 = (P 0 4)); have q2 := b0_4 hB; omega) (by have q0 := b0_6 hB; have q1 := b0_8 hBc30; omega) (by have q0 := b0_6 hB; have q1 := b0_8 hBc30; have q2 := (((hFc30.1 4 rfl).trans ((hFc20.1 4 rfl).trans ((hFc1.1 4 rfl).trans rfl))) : Pc30 0 4 = (P 0 4)); have q3 := b0_4 hB; omega))
          · refine g_aload_n dX12_number_70 rfl ?_
            refine g_vV (av := []) (o := 0) (st := []) (m_X12_ahead G Pc30  hBc30  _ (fun Pc33 hBc33 hFc33 gc33_lx gc33_nx => ⟨rfl, ?_⟩)) cf_X12_ahead t_1683 rfl (by decide) rfl rfl rfl (Nat.le_of_ble_eq_true rfl) (by decide) rfl dX12_number_71
            have z34 : Pc30 0 5 = (P 0 5) := ((hFc30.1 5 rfl).trans ((hFc20.1 5 rfl).trans ((hFc1.1 5 rfl).trans rfl)))
            refine g_iload_n dX12_number_74 rfl ?_
            exact g_retI dX12_number_75 rfl (hQ (P 0 6) ⟨by have q0 := b0_6 hB; omega, by have q0 := b0_6 hB; omega⟩ _ hBc33 (FrM.c (FrM.c (FrM.c (FrM.c FrM.rf hFc1 rfl) hFc20 rfl) hFc30 rfl) hFc33 rfl) (by have q0 := b0_6 hB; have q1 := b0_3 hBc33; have q2 := b0_4 hBc33; have q3 := b0_5 hBc33; omega) (by have q0 := b0_6 hB; have q1 := b0_4 hBc33; omega) (by have q0 := b0_6 hB; have q1 := (((hFc33.1 8 rfl).trans rfl) : Pc33 0 8 = (Pc30 0 8)); have q2 := b0_8 hBc30; omega) (by have q0 := b0_6 hB; have q1 := (((hFc33.1 8 rfl).trans rfl) : Pc33 0 8 = (Pc30 0 8)); have q2 := b0_8 hBc30; have q3 := b0_4 hBc33; omega))
  · refine g_iconst dX12_number_11 ?_
    exact g_retI dX12_number_12 rfl (hQ 0 (by decide) _ hBc1 (FrM.c FrM.rf hFc1 rfl) (by have q0 := (((hFc1.1 3 rfl).trans rfl) : Pc1 0 3 = (P 0 3)); have q1 := b0_3 hB; have q2 := (((hFc1.1 4 rfl).trans rfl) : Pc1 0 4 = (P 0 4)); have q3 := b0_4 hB; have q4 := (((hFc1.1 5 rfl).trans rfl) : Pc1 0 5 = (P 0 5)); have q5 := b0_5 hB; omega) (by have q0 := (((hFc1.1 4 rfl).trans rfl) : Pc1 0 4 = (P 0 4)); have q1 := b0_4 hB; omega) (by have q0 := b0_8 hBc1; omega) (by have q0 := b0_8 hBc1; have q1 := (((hFc1.1 4 rfl).trans rfl) : Pc1 0 4 = (P 0 4)); have q2 := b0_4 hB; omega))
set_option maxRecDepth 100000 in
set_option maxHeartbeats 4000000 in
theorem m_X12_conNamed (G : GT) (P : PH) (a1 : Int) (a2 : Int) (h_a1 : 0 ≤ a1 ∧ a1 ≤ 1) (h_a2 : (-9223372036854775808) ≤ a2 ∧ a2 ≤ 9223372036854775807) (hB : BdM P) (Q : Option PV → PH → Prop) (hQ : ∀ (r : Int) (_ : (-1) ≤ r ∧ r ≤ 23) (_ : r < P 5 a1 ∨ r = -1), Q (some (vI r)) P) : Ct WSM G 1 iX12_conNamed [vR 0, vI a1, vL a2] P Q := by
  refine Ct.of (by decide) (l0 := [(0, vR 0), (1, vI a1), (2, vL a2)]) rfl (Nat.le_of_ble_eq_true rfl) ?_
  refine g_iconst dX12_conNamed_0 ?_
  refine g_istore (l1 := [(4, vI 0), (0, vR 0), (1, vI a1), (2, vL a2)]) dX12_conNamed_1 (by decide) rfl ?_
  have L3_0 : ∀ (n3_0 : Nat) (x3_4_0 : Int) (h_x3_4_0 : 0 ≤ x3_4_0 ∧ x3_4_0 ≤ 24) (hm3_0 : ((25 - x3_4_0) : Int).toNat < n3_0), Go WSM G 1 iX12_conNamed 3 [(0, vR 0), (1, vI a1), (2, vL a2), (4, vI x3_4_0)] [] P Q := by
    intro n3_0
    induction n3_0 with
    | zero => intro x3_4_0 h_x3_4_0 hm3_0; exact absurd hm3_0 (Nat.not_lt_zero _)
    | succ n3_0 ih3_0 =>
    intro x3_4_0 h_x3_4_0 hm3_0
    refine g_iload dX12_conNamed_3 rfl ?_
    refine g_aload_n dX12_conNamed_5 rfl ?_
    refine m_g17 rfl dX12_conNamed_6 ?_
    refine g_iload_n dX12_conNamed_9 rfl ?_
    refine m_l5 (z := (P 5 a1)) dX12_conNamed_10 ⟨by omega, by omega⟩ rfl ?_
    have f42 := bl_5 (k := a1) hB
    refine g_icmp_ge (tgt := 40) dX12_conNamed_11 (by decide) ⟨by omega, by omega⟩ ⟨by have q0 := bl_5 (k := a1) hB; omega, by have q0 := bl_5 (k := a1) hB; omega⟩ (fun k43 => ?_) (fun k43 => ?_)
    · refine g_iconst dX12_conNamed_40 ?_
      exact g_retI dX12_conNamed_41 rfl (hQ (-1) (by decide) (by have q0 := bl_5 (k := a1) hB; omega))
    · refine g_aload_n dX12_conNamed_14 rfl ?_
      refine m_g35 rfl dX12_conNamed_15 ?_
      refine g_bipush dX12_conNamed_18 (by decide) ?_
      refine g_iload_n dX12_conNamed_20 rfl ?_
      refine g_imul dX12_conNamed_21 ?_
      refine g_iload dX12_conNamed_22 rfl ?_
      refine g_iadd dX12_conNamed_24 ?_
      refine m_l23 (z := (P 23 ((24 * a1) + x3_4_0))) dX12_conNamed_25 ⟨by omega, by omega⟩ rfl ?_
      refine g_lload_n dX12_conNamed_26 rfl ?_
      refine g_lcmp dX12_conNamed_27 ⟨by have q0 := bl_23 (k := ((24 * a1) + x3_4_0)) hB; omega, by have q0 := bl_23 (k := ((24 * a1) + x3_4_0)) hB; omega⟩ ⟨by omega, by omega⟩ ?_
      refine g_nm (fun b44 e_b44 => ?_)
      have h_b44 := lcmpv_b (P 23 ((24 * a1) + x3_4_0)) a2
      have h0_b44 := lcmpv_0 (x := (P 23 ((24 * a1) + x3_4_0))) (y := a2)
      have h1_b44 := lcmpv_lt (x := (P 23 ((24 * a1) + x3_4_0))) (y := a2)
      have h2_b44 := lcmpv_gt (x := (P 23 ((24 * a1) + x3_4_0))) (y := a2)
      rw [← e_b44] at h_b44 h0_b44 h1_b44 h2_b44
      refine g_if_ne (tgt := 34) dX12_conNamed_28 (by decide) ⟨by omega, by omega⟩ (fun k45 => ?_) (fun k45 => ?_)
      · refine g_iinc (l1 := [(4, vI (x3_4_0 + 1)), (0, vR 0), (1, vI a1), (2, vL a2)]) dX12_conNamed_34 rfl (by decide) rfl ?_
        refine g_goto (tgt := 3) dX12_conNamed_37 (by decide) ?_
        refine g_forget (l1 := [(0, vR 0), (1, vI a1), (2, vL a2), (4, vI (x3_4_0 + 1))]) (by intro q hq; simp only [List.mem_cons, List.not_mem_nil, or_false] at hq ⊢; rcases hq with rfl | rfl | rfl | rfl <;> simp) ?_
        exact ih3_0 (x3_4_0 + 1) ⟨by omega, by omega⟩ (by omega)
      · refine g_iload dX12_conNamed_31 rfl ?_
        exact g_retI dX12_conNamed_33 rfl (hQ x3_4_0 ⟨by omega, by omega⟩ (by have q0 := bl_5 (k := a1) hB; omega))
  refine g_forget (l1 := [(0, vR 0), (1, vI a1), (2, vL a2), (4, vI 0)]) (by intro q hq; simp only [List.mem_cons, List.not_mem_nil, or_false] at hq ⊢; rcases hq with rfl | rfl | rfl | rfl <;> simp) ?_
  exact L3_0 _ 0 (by decide) (Nat.lt_succ_self _)
end
end
section
/-! Contracts of the reference: m3. -/
set_option maxRecDepth 100000 in
set_option maxHeartbeats 4000000 in
theorem m_X12_lowest (G : GT) (P : PH) (a1 : Int) (h_a1 : 0 ≤ a1 ∧ a1 ≤ 4095) (hB : BdM P) (Q : Option PV → PH → Prop) (hQ : ∀ (r : Int) (_ : (-1) ≤ r ∧ r ≤ 11) (_ : (a1 = 0 ∧ r = -1) ∨ (a1 ≠ 0 ∧ 0 ≤ r)) (_ : r = -1 ∨ iand (ishr a1 r) 1 = 1), Q (some (vI r)) P) : Ct WSM G 1 iX12_lowest [vI a1] P Q := by
  refine Ct.of (by decide) (l0 := [(0, vI a1)]) rfl (Nat.le_of_ble_eq_true rfl) ?_
  refine g_iload_n dX12_lowest_0 rfl ?_
  refine g_if_ne (tgt := 6) dX12_lowest_1 (by decide) ⟨by omega, by omega⟩ (fun k1 => ?_) (fun k1 => ?_)
  · refine g_iconst dX12_lowest_6 ?_
    refine g_istore_n (l1 := [(1, vI 0), (0, vI a1)]) dX12_lowest_7 (by decide) rfl ?_
    have L8_1 : ∀ (n8_1 : Nat) (x8_1_1 : Int) (h_x8_1_1 : 0 ≤ x8_1_1 ∧ x8_1_1 ≤ 11) (i8_0_1 : ∀ q : Nat, (q : Int) < x8_1_1 → iand (ishr a1 (q : Int)) 1 = 0) (hm8_1 : ((12 - x8_1_1) : Int).toNat < n8_1), Go WSM G 1 iX12_lowest 8 [(0, vI a1), (1, vI x8_1_1)] [] P Q := by
      intro n8_1
      induction n8_1 with
      | zero => intro x8_1_1 h_x8_1_1 i8_0_1 hm8_1; exact absurd hm8_1 (Nat.not_lt_zero _)
      | succ n8_1 ih8_1 =>
      intro x8_1_1 h_x8_1_1 i8_0_1 hm8_1
      refine g_iload_n dX12_lowest_8 rfl ?_
      refine g_iload_n dX12_lowest_9 rfl ?_
      refine g_ishr dX12_lowest_10 ?_
      refine g_nm (fun b15 e_b15 => ?_)
      have h_b15 := ishr_ir a1 x8_1_1
      rw [← e_b15] at h_b15
      refine g_iconst dX12_lowest_11 ?_
      refine g_iand dX12_lowest_12 ?_
      refine g_nm (fun b16 e_b16 => ?_)
      have h_b16 := iand_r (x := b15) (y := 1) ⟨by omega, by omega⟩
      rw [← e_b16] at h_b16
      have hz := e_b16
      rw [e_b15] at hz
      have hne : b16 = 0 → x8_1_1 ≤ 10 := fun h0 => by
        rcases (show x8_1_1 < 11 ∨ 11 ≤ x8_1_1 by omega) with h | h
        · omega
        · exfalso
          have := low12' (x := a1) ⟨by omega, by omega⟩ (fun q hq => by
            rcases (show (q : Int) < x8_1_1 ∨ (q : Int) = x8_1_1 by omega) with h9 | h9
            · exact i8_0_1 q h9
            · rw [h9, ← hz]; exact h0)
          omega
      have hstep : b16 = 0 → ∀ q : Nat, (q : Int) < (x8_1_1 + 1) → iand (ishr a1 (q : Int)) 1 = 0 := fun h0 q hq => by
        rcases (show (q : Int) < x8_1_1 ∨ (q : Int) = x8_1_1 by omega) with h9 | h9
        · exact i8_0_1 q h9
        · rw [h9, ← hz]; exact h0
      refine g_if_ne (tgt := 22) dX12_lowest_13 (by decide) ⟨by omega, by omega⟩ (fun k17 => ?_) (fun k17 => ?_)
      · refine g_iload_n dX12_lowest_22 rfl ?_
        exact g_retI dX12_lowest_23 rfl (hQ x8_1_1 ⟨by omega, by omega⟩ (by omega) (Or.inr (by omega)))
      · refine g_iinc (l1 := [(1, vI (x8_1_1 + 1)), (0, vI a1)]) dX12_lowest_16 rfl (by decide) rfl ?_
        refine g_goto (tgt := 8) dX12_lowest_19 (by decide) ?_
        refine g_forget (l1 := [(0, vI a1), (1, vI (x8_1_1 + 1))]) (by intro q hq; simp only [List.mem_cons, List.not_mem_nil, or_false] at hq ⊢; rcases hq with rfl | rfl <;> simp) ?_
        exact ih8_1 (x8_1_1 + 1) ⟨by omega, by omega⟩ (by first | (intro q hq; exfalso; omega) | exact hstep (by assumption)) (by omega)
    refine g_forget (l1 := [(0, vI a1), (1, vI 0)]) (by intro q hq; simp only [List.mem_cons, List.not_mem_nil, or_false] at hq ⊢; rcases hq with rfl | rfl <;> simp) ?_
    exact L8_1 _ 0 (by decide) (by first | (intro q hq; exfalso; omega) | exact hstep (by assumption)) (Nat.lt_succ_self _)
  · refine g_iconst dX12_lowest_4 ?_
    exact g_retI dX12_lowest_5 rfl (hQ (-1) (by decide) (by omega) (Or.inl rfl))
set_option maxRecDepth 100000 in
set_option maxHeartbeats 4000000 in
theorem m_X12_bitsOf (G : GT) (P : PH) (a1 : Int) (h_a1 : (-2147483648) ≤ a1 ∧ a1 ≤ 2147483647) (hB : BdM P) (Q : Option PV → PH → Prop) (hQ : ∀ (r : Int) (_ : (-2147483648) ≤ r ∧ r ≤ 2147483647), Q (some (vI r)) P) : Ct WSM G 1 iX12_bitsOf [vI a1] P Q := by
  refine Ct.of (by decide) (l0 := [(0, vI a1)]) rfl (Nat.le_of_ble_eq_true rfl) ?_
  refine g_iconst dX12_bitsOf_0 ?_
  refine g_istore_n (l1 := [(1, vI 0), (0, vI a1)]) dX12_bitsOf_1 (by decide) rfl ?_
  refine g_iload_n dX12_bitsOf_2 rfl ?_
  refine g_istore_n (l1 := [(2, vI a1), (1, vI 0), (0, vI a1)]) dX12_bitsOf_3 (by decide) rfl ?_
  have L4_0 : ∀ (n4_0 : Nat) (x4_2_0 : Int) (h_x4_2_0 : (-2147483648) ≤ x4_2_0 ∧ x4_2_0 ≤ 2147483647) (x4_1_0 : Int) (h_x4_1_0 : (-2147483648) ≤ x4_1_0 ∧ x4_1_0 ≤ 2147483647) (hm4_0 : (x4_2_0 : Int).toNat < n4_0), Go WSM G 1 iX12_bitsOf 4 [(1, vI x4_1_0), (2, vI x4_2_0)] [] P Q := by
    intro n4_0
    induction n4_0 with
    | zero => intro x4_2_0 h_x4_2_0 x4_1_0 h_x4_1_0 hm4_0; exact absurd hm4_0 (Nat.not_lt_zero _)
    | succ n4_0 ih4_0 =>
    intro x4_2_0 h_x4_2_0 x4_1_0 h_x4_1_0 hm4_0
    refine g_iload_n dX12_bitsOf_4 rfl ?_
    refine g_if_le (tgt := 21) dX12_bitsOf_5 (by decide) ⟨by omega, by omega⟩ (fun k75 => ?_) (fun k75 => ?_)
    · refine g_iload_n dX12_bitsOf_21 rfl ?_
      exact g_retI dX12_bitsOf_22 rfl (hQ x4_1_0 ⟨by omega, by omega⟩ )
    · refine g_iload_n dX12_bitsOf_8 rfl ?_
      refine g_iload_n dX12_bitsOf_9 rfl ?_
      refine g_iconst dX12_bitsOf_10 ?_
      refine g_iand dX12_bitsOf_11 ?_
      refine g_nm (fun b76 e_b76 => ?_)
      have h_b76 := iand_r (x := x4_2_0) (y := 1) ⟨by omega, by omega⟩
      rw [← e_b76] at h_b76
      refine g_iadd dX12_bitsOf_12 ?_
      refine g_norm (fun r77 h_r77 e_r77 => ?_)
      refine g_istore_n (l1 := [(1, vI r77), (2, vI x4_2_0)]) dX12_bitsOf_13 (by decide) rfl ?_
      refine g_iload_n dX12_bitsOf_14 rfl ?_
      refine g_iconst dX12_bitsOf_15 ?_
      refine g_ishr dX12_bitsOf_16 ?_
      refine g_nm (fun b78 e_b78 => ?_)
      have h_b78 : (ishr x4_2_0 1) = x4_2_0 / 2 := ishr_c 1 (by decide) (x := x4_2_0) ⟨by omega, by omega⟩
      rw [← e_b78] at h_b78
      refine g_istore_n (l1 := [(2, vI b78), (1, vI r77)]) dX12_bitsOf_17 (by decide) rfl ?_
      refine g_goto (tgt := 4) dX12_bitsOf_18 (by decide) ?_
      refine g_forget (l1 := [(1, vI r77), (2, vI b78)]) (by intro q hq; simp only [List.mem_cons, List.not_mem_nil, or_false] at hq ⊢; rcases hq with rfl | rfl <;> simp) ?_
      exact ih4_0 b78 ⟨by omega, by omega⟩ r77 ⟨by omega, by omega⟩ (by omega)
  refine g_forget (l1 := [(1, vI 0), (2, vI a1)]) (by intro q hq; simp only [List.mem_cons, List.not_mem_nil, or_false] at hq ⊢; rcases hq with rfl | rfl <;> simp) ?_
  exact L4_0 _ a1 ⟨by omega, by omega⟩ 0 (by decide) (Nat.lt_succ_self _)
set_option maxRecDepth 100000 in
set_option maxHeartbeats 4000000 in
theorem m_X12_lettersOf (G : GT) (P : PH) (a1 : Int) (h_a1 : (-9223372036854775808) ≤ a1 ∧ a1 ≤ 9223372036854775807) (hB : BdM P) (Q : Option PV → PH → Prop) (hQ : ∀ (r : Int) (_ : 0 ≤ r ∧ r ≤ 8), Q (some (vI r)) P) : Ct WSM G 1 iX12_lettersOf [vL a1] P Q := by
  refine Ct.of (by decide) (l0 := [(0, vL a1)]) rfl (Nat.le_of_ble_eq_true rfl) ?_
  refine g_iconst dX12_lettersOf_0 ?_
  refine g_istore_n (l1 := [(2, vI 0), (0, vL a1)]) dX12_lettersOf_1 (by decide) rfl ?_
  refine g_lload_n dX12_lettersOf_2 rfl ?_
  refine g_lstore_n (l1 := [(3, vL a1), (2, vI 0), (0, vL a1)]) dX12_lettersOf_3 (by decide) rfl ?_
  have L4_0 : ∀ (n4_0 : Nat) (x4_3_0 : Int) (h_x4_3_0 : (-9223372036854775808) ≤ x4_3_0 ∧ x4_3_0 ≤ 9223372036854775807) (x4_2_0 : Int) (h_x4_2_0 : 0 ≤ x4_2_0 ∧ x4_2_0 ≤ 8) (i4_0_0 : (x4_2_0 = 0 ∧ x4_3_0 < 9223372036854775808) ∨ (x4_2_0 = 1 ∧ x4_3_0 < 36028797018963968) ∨ (x4_2_0 = 2 ∧ x4_3_0 < 140737488355328) ∨ (x4_2_0 = 3 ∧ x4_3_0 < 549755813888) ∨ (x4_2_0 = 4 ∧ x4_3_0 < 2147483648) ∨ (x4_2_0 = 5 ∧ x4_3_0 < 8388608) ∨ (x4_2_0 = 6 ∧ x4_3_0 < 32768) ∨ (x4_2_0 = 7 ∧ x4_3_0 < 128) ∨ (x4_2_0 = 8 ∧ x4_3_0 ≤ 0) ∨ (x4_2_0 = 0 ∧ x4_3_0 ≤ 0)) (hm4_0 : (x4_3_0 : Int).toNat < n4_0), Go WSM G 1 iX12_lettersOf 4 [(2, vI x4_2_0), (3, vL x4_3_0)] [] P Q := by
    intro n4_0
    induction n4_0 with
    | zero => intro x4_3_0 h_x4_3_0 x4_2_0 h_x4_2_0 i4_0_0 hm4_0; exact absurd hm4_0 (Nat.not_lt_zero _)
    | succ n4_0 ih4_0 =>
    intro x4_3_0 h_x4_3_0 x4_2_0 h_x4_2_0 i4_0_0 hm4_0
    refine g_lload_n dX12_lettersOf_4 rfl ?_
    refine g_lconst (z := 0) dX12_lettersOf_5 (by decide) ?_
    refine g_lcmp dX12_lettersOf_6 ⟨by omega, by omega⟩ (by decide) ?_
    refine g_nm (fun b14 e_b14 => ?_)
    have h_b14 := lcmpv_b x4_3_0 0
    have h0_b14 := lcmpv_0 (x := x4_3_0) (y := 0)
    have h1_b14 := lcmpv_lt (x := x4_3_0) (y := 0)
    have h2_b14 := lcmpv_gt (x := x4_3_0) (y := 0)
    rw [← e_b14] at h_b14 h0_b14 h1_b14 h2_b14
    refine g_if_le (tgt := 21) dX12_lettersOf_7 (by decide) ⟨by omega, by omega⟩ (fun k15 => ?_) (fun k15 => ?_)
    · refine g_iload_n dX12_lettersOf_21 rfl ?_
      exact g_retI dX12_lettersOf_22 rfl (hQ x4_2_0 ⟨by omega, by omega⟩ )
    · refine g_iinc (l1 := [(2, vI (x4_2_0 + 1)), (3, vL x4_3_0)]) dX12_lettersOf_10 rfl (by decide) rfl ?_
      refine g_lload_n dX12_lettersOf_13 rfl ?_
      refine g_bipush dX12_lettersOf_14 (by decide) ?_
      refine g_lshr dX12_lettersOf_16 ?_
      refine g_nm (fun b16 e_b16 => ?_)
      have h_b16 : (llshr x4_3_0 8) = x4_3_0 / 256 := llshr_c 8 (by decide) (x := x4_3_0) ⟨by omega, by omega⟩
      rw [← e_b16] at h_b16
      refine g_lstore_n (l1 := [(3, vL b16), (2, vI (x4_2_0 + 1))]) dX12_lettersOf_17 (by decide) rfl ?_
      refine g_goto (tgt := 4) dX12_lettersOf_18 (by decide) ?_
      refine g_forget (l1 := [(2, vI (x4_2_0 + 1)), (3, vL b16)]) (by intro q hq; simp only [List.mem_cons, List.not_mem_nil, or_false] at hq ⊢; rcases hq with rfl | rfl <;> simp) ?_
      exact ih4_0 b16 ⟨by omega, by omega⟩ (x4_2_0 + 1) ⟨by omega, by omega⟩ (by omega) (by omega)
  refine g_forget (l1 := [(2, vI 0), (3, vL a1)]) (by intro q hq; simp only [List.mem_cons, List.not_mem_nil, or_false] at hq ⊢; rcases hq with rfl | rfl <;> simp) ?_
  exact L4_0 _ a1 ⟨by omega, by omega⟩ 0 (by decide) (by omega) (Nat.lt_succ_self _)
set_option maxRecDepth 100000 in
set_option maxHeartbeats 4000000 in
theorem m_X12_columnValues (G : GT) (P : PH) (a1 : Int) (h_a1 : 0 ≤ a1 ∧ a1 ≤ 3) (hB : BdM P) (p_c : a1 < P 11 (P 0 13)) (v_okC : okC P) (Q : Option PV → PH → Prop) (hQ : ∀ (r : Int) (_ : 1 ≤ r ∧ r ≤ 2006) (_ : r = vals P (P 0 13) (P 12 (4 * P 0 13 + a1))), Q (some (vI r)) P) : Ct WSM G 2 iX12_columnValues [vR 0, vI a1] P Q := by
  refine Ct.of (by decide) (l0 := [(0, vR 0), (1, vI a1)]) rfl (Nat.le_of_ble_eq_true rfl) ?_
  refine g_aload_n dX12_columnValues_0 rfl ?_
  refine g_aload_n dX12_columnValues_1 rfl ?_
  refine m_g13 (z := (P 0 13)) rfl dX12_columnValues_2 rfl ?_
  refine g_aload_n dX12_columnValues_5 rfl ?_
  refine m_g24 rfl dX12_columnValues_6 ?_
  refine g_iconst dX12_columnValues_9 ?_
  refine g_aload_n dX12_columnValues_10 rfl ?_
  refine m_g13 (z := (P 0 13)) rfl dX12_columnValues_11 rfl ?_
  refine g_imul dX12_columnValues_14 ?_
  refine g_iload_n dX12_columnValues_15 rfl ?_
  refine g_iadd dX12_columnValues_16 ?_
  refine m_l12 (z := (P 12 ((4 * (P 0 13)) + a1))) dX12_columnValues_17 ⟨by have q0 := b0_13 hB; omega, by have q0 := b0_13 hB; omega⟩ rfl ?_
  have f1 := b0_13 hB
  have f2 := bl_12 (k := ((4 * (P 0 13)) + a1)) hB
  refine g_vI (av := [vI (P 0 13), vI (P 12 ((4 * (P 0 13)) + a1))]) (o := 0) (st := []) (m_X12_valuesOf G P (P 0 13) (P 12 ((4 * (P 0 13)) + a1)) ⟨by have q0 := b0_13 hB; omega, by have q0 := b0_13 hB; omega⟩ ⟨by have q0 := bl_12 (k := ((4 * (P 0 13)) + a1)) hB; omega, by have q0 := bl_12 (k := ((4 * (P 0 13)) + a1)) hB; omega⟩ hB  _ (fun rc3 hc3 gc3_v => ⟨rc3, rfl, ?_⟩)) cf_X12_valuesOf t_1756 rfl (by decide) rfl rfl rfl (Nat.le_of_ble_eq_true rfl) (by decide) rfl dX12_columnValues_18
  have ho := v_okC a1 (by omega) (by omega)
  exact g_retI dX12_columnValues_21 rfl (hQ rc3 ⟨by omega, by omega⟩ (vals_of gc3_v))
set_option maxRecDepth 100000 in
set_option maxHeartbeats 4000000 in
theorem m_X12_setIn (G : GT) (P : PH) (a1 : Int) (a2 : Int) (h_a1 : 0 ≤ a1 ∧ a1 ≤ 3) (h_a2 : 0 ≤ a2 ∧ a2 ≤ 2009) (hB : BdM P) (Q : Option PV → PH → Prop) (hQ : ∀ (r : Int) (_ : 0 ≤ r ∧ r ≤ 4095), Q (some (vI r)) P) : Ct WSM G 1 iX12_setIn [vR 0, vI a1, vI a2] P Q := by
  refine Ct.of (by decide) (l0 := [(0, vR 0), (1, vI a1), (2, vI a2)]) rfl (Nat.le_of_ble_eq_true rfl) ?_
  refine g_aload_n dX12_setIn_0 rfl ?_
  refine m_g63 rfl dX12_setIn_1 ?_
  refine g_sipush dX12_setIn_4 (by decide) ?_
  refine g_iload_n dX12_setIn_7 rfl ?_
  refine g_imul dX12_setIn_8 ?_
  refine g_aload_n dX12_setIn_9 rfl ?_
  refine m_g48 rfl dX12_setIn_10 ?_
  refine g_sipush dX12_setIn_13 (by decide) ?_
  refine g_iload_n dX12_setIn_16 rfl ?_
  refine g_imul dX12_setIn_17 ?_
  refine g_iload_n dX12_setIn_18 rfl ?_
  refine g_iadd dX12_setIn_19 ?_
  refine m_l31 (z := (P 31 ((2010 * a1) + a2))) dX12_setIn_20 ⟨by omega, by omega⟩ rfl ?_
  refine g_iadd dX12_setIn_21 ?_
  refine m_l41 (z := (P 41 ((2010 * a1) + (P 31 ((2010 * a1) + a2))))) dX12_setIn_22 ⟨by have q0 := bl_31 (k := ((2010 * a1) + a2)) hB; omega, by have q0 := bl_31 (k := ((2010 * a1) + a2)) hB; omega⟩ rfl ?_
  exact g_retI dX12_setIn_23 rfl (hQ (P 41 ((2010 * a1) + (P 31 ((2010 * a1) + a2)))) ⟨by have q0 := bl_41 (k := ((2010 * a1) + (P 31 ((2010 * a1) + a2)))) hB; omega, by have q0 := bl_41 (k := ((2010 * a1) + (P 31 ((2010 * a1) + a2)))) hB; omega⟩ )
set_option maxRecDepth 100000 in
set_option maxHeartbeats 4000000 in
theorem m_X12_isPlace (G : GT) (P : PH) (a1 : Int) (h_a1 : (-2147483648) ≤ a1 ∧ a1 ≤ 2147483647) (hB : BdM P) (Q : Option PV → PH → Prop) (hQ : ∀ (r : Int) (_ : 0 ≤ r ∧ r ≤ 1) (_ : r = 0 ∨ (P 0 44 ≠ 0 ∧ 0 ≤ a1 ∧ a1 < P 35 0)), Q (some (vI r)) P) : Ct WSM G 2 iX12_isPlace [vR 0, vI a1] P Q := by
  refine Ct.of (by decide) (l0 := [(0, vR 0), (1, vI a1)]) rfl (Nat.le_of_ble_eq_true rfl) ?_
  refine g_aload_n dX12_isPlace_0 rfl ?_
  refine m_g44 (z := (P 0 44)) rfl dX12_isPlace_1 rfl ?_
  have f1 := b0_44 hB
  refine g_if_eq (tgt := 27) dX12_isPlace_4 (by decide) ⟨by have q0 := b0_44 hB; omega, by have q0 := b0_44 hB; omega⟩ (fun k2 => ?_) (fun k2 => ?_)
  · refine g_iconst dX12_isPlace_27 ?_
    exact g_retZ dX12_isPlace_28 rfl (by decide) (hQ 0 (by decide) (by have q0 := b0_44 hB; have q1 := bl_35 (k := 0) hB; omega))
  · refine g_iload_n dX12_isPlace_7 rfl ?_
    refine g_iconst dX12_isPlace_8 ?_
    refine g_aload_n dX12_isPlace_9 rfl ?_
    refine m_g53 rfl dX12_isPlace_10 ?_
    refine g_iconst dX12_isPlace_13 ?_
    refine m_l35 (z := (P 35 0)) dX12_isPlace_14 (by decide) rfl ?_
    refine g_iconst dX12_isPlace_15 ?_
    refine g_isub dX12_isPlace_16 ?_
    have f3 := bl_35 (k := 0) hB
    refine g_sI (av := [vI a1, vI 0, vI ((P 35 0) - 1)]) (st := []) (m_X12_is G P a1 0 ((P 35 0) - 1) ⟨by omega, by omega⟩ (by decide) ⟨by have q0 := bl_35 (k := 0) hB; omega, by have q0 := bl_35 (k := 0) hB; omega⟩ hB  _ (fun rc4 hc4 gc4_is => ⟨rc4, rfl, ?_⟩)) cf_X12_is t_1800 rfl (Nat.le_of_ble_eq_true rfl) (by decide) rfl dX12_isPlace_17
    refine g_if_eq (tgt := 27) dX12_isPlace_20 (by decide) ⟨by omega, by omega⟩ (fun k5 => ?_) (fun k5 => ?_)
    · refine g_iconst dX12_isPlace_27 ?_
      exact g_retZ dX12_isPlace_28 rfl (by decide) (hQ 0 (by decide) (by have q0 := b0_44 hB; have q1 := bl_35 (k := 0) hB; omega))
    · refine g_iconst dX12_isPlace_23 ?_
      refine g_goto (tgt := 28) dX12_isPlace_24 (by decide) ?_
      exact g_retZ dX12_isPlace_28 rfl (by decide) (hQ 1 (by decide) (by have q0 := b0_44 hB; have q1 := bl_35 (k := 0) hB; omega))
set_option maxRecDepth 100000 in
set_option maxHeartbeats 4000000 in
theorem m_X12_isRow (G : GT) (P : PH) (a1 : Int) (h_a1 : (-2147483648) ≤ a1 ∧ a1 ≤ 2147483647) (hB : BdM P) (Q : Option PV → PH → Prop) (hQ : ∀ (r : Int) (_ : 0 ≤ r ∧ r ≤ 1) (_ : r = 0 ∨ (P 0 44 ≠ 0 ∧ 0 ≤ a1 ∧ a1 < P 0 52)), Q (some (vI r)) P) : Ct WSM G 2 iX12_isRow [vR 0, vI a1] P Q := by
  refine Ct.of (by decide) (l0 := [(0, vR 0), (1, vI a1)]) rfl (Nat.le_of_ble_eq_true rfl) ?_
  refine g_aload_n dX12_isRow_0 rfl ?_
  refine m_g44 (z := (P 0 44)) rfl dX12_isRow_1 rfl ?_
  have f1 := b0_44 hB
  refine g_if_eq (tgt := 25) dX12_isRow_4 (by decide) ⟨by have q0 := b0_44 hB; omega, by have q0 := b0_44 hB; omega⟩ (fun k2 => ?_) (fun k2 => ?_)
  · refine g_iconst dX12_isRow_25 ?_
    exact g_retZ dX12_isRow_26 rfl (by decide) (hQ 0 (by decide) (by have q0 := b0_44 hB; have q1 := b0_52 hB; omega))
  · refine g_iload_n dX12_isRow_7 rfl ?_
    refine g_iconst dX12_isRow_8 ?_
    refine g_aload_n dX12_isRow_9 rfl ?_
    refine m_g52 (z := (P 0 52)) rfl dX12_isRow_10 rfl ?_
    refine g_iconst dX12_isRow_13 ?_
    refine g_isub dX12_isRow_14 ?_
    have f3 := b0_52 hB
    refine g_sI (av := [vI a1, vI 0, vI ((P 0 52) - 1)]) (st := []) (m_X12_is G P a1 0 ((P 0 52) - 1) ⟨by omega, by omega⟩ (by decide) ⟨by have q0 := b0_52 hB; omega, by have q0 := b0_52 hB; omega⟩ hB  _ (fun rc4 hc4 gc4_is => ⟨rc4, rfl, ?_⟩)) cf_X12_is t_1800 rfl (Nat.le_of_ble_eq_true rfl) (by decide) rfl dX12_isRow_15
    refine g_if_eq (tgt := 25) dX12_isRow_18 (by decide) ⟨by omega, by omega⟩ (fun k5 => ?_) (fun k5 => ?_)
    · refine g_iconst dX12_isRow_25 ?_
      exact g_retZ dX12_isRow_26 rfl (by decide) (hQ 0 (by decide) (by have q0 := b0_44 hB; have q1 := b0_52 hB; omega))
    · refine g_iconst dX12_isRow_21 ?_
      refine g_goto (tgt := 26) dX12_isRow_22 (by decide) ?_
      exact g_retZ dX12_isRow_26 rfl (by decide) (hQ 1 (by decide) (by have q0 := b0_44 hB; have q1 := b0_52 hB; omega))
set_option maxRecDepth 100000 in
set_option maxHeartbeats 4000000 in
theorem m_X12_opensPattern (G : GT) (P : PH) (a1 : Int) (h_a1 : 0 ≤ a1 ∧ a1 ≤ 4) (hB : BdM P) (p_o : P 0 43 ≤ 8) (Q : Option PV → PH → Prop) (hQ : ∀ (P1 : PH) (_ : BdM P1) (_ : FrM ([43], [24, 25]) P P1) (_ : P1 0 43 = P 0 43 + 1) (_ : P1 24 (P 0 43 + 1) = a1) (_ : P1 25 (P 0 43 + 1) = 0) (_ : ∀ j : Int, j ≠ P 0 43 + 1 → P1 24 j = P 24 j) (_ : ∀ j : Int, j ≠ P 0 43 + 1 → P1 25 j = P 25 j), Q none P1) : Ct WSM G 1 iX12_opensPattern [vR 0, vI a1] P Q := by
  refine Ct.of (by decide) (l0 := [(0, vR 0), (1, vI a1)]) rfl (Nat.le_of_ble_eq_true rfl) ?_
  refine g_aload_n dX12_opensPattern_0 rfl ?_
  refine g_dup dX12_opensPattern_1 rfl ?_
  refine m_g43 (z := (P 0 43)) rfl dX12_opensPattern_2 rfl ?_
  refine g_iconst dX12_opensPattern_5 ?_
  refine g_iadd dX12_opensPattern_6 ?_
  refine m_p43 rfl dX12_opensPattern_7 ?_
  have hB1 := bs_43 (z := ((P 0 43) + 1)) hB ⟨by have q0 := b0_43 hB; omega, by have q0 := b0_43 hB; omega⟩
  refine g_aload_n dX12_opensPattern_10 rfl ?_
  refine m_g39 rfl dX12_opensPattern_11 ?_
  refine g_aload_n dX12_opensPattern_14 rfl ?_
  refine m_g43 (z := ((P 0 43) + 1)) rfl dX12_opensPattern_15 up_same ?_
  refine g_iload_n dX12_opensPattern_18 rfl ?_
  refine m_s24 dX12_opensPattern_19 ⟨by have q0 := b0_43 hB; omega, by have q0 := b0_43 hB; omega⟩ ?_
  have hB2 := ba_24 (z := a1) (k := ((P 0 43) + 1)) hB1 ⟨by omega, by omega⟩
  refine g_aload_n dX12_opensPattern_20 rfl ?_
  refine m_g40 rfl dX12_opensPattern_21 ?_
  refine g_aload_n dX12_opensPattern_24 rfl ?_
  refine m_g43 (z := ((P 0 43) + 1)) rfl dX12_opensPattern_25 ((up_o (by decide)).trans up_same) ?_
  refine g_iconst dX12_opensPattern_28 ?_
  refine m_s25 dX12_opensPattern_29 ⟨by have q0 := b0_43 hB; omega, by have q0 := b0_43 hB; omega⟩ ?_
  have hB3 := ba_25 (z := 0) (k := ((P 0 43) + 1)) hB2 (by decide)
  exact g_retV dX12_opensPattern_30 rfl (hQ _ hB3 (FrM.a (FrM.a (FrM.s FrM.rf rfl) rfl rfl) rfl rfl) (by have q0 := (((up_o (by decide)).trans ((up_o (by decide)).trans up_same)) : (up (up (up P 0 43 ((P 0 43) + 1)) 24 ((P 0 43) + 1) a1) 25 ((P 0 43) + 1) 0) 0 43 = ((P 0 43) + 1)); have q1 := b0_43 hB; omega) (((up_o (by decide)).trans up_same)) (up_same) (fun j hj => ((up_o (by decide)).trans ((up_k hj).trans ((up_o (by decide)).trans rfl)))) (fun j hj => ((up_k hj).trans ((up_o (by decide)).trans ((up_o (by decide)).trans rfl)))))
set_option maxRecDepth 100000 in
set_option maxHeartbeats 4000000 in
theorem m_X12_writes (G : GT) (P : PH) (a1 : Int) (h_a1 : (-2147483648) ≤ a1 ∧ a1 ≤ 2147483647) (hB : BdM P) (p_o : P 0 70 ≤ 1799) (Q : Option PV → PH → Prop) (hQ : ∀ (P1 : PH) (_ : BdM P1) (_ : FrM ([70], [46]) P P1) (_ : P1 0 70 = P 0 70 + 1), Q none P1) : Ct WSM G 1 iX12_writes [vR 0, vI a1] P Q := by
  refine Ct.of (by decide) (l0 := [(0, vR 0), (1, vI a1)]) rfl (Nat.le_of_ble_eq_true rfl) ?_
  refine g_aload_n dX12_writes_0 rfl ?_
  refine m_g69 rfl dX12_writes_1 ?_
  refine g_aload_n dX12_writes_4 rfl ?_
  refine m_g70 (z := (P 0 70)) rfl dX12_writes_5 rfl ?_
  refine g_iload_n dX12_writes_8 rfl ?_
  refine g_sipush dX12_writes_9 (by decide) ?_
  refine g_iand dX12_writes_12 ?_
  refine g_nm (fun b1 e_b1 => ?_)
  have h_b1 := iand_r (x := a1) (y := 255) ⟨by omega, by omega⟩
  rw [← e_b1] at h_b1
  refine m_s46 dX12_writes_13 ⟨by have q0 := b0_70 hB; omega, by have q0 := b0_70 hB; omega⟩ ?_
  have hB2 := ba_46 (z := b1) (k := (P 0 70)) hB ⟨by omega, by omega⟩
  refine g_aload_n dX12_writes_14 rfl ?_
  refine g_dup dX12_writes_15 rfl ?_
  refine m_g70 (z := (P 0 70)) rfl dX12_writes_16 ((up_o (by decide)).trans rfl) ?_
  refine g_iconst dX12_writes_19 ?_
  refine g_iadd dX12_writes_20 ?_
  refine m_p70 rfl dX12_writes_21 ?_
  have hB3 := bs_70 (z := ((P 0 70) + 1)) hB2 ⟨by have q0 := b0_70 hB; omega, by have q0 := b0_70 hB; omega⟩
  exact g_retV dX12_writes_24 rfl (hQ _ hB3 (FrM.s (FrM.a FrM.rf rfl rfl) rfl) (by have q0 := (up_same : (up (up P 46 (P 0 70) b1) 0 70 ((P 0 70) + 1)) 0 70 = ((P 0 70) + 1)); have q1 := b0_70 hB; omega))
set_option maxRecDepth 100000 in
set_option maxHeartbeats 4000000 in
theorem m_X12_later (G : GT) (P : PH) (a1 : Int) (a2 : Int) (h_a1 : 0 ≤ a1 ∧ a1 ≤ 5) (h_a2 : (-2147483648) ≤ a2 ∧ a2 ≤ 2147483647) (hB : BdM P) (p_o : P 0 73 ≤ 39) (Q : Option PV → PH → Prop) (hQ : ∀ (P1 : PH) (_ : BdM P1) (_ : FrM ([73], [47, 48]) P P1) (_ : P1 0 73 = P 0 73 + 1) (_ : LA a1 a2 P P1), Q none P1) : Ct WSM G 1 iX12_later [vR 0, vI a1, vI a2] P Q := by
  refine Ct.of (by decide) (l0 := [(0, vR 0), (1, vI a1), (2, vI a2)]) rfl (Nat.le_of_ble_eq_true rfl) ?_
  refine g_aload_n dX12_later_0 rfl ?_
  refine m_g71 rfl dX12_later_1 ?_
  refine g_aload_n dX12_later_4 rfl ?_
  refine m_g73 (z := (P 0 73)) rfl dX12_later_5 rfl ?_
  refine g_iload_n dX12_later_8 rfl ?_
  refine m_s47 dX12_later_9 ⟨by have q0 := b0_73 hB; omega, by have q0 := b0_73 hB; omega⟩ ?_
  have hB1 := ba_47 (z := a1) (k := (P 0 73)) hB ⟨by omega, by omega⟩
  refine g_aload_n dX12_later_10 rfl ?_
  refine m_g72 rfl dX12_later_11 ?_
  refine g_aload_n dX12_later_14 rfl ?_
  refine m_g73 (z := (P 0 73)) rfl dX12_later_15 ((up_o (by decide)).trans rfl) ?_
  refine g_iload_n dX12_later_18 rfl ?_
  refine m_s48 dX12_later_19 ⟨by have q0 := b0_73 hB; omega, by have q0 := b0_73 hB; omega⟩ ?_
  have hB2 := ba_48 (z := a2) (k := (P 0 73)) hB1 ⟨by omega, by omega⟩
  refine g_aload_n dX12_later_20 rfl ?_
  refine g_dup dX12_later_21 rfl ?_
  refine m_g73 (z := (P 0 73)) rfl dX12_later_22 ((up_o (by decide)).trans ((up_o (by decide)).trans rfl)) ?_
  refine g_iconst dX12_later_25 ?_
  refine g_iadd dX12_later_26 ?_
  refine m_p73 rfl dX12_later_27 ?_
  have hB3 := bs_73 (z := ((P 0 73) + 1)) hB2 ⟨by have q0 := b0_73 hB; omega, by have q0 := b0_73 hB; omega⟩
  exact g_retV dX12_later_30 rfl (hQ _ hB3 (FrM.s (FrM.a (FrM.a FrM.rf rfl rfl) rfl rfl) rfl) (by have q0 := (up_same : (up (up (up P 47 (P 0 73) a1) 48 (P 0 73) a2) 0 73 ((P 0 73) + 1)) 0 73 = ((P 0 73) + 1)); have q1 := b0_73 hB; omega) (⟨up_same, fun j hj => ⟨((up_o (by decide)).trans ((up_o (by decide)).trans ((up_k hj).trans rfl))), ((up_o (by decide)).trans ((up_k hj).trans ((up_o (by decide)).trans rfl)))⟩, ((up_o (by decide)).trans ((up_o (by decide)).trans up_same)), ((up_o (by decide)).trans up_same)⟩))
set_option maxRecDepth 100000 in
set_option maxHeartbeats 4000000 in
theorem m_X12_octet (G : GT) (P : PH) (a1 : Int) (h_a1 : (-2147483648) ≤ a1 ∧ a1 ≤ 2147483647) (hB : BdM P) (Q : Option PV → PH → Prop) (hQ : ∀ (r : Int) (_ : (-1) ≤ r ∧ r ≤ 255), Q (some (vI r)) P) : Ct WSM G 2 iX12_octet [vR 0, vI a1] P Q := by
  refine Ct.of (by decide) (l0 := [(0, vR 0), (1, vI a1)]) rfl (Nat.le_of_ble_eq_true rfl) ?_
  refine g_iload_n dX12_octet_0 rfl ?_
  refine g_iconst dX12_octet_1 ?_
  refine g_aload_n dX12_octet_2 rfl ?_
  refine m_g70 (z := (P 0 70)) rfl dX12_octet_3 rfl ?_
  refine g_iconst dX12_octet_6 ?_
  refine g_isub dX12_octet_7 ?_
  have f1 := b0_70 hB
  refine g_sI (av := [vI a1, vI 0, vI ((P 0 70) - 1)]) (st := []) (m_X12_is G P a1 0 ((P 0 70) - 1) ⟨by omega, by omega⟩ (by decide) ⟨by have q0 := b0_70 hB; omega, by have q0 := b0_70 hB; omega⟩ hB  _ (fun rc2 hc2 gc2_is => ⟨rc2, rfl, ?_⟩)) cf_X12_is t_1800 rfl (Nat.le_of_ble_eq_true rfl) (by decide) rfl dX12_octet_8
  refine g_if_eq (tgt := 23) dX12_octet_11 (by decide) ⟨by omega, by omega⟩ (fun k3 => ?_) (fun k3 => ?_)
  · refine g_iconst dX12_octet_23 ?_
    exact g_retI dX12_octet_24 rfl (hQ (-1) (by decide) )
  · refine g_aload_n dX12_octet_14 rfl ?_
    refine m_g69 rfl dX12_octet_15 ?_
    refine g_iload_n dX12_octet_18 rfl ?_
    refine m_l46 (z := (P 46 a1)) dX12_octet_19 ⟨by omega, by omega⟩ rfl ?_
    refine g_goto (tgt := 24) dX12_octet_20 (by decide) ?_
    exact g_retI dX12_octet_24 rfl (hQ (P 46 a1) ⟨by have q0 := bl_46 (k := a1) hB; omega, by have q0 := bl_46 (k := a1) hB; omega⟩ )
set_option maxRecDepth 100000 in
set_option maxHeartbeats 4000000 in
theorem m_X12_leftOf (G : GT) (P : PH) (a1 : Int) (a2 : Int) (h_a1 : 0 ≤ a1 ∧ a1 ≤ 4095) (h_a2 : 0 ≤ a2 ∧ a2 ≤ 15) (hB : BdM P) (Q : Option PV → PH → Prop) (hQ : ∀ (r : Int) (_ : 0 ≤ r ∧ r ≤ 65535) (_ : r = a1 + 4096 * a2), Q (some (vI r)) P) : Ct WSM G 1 iX12_leftOf [vI a1, vI a2] P Q := by
  refine Ct.of (by decide) (l0 := [(0, vI a1), (1, vI a2)]) rfl (Nat.le_of_ble_eq_true rfl) ?_
  refine g_iload_n dX12_leftOf_0 rfl ?_
  refine g_iload_n dX12_leftOf_1 rfl ?_
  refine g_bipush dX12_leftOf_2 (by decide) ?_
  refine g_ishl dX12_leftOf_4 ?_
  refine g_nm (fun b1 e_b1 => ?_)
  have h_b1 : (ishl a2 12) = a2 * 4096 := ishl_c 12 (by decide) (x := a2) (show IR (a2 * 4096) from ⟨by omega, by omega⟩)
  rw [← e_b1] at h_b1
  refine g_ior dX12_leftOf_5 ?_
  refine g_nm (fun b2 e_b2 => ?_)
  have h_b2 : 0 ≤ (ior a1 b1) ∧ (ior a1 b1) < 65536 := ior_b 16 (by decide) (x := a1) (y := b1) (show 0 ≤ a1 ∧ a1 < 65536 from ⟨by omega, by omega⟩) (show 0 ≤ b1 ∧ b1 < 65536 from ⟨by omega, by omega⟩)
  rw [← e_b2] at h_b2
  have hz := ior_hl12 (x := a1) (y := a2) ⟨by omega, by omega⟩ (by omega) (by omega)
  have e9 : b2 = a2 * 4096 + a1 := by rw [e_b2, h_b1]; exact hz
  exact g_retI dX12_leftOf_6 rfl (hQ b2 ⟨by omega, by omega⟩ (by omega))
set_option maxRecDepth 100000 in
set_option maxHeartbeats 4000000 in
theorem m_X12_armsIn (G : GT) (P : PH) (a1 : Int) (h_a1 : 0 ≤ a1 ∧ a1 ≤ 65535) (hB : BdM P) (Q : Option PV → PH → Prop) (hQ : ∀ (r : Int) (_ : 0 ≤ r ∧ r ≤ 4095) (_ : r = a1 % 4096), Q (some (vI r)) P) : Ct WSM G 1 iX12_armsIn [vI a1] P Q := by
  refine Ct.of (by decide) (l0 := [(0, vI a1)]) rfl (Nat.le_of_ble_eq_true rfl) ?_
  refine g_iload_n dX12_armsIn_0 rfl ?_
  refine g_sipush dX12_armsIn_1 (by decide) ?_
  refine g_iand dX12_armsIn_4 ?_
  refine g_nm (fun b1 e_b1 => ?_)
  have h_b1 := iand_r (x := a1) (y := 4095) ⟨by omega, by omega⟩
  rw [← e_b1] at h_b1
  have e9 : b1 = a1 % 4096 := by rw [e_b1]; exact iand4095 ⟨by omega, by omega⟩
  exact g_retI dX12_armsIn_5 rfl (hQ b1 ⟨by omega, by omega⟩ (by omega))
set_option maxRecDepth 100000 in
set_option maxHeartbeats 4000000 in
theorem m_X12_columnsIn (G : GT) (P : PH) (a1 : Int) (h_a1 : 0 ≤ a1 ∧ a1 ≤ 65535) (hB : BdM P) (Q : Option PV → PH → Prop) (hQ : ∀ (r : Int) (_ : 0 ≤ r ∧ r ≤ 15) (_ : r = a1 / 4096), Q (some (vI r)) P) : Ct WSM G 1 iX12_columnsIn [vI a1] P Q := by
  refine Ct.of (by decide) (l0 := [(0, vI a1)]) rfl (Nat.le_of_ble_eq_true rfl) ?_
  refine g_iload_n dX12_columnsIn_0 rfl ?_
  refine g_bipush dX12_columnsIn_1 (by decide) ?_
  refine g_ishr dX12_columnsIn_3 ?_
  refine g_nm (fun b1 e_b1 => ?_)
  have h_b1 : (ishr a1 12) = a1 / 4096 := ishr_c 12 (by decide) (x := a1) ⟨by omega, by omega⟩
  rw [← e_b1] at h_b1
  exact g_retI dX12_columnsIn_4 rfl (hQ b1 ⟨by omega, by omega⟩ (by omega))
set_option maxRecDepth 100000 in
set_option maxHeartbeats 4000000 in
theorem m_X12_swapped (G : GT) (P : PH) (a1 : Int) (a2 : Int) (a3 : Int) (h_a1 : 0 ≤ a1 ∧ a1 ≤ 4095) (h_a2 : 0 ≤ a2 ∧ a2 ≤ 11) (h_a3 : 0 ≤ a3 ∧ a3 ≤ 11) (hB : BdM P) (Q : Option PV → PH → Prop) (hQ : ∀ (r : Int) (_ : 0 ≤ r ∧ r ≤ 4095), Q (some (vI r)) P) : Ct WSM G 1 iX12_swapped [vI a1, vI a2, vI a3] P Q := by
  refine Ct.of (by decide) (l0 := [(0, vI a1), (1, vI a2), (2, vI a3)]) rfl (Nat.le_of_ble_eq_true rfl) ?_
  refine g_iload_n dX12_swapped_0 rfl ?_
  refine g_iload_n dX12_swapped_1 rfl ?_
  refine g_ishr dX12_swapped_2 ?_
  refine g_nm (fun b1 e_b1 => ?_)
  have h_b1 := ishr_ir a1 a2
  rw [← e_b1] at h_b1
  refine g_iconst dX12_swapped_3 ?_
  refine g_iand dX12_swapped_4 ?_
  refine g_nm (fun b2 e_b2 => ?_)
  have h_b2 := iand_r (x := b1) (y := 1) ⟨by omega, by omega⟩
  rw [← e_b2] at h_b2
  refine g_iload_n dX12_swapped_5 rfl ?_
  refine g_iload_n dX12_swapped_6 rfl ?_
  refine g_ishr dX12_swapped_7 ?_
  refine g_nm (fun b3 e_b3 => ?_)
  have h_b3 := ishr_ir a1 a3
  rw [← e_b3] at h_b3
  refine g_iconst dX12_swapped_8 ?_
  refine g_iand dX12_swapped_9 ?_
  refine g_nm (fun b4 e_b4 => ?_)
  have h_b4 := iand_r (x := b3) (y := 1) ⟨by omega, by omega⟩
  rw [← e_b4] at h_b4
  refine g_icmp_ne (tgt := 15) dX12_swapped_10 (by decide) ⟨by omega, by omega⟩ ⟨by omega, by omega⟩ (fun k5 => ?_) (fun k5 => ?_)
  · refine g_iload_n dX12_swapped_15 rfl ?_
    refine g_iconst dX12_swapped_16 ?_
    refine g_iload_n dX12_swapped_17 rfl ?_
    refine g_ishl dX12_swapped_18 ?_
    refine g_nm (fun b6 e_b6 => ?_)
    have h_b6 : 1 ≤ (ishl 1 a2) ∧ (ishl 1 a2) ≤ 2048 := (ishl1 11 (by decide) (y := a2) ⟨by omega, by omega⟩).2
    rw [← e_b6] at h_b6
    refine g_iconst dX12_swapped_19 ?_
    refine g_iload_n dX12_swapped_20 rfl ?_
    refine g_ishl dX12_swapped_21 ?_
    refine g_nm (fun b7 e_b7 => ?_)
    have h_b7 : 1 ≤ (ishl 1 a3) ∧ (ishl 1 a3) ≤ 2048 := (ishl1 11 (by decide) (y := a3) ⟨by omega, by omega⟩).2
    rw [← e_b7] at h_b7
    refine g_ior dX12_swapped_22 ?_
    refine g_nm (fun b8 e_b8 => ?_)
    have h_b8 : 0 ≤ (ior b6 b7) ∧ (ior b6 b7) < 4096 := ior_b 12 (by decide) (x := b6) (y := b7) (show 0 ≤ b6 ∧ b6 < 4096 from ⟨by omega, by omega⟩) (show 0 ≤ b7 ∧ b7 < 4096 from ⟨by omega, by omega⟩)
    rw [← e_b8] at h_b8
    refine g_ixor dX12_swapped_23 ?_
    refine g_nm (fun b9 e_b9 => ?_)
    have h_b9 : 0 ≤ (ixor a1 b8) ∧ (ixor a1 b8) < 4096 := ixor_b 12 (by decide) (x := a1) (y := b8) (show 0 ≤ a1 ∧ a1 < 4096 from ⟨by omega, by omega⟩) (show 0 ≤ b8 ∧ b8 < 4096 from ⟨by omega, by omega⟩)
    rw [← e_b9] at h_b9
    exact g_retI dX12_swapped_24 rfl (hQ b9 ⟨by omega, by omega⟩ )
  · refine g_iload_n dX12_swapped_13 rfl ?_
    exact g_retI dX12_swapped_14 rfl (hQ a1 ⟨by omega, by omega⟩ )
set_option maxRecDepth 100000 in
set_option maxHeartbeats 4000000 in
theorem m_X12_moved (G : GT) (P : PH) (a1 : Int) (a2 : Int) (a3 : Int) (h_a1 : (-2147483648) ≤ a1 ∧ a1 ≤ 2147483647) (h_a2 : (-2147483648) ≤ a2 ∧ a2 ≤ 2147483647) (h_a3 : (-2147483648) ≤ a3 ∧ a3 ≤ 2147483647) (hB : BdM P) (Q : Option PV → PH → Prop) (hQ : ∀ (r : Int) (_ : (-2147483648) ≤ r ∧ r ≤ 2147483647), Q (some (vI r)) P) : Ct WSM G 1 iX12_moved [vI a1, vI a2, vI a3] P Q := by
  refine Ct.of (by decide) (l0 := [(0, vI a1), (1, vI a2), (2, vI a3)]) rfl (Nat.le_of_ble_eq_true rfl) ?_
  refine g_iload_n dX12_moved_0 rfl ?_
  refine g_iload_n dX12_moved_1 rfl ?_
  refine g_icmp_ne (tgt := 9) dX12_moved_2 (by decide) ⟨by omega, by omega⟩ ⟨by omega, by omega⟩ (fun k1 => ?_) (fun k1 => ?_)
  · refine g_iload_n dX12_moved_9 rfl ?_
    refine g_iload_n dX12_moved_10 rfl ?_
    refine g_icmp_ne (tgt := 18) dX12_moved_11 (by decide) ⟨by omega, by omega⟩ ⟨by omega, by omega⟩ (fun k2 => ?_) (fun k2 => ?_)
    · refine g_iload_n dX12_moved_18 rfl ?_
      exact g_retI dX12_moved_19 rfl (hQ a1 ⟨by omega, by omega⟩ )
    · refine g_iload_n dX12_moved_14 rfl ?_
      refine g_goto (tgt := 19) dX12_moved_15 (by decide) ?_
      exact g_retI dX12_moved_19 rfl (hQ a2 ⟨by omega, by omega⟩ )
  · refine g_iload_n dX12_moved_5 rfl ?_
    refine g_goto (tgt := 19) dX12_moved_6 (by decide) ?_
    exact g_retI dX12_moved_19 rfl (hQ a3 ⟨by omega, by omega⟩ )
set_option maxRecDepth 100000 in
set_option maxHeartbeats 4000000 in
theorem m_X12_begin (G : GT) (P : PH) (hB : BdM P) (Q : Option PV → PH → Prop) (hQ : ∀ (P1 : PH) (_ : BdM P1) (_ : FrM ([60, 92], [35, 36, 37, 38, 39]) P P1) (_ : P1 35 0 = P 13 (P 0 13)) (_ : (P 0 44 = 0 ∧ P1 37 0 = 0) ∨ P 0 44 = 1) (_ : P1 38 0 = P 15 (P 0 13)) (_ : P1 39 0 = 0 ∧ P1 0 60 = 0 ∧ P1 0 92 = 0), Q none P1) : Ct WSM G 1 iX12_begin [vR 0] P Q := by
  refine Ct.of (by decide) (l0 := [(0, vR 0)]) rfl (Nat.le_of_ble_eq_true rfl) ?_
  refine g_aload_n dX12_begin_0 rfl ?_
  refine m_g53 rfl dX12_begin_1 ?_
  refine g_iconst dX12_begin_4 ?_
  refine g_aload_n dX12_begin_5 rfl ?_
  refine m_g25 rfl dX12_begin_6 ?_
  refine g_aload_n dX12_begin_9 rfl ?_
  refine m_g13 (z := (P 0 13)) rfl dX12_begin_10 rfl ?_
  refine m_l13 (z := (P 13 (P 0 13))) dX12_begin_13 ⟨by have q0 := b0_13 hB; omega, by have q0 := b0_13 hB; omega⟩ rfl ?_
  refine m_s35 dX12_begin_14 (by decide) ?_
  have hB1 := ba_35 (z := (P 13 (P 0 13))) (k := 0) hB ⟨by have q0 := bl_13 (k := (P 0 13)) hB; omega, by have q0 := bl_13 (k := (P 0 13)) hB; omega⟩
  refine g_iconst dX12_begin_15 ?_
  refine g_istore_n (l1 := [(1, vI 0), (0, vR 0)]) dX12_begin_16 (by decide) rfl ?_
  have L17_1 : ∀ (n17_1 : Nat) (x17_1_1 : Int) (h_x17_1_1 : 0 ≤ x17_1_1 ∧ x17_1_1 ≤ 12) (H17_1 : PH) (hB17_1 : BdM H17_1) (hE17_1 : FrM ([], [36]) (up P 35 0 (P 13 (P 0 13))) H17_1) (hm17_1 : ((13 - x17_1_1) : Int).toNat < n17_1), Go WSM G 1 iX12_begin 17 [(0, vR 0), (1, vI x17_1_1)] [] H17_1 Q := by
    intro n17_1
    induction n17_1 with
    | zero => intro x17_1_1 h_x17_1_1 H17_1 hB17_1 hE17_1 hm17_1; exact absurd hm17_1 (Nat.not_lt_zero _)
    | succ n17_1 ih17_1 =>
    intro x17_1_1 h_x17_1_1 H17_1 hB17_1 hE17_1 hm17_1
    refine g_iload_n dX12_begin_17 rfl ?_
    refine g_bipush dX12_begin_18 (by decide) ?_
    refine g_icmp_ge (tgt := 36) dX12_begin_20 (by decide) ⟨by omega, by omega⟩ (by decide) (fun k57 => ?_) (fun k57 => ?_)
    · refine g_aload_n dX12_begin_36 rfl ?_
      refine m_g55 rfl dX12_begin_37 ?_
      refine g_iconst dX12_begin_40 ?_
      refine g_aload_n dX12_begin_41 rfl ?_
      refine m_g44 (z := (P 0 44)) rfl dX12_begin_42 ((hE17_1.1 44 rfl).trans ((up_o (by decide)).trans rfl)) ?_
      have f58 := b0_44 hB
      refine g_if_eq (tgt := 54) dX12_begin_45 (by decide) ⟨by have q0 := b0_44 hB; omega, by have q0 := b0_44 hB; omega⟩ (fun k59 => ?_) (fun k59 => ?_)
      · refine g_iconst dX12_begin_54 ?_
        refine m_s37 dX12_begin_55 (by decide) ?_
        have hB60 := ba_37 (z := 0) (k := 0) hB17_1 (by decide)
        refine g_aload_n dX12_begin_56 rfl ?_
        refine m_g56 rfl dX12_begin_57 ?_
        refine g_iconst dX12_begin_60 ?_
        refine g_aload_n dX12_begin_61 rfl ?_
        refine m_g27 rfl dX12_begin_62 ?_
        refine g_aload_n dX12_begin_65 rfl ?_
        refine m_g13 (z := (P 0 13)) rfl dX12_begin_66 ((up_o (by decide)).trans ((hE17_1.1 13 rfl).trans ((up_o (by decide)).trans rfl))) ?_
        refine m_l15 (z := (P 15 (P 0 13))) dX12_begin_69 ⟨by have q0 := b0_13 hB; omega, by have q0 := b0_13 hB; omega⟩ ((up_o (by decide)).trans ((congrFun (hE17_1.2 15 rfl rfl) _).trans ((up_o (by decide)).trans rfl))) ?_
        refine m_s38 dX12_begin_70 (by decide) ?_
        have hB61 := ba_38 (z := (P 15 (P 0 13))) (k := 0) hB60 ⟨by have q0 := bl_15 (k := (P 0 13)) hB; omega, by have q0 := bl_15 (k := (P 0 13)) hB; omega⟩
        refine g_aload_n dX12_begin_71 rfl ?_
        refine m_g57 rfl dX12_begin_72 ?_
        refine g_iconst dX12_begin_75 ?_
        refine g_iconst dX12_begin_76 ?_
        refine m_s39 dX12_begin_77 (by decide) ?_
        have hB62 := ba_39 (z := 0) (k := 0) hB61 (by decide)
        refine g_aload_n dX12_begin_78 rfl ?_
        refine g_iconst dX12_begin_79 ?_
        refine m_p60 rfl dX12_begin_80 ?_
        have hB63 := bs_60 (z := 0) hB62 (by decide)
        refine g_aload_n dX12_begin_83 rfl ?_
        refine g_iconst dX12_begin_84 ?_
        refine m_p92 rfl dX12_begin_85 ?_
        have hB64 := bs_92 (z := 0) hB63 (by decide)
        exact g_retV dX12_begin_88 rfl (hQ _ hB64 (FrM.s (FrM.s (FrM.a (FrM.a (FrM.a (FrM.c (FrM.a FrM.rf rfl rfl) hE17_1 rfl) rfl rfl) rfl rfl) rfl rfl) rfl) rfl) (((up_o (by decide)).trans ((up_o (by decide)).trans ((up_o (by decide)).trans ((up_o (by decide)).trans ((up_o (by decide)).trans ((congrFun (hE17_1.2 35 rfl rfl) _).trans up_same))))))) (by have q44 := b0_44 hB; have q37 := (((up_o (by decide)).trans ((up_o (by decide)).trans ((up_o (by decide)).trans ((up_o (by decide)).trans up_same)))) : (up (up (up (up (up H17_1 37 0 0) 38 0 (P 15 (P 0 13))) 39 0 0) 0 60 0) 0 92 0) 37 0 = 0); omega) (((up_o (by decide)).trans ((up_o (by decide)).trans ((up_o (by decide)).trans up_same)))) (⟨((up_o (by decide)).trans ((up_o (by decide)).trans up_same)), ((up_k (by decide)).trans up_same), up_same⟩))
      · refine g_sipush dX12_begin_48 (by decide) ?_
        refine g_goto (tgt := 55) dX12_begin_51 (by decide) ?_
        refine m_s37 dX12_begin_55 (by decide) ?_
        have hB65 := ba_37 (z := 255) (k := 0) hB17_1 (by decide)
        refine g_aload_n dX12_begin_56 rfl ?_
        refine m_g56 rfl dX12_begin_57 ?_
        refine g_iconst dX12_begin_60 ?_
        refine g_aload_n dX12_begin_61 rfl ?_
        refine m_g27 rfl dX12_begin_62 ?_
        refine g_aload_n dX12_begin_65 rfl ?_
        refine m_g13 (z := (P 0 13)) rfl dX12_begin_66 ((up_o (by decide)).trans ((hE17_1.1 13 rfl).trans ((up_o (by decide)).trans rfl))) ?_
        refine m_l15 (z := (P 15 (P 0 13))) dX12_begin_69 ⟨by have q0 := b0_13 hB; omega, by have q0 := b0_13 hB; omega⟩ ((up_o (by decide)).trans ((congrFun (hE17_1.2 15 rfl rfl) _).trans ((up_o (by decide)).trans rfl))) ?_
        refine m_s38 dX12_begin_70 (by decide) ?_
        have hB66 := ba_38 (z := (P 15 (P 0 13))) (k := 0) hB65 ⟨by have q0 := bl_15 (k := (P 0 13)) hB; omega, by have q0 := bl_15 (k := (P 0 13)) hB; omega⟩
        refine g_aload_n dX12_begin_71 rfl ?_
        refine m_g57 rfl dX12_begin_72 ?_
        refine g_iconst dX12_begin_75 ?_
        refine g_iconst dX12_begin_76 ?_
        refine m_s39 dX12_begin_77 (by decide) ?_
        have hB67 := ba_39 (z := 0) (k := 0) hB66 (by decide)
        refine g_aload_n dX12_begin_78 rfl ?_
        refine g_iconst dX12_begin_79 ?_
        refine m_p60 rfl dX12_begin_80 ?_
        have hB68 := bs_60 (z := 0) hB67 (by decide)
        refine g_aload_n dX12_begin_83 rfl ?_
        refine g_iconst dX12_begin_84 ?_
        refine m_p92 rfl dX12_begin_85 ?_
        have hB69 := bs_92 (z := 0) hB68 (by decide)
        exact g_retV dX12_begin_88 rfl (hQ _ hB69 (FrM.s (FrM.s (FrM.a (FrM.a (FrM.a (FrM.c (FrM.a FrM.rf rfl rfl) hE17_1 rfl) rfl rfl) rfl rfl) rfl rfl) rfl) rfl) (((up_o (by decide)).trans ((up_o (by decide)).trans ((up_o (by decide)).trans ((up_o (by decide)).trans ((up_o (by decide)).trans ((congrFun (hE17_1.2 35 rfl rfl) _).trans up_same))))))) (by have q44 := b0_44 hB; have q37 := (((up_o (by decide)).trans ((up_o (by decide)).trans ((up_o (by decide)).trans ((up_o (by decide)).trans up_same)))) : (up (up (up (up (up H17_1 37 0 255) 38 0 (P 15 (P 0 13))) 39 0 0) 0 60 0) 0 92 0) 37 0 = 255); omega) (((up_o (by decide)).trans ((up_o (by decide)).trans ((up_o (by decide)).trans up_same)))) (⟨((up_o (by decide)).trans ((up_o (by decide)).trans up_same)), ((up_k (by decide)).trans up_same), up_same⟩))
    · refine g_aload_n dX12_begin_23 rfl ?_
      refine m_g54 rfl dX12_begin_24 ?_
      refine g_iload_n dX12_begin_27 rfl ?_
      refine g_iload_n dX12_begin_28 rfl ?_
      refine m_s36 dX12_begin_29 ⟨by omega, by omega⟩ ?_
      have hB70 := ba_36 (z := x17_1_1) (k := x17_1_1) hB17_1 ⟨by omega, by omega⟩
      refine g_iinc (l1 := [(1, vI (x17_1_1 + 1)), (0, vR 0)]) dX12_begin_30 rfl (by decide) rfl ?_
      refine g_goto (tgt := 17) dX12_begin_33 (by decide) ?_
      refine g_forget (l1 := [(0, vR 0), (1, vI (x17_1_1 + 1))]) (by intro q hq; simp only [List.mem_cons, List.not_mem_nil, or_false] at hq ⊢; rcases hq with rfl | rfl <;> simp) ?_
      exact ih17_1 (x17_1_1 + 1) ⟨by omega, by omega⟩ _ hB70 (FrM.a (FrM.c FrM.rf hE17_1 rfl) rfl rfl) (by omega)
  refine g_forget (l1 := [(0, vR 0), (1, vI 0)]) (by intro q hq; simp only [List.mem_cons, List.not_mem_nil, or_false] at hq ⊢; rcases hq with rfl | rfl <;> simp) ?_
  exact L17_1 _ 0 (by decide) _ hB1 FrM.rf (Nat.lt_succ_self _)
set_option maxRecDepth 100000 in
set_option maxHeartbeats 4000000 in
theorem m_X12_placed (G : GT) (P : PH) (a1 : Int) (a2 : Int) (h_a1 : 0 ≤ a1 ∧ a1 ≤ 21) (h_a2 : 0 ≤ a2 ∧ a2 ≤ 4095) (hB : BdM P) (Q : Option PV → PH → Prop) (hQ : ∀ (r : Int) (_ : 0 ≤ r ∧ r ≤ 4095), Q (some (vI r)) P) : Ct WSM G 1 iX12_placed [vR 0, vI a1, vI a2] P Q := by
  refine Ct.of (by decide) (l0 := [(0, vR 0), (1, vI a1), (2, vI a2)]) rfl (Nat.le_of_ble_eq_true rfl) ?_
  refine g_iconst dX12_placed_0 ?_
  refine g_istore_n (l1 := [(3, vI 0), (0, vR 0), (1, vI a1), (2, vI a2)]) dX12_placed_1 (by decide) rfl ?_
  refine g_iconst dX12_placed_2 ?_
  refine g_istore (l1 := [(4, vI 0), (3, vI 0), (0, vR 0), (1, vI a1), (2, vI a2)]) dX12_placed_3 (by decide) rfl ?_
  have L5_0 : ∀ (n5_0 : Nat) (x5_4_0 : Int) (h_x5_4_0 : 0 ≤ x5_4_0 ∧ x5_4_0 ≤ 12) (x5_3_0 : Int) (h_x5_3_0 : 0 ≤ x5_3_0 ∧ x5_3_0 ≤ 4095) (hm5_0 : ((13 - x5_4_0) : Int).toNat < n5_0), Go WSM G 1 iX12_placed 5 [(0, vR 0), (1, vI a1), (2, vI a2), (3, vI x5_3_0), (4, vI x5_4_0)] [] P Q := by
    intro n5_0
    induction n5_0 with
    | zero => intro x5_4_0 h_x5_4_0 x5_3_0 h_x5_3_0 hm5_0; exact absurd hm5_0 (Nat.not_lt_zero _)
    | succ n5_0 ih5_0 =>
    intro x5_4_0 h_x5_4_0 x5_3_0 h_x5_3_0 hm5_0
    refine g_iload dX12_placed_5 rfl ?_
    refine g_aload_n dX12_placed_7 rfl ?_
    refine m_g62 (z := (P 0 62)) rfl dX12_placed_8 rfl ?_
    have f56 := b0_62 hB
    refine g_icmp_ge (tgt := 42) dX12_placed_11 (by decide) ⟨by omega, by omega⟩ ⟨by have q0 := b0_62 hB; omega, by have q0 := b0_62 hB; omega⟩ (fun k57 => ?_) (fun k57 => ?_)
    · refine g_iload_n dX12_placed_42 rfl ?_
      exact g_retI dX12_placed_43 rfl (hQ x5_3_0 ⟨by omega, by omega⟩ )
    · refine g_iload_n dX12_placed_14 rfl ?_
      refine g_iload_n dX12_placed_15 rfl ?_
      refine g_aload_n dX12_placed_16 rfl ?_
      refine m_g54 rfl dX12_placed_17 ?_
      refine g_bipush dX12_placed_20 (by decide) ?_
      refine g_iload_n dX12_placed_22 rfl ?_
      refine g_imul dX12_placed_23 ?_
      refine g_iload dX12_placed_24 rfl ?_
      refine g_iadd dX12_placed_26 ?_
      refine m_l36 (z := (P 36 ((12 * a1) + x5_4_0))) dX12_placed_27 ⟨by omega, by omega⟩ rfl ?_
      refine g_ishr dX12_placed_28 ?_
      refine g_nm (fun b58 e_b58 => ?_)
      have h_b58 := ishr_ir a2 (P 36 ((12 * a1) + x5_4_0))
      rw [← e_b58] at h_b58
      have f_b58_0 := bl_36 (k := ((12 * a1) + x5_4_0)) hB
      refine g_iconst dX12_placed_29 ?_
      refine g_iand dX12_placed_30 ?_
      refine g_nm (fun b59 e_b59 => ?_)
      have h_b59 := iand_r (x := b58) (y := 1) ⟨by omega, by omega⟩
      rw [← e_b59] at h_b59
      refine g_iload dX12_placed_31 rfl ?_
      refine g_ishl dX12_placed_33 ?_
      refine g_nm (fun b60 e_b60 => ?_)
      have h_b60 : 0 ≤ (ishl b59 x5_4_0) ∧ (ishl b59 x5_4_0) ≤ 2048 := (ishl01 11 (by decide) (x := b59) (y := x5_4_0) ⟨by omega, by omega⟩ ⟨by omega, by omega⟩)
      rw [← e_b60] at h_b60
      refine g_ior dX12_placed_34 ?_
      refine g_nm (fun b61 e_b61 => ?_)
      have h_b61 : 0 ≤ (ior x5_3_0 b60) ∧ (ior x5_3_0 b60) < 4096 := ior_b 12 (by decide) (x := x5_3_0) (y := b60) (show 0 ≤ x5_3_0 ∧ x5_3_0 < 4096 from ⟨by omega, by omega⟩) (show 0 ≤ b60 ∧ b60 < 4096 from ⟨by omega, by omega⟩)
      rw [← e_b61] at h_b61
      refine g_istore_n (l1 := [(3, vI b61), (0, vR 0), (1, vI a1), (2, vI a2), (4, vI x5_4_0)]) dX12_placed_35 (by decide) rfl ?_
      refine g_iinc (l1 := [(4, vI (x5_4_0 + 1)), (3, vI b61), (0, vR 0), (1, vI a1), (2, vI a2)]) dX12_placed_36 rfl (by decide) rfl ?_
      refine g_goto (tgt := 5) dX12_placed_39 (by decide) ?_
      refine g_forget (l1 := [(0, vR 0), (1, vI a1), (2, vI a2), (3, vI b61), (4, vI (x5_4_0 + 1))]) (by intro q hq; simp only [List.mem_cons, List.not_mem_nil, or_false] at hq ⊢; rcases hq with rfl | rfl | rfl | rfl | rfl <;> simp) ?_
      exact ih5_0 (x5_4_0 + 1) ⟨by omega, by omega⟩ b61 ⟨by omega, by omega⟩ (by omega)
  refine g_forget (l1 := [(0, vR 0), (1, vI a1), (2, vI a2), (3, vI 0), (4, vI 0)]) (by intro q hq; simp only [List.mem_cons, List.not_mem_nil, or_false] at hq ⊢; rcases hq with rfl | rfl | rfl | rfl | rfl <;> simp) ?_
  exact L5_0 _ 0 (by decide) 0 (by decide) (Nat.lt_succ_self _)
set_option maxRecDepth 100000 in
set_option maxHeartbeats 4000000 in
theorem m_X12_openBy (G : GT) (P : PH) (a1 : Int) (h_a1 : (-2147483648) ≤ a1 ∧ a1 ≤ 2147483647) (hB : BdM P) (Q : Option PV → PH → Prop) (hQ : ∀ (r : Int) (_ : 0 ≤ r ∧ r ≤ 4095), Q (some (vI r)) P) : Ct WSM G 1 iX12_openBy [vR 0, vI a1] P Q := by
  refine Ct.of (by decide) (l0 := [(0, vR 0), (1, vI a1)]) rfl (Nat.le_of_ble_eq_true rfl) ?_
  refine g_aload_n dX12_openBy_0 rfl ?_
  refine m_g66 (z := (P 0 66)) rfl dX12_openBy_1 rfl ?_
  refine g_istore_n (l1 := [(2, vI (P 0 66)), (0, vR 0), (1, vI a1)]) dX12_openBy_4 (by decide) rfl ?_
  refine g_iconst dX12_openBy_5 ?_
  refine g_istore_n (l1 := [(3, vI 0), (2, vI (P 0 66)), (0, vR 0), (1, vI a1)]) dX12_openBy_6 (by decide) rfl ?_
  have L7_0 : ∀ (n7_0 : Nat) (x7_3_0 : Int) (h_x7_3_0 : 0 ≤ x7_3_0 ∧ x7_3_0 ≤ 12) (x7_2_0 : Int) (h_x7_2_0 : 0 ≤ x7_2_0 ∧ x7_2_0 ≤ 4095) (hm7_0 : ((13 - x7_3_0) : Int).toNat < n7_0), Go WSM G 1 iX12_openBy 7 [(0, vR 0), (1, vI a1), (2, vI x7_2_0), (3, vI x7_3_0)] [] P Q := by
    intro n7_0
    induction n7_0 with
    | zero => intro x7_3_0 h_x7_3_0 x7_2_0 h_x7_2_0 hm7_0; exact absurd hm7_0 (Nat.not_lt_zero _)
    | succ n7_0 ih7_0 =>
    intro x7_3_0 h_x7_3_0 x7_2_0 h_x7_2_0 hm7_0
    refine g_iload_n dX12_openBy_7 rfl ?_
    refine g_aload_n dX12_openBy_8 rfl ?_
    refine m_g62 (z := (P 0 62)) rfl dX12_openBy_9 rfl ?_
    have f101 := b0_62 hB
    refine g_icmp_ge (tgt := 55) dX12_openBy_12 (by decide) ⟨by omega, by omega⟩ ⟨by have q0 := b0_62 hB; omega, by have q0 := b0_62 hB; omega⟩ (fun k102 => ?_) (fun k102 => ?_)
    · refine g_iload_n dX12_openBy_55 rfl ?_
      exact g_retI dX12_openBy_56 rfl (hQ x7_2_0 ⟨by omega, by omega⟩ )
    · refine g_iload_n dX12_openBy_15 rfl ?_
      refine g_aload_n dX12_openBy_16 rfl ?_
      refine m_g65 rfl dX12_openBy_17 ?_
      refine g_iload_n dX12_openBy_20 rfl ?_
      refine m_l43 (z := (P 43 x7_3_0)) dX12_openBy_21 ⟨by omega, by omega⟩ rfl ?_
      refine g_iconst dX12_openBy_22 ?_
      have f103 := bl_43 (k := x7_3_0) hB
      refine g_icmp_eq (tgt := 46) dX12_openBy_23 (by decide) ⟨by have q0 := bl_43 (k := x7_3_0) hB; omega, by have q0 := bl_43 (k := x7_3_0) hB; omega⟩ (by decide) (fun k104 => ?_) (fun k104 => ?_)
      · refine g_iconst dX12_openBy_46 ?_
        refine g_ior dX12_openBy_47 ?_
        refine g_nm (fun b105 e_b105 => ?_)
        have h_b105 : 0 ≤ (ior x7_2_0 0) ∧ (ior x7_2_0 0) < 4096 := ior_b 12 (by decide) (x := x7_2_0) (y := 0) (show 0 ≤ x7_2_0 ∧ x7_2_0 < 4096 from ⟨by omega, by omega⟩) (show 0 ≤ 0 ∧ 0 < 4096 from ⟨by omega, by omega⟩)
        rw [← e_b105] at h_b105
        refine g_istore_n (l1 := [(2, vI b105), (0, vR 0), (1, vI a1), (3, vI x7_3_0)]) dX12_openBy_48 (by decide) rfl ?_
        refine g_iinc (l1 := [(3, vI (x7_3_0 + 1)), (2, vI b105), (0, vR 0), (1, vI a1)]) dX12_openBy_49 rfl (by decide) rfl ?_
        refine g_goto (tgt := 7) dX12_openBy_52 (by decide) ?_
        refine g_forget (l1 := [(0, vR 0), (1, vI a1), (2, vI b105), (3, vI (x7_3_0 + 1))]) (by intro q hq; simp only [List.mem_cons, List.not_mem_nil, or_false] at hq ⊢; rcases hq with rfl | rfl | rfl | rfl <;> simp) ?_
        exact ih7_0 (x7_3_0 + 1) ⟨by omega, by omega⟩ b105 ⟨by omega, by omega⟩ (by omega)
      · refine g_iload_n dX12_openBy_26 rfl ?_
        refine g_aload_n dX12_openBy_27 rfl ?_
        refine m_g65 rfl dX12_openBy_28 ?_
        refine g_iload_n dX12_openBy_31 rfl ?_
        refine m_l43 (z := (P 43 x7_3_0)) dX12_openBy_32 ⟨by omega, by omega⟩ rfl ?_
        refine g_ishr dX12_openBy_33 ?_
        refine g_nm (fun b106 e_b106 => ?_)
        have h_b106 := ishr_ir a1 (P 43 x7_3_0)
        rw [← e_b106] at h_b106
        have f_b106_0 := bl_43 (k := x7_3_0) hB
        refine g_iconst dX12_openBy_34 ?_
        refine g_iand dX12_openBy_35 ?_
        refine g_nm (fun b107 e_b107 => ?_)
        have h_b107 := iand_r (x := b106) (y := 1) ⟨by omega, by omega⟩
        rw [← e_b107] at h_b107
        refine g_iconst dX12_openBy_36 ?_
        refine g_icmp_ne (tgt := 46) dX12_openBy_37 (by decide) ⟨by omega, by omega⟩ (by decide) (fun k108 => ?_) (fun k108 => ?_)
        · refine g_iconst dX12_openBy_46 ?_
          refine g_ior dX12_openBy_47 ?_
          refine g_nm (fun b109 e_b109 => ?_)
          have h_b109 : 0 ≤ (ior x7_2_0 0) ∧ (ior x7_2_0 0) < 4096 := ior_b 12 (by decide) (x := x7_2_0) (y := 0) (show 0 ≤ x7_2_0 ∧ x7_2_0 < 4096 from ⟨by omega, by omega⟩) (show 0 ≤ 0 ∧ 0 < 4096 from ⟨by omega, by omega⟩)
          rw [← e_b109] at h_b109
          refine g_istore_n (l1 := [(2, vI b109), (0, vR 0), (1, vI a1), (3, vI x7_3_0)]) dX12_openBy_48 (by decide) rfl ?_
          refine g_iinc (l1 := [(3, vI (x7_3_0 + 1)), (2, vI b109), (0, vR 0), (1, vI a1)]) dX12_openBy_49 rfl (by decide) rfl ?_
          refine g_goto (tgt := 7) dX12_openBy_52 (by decide) ?_
          refine g_forget (l1 := [(0, vR 0), (1, vI a1), (2, vI b109), (3, vI (x7_3_0 + 1))]) (by intro q hq; simp only [List.mem_cons, List.not_mem_nil, or_false] at hq ⊢; rcases hq with rfl | rfl | rfl | rfl <;> simp) ?_
          exact ih7_0 (x7_3_0 + 1) ⟨by omega, by omega⟩ b109 ⟨by omega, by omega⟩ (by omega)
        · refine g_iconst dX12_openBy_40 ?_
          refine g_iload_n dX12_openBy_41 rfl ?_
          refine g_ishl dX12_openBy_42 ?_
          refine g_nm (fun b110 e_b110 => ?_)
          have h_b110 : 1 ≤ (ishl 1 x7_3_0) ∧ (ishl 1 x7_3_0) ≤ 2048 := (ishl1 11 (by decide) (y := x7_3_0) ⟨by omega, by omega⟩).2
          rw [← e_b110] at h_b110
          refine g_goto (tgt := 47) dX12_openBy_43 (by decide) ?_
          refine g_ior dX12_openBy_47 ?_
          refine g_nm (fun b111 e_b111 => ?_)
          have h_b111 : 0 ≤ (ior x7_2_0 b110) ∧ (ior x7_2_0 b110) < 4096 := ior_b 12 (by decide) (x := x7_2_0) (y := b110) (show 0 ≤ x7_2_0 ∧ x7_2_0 < 4096 from ⟨by omega, by omega⟩) (show 0 ≤ b110 ∧ b110 < 4096 from ⟨by omega, by omega⟩)
          rw [← e_b111] at h_b111
          refine g_istore_n (l1 := [(2, vI b111), (0, vR 0), (1, vI a1), (3, vI x7_3_0)]) dX12_openBy_48 (by decide) rfl ?_
          refine g_iinc (l1 := [(3, vI (x7_3_0 + 1)), (2, vI b111), (0, vR 0), (1, vI a1)]) dX12_openBy_49 rfl (by decide) rfl ?_
          refine g_goto (tgt := 7) dX12_openBy_52 (by decide) ?_
          refine g_forget (l1 := [(0, vR 0), (1, vI a1), (2, vI b111), (3, vI (x7_3_0 + 1))]) (by intro q hq; simp only [List.mem_cons, List.not_mem_nil, or_false] at hq ⊢; rcases hq with rfl | rfl | rfl | rfl <;> simp) ?_
          exact ih7_0 (x7_3_0 + 1) ⟨by omega, by omega⟩ b111 ⟨by omega, by omega⟩ (by omega)
  refine g_forget (l1 := [(0, vR 0), (1, vI a1), (2, vI (P 0 66)), (3, vI 0)]) (by intro q hq; simp only [List.mem_cons, List.not_mem_nil, or_false] at hq ⊢; rcases hq with rfl | rfl | rfl | rfl <;> simp) ?_
  exact L7_0 _ 0 (by decide) (P 0 66) ⟨by have q0 := b0_66 hB; omega, by have q0 := b0_66 hB; omega⟩ (Nat.lt_succ_self _)
set_option maxRecDepth 100000 in
set_option maxHeartbeats 4000000 in
theorem m_X12_kept (G : GT) (P : PH) (a1 : Int) (a2 : Int) (h_a1 : (-2147483648) ≤ a1 ∧ a1 ≤ 2147483647) (h_a2 : (-2147483648) ≤ a2 ∧ a2 ≤ 2147483647) (hB : BdM P) (Q : Option PV → PH → Prop) (hQ : ∀ (r : Int) (_ : (-2147483648) ≤ r ∧ r ≤ 2147483647), Q (some (vI r)) P) : Ct WSM G 2 iX12_kept [vR 0, vI a1, vI a2] P Q := by
  refine Ct.of (by decide) (l0 := [(0, vR 0), (1, vI a1), (2, vI a2)]) rfl (Nat.le_of_ble_eq_true rfl) ?_
  refine g_iload_n dX12_kept_0 rfl ?_
  refine g_iconst dX12_kept_1 ?_
  refine g_aload_n dX12_kept_2 rfl ?_
  refine m_g57 rfl dX12_kept_3 ?_
  refine g_iconst dX12_kept_6 ?_
  refine m_l39 (z := (P 39 0)) dX12_kept_7 (by decide) rfl ?_
  refine g_iconst dX12_kept_8 ?_
  refine g_isub dX12_kept_9 ?_
  have f1 := bl_39 (k := 0) hB
  refine g_sI (av := [vI a1, vI 0, vI ((P 39 0) - 1)]) (st := []) (m_X12_is G P a1 0 ((P 39 0) - 1) ⟨by omega, by omega⟩ (by decide) ⟨by have q0 := bl_39 (k := 0) hB; omega, by have q0 := bl_39 (k := 0) hB; omega⟩ hB  _ (fun rc2 hc2 gc2_is => ⟨rc2, rfl, ?_⟩)) cf_X12_is t_1800 rfl (Nat.le_of_ble_eq_true rfl) (by decide) rfl dX12_kept_10
  refine g_if_eq (tgt := 38) dX12_kept_13 (by decide) ⟨by omega, by omega⟩ (fun k3 => ?_) (fun k3 => ?_)
  · refine g_iconst dX12_kept_38 ?_
    exact g_retI dX12_kept_39 rfl (hQ (-1) (by decide) )
  · refine g_iload_n dX12_kept_16 rfl ?_
    refine g_iconst dX12_kept_17 ?_
    refine g_iconst dX12_kept_18 ?_
    refine g_sI (av := [vI a2, vI 0, vI 2]) (st := []) (m_X12_is G P a2 0 2 ⟨by omega, by omega⟩ (by decide) (by decide) hB  _ (fun rc4 hc4 gc4_is => ⟨rc4, rfl, ?_⟩)) cf_X12_is t_1800 rfl (Nat.le_of_ble_eq_true rfl) (by decide) rfl dX12_kept_19
    refine g_if_eq (tgt := 38) dX12_kept_22 (by decide) ⟨by omega, by omega⟩ (fun k5 => ?_) (fun k5 => ?_)
    · refine g_iconst dX12_kept_38 ?_
      exact g_retI dX12_kept_39 rfl (hQ (-1) (by decide) )
    · refine g_aload_n dX12_kept_25 rfl ?_
      refine m_g58 rfl dX12_kept_26 ?_
      refine g_iconst dX12_kept_29 ?_
      refine g_iload_n dX12_kept_30 rfl ?_
      refine g_imul dX12_kept_31 ?_
      refine g_iload_n dX12_kept_32 rfl ?_
      refine g_iadd dX12_kept_33 ?_
      refine m_l40 (z := (P 40 ((3 * a1) + a2))) dX12_kept_34 ⟨by omega, by omega⟩ rfl ?_
      refine g_goto (tgt := 39) dX12_kept_35 (by decide) ?_
      exact g_retI dX12_kept_39 rfl (hQ (P 40 ((3 * a1) + a2)) ⟨by have q0 := bl_40 (k := ((3 * a1) + a2)) hB; omega, by have q0 := bl_40 (k := ((3 * a1) + a2)) hB; omega⟩ )
end
