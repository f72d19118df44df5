section
section
/-! What emits and later do, said once. -/
/-- a code is emitted -/
def EM (op a b : Int) (P P1 : PH) : Prop := P1 0 36 = P 0 36 + 1 ∧ (∀ j : Int, j ≠ 2800 * P 0 37 + P 0 36 → P1 19 j = P 19 j ∧ P1 20 j = P 20 j ∧ P1 21 j = P 21 j) ∧ P1 19 (2800 * P 0 37 + P 0 36) = op ∧ P1 20 (2800 * P 0 37 + P 0 36) = a ∧ P1 21 (2800 * P 0 37 + P 0 36) = b
/-- something is put on the pile -/
def LA (k v : Int) (P P1 : PH) : Prop := P1 0 73 = P 0 73 + 1 ∧ (∀ j : Int, j ≠ P 0 73 → P1 47 j = P 47 j ∧ P1 48 j = P 48 j) ∧ P1 47 (P 0 73) = k ∧ P1 48 (P 0 73) = v
/-- how many values a kind has -/
def vals (P : PH) (b k : Int) : Int := if k = 4 then 20 else P 3 (4 * b + k)
theorem vals_of {P : PH} {b k r : Int} (h : (k = 4 ∧ r = 20) ∨ (k < 4 ∧ r = P 3 (4 * b + k))) : r = vals P b k := by
  unfold vals
  rcases h with ⟨h, e⟩ | ⟨h, e⟩
  · rw [if_pos h]; exact e
  · rw [if_neg (by omega)]; exact e
theorem vals_eq {P P1 : PH} {b k : Int} (h : k ≠ 4 → P1 3 (4 * b + k) = P 3 (4 * b + k)) : vals P1 b k = vals P b k := by
  unfold vals
  by_cases e : k = 4
  · rw [if_pos e, if_pos e]
  · rw [if_neg e, if_neg e]; exact h e
theorem vals_row {P P1 : PH} {b k : Int} (h : P1 3 = P 3) : vals P1 b k = vals P b k := vals_eq fun _ => congrFun h _
/-- what is known of the choices before the first stamp -/
def MVw (P : PH) : Prop := ∀ k : Int, 0 ≤ P 49 k ∧ P 49 k / 8 ≤ P 0 74
theorem MVw.fr {P P1 : PH} {F : FS} (h : MVw P) (hf : FrM F P P1) (hd : disF F ([74], [49]) = true) : MVw P1 := by
  unfold disF at hd
  simp only [List.all_cons, List.all_nil, Bool.and_true, Bool.true_and, Bool.and_eq_true, Bool.not_eq_true'] at hd
  unfold MVw at h ⊢
  rw [hf.1 74 hd.1, hf.2 49 rfl hd.2]
  exact h
theorem MV.w {P : PH} (h : MV P) : MVw P := fun k => ⟨(h k).1, (h k).2.1⟩
theorem MVw.next {P P1 : PH} {F : FS} (h : MVw P) (hf : FrM F P P1) (h49 : F.2.contains 49 = false) (hs : P1 0 74 = P 0 74 + 1) : MV P1 := by
  intro k
  have e := hf.2 49 rfl h49
  have h1 := h k
  rw [e, hs]
  exact ⟨h1.1, by omega, fun q => by omega⟩
end
section
/-! Contracts of the reference: m1. -/
set_option maxRecDepth 100000 in
set_option maxHeartbeats 4000000 in
theorem m_X12_is (G : GT) (P : PH) (a1 : Int) (a2 : Int) (a3 : Int) (h_a1 : (-2147483648) ≤ a1 ∧ a1 ≤ 2147483647) (h_a2 : (-2147483648) ≤ a2 ∧ a2 ≤ 2147483647) (h_a3 : (-2147483648) ≤ a3 ∧ a3 ≤ 2147483647) (hB : BdM P) (Q : Option PV → PH → Prop) (hQ : ∀ (r : Int) (_ : 0 ≤ r ∧ r ≤ 1) (_ : (r = 1 ∧ a2 ≤ a1 ∧ a1 ≤ a3) ∨ (r = 0 ∧ (a1 < a2 ∨ a3 < a1))), Q (some (vI r)) P) : Ct WSM G 1 iX12_is [vI a1, vI a2, vI a3] P Q := by
  refine Ct.of (by decide) (l0 := [(0, vI a1), (1, vI a2), (2, vI a3)]) rfl (Nat.le_of_ble_eq_true rfl) ?_
  refine g_iload_n dX12_is_0 rfl ?_
  refine g_iload_n dX12_is_1 rfl ?_
  refine g_icmp_lt (tgt := 14) dX12_is_2 (by decide) ⟨by omega, by omega⟩ ⟨by omega, by omega⟩ (fun k1 => ?_) (fun k1 => ?_)
  · refine g_iconst dX12_is_14 ?_
    exact g_retZ dX12_is_15 rfl (by decide) (hQ 0 (by decide) (by omega))
  · refine g_iload_n dX12_is_5 rfl ?_
    refine g_iload_n dX12_is_6 rfl ?_
    refine g_icmp_gt (tgt := 14) dX12_is_7 (by decide) ⟨by omega, by omega⟩ ⟨by omega, by omega⟩ (fun k2 => ?_) (fun k2 => ?_)
    · refine g_iconst dX12_is_14 ?_
      exact g_retZ dX12_is_15 rfl (by decide) (hQ 0 (by decide) (by omega))
    · refine g_iconst dX12_is_10 ?_
      refine g_goto (tgt := 15) dX12_is_11 (by decide) ?_
      exact g_retZ dX12_is_15 rfl (by decide) (hQ 1 (by decide) (by omega))
set_option maxRecDepth 100000 in
set_option maxHeartbeats 4000000 in
theorem m_X12_isLetter (G : GT) (P : PH) (a1 : Int) (h_a1 : (-2147483648) ≤ a1 ∧ a1 ≤ 2147483647) (hB : BdM P) (Q : Option PV → PH → Prop) (hQ : ∀ (r : Int) (_ : 0 ≤ r ∧ r ≤ 1) (_ : r = 1 ↔ 97 ≤ a1 ∧ a1 ≤ 122), Q (some (vI r)) P) : Ct WSM G 1 iX12_isLetter [vI a1] P Q := by
  refine Ct.of (by decide) (l0 := [(0, vI a1)]) rfl (Nat.le_of_ble_eq_true rfl) ?_
  refine g_iload_n dX12_isLetter_0 rfl ?_
  refine g_bipush dX12_isLetter_1 (by decide) ?_
  refine g_icmp_lt (tgt := 16) dX12_isLetter_3 (by decide) ⟨by omega, by omega⟩ (by decide) (fun k1 => ?_) (fun k1 => ?_)
  · refine g_iconst dX12_isLetter_16 ?_
    exact g_retZ dX12_isLetter_17 rfl (by decide) (hQ 0 (by decide) (by omega))
  · refine g_iload_n dX12_isLetter_6 rfl ?_
    refine g_bipush dX12_isLetter_7 (by decide) ?_
    refine g_icmp_gt (tgt := 16) dX12_isLetter_9 (by decide) ⟨by omega, by omega⟩ (by decide) (fun k2 => ?_) (fun k2 => ?_)
    · refine g_iconst dX12_isLetter_16 ?_
      exact g_retZ dX12_isLetter_17 rfl (by decide) (hQ 0 (by decide) (by omega))
    · refine g_iconst dX12_isLetter_12 ?_
      refine g_goto (tgt := 17) dX12_isLetter_13 (by decide) ?_
      exact g_retZ dX12_isLetter_17 rfl (by decide) (hQ 1 (by decide) (by omega))
set_option maxRecDepth 100000 in
set_option maxHeartbeats 4000000 in
theorem m_X12_isDigit (G : GT) (P : PH) (a1 : Int) (h_a1 : (-2147483648) ≤ a1 ∧ a1 ≤ 2147483647) (hB : BdM P) (Q : Option PV → PH → Prop) (hQ : ∀ (r : Int) (_ : 0 ≤ r ∧ r ≤ 1) (_ : r = 1 ↔ 48 ≤ a1 ∧ a1 ≤ 57), Q (some (vI r)) P) : Ct WSM G 1 iX12_isDigit [vI a1] P Q := by
  refine Ct.of (by decide) (l0 := [(0, vI a1)]) rfl (Nat.le_of_ble_eq_true rfl) ?_
  refine g_iload_n dX12_isDigit_0 rfl ?_
  refine g_bipush dX12_isDigit_1 (by decide) ?_
  refine g_icmp_lt (tgt := 16) dX12_isDigit_3 (by decide) ⟨by omega, by omega⟩ (by decide) (fun k1 => ?_) (fun k1 => ?_)
  · refine g_iconst dX12_isDigit_16 ?_
    exact g_retZ dX12_isDigit_17 rfl (by decide) (hQ 0 (by decide) (by omega))
  · refine g_iload_n dX12_isDigit_6 rfl ?_
    refine g_bipush dX12_isDigit_7 (by decide) ?_
    refine g_icmp_gt (tgt := 16) dX12_isDigit_9 (by decide) ⟨by omega, by omega⟩ (by decide) (fun k2 => ?_) (fun k2 => ?_)
    · refine g_iconst dX12_isDigit_16 ?_
      exact g_retZ dX12_isDigit_17 rfl (by decide) (hQ 0 (by decide) (by omega))
    · refine g_iconst dX12_isDigit_12 ?_
      refine g_goto (tgt := 17) dX12_isDigit_13 (by decide) ?_
      exact g_retZ dX12_isDigit_17 rfl (by decide) (hQ 1 (by decide) (by omega))
set_option maxRecDepth 100000 in
set_option maxHeartbeats 4000000 in
theorem m_X12_slot (G : GT) (P : PH) (a1 : Int) (h_a1 : 0 ≤ a1 ∧ a1 ≤ 20) (hB : BdM P) (Q : Option PV → PH → Prop) (hQ : ∀ (r : Int) (_ : 2 ≤ r ∧ r ≤ 21), Q (some (vI r)) P) : Ct WSM G 1 iX12_slot [vR 0, vI a1] P Q := by
  refine Ct.of (by decide) (l0 := [(0, vR 0), (1, vI a1)]) rfl (Nat.le_of_ble_eq_true rfl) ?_
  refine g_iconst dX12_slot_0 ?_
  refine g_aload_n dX12_slot_1 rfl ?_
  refine m_g59 (z := (P 0 59)) rfl dX12_slot_2 rfl ?_
  refine g_iload_n dX12_slot_5 rfl ?_
  refine g_iadd dX12_slot_6 ?_
  refine g_bipush dX12_slot_7 (by decide) ?_
  refine g_irem dX12_slot_9 ⟨(by decide), by decide⟩ ?_
  refine g_nm (fun b1 e_b1 => ?_)
  have h_b1 := irem_b (x := ((P 0 59) + a1)) (y := 20) ⟨by have q0 := b0_59 hB; omega, by have q0 := b0_59 hB; omega⟩ ⟨by omega, by omega⟩
  rw [← e_b1] at h_b1
  have f_b1_0 := b0_59 hB
  refine g_iadd dX12_slot_10 ?_
  exact g_retI dX12_slot_11 rfl (hQ (2 + b1) ⟨by omega, by omega⟩ )
set_option maxRecDepth 100000 in
set_option maxHeartbeats 4000000 in
theorem m_X12_columns (G : GT) (P : PH) (hB : BdM P) (Q : Option PV → PH → Prop) (hQ : ∀ (r : Int) (_ : 0 ≤ r ∧ r ≤ 4) (_ : r = P 11 (P 0 13)), Q (some (vI r)) P) : Ct WSM G 1 iX12_columns [vR 0] P Q := by
  refine Ct.of (by decide) (l0 := [(0, vR 0)]) rfl (Nat.le_of_ble_eq_true rfl) ?_
  refine g_aload_n dX12_columns_0 rfl ?_
  refine m_g23 rfl dX12_columns_1 ?_
  refine g_aload_n dX12_columns_4 rfl ?_
  refine m_g13 (z := (P 0 13)) rfl dX12_columns_5 rfl ?_
  refine m_l11 (z := (P 11 (P 0 13))) dX12_columns_8 ⟨by have q0 := b0_13 hB; omega, by have q0 := b0_13 hB; omega⟩ rfl ?_
  exact g_retI dX12_columns_9 rfl (hQ (P 11 (P 0 13)) ⟨by have q0 := bl_11 (k := (P 0 13)) hB; omega, by have q0 := bl_11 (k := (P 0 13)) hB; omega⟩ (by have q0 := bl_11 (k := (P 0 13)) hB; omega))
set_option maxRecDepth 100000 in
set_option maxHeartbeats 4000000 in
theorem m_X12_valuesOf (G : GT) (P : PH) (a1 : Int) (a2 : Int) (h_a1 : 0 ≤ a1 ∧ a1 ≤ 1) (h_a2 : 0 ≤ a2 ∧ a2 ≤ 4) (hB : BdM P) (Q : Option PV → PH → Prop) (hQ : ∀ (r : Int) (_ : 0 ≤ r ∧ r ≤ 2006) (_ : (a2 = 4 ∧ r = 20) ∨ (a2 < 4 ∧ r = P 3 ((4 * a1) + a2))), Q (some (vI r)) P) : Ct WSM G 1 iX12_valuesOf [vR 0, vI a1, vI a2] P Q := by
  refine Ct.of (by decide) (l0 := [(0, vR 0), (1, vI a1), (2, vI a2)]) rfl (Nat.le_of_ble_eq_true rfl) ?_
  refine g_iload_n dX12_valuesOf_0 rfl ?_
  refine g_iconst dX12_valuesOf_1 ?_
  refine g_icmp_ne (tgt := 10) dX12_valuesOf_2 (by decide) ⟨by omega, by omega⟩ (by decide) (fun k1 => ?_) (fun k1 => ?_)
  · refine g_aload_n dX12_valuesOf_10 rfl ?_
    refine m_g15 rfl dX12_valuesOf_11 ?_
    refine g_iconst dX12_valuesOf_14 ?_
    refine g_iload_n dX12_valuesOf_15 rfl ?_
    refine g_imul dX12_valuesOf_16 ?_
    refine g_iload_n dX12_valuesOf_17 rfl ?_
    refine g_iadd dX12_valuesOf_18 ?_
    refine m_l3 (z := (P 3 ((4 * a1) + a2))) dX12_valuesOf_19 ⟨by omega, by omega⟩ rfl ?_
    exact g_retI dX12_valuesOf_20 rfl (hQ (P 3 ((4 * a1) + a2)) ⟨by have q0 := bl_3 (k := ((4 * a1) + a2)) hB; omega, by have q0 := bl_3 (k := ((4 * a1) + a2)) hB; omega⟩ (by have q0 := bl_3 (k := ((4 * a1) + a2)) hB; omega))
  · refine g_bipush dX12_valuesOf_5 (by decide) ?_
    refine g_goto (tgt := 20) dX12_valuesOf_7 (by decide) ?_
    exact g_retI dX12_valuesOf_20 rfl (hQ 20 (by decide) (by omega))
set_option maxRecDepth 100000 in
set_option maxHeartbeats 4000000 in
theorem m_X12_refuses (G : GT) (P : PH) (a1 : Int) (h_a1 : 0 ≤ a1 ∧ a1 ≤ 5) (hB : BdM P) (Q : Option PV → PH → Prop) (hQ : ∀ (r : Int) (_ : (-1) ≤ r ∧ r ≤ (-1)) (P1 : PH) (_ : BdM P1) (_ : FrM ([], [28]) P P1), Q (some (vI r)) P1) : Ct WSM G 1 iX12_refuses [vR 0, vI a1] P Q := by
  refine Ct.of (by decide) (l0 := [(0, vR 0), (1, vI a1)]) rfl (Nat.le_of_ble_eq_true rfl) ?_
  refine g_aload_n dX12_refuses_0 rfl ?_
  refine m_g45 rfl dX12_refuses_1 ?_
  refine g_iload_n dX12_refuses_4 rfl ?_
  refine g_dup2 dX12_refuses_5 rfl rfl ?_
  refine m_l28 (z := (P 28 a1)) dX12_refuses_6 ⟨by omega, by omega⟩ rfl ?_
  refine g_iconst dX12_refuses_7 ?_
  refine g_iadd dX12_refuses_8 ?_
  refine g_norm (fun r1 h_r1 e_r1 => ?_)
  refine m_s28 dX12_refuses_9 ⟨by omega, by omega⟩ ?_
  have hB2 := ba_28 (z := r1) (k := a1) hB ⟨by omega, by omega⟩
  refine g_iconst dX12_refuses_10 ?_
  exact g_retI dX12_refuses_11 rfl (hQ (-1) (by decide) _ hB2 (FrM.a FrM.rf rfl rfl) )
set_option maxRecDepth 100000 in
set_option maxHeartbeats 4000000 in
theorem m_X12_status (G : GT) (P : PH) (a1 : Int) (h_a1 : (-2147483648) ≤ a1 ∧ a1 ≤ 2147483647) (hB : BdM P) (Q : Option PV → PH → Prop) (hQ : ∀ (r : Int) (_ : (-2147483648) ≤ r ∧ r ≤ 2147483647), Q (some (vI r)) P) : Ct WSM G 2 iX12_status [vR 0, vI a1] P Q := by
  refine Ct.of (by decide) (l0 := [(0, vR 0), (1, vI a1)]) rfl (Nat.le_of_ble_eq_true rfl) ?_
  refine g_iload_n dX12_status_0 rfl ?_
  refine g_iconst dX12_status_1 ?_
  refine g_iconst dX12_status_2 ?_
  refine g_sI (av := [vI a1, vI 0, vI 5]) (st := []) (m_X12_is G P a1 0 5 ⟨by omega, by omega⟩ (by decide) (by decide) hB  _ (fun rc1 hc1 gc1_is => ⟨rc1, rfl, ?_⟩)) cf_X12_is t_1800 rfl (Nat.le_of_ble_eq_true rfl) (by decide) rfl dX12_status_3
  refine g_if_eq (tgt := 18) dX12_status_6 (by decide) ⟨by omega, by omega⟩ (fun k2 => ?_) (fun k2 => ?_)
  · refine g_iconst dX12_status_18 ?_
    exact g_retI dX12_status_19 rfl (hQ (-1) (by decide) )
  · refine g_aload_n dX12_status_9 rfl ?_
    refine m_g45 rfl dX12_status_10 ?_
    refine g_iload_n dX12_status_13 rfl ?_
    refine m_l28 (z := (P 28 a1)) dX12_status_14 ⟨by omega, by omega⟩ rfl ?_
    refine g_goto (tgt := 19) dX12_status_15 (by decide) ?_
    exact g_retI dX12_status_19 rfl (hQ (P 28 a1) ⟨by have q0 := bl_28 (k := a1) hB; omega, by have q0 := bl_28 (k := a1) hB; omega⟩ )
end
section
set_option maxRecDepth 100000 in
set_option maxHeartbeats 4000000 in
theorem m_X12_seed (G : GT) (P : PH) (a1 : Int) (h_a1 : (-2147483648) ≤ a1 ∧ a1 ≤ 2147483647) (hB : BdM P) (Q : Option PV → PH → Prop) (hQ : ∀ (r : Int) (_ : 0 ≤ r ∧ r ≤ 1) (P1 : PH) (_ : BdM P1) (_ : FrM ([61], [28]) P P1) (_ : (a1 < 0 ∧ r = 0) ∨ (0 ≤ a1 ∧ r = 1)), Q (some (vI r)) P1) : Ct WSM G 2 iX12_seed [vR 0, vI a1] P Q := by
  refine Ct.of (by decide) (l0 := [(0, vR 0), (1, vI a1)]) rfl (Nat.le_of_ble_eq_true rfl) ?_
  refine g_iload_n dX12_seed_0 rfl ?_
  refine g_if_ge (tgt := 18) dX12_seed_1 (by decide) ⟨by omega, by omega⟩ (fun k1 => ?_) (fun k1 => ?_)
  · refine g_aload_n dX12_seed_18 rfl ?_
    refine g_iload_n dX12_seed_19 rfl ?_
    refine g_i2l dX12_seed_20 ⟨by omega, by omega⟩ ?_
    refine m_p61 rfl dX12_seed_21 ?_
    have hB2 := bs_61 (z := a1) hB ⟨by omega, by omega⟩
    refine g_iconst dX12_seed_24 ?_
    exact g_retZ dX12_seed_25 rfl (by decide) (hQ 1 (by decide) _ hB2 (FrM.s FrM.rf rfl) (by omega))
  · refine g_aload_n dX12_seed_4 rfl ?_
    refine g_iconst dX12_seed_5 ?_
    refine g_vI (av := [vI 5]) (o := 0) (st := []) (m_X12_refuses G P 5 (by decide) hB  _ (fun rc3 hc3 Pc3 hBc3 hFc3 => ⟨rc3, rfl, ?_⟩)) cf_X12_refuses t_1667 rfl (by decide) rfl rfl rfl (Nat.le_of_ble_eq_true rfl) (by decide) rfl dX12_seed_6
    refine g_if_lt (tgt := 16) dX12_seed_9 (by decide) ⟨by omega, by omega⟩ (fun k4 => ?_) (fun k4 => by exfalso; omega)
    refine g_iconst dX12_seed_16 ?_
    exact g_retZ dX12_seed_17 rfl (by decide) (hQ 0 (by decide) _ hBc3 (FrM.c FrM.rf hFc3 rfl) (by omega))
end
end
section
/-! Contracts of the reference: m3. -/
set_option maxRecDepth 100000 in
set_option maxHeartbeats 4000000 in
theorem m_X12_lowest (G : GT) (P : PH) (a1 : Int) (h_a1 : 0 ≤ a1 ∧ a1 ≤ 4095) (hB : BdM P) (Q : Option PV → PH → Prop) (hQ : ∀ (r : Int) (_ : (-1) ≤ r ∧ r ≤ 11) (_ : (a1 = 0 ∧ r = -1) ∨ (a1 ≠ 0 ∧ 0 ≤ r)) (_ : r = -1 ∨ iand (ishr a1 r) 1 = 1), Q (some (vI r)) P) : Ct WSM G 1 iX12_lowest [vI a1] P Q := by
  refine Ct.of (by decide) (l0 := [(0, vI a1)]) rfl (Nat.le_of_ble_eq_true rfl) ?_
  refine g_iload_n dX12_lowest_0 rfl ?_
  refine g_if_ne (tgt := 6) dX12_lowest_1 (by decide) ⟨by omega, by omega⟩ (fun k1 => ?_) (fun k1 => ?_)
  · refine g_iconst dX12_lowest_6 ?_
    refine g_istore_n (l1 := [(1, vI 0), (0, vI a1)]) dX12_lowest_7 (by decide) rfl ?_
    have L8_1 : ∀ (n8_1 : Nat) (x8_1_1 : Int) (h_x8_1_1 : 0 ≤ x8_1_1 ∧ x8_1_1 ≤ 11) (i8_0_1 : ∀ q : Nat, (q : Int) < x8_1_1 → iand (ishr a1 (q : Int)) 1 = 0) (hm8_1 : ((12 - x8_1_1) : Int).toNat < n8_1), Go WSM G 1 iX12_lowest 8 [(0, vI a1), (1, vI x8_1_1)] [] P Q := by
      intro n8_1
      induction n8_1 with
      | zero => intro x8_1_1 h_x8_1_1 i8_0_1 hm8_1; exact absurd hm8_1 (Nat.not_lt_zero _)
      | succ n8_1 ih8_1 =>
      intro x8_1_1 h_x8_1_1 i8_0_1 hm8_1
      refine g_iload_n dX12_lowest_8 rfl ?_
      refine g_iload_n dX12_lowest_9 rfl ?_
      refine g_ishr dX12_lowest_10 ?_
      refine g_nm (fun b15 e_b15 => ?_)
      have h_b15 := ishr_ir a1 x8_1_1
      rw [← e_b15] at h_b15
      refine g_iconst dX12_lowest_11 ?_
      refine g_iand dX12_lowest_12 ?_
      refine g_nm (fun b16 e_b16 => ?_)
      have h_b16 := iand_r (x := b15) (y := 1) ⟨by omega, by omega⟩
      rw [← e_b16] at h_b16
      have hz := e_b16
      rw [e_b15] at hz
      have hne : b16 = 0 → x8_1_1 ≤ 10 := fun h0 => by
        rcases (show x8_1_1 < 11 ∨ 11 ≤ x8_1_1 by omega) with h | h
        · omega
        · exfalso
          have := low12' (x := a1) ⟨by omega, by omega⟩ (fun q hq => by
            rcases (show (q : Int) < x8_1_1 ∨ (q : Int) = x8_1_1 by omega) with h9 | h9
            · exact i8_0_1 q h9
            · rw [h9, ← hz]; exact h0)
          omega
      have hstep : b16 = 0 → ∀ q : Nat, (q : Int) < (x8_1_1 + 1) → iand (ishr a1 (q : Int)) 1 = 0 := fun h0 q hq => by
        rcases (show (q : Int) < x8_1_1 ∨ (q : Int) = x8_1_1 by omega) with h9 | h9
        · exact i8_0_1 q h9
        · rw [h9, ← hz]; exact h0
      refine g_if_ne (tgt := 22) dX12_lowest_13 (by decide) ⟨by omega, by omega⟩ (fun k17 => ?_) (fun k17 => ?_)
      · refine g_iload_n dX12_lowest_22 rfl ?_
        exact g_retI dX12_lowest_23 rfl (hQ x8_1_1 ⟨by omega, by omega⟩ (by omega) (Or.inr (by omega)))
      · refine g_iinc (l1 := [(1, vI (x8_1_1 + 1)), (0, vI a1)]) dX12_lowest_16 rfl (by decide) rfl ?_
        refine g_goto (tgt := 8) dX12_lowest_19 (by decide) ?_
        refine g_forget (l1 := [(0, vI a1), (1, vI (x8_1_1 + 1))]) (by intro q hq; simp only [List.mem_cons, List.not_mem_nil, or_false] at hq ⊢; rcases hq with rfl | rfl <;> simp) ?_
        exact ih8_1 (x8_1_1 + 1) ⟨by omega, by omega⟩ (by first | (intro q hq; exfalso; omega) | exact hstep (by assumption)) (by omega)
    refine g_forget (l1 := [(0, vI a1), (1, vI 0)]) (by intro q hq; simp only [List.mem_cons, List.not_mem_nil, or_false] at hq ⊢; rcases hq with rfl | rfl <;> simp) ?_
    exact L8_1 _ 0 (by decide) (by first | (intro q hq; exfalso; omega) | exact hstep (by assumption)) (Nat.lt_succ_self _)
  · refine g_iconst dX12_lowest_4 ?_
    exact g_retI dX12_lowest_5 rfl (hQ (-1) (by decide) (by omega) (Or.inl rfl))
set_option maxRecDepth 100000 in
set_option maxHeartbeats 4000000 in
theorem m_X12_bitsOf (G : GT) (P : PH) (a1 : Int) (h_a1 : (-2147483648) ≤ a1 ∧ a1 ≤ 2147483647) (hB : BdM P) (Q : Option PV → PH → Prop) (hQ : ∀ (r : Int) (_ : (-2147483648) ≤ r ∧ r ≤ 2147483647), Q (some (vI r)) P) : Ct WSM G 1 iX12_bitsOf [vI a1] P Q := by
  refine Ct.of (by decide) (l0 := [(0, vI a1)]) rfl (Nat.le_of_ble_eq_true rfl) ?_
  refine g_iconst dX12_bitsOf_0 ?_
  refine g_istore_n (l1 := [(1, vI 0), (0, vI a1)]) dX12_bitsOf_1 (by decide) rfl ?_
  refine g_iload_n dX12_bitsOf_2 rfl ?_
  refine g_istore_n (l1 := [(2, vI a1), (1, vI 0), (0, vI a1)]) dX12_bitsOf_3 (by decide) rfl ?_
  have L4_0 : ∀ (n4_0 : Nat) (x4_2_0 : Int) (h_x4_2_0 : (-2147483648) ≤ x4_2_0 ∧ x4_2_0 ≤ 2147483647) (x4_1_0 : Int) (h_x4_1_0 : (-2147483648) ≤ x4_1_0 ∧ x4_1_0 ≤ 2147483647) (hm4_0 : (x4_2_0 : Int).toNat < n4_0), Go WSM G 1 iX12_bitsOf 4 [(1, vI x4_1_0), (2, vI x4_2_0)] [] P Q := by
    intro n4_0
    induction n4_0 with
    | zero => intro x4_2_0 h_x4_2_0 x4_1_0 h_x4_1_0 hm4_0; exact absurd hm4_0 (Nat.not_lt_zero _)
    | succ n4_0 ih4_0 =>
    intro x4_2_0 h_x4_2_0 x4_1_0 h_x4_1_0 hm4_0
    refine g_iload_n dX12_bitsOf_4 rfl ?_
    refine g_if_le (tgt := 21) dX12_bitsOf_5 (by decide) ⟨by omega, by omega⟩ (fun k75 => ?_) (fun k75 => ?_)
    · refine g_iload_n dX12_bitsOf_21 rfl ?_
      exact g_retI dX12_bitsOf_22 rfl (hQ x4_1_0 ⟨by omega, by omega⟩ )
    · refine g_iload_n dX12_bitsOf_8 rfl ?_
      refine g_iload_n dX12_bitsOf_9 rfl ?_
      refine g_iconst dX12_bitsOf_10 ?_
      refine g_iand dX12_bitsOf_11 ?_
      refine g_nm (fun b76 e_b76 => ?_)
      have h_b76 := iand_r (x := x4_2_0) (y := 1) ⟨by omega, by omega⟩
      rw [← e_b76] at h_b76
      refine g_iadd dX12_bitsOf_12 ?_
      refine g_norm (fun r77 h_r77 e_r77 => ?_)
      refine g_istore_n (l1 := [(1, vI r77), (2, vI x4_2_0)]) dX12_bitsOf_13 (by decide) rfl ?_
      refine g_iload_n dX12_bitsOf_14 rfl ?_
      refine g_iconst dX12_bitsOf_15 ?_
      refine g_ishr dX12_bitsOf_16 ?_
      refine g_nm (fun b78 e_b78 => ?_)
      have h_b78 : (ishr x4_2_0 1) = x4_2_0 / 2 := ishr_c 1 (by decide) (x := x4_2_0) ⟨by omega, by omega⟩
      rw [← e_b78] at h_b78
      refine g_istore_n (l1 := [(2, vI b78), (1, vI r77)]) dX12_bitsOf_17 (by decide) rfl ?_
      refine g_goto (tgt := 4) dX12_bitsOf_18 (by decide) ?_
      refine g_forget (l1 := [(1, vI r77), (2, vI b78)]) (by intro q hq; simp only [List.mem_cons, List.not_mem_nil, or_false] at hq ⊢; rcases hq with rfl | rfl <;> simp) ?_
      exact ih4_0 b78 ⟨by omega, by omega⟩ r77 ⟨by omega, by omega⟩ (by omega)
  refine g_forget (l1 := [(1, vI 0), (2, vI a1)]) (by intro q hq; simp only [List.mem_cons, List.not_mem_nil, or_false] at hq ⊢; rcases hq with rfl | rfl <;> simp) ?_
  exact L4_0 _ a1 ⟨by omega, by omega⟩ 0 (by decide) (Nat.lt_succ_self _)
set_option maxRecDepth 100000 in
set_option maxHeartbeats 4000000 in
theorem m_X12_lettersOf (G : GT) (P : PH) (a1 : Int) (h_a1 : (-9223372036854775808) ≤ a1 ∧ a1 ≤ 9223372036854775807) (hB : BdM P) (Q : Option PV → PH → Prop) (hQ : ∀ (r : Int) (_ : 0 ≤ r ∧ r ≤ 8), Q (some (vI r)) P) : Ct WSM G 1 iX12_lettersOf [vL a1] P Q := by
  refine Ct.of (by decide) (l0 := [(0, vL a1)]) rfl (Nat.le_of_ble_eq_true rfl) ?_
  refine g_iconst dX12_lettersOf_0 ?_
  refine g_istore_n (l1 := [(2, vI 0), (0, vL a1)]) dX12_lettersOf_1 (by decide) rfl ?_
  refine g_lload_n dX12_lettersOf_2 rfl ?_
  refine g_lstore_n (l1 := [(3, vL a1), (2, vI 0), (0, vL a1)]) dX12_lettersOf_3 (by decide) rfl ?_
  have L4_0 : ∀ (n4_0 : Nat) (x4_3_0 : Int) (h_x4_3_0 : (-9223372036854775808) ≤ x4_3_0 ∧ x4_3_0 ≤ 9223372036854775807) (x4_2_0 : Int) (h_x4_2_0 : 0 ≤ x4_2_0 ∧ x4_2_0 ≤ 8) (i4_0_0 : (x4_2_0 = 0 ∧ x4_3_0 < 9223372036854775808) ∨ (x4_2_0 = 1 ∧ x4_3_0 < 36028797018963968) ∨ (x4_2_0 = 2 ∧ x4_3_0 < 140737488355328) ∨ (x4_2_0 = 3 ∧ x4_3_0 < 549755813888) ∨ (x4_2_0 = 4 ∧ x4_3_0 < 2147483648) ∨ (x4_2_0 = 5 ∧ x4_3_0 < 8388608) ∨ (x4_2_0 = 6 ∧ x4_3_0 < 32768) ∨ (x4_2_0 = 7 ∧ x4_3_0 < 128) ∨ (x4_2_0 = 8 ∧ x4_3_0 ≤ 0) ∨ (x4_2_0 = 0 ∧ x4_3_0 ≤ 0)) (hm4_0 : (x4_3_0 : Int).toNat < n4_0), Go WSM G 1 iX12_lettersOf 4 [(2, vI x4_2_0), (3, vL x4_3_0)] [] P Q := by
    intro n4_0
    induction n4_0 with
    | zero => intro x4_3_0 h_x4_3_0 x4_2_0 h_x4_2_0 i4_0_0 hm4_0; exact absurd hm4_0 (Nat.not_lt_zero _)
    | succ n4_0 ih4_0 =>
    intro x4_3_0 h_x4_3_0 x4_2_0 h_x4_2_0 i4_0_0 hm4_0
    refine g_lload_n dX12_lettersOf_4 rfl ?_
    refine g_lconst (z := 0) dX12_lettersOf_5 (by decide) ?_
    refine g_lcmp dX12_lettersOf_6 ⟨by omega, by omega⟩ (by decide) ?_
    refine g_nm (fun b14 e_b14 => ?_)
    have h_b14 := lcmpv_b x4_3_0 0
    have h0_b14 := lcmpv_0 (x := x4_3_0) (y := 0)
    have h1_b14 := lcmpv_lt (x := x4_3_0) (y := 0)
    have h2_b14 := lcmpv_gt (x := x4_3_0) (y := 0)
    rw [← e_b14] at h_b14 h0_b14 h1_b14 h2_b14
    refine g_if_le (tgt := 21) dX12_lettersOf_7 (by decide) ⟨by omega, by omega⟩ (fun k15 => ?_) (fun k15 => ?_)
    · refine g_iload_n dX12_lettersOf_21 rfl ?_
      exact g_retI dX12_lettersOf_22 rfl (hQ x4_2_0 ⟨by omega, by omega⟩ )
    · refine g_iinc (l1 := [(2, vI (x4_2_0 + 1)), (3, vL x4_3_0)]) dX12_lettersOf_10 rfl (by decide) rfl ?_
      refine g_lload_n dX12_lettersOf_13 rfl ?_
      refine g_bipush dX12_lettersOf_14 (by decide) ?_
      refine g_lshr dX12_lettersOf_16 ?_
      refine g_nm (fun b16 e_b16 => ?_)
      have h_b16 : (llshr x4_3_0 8) = x4_3_0 / 256 := llshr_c 8 (by decide) (x := x4_3_0) ⟨by omega, by omega⟩
      rw [← e_b16] at h_b16
      refine g_lstore_n (l1 := [(3, vL b16), (2, vI (x4_2_0 + 1))]) dX12_lettersOf_17 (by decide) rfl ?_
      refine g_goto (tgt := 4) dX12_lettersOf_18 (by decide) ?_
      refine g_forget (l1 := [(2, vI (x4_2_0 + 1)), (3, vL b16)]) (by intro q hq; simp only [List.mem_cons, List.not_mem_nil, or_false] at hq ⊢; rcases hq with rfl | rfl <;> simp) ?_
      exact ih4_0 b16 ⟨by omega, by omega⟩ (x4_2_0 + 1) ⟨by omega, by omega⟩ (by omega) (by omega)
  refine g_forget (l1 := [(2, vI 0), (3, vL a1)]) (by intro q hq; simp only [List.mem_cons, List.not_mem_nil, or_false] at hq ⊢; rcases hq with rfl | rfl <;> simp) ?_
  exact L4_0 _ a1 ⟨by omega, by omega⟩ 0 (by decide) (by omega) (Nat.lt_succ_self _)
set_option maxRecDepth 100000 in
set_option maxHeartbeats 4000000 in
theorem m_X12_columnValues (G : GT) (P : PH) (a1 : Int) (h_a1 : 0 ≤ a1 ∧ a1 ≤ 3) (hB : BdM P) (p_c : a1 < P 11 (P 0 13)) (v_okC : okC P) (Q : Option PV → PH → Prop) (hQ : ∀ (r : Int) (_ : 1 ≤ r ∧ r ≤ 2006) (_ : r = vals P (P 0 13) (P 12 (4 * P 0 13 + a1))), Q (some (vI r)) P) : Ct WSM G 2 iX12_columnValues [vR 0, vI a1] P Q := by
  refine Ct.of (by decide) (l0 := [(0, vR 0), (1, vI a1)]) rfl (Nat.le_of_ble_eq_true rfl) ?_
  refine g_aload_n dX12_columnValues_0 rfl ?_
  refine g_aload_n dX12_columnValues_1 rfl ?_
  refine m_g13 (z := (P 0 13)) rfl dX12_columnValues_2 rfl ?_
  refine g_aload_n dX12_columnValues_5 rfl ?_
  refine m_g24 rfl dX12_columnValues_6 ?_
  refine g_iconst dX12_columnValues_9 ?_
  refine g_aload_n dX12_columnValues_10 rfl ?_
  refine m_g13 (z := (P 0 13)) rfl dX12_columnValues_11 rfl ?_
  refine g_imul dX12_columnValues_14 ?_
  refine g_iload_n dX12_columnValues_15 rfl ?_
  refine g_iadd dX12_columnValues_16 ?_
  refine m_l12 (z := (P 12 ((4 * (P 0 13)) + a1))) dX12_columnValues_17 ⟨by have q0 := b0_13 hB; omega, by have q0 := b0_13 hB; omega⟩ rfl ?_
  have f1 := b0_13 hB
  have f2 := bl_12 (k := ((4 * (P 0 13)) + a1)) hB
  refine g_vI (av := [vI (P 0 13), vI (P 12 ((4 * (P 0 13)) + a1))]) (o := 0) (st := []) (m_X12_valuesOf G P (P 0 13) (P 12 ((4 * (P 0 13)) + a1)) ⟨by have q0 := b0_13 hB; omega, by have q0 := b0_13 hB; omega⟩ ⟨by have q0 := bl_12 (k := ((4 * (P 0 13)) + a1)) hB; omega, by have q0 := bl_12 (k := ((4 * (P 0 13)) + a1)) hB; omega⟩ hB  _ (fun rc3 hc3 gc3_v => ⟨rc3, rfl, ?_⟩)) cf_X12_valuesOf t_1756 rfl (by decide) rfl rfl rfl (Nat.le_of_ble_eq_true rfl) (by decide) rfl dX12_columnValues_18
  have ho := v_okC a1 (by omega) (by omega)
  exact g_retI dX12_columnValues_21 rfl (hQ rc3 ⟨by omega, by omega⟩ (vals_of gc3_v))
set_option maxRecDepth 100000 in
set_option maxHeartbeats 4000000 in
theorem m_X12_setIn (G : GT) (P : PH) (a1 : Int) (a2 : Int) (h_a1 : 0 ≤ a1 ∧ a1 ≤ 3) (h_a2 : 0 ≤ a2 ∧ a2 ≤ 2009) (hB : BdM P) (Q : Option PV → PH → Prop) (hQ : ∀ (r : Int) (_ : 0 ≤ r ∧ r ≤ 4095), Q (some (vI r)) P) : Ct WSM G 1 iX12_setIn [vR 0, vI a1, vI a2] P Q := by
  refine Ct.of (by decide) (l0 := [(0, vR 0), (1, vI a1), (2, vI a2)]) rfl (Nat.le_of_ble_eq_true rfl) ?_
  refine g_aload_n dX12_setIn_0 rfl ?_
  refine m_g63 rfl dX12_setIn_1 ?_
  refine g_sipush dX12_setIn_4 (by decide) ?_
  refine g_iload_n dX12_setIn_7 rfl ?_
  refine g_imul dX12_setIn_8 ?_
  refine g_aload_n dX12_setIn_9 rfl ?_
  refine m_g48 rfl dX12_setIn_10 ?_
  refine g_sipush dX12_setIn_13 (by decide) ?_
  refine g_iload_n dX12_setIn_16 rfl ?_
  refine g_imul dX12_setIn_17 ?_
  refine g_iload_n dX12_setIn_18 rfl ?_
  refine g_iadd dX12_setIn_19 ?_
  refine m_l31 (z := (P 31 ((2010 * a1) + a2))) dX12_setIn_20 ⟨by omega, by omega⟩ rfl ?_
  refine g_iadd dX12_setIn_21 ?_
  refine m_l41 (z := (P 41 ((2010 * a1) + (P 31 ((2010 * a1) + a2))))) dX12_setIn_22 ⟨by have q0 := bl_31 (k := ((2010 * a1) + a2)) hB; omega, by have q0 := bl_31 (k := ((2010 * a1) + a2)) hB; omega⟩ rfl ?_
  exact g_retI dX12_setIn_23 rfl (hQ (P 41 ((2010 * a1) + (P 31 ((2010 * a1) + a2)))) ⟨by have q0 := bl_41 (k := ((2010 * a1) + (P 31 ((2010 * a1) + a2)))) hB; omega, by have q0 := bl_41 (k := ((2010 * a1) + (P 31 ((2010 * a1) + a2)))) hB; omega⟩ )
set_option maxRecDepth 100000 in
set_option maxHeartbeats 4000000 in
theorem m_X12_isPlace (G : GT) (P : PH) (a1 : Int) (h_a1 : (-2147483648) ≤ a1 ∧ a1 ≤ 2147483647) (hB : BdM P) (Q : Option PV → PH → Prop) (hQ : ∀ (r : Int) (_ : 0 ≤ r ∧ r ≤ 1) (_ : r = 0 ∨ (P 0 44 ≠ 0 ∧ 0 ≤ a1 ∧ a1 < P 35 0)), Q (some (vI r)) P) : Ct WSM G 2 iX12_isPlace [vR 0, vI a1] P Q := by
  refine Ct.of (by decide) (l0 := [(0, vR 0), (1, vI a1)]) rfl (Nat.le_of_ble_eq_true rfl) ?_
  refine g_aload_n dX12_isPlace_0 rfl ?_
  refine m_g44 (z := (P 0 44)) rfl dX12_isPlace_1 rfl ?_
  have f1 := b0_44 hB
  refine g_if_eq (tgt := 27) dX12_isPlace_4 (by decide) ⟨by have q0 := b0_44 hB; omega, by have q0 := b0_44 hB; omega⟩ (fun k2 => ?_) (fun k2 => ?_)
  · refine g_iconst dX12_isPlace_27 ?_
    exact g_retZ dX12_isPlace_28 rfl (by decide) (hQ 0 (by decide) (by have q0 := b0_44 hB; have q1 := bl_35 (k := 0) hB; omega))
  · refine g_iload_n dX12_isPlace_7 rfl ?_
    refine g_iconst dX12_isPlace_8 ?_
    refine g_aload_n dX12_isPlace_9 rfl ?_
    refine m_g53 rfl dX12_isPlace_10 ?_
    refine g_iconst dX12_isPlace_13 ?_
    refine m_l35 (z := (P 35 0)) dX12_isPlace_14 (by decide) rfl ?_
    refine g_iconst dX12_isPlace_15 ?_
    refine g_isub dX12_isPlace_16 ?_
    have f3 := bl_35 (k := 0) hB
    refine g_sI (av := [vI a1, vI 0, vI ((P 35 0) - 1)]) (st := []) (m_X12_is G P a1 0 ((P 35 0) - 1) ⟨by omega, by omega⟩ (by decide) ⟨by have q0 := bl_35 (k := 0) hB; omega, by have q0 := bl_35 (k := 0) hB; omega⟩ hB  _ (fun rc4 hc4 gc4_is => ⟨rc4, rfl, ?_⟩)) cf_X12_is t_1800 rfl (Nat.le_of_ble_eq_true rfl) (by decide) rfl dX12_isPlace_17
    refine g_if_eq (tgt := 27) dX12_isPlace_20 (by decide) ⟨by omega, by omega⟩ (fun k5 => ?_) (fun k5 => ?_)
    · refine g_iconst dX12_isPlace_27 ?_
      exact g_retZ dX12_isPlace_28 rfl (by decide) (hQ 0 (by decide) (by have q0 := b0_44 hB; have q1 := bl_35 (k := 0) hB; omega))
    · refine g_iconst dX12_isPlace_23 ?_
      refine g_goto (tgt := 28) dX12_isPlace_24 (by decide) ?_
      exact g_retZ dX12_isPlace_28 rfl (by decide) (hQ 1 (by decide) (by have q0 := b0_44 hB; have q1 := bl_35 (k := 0) hB; omega))
set_option maxRecDepth 100000 in
set_option maxHeartbeats 4000000 in
theorem m_X12_isRow (G : GT) (P : PH) (a1 : Int) (h_a1 : (-2147483648) ≤ a1 ∧ a1 ≤ 2147483647) (hB : BdM P) (Q : Option PV → PH → Prop) (hQ : ∀ (r : Int) (_ : 0 ≤ r ∧ r ≤ 1) (_ : r = 0 ∨ (P 0 44 ≠ 0 ∧ 0 ≤ a1 ∧ a1 < P 0 52)), Q (some (vI r)) P) : Ct WSM G 2 iX12_isRow [vR 0, vI a1] P Q := by
  refine Ct.of (by decide) (l0 := [(0, vR 0), (1, vI a1)]) rfl (Nat.le_of_ble_eq_true rfl) ?_
  refine g_aload_n dX12_isRow_0 rfl ?_
  refine m_g44 (z := (P 0 44)) rfl dX12_isRow_1 rfl ?_
  have f1 := b0_44 hB
  refine g_if_eq (tgt := 25) dX12_isRow_4 (by decide) ⟨by have q0 := b0_44 hB; omega, by have q0 := b0_44 hB; omega⟩ (fun k2 => ?_) (fun k2 => ?_)
  · refine g_iconst dX12_isRow_25 ?_
    exact g_retZ dX12_isRow_26 rfl (by decide) (hQ 0 (by decide) (by have q0 := b0_44 hB; have q1 := b0_52 hB; omega))
  · refine g_iload_n dX12_isRow_7 rfl ?_
    refine g_iconst dX12_isRow_8 ?_
    refine g_aload_n dX12_isRow_9 rfl ?_
    refine m_g52 (z := (P 0 52)) rfl dX12_isRow_10 rfl ?_
    refine g_iconst dX12_isRow_13 ?_
    refine g_isub dX12_isRow_14 ?_
    have f3 := b0_52 hB
    refine g_sI (av := [vI a1, vI 0, vI ((P 0 52) - 1)]) (st := []) (m_X12_is G P a1 0 ((P 0 52) - 1) ⟨by omega, by omega⟩ (by decide) ⟨by have q0 := b0_52 hB; omega, by have q0 := b0_52 hB; omega⟩ hB  _ (fun rc4 hc4 gc4_is => ⟨rc4, rfl, ?_⟩)) cf_X12_is t_1800 rfl (Nat.le_of_ble_eq_true rfl) (by decide) rfl dX12_isRow_15
    refine g_if_eq (tgt := 25) dX12_isRow_18 (by decide) ⟨by omega, by omega⟩ (fun k5 => ?_) (fun k5 => ?_)
    · refine g_iconst dX12_isRow_25 ?_
      exact g_retZ dX12_isRow_26 rfl (by decide) (hQ 0 (by decide) (by have q0 := b0_44 hB; have q1 := b0_52 hB; omega))
    · refine g_iconst dX12_isRow_21 ?_
      refine g_goto (tgt := 26) dX12_isRow_22 (by decide) ?_
      exact g_retZ dX12_isRow_26 rfl (by decide) (hQ 1 (by decide) (by have q0 := b0_44 hB; have q1 := b0_52 hB; omega))
set_option maxRecDepth 100000 in
set_option maxHeartbeats 4000000 in
theorem m_X12_exchanges (G : GT) (P : PH) (a1 : Int) (a2 : Int) (a3 : Int) (h_a1 : 0 ≤ a1 ∧ a1 ≤ 21) (h_a2 : 0 ≤ a2 ∧ a2 ≤ 11) (h_a3 : 0 ≤ a3 ∧ a3 ≤ 11) (hB : BdM P) (Q : Option PV → PH → Prop) (hQ : ∀ (P1 : PH) (_ : BdM P1) (_ : FrM ([], [36]) P P1), Q none P1) : Ct WSM G 1 iX12_exchanges [vR 0, vI a1, vI a2, vI a3] P Q := by
  refine Ct.of (by decide) (l0 := [(0, vR 0), (1, vI a1), (2, vI a2), (3, vI a3)]) rfl (Nat.le_of_ble_eq_true rfl) ?_
  refine g_aload_n dX12_exchanges_0 rfl ?_
  refine m_g54 rfl dX12_exchanges_1 ?_
  refine g_bipush dX12_exchanges_4 (by decide) ?_
  refine g_iload_n dX12_exchanges_6 rfl ?_
  refine g_imul dX12_exchanges_7 ?_
  refine g_iload_n dX12_exchanges_8 rfl ?_
  refine g_iadd dX12_exchanges_9 ?_
  refine m_l36 (z := (P 36 ((12 * a1) + a2))) dX12_exchanges_10 ⟨by omega, by omega⟩ rfl ?_
  refine g_istore (l1 := [(4, vI (P 36 ((12 * a1) + a2))), (0, vR 0), (1, vI a1), (2, vI a2), (3, vI a3)]) dX12_exchanges_11 (by decide) rfl ?_
  refine g_aload_n dX12_exchanges_13 rfl ?_
  refine m_g54 rfl dX12_exchanges_14 ?_
  refine g_bipush dX12_exchanges_17 (by decide) ?_
  refine g_iload_n dX12_exchanges_19 rfl ?_
  refine g_imul dX12_exchanges_20 ?_
  refine g_iload_n dX12_exchanges_21 rfl ?_
  refine g_iadd dX12_exchanges_22 ?_
  refine g_aload_n dX12_exchanges_23 rfl ?_
  refine m_g54 rfl dX12_exchanges_24 ?_
  refine g_bipush dX12_exchanges_27 (by decide) ?_
  refine g_iload_n dX12_exchanges_29 rfl ?_
  refine g_imul dX12_exchanges_30 ?_
  refine g_iload_n dX12_exchanges_31 rfl ?_
  refine g_iadd dX12_exchanges_32 ?_
  refine m_l36 (z := (P 36 ((12 * a1) + a3))) dX12_exchanges_33 ⟨by omega, by omega⟩ rfl ?_
  refine m_s36 dX12_exchanges_34 ⟨by omega, by omega⟩ ?_
  have hB1 := ba_36 (z := (P 36 ((12 * a1) + a3))) (k := ((12 * a1) + a2)) hB ⟨by have q0 := bl_36 (k := ((12 * a1) + a3)) hB; omega, by have q0 := bl_36 (k := ((12 * a1) + a3)) hB; omega⟩
  refine g_aload_n dX12_exchanges_35 rfl ?_
  refine m_g54 rfl dX12_exchanges_36 ?_
  refine g_bipush dX12_exchanges_39 (by decide) ?_
  refine g_iload_n dX12_exchanges_41 rfl ?_
  refine g_imul dX12_exchanges_42 ?_
  refine g_iload_n dX12_exchanges_43 rfl ?_
  refine g_iadd dX12_exchanges_44 ?_
  refine g_iload dX12_exchanges_45 rfl ?_
  refine m_s36 dX12_exchanges_47 ⟨by omega, by omega⟩ ?_
  have hB2 := ba_36 (z := (P 36 ((12 * a1) + a2))) (k := ((12 * a1) + a3)) hB1 ⟨by have q0 := bl_36 (k := ((12 * a1) + a2)) hB; omega, by have q0 := bl_36 (k := ((12 * a1) + a2)) hB; omega⟩
  exact g_retV dX12_exchanges_48 rfl (hQ _ hB2 (FrM.a (FrM.a FrM.rf rfl rfl) rfl rfl) )
set_option maxRecDepth 100000 in
set_option maxHeartbeats 4000000 in
theorem m_X12_opensPattern (G : GT) (P : PH) (a1 : Int) (h_a1 : 0 ≤ a1 ∧ a1 ≤ 4) (hB : BdM P) (p_o : P 0 43 ≤ 8) (Q : Option PV → PH → Prop) (hQ : ∀ (P1 : PH) (_ : BdM P1) (_ : FrM ([43], [24, 25]) P P1) (_ : P1 0 43 = P 0 43 + 1) (_ : P1 24 (P 0 43 + 1) = a1) (_ : P1 25 (P 0 43 + 1) = 0) (_ : ∀ j : Int, j ≠ P 0 43 + 1 → P1 24 j = P 24 j) (_ : ∀ j : Int, j ≠ P 0 43 + 1 → P1 25 j = P 25 j), Q none P1) : Ct WSM G 1 iX12_opensPattern [vR 0, vI a1] P Q := by
  refine Ct.of (by decide) (l0 := [(0, vR 0), (1, vI a1)]) rfl (Nat.le_of_ble_eq_true rfl) ?_
  refine g_aload_n dX12_opensPattern_0 rfl ?_
  refine g_dup dX12_opensPattern_1 rfl ?_
  refine m_g43 (z := (P 0 43)) rfl dX12_opensPattern_2 rfl ?_
  refine g_iconst dX12_opensPattern_5 ?_
  refine g_iadd dX12_opensPattern_6 ?_
  refine m_p43 rfl dX12_opensPattern_7 ?_
  have hB1 := bs_43 (z := ((P 0 43) + 1)) hB ⟨by have q0 := b0_43 hB; omega, by have q0 := b0_43 hB; omega⟩
  refine g_aload_n dX12_opensPattern_10 rfl ?_
  refine m_g39 rfl dX12_opensPattern_11 ?_
  refine g_aload_n dX12_opensPattern_14 rfl ?_
  refine m_g43 (z := ((P 0 43) + 1)) rfl dX12_opensPattern_15 up_same ?_
  refine g_iload_n dX12_opensPattern_18 rfl ?_
  refine m_s24 dX12_opensPattern_19 ⟨by have q0 := b0_43 hB; omega, by have q0 := b0_43 hB; omega⟩ ?_
  have hB2 := ba_24 (z := a1) (k := ((P 0 43) + 1)) hB1 ⟨by omega, by omega⟩
  refine g_aload_n dX12_opensPattern_20 rfl ?_
  refine m_g40 rfl dX12_opensPattern_21 ?_
  refine g_aload_n dX12_opensPattern_24 rfl ?_
  refine m_g43 (z := ((P 0 43) + 1)) rfl dX12_opensPattern_25 ((up_o (by decide)).trans up_same) ?_
  refine g_iconst dX12_opensPattern_28 ?_
  refine m_s25 dX12_opensPattern_29 ⟨by have q0 := b0_43 hB; omega, by have q0 := b0_43 hB; omega⟩ ?_
  have hB3 := ba_25 (z := 0) (k := ((P 0 43) + 1)) hB2 (by decide)
  exact g_retV dX12_opensPattern_30 rfl (hQ _ hB3 (FrM.a (FrM.a (FrM.s FrM.rf rfl) rfl rfl) rfl rfl) (by have q0 := (((up_o (by decide)).trans ((up_o (by decide)).trans up_same)) : (up (up (up P 0 43 ((P 0 43) + 1)) 24 ((P 0 43) + 1) a1) 25 ((P 0 43) + 1) 0) 0 43 = ((P 0 43) + 1)); have q1 := b0_43 hB; omega) (((up_o (by decide)).trans up_same)) (up_same) (fun j hj => ((up_o (by decide)).trans ((up_k hj).trans ((up_o (by decide)).trans rfl)))) (fun j hj => ((up_k hj).trans ((up_o (by decide)).trans ((up_o (by decide)).trans rfl)))))
set_option maxRecDepth 100000 in
set_option maxHeartbeats 4000000 in
theorem m_X12_writes (G : GT) (P : PH) (a1 : Int) (h_a1 : (-2147483648) ≤ a1 ∧ a1 ≤ 2147483647) (hB : BdM P) (p_o : P 0 70 ≤ 1799) (Q : Option PV → PH → Prop) (hQ : ∀ (P1 : PH) (_ : BdM P1) (_ : FrM ([70], [46]) P P1) (_ : P1 0 70 = P 0 70 + 1), Q none P1) : Ct WSM G 1 iX12_writes [vR 0, vI a1] P Q := by
  refine Ct.of (by decide) (l0 := [(0, vR 0), (1, vI a1)]) rfl (Nat.le_of_ble_eq_true rfl) ?_
  refine g_aload_n dX12_writes_0 rfl ?_
  refine m_g69 rfl dX12_writes_1 ?_
  refine g_aload_n dX12_writes_4 rfl ?_
  refine m_g70 (z := (P 0 70)) rfl dX12_writes_5 rfl ?_
  refine g_iload_n dX12_writes_8 rfl ?_
  refine g_sipush dX12_writes_9 (by decide) ?_
  refine g_iand dX12_writes_12 ?_
  refine g_nm (fun b1 e_b1 => ?_)
  have h_b1 := iand_r (x := a1) (y := 255) ⟨by omega, by omega⟩
  rw [← e_b1] at h_b1
  refine m_s46 dX12_writes_13 ⟨by have q0 := b0_70 hB; omega, by have q0 := b0_70 hB; omega⟩ ?_
  have hB2 := ba_46 (z := b1) (k := (P 0 70)) hB ⟨by omega, by omega⟩
  refine g_aload_n dX12_writes_14 rfl ?_
  refine g_dup dX12_writes_15 rfl ?_
  refine m_g70 (z := (P 0 70)) rfl dX12_writes_16 ((up_o (by decide)).trans rfl) ?_
  refine g_iconst dX12_writes_19 ?_
  refine g_iadd dX12_writes_20 ?_
  refine m_p70 rfl dX12_writes_21 ?_
  have hB3 := bs_70 (z := ((P 0 70) + 1)) hB2 ⟨by have q0 := b0_70 hB; omega, by have q0 := b0_70 hB; omega⟩
  exact g_retV dX12_writes_24 rfl (hQ _ hB3 (FrM.s (FrM.a FrM.rf rfl rfl) rfl) (by have q0 := (up_same : (up (up P 46 (P 0 70) b1) 0 70 ((P 0 70) + 1)) 0 70 = ((P 0 70) + 1)); have q1 := b0_70 hB; omega))
set_option maxRecDepth 100000 in
set_option maxHeartbeats 4000000 in
theorem m_X12_later (G : GT) (P : PH) (a1 : Int) (a2 : Int) (h_a1 : 0 ≤ a1 ∧ a1 ≤ 5) (h_a2 : (-2147483648) ≤ a2 ∧ a2 ≤ 2147483647) (hB : BdM P) (p_o : P 0 73 ≤ 39) (Q : Option PV → PH → Prop) (hQ : ∀ (P1 : PH) (_ : BdM P1) (_ : FrM ([73], [47, 48]) P P1) (_ : P1 0 73 = P 0 73 + 1) (_ : LA a1 a2 P P1), Q none P1) : Ct WSM G 1 iX12_later [vR 0, vI a1, vI a2] P Q := by
  refine Ct.of (by decide) (l0 := [(0, vR 0), (1, vI a1), (2, vI a2)]) rfl (Nat.le_of_ble_eq_true rfl) ?_
  refine g_aload_n dX12_later_0 rfl ?_
  refine m_g71 rfl dX12_later_1 ?_
  refine g_aload_n dX12_later_4 rfl ?_
  refine m_g73 (z := (P 0 73)) rfl dX12_later_5 rfl ?_
  refine g_iload_n dX12_later_8 rfl ?_
  refine m_s47 dX12_later_9 ⟨by have q0 := b0_73 hB; omega, by have q0 := b0_73 hB; omega⟩ ?_
  have hB1 := ba_47 (z := a1) (k := (P 0 73)) hB ⟨by omega, by omega⟩
  refine g_aload_n dX12_later_10 rfl ?_
  refine m_g72 rfl dX12_later_11 ?_
  refine g_aload_n dX12_later_14 rfl ?_
  refine m_g73 (z := (P 0 73)) rfl dX12_later_15 ((up_o (by decide)).trans rfl) ?_
  refine g_iload_n dX12_later_18 rfl ?_
  refine m_s48 dX12_later_19 ⟨by have q0 := b0_73 hB; omega, by have q0 := b0_73 hB; omega⟩ ?_
  have hB2 := ba_48 (z := a2) (k := (P 0 73)) hB1 ⟨by omega, by omega⟩
  refine g_aload_n dX12_later_20 rfl ?_
  refine g_dup dX12_later_21 rfl ?_
  refine m_g73 (z := (P 0 73)) rfl dX12_later_22 ((up_o (by decide)).trans ((up_o (by decide)).trans rfl)) ?_
  refine g_iconst dX12_later_25 ?_
  refine g_iadd dX12_later_26 ?_
  refine m_p73 rfl dX12_later_27 ?_
  have hB3 := bs_73 (z := ((P 0 73) + 1)) hB2 ⟨by have q0 := b0_73 hB; omega, by have q0 := b0_73 hB; omega⟩
  exact g_retV dX12_later_30 rfl (hQ _ hB3 (FrM.s (FrM.a (FrM.a FrM.rf rfl rfl) rfl rfl) rfl) (by have q0 := (up_same : (up (up (up P 47 (P 0 73) a1) 48 (P 0 73) a2) 0 73 ((P 0 73) + 1)) 0 73 = ((P 0 73) + 1)); have q1 := b0_73 hB; omega) (⟨up_same, fun j hj => ⟨((up_o (by decide)).trans ((up_o (by decide)).trans ((up_k hj).trans rfl))), ((up_o (by decide)).trans ((up_k hj).trans ((up_o (by decide)).trans rfl)))⟩, ((up_o (by decide)).trans ((up_o (by decide)).trans up_same)), ((up_o (by decide)).trans up_same)⟩))
set_option maxRecDepth 100000 in
set_option maxHeartbeats 4000000 in
theorem m_X12_octet (G : GT) (P : PH) (a1 : Int) (h_a1 : (-2147483648) ≤ a1 ∧ a1 ≤ 2147483647) (hB : BdM P) (Q : Option PV → PH → Prop) (hQ : ∀ (r : Int) (_ : (-1) ≤ r ∧ r ≤ 255), Q (some (vI r)) P) : Ct WSM G 2 iX12_octet [vR 0, vI a1] P Q := by
  refine Ct.of (by decide) (l0 := [(0, vR 0), (1, vI a1)]) rfl (Nat.le_of_ble_eq_true rfl) ?_
  refine g_iload_n dX12_octet_0 rfl ?_
  refine g_iconst dX12_octet_1 ?_
  refine g_aload_n dX12_octet_2 rfl ?_
  refine m_g70 (z := (P 0 70)) rfl dX12_octet_3 rfl ?_
  refine g_iconst dX12_octet_6 ?_
  refine g_isub dX12_octet_7 ?_
  have f1 := b0_70 hB
  refine g_sI (av := [vI a1, vI 0, vI ((P 0 70) - 1)]) (st := []) (m_X12_is G P a1 0 ((P 0 70) - 1) ⟨by omega, by omega⟩ (by decide) ⟨by have q0 := b0_70 hB; omega, by have q0 := b0_70 hB; omega⟩ hB  _ (fun rc2 hc2 gc2_is => ⟨rc2, rfl, ?_⟩)) cf_X12_is t_1800 rfl (Nat.le_of_ble_eq_true rfl) (by decide) rfl dX12_octet_8
  refine g_if_eq (tgt := 23) dX12_octet_11 (by decide) ⟨by omega, by omega⟩ (fun k3 => ?_) (fun k3 => ?_)
  · refine g_iconst dX12_octet_23 ?_
    exact g_retI dX12_octet_24 rfl (hQ (-1) (by decide) )
  · refine g_aload_n dX12_octet_14 rfl ?_
    refine m_g69 rfl dX12_octet_15 ?_
    refine g_iload_n dX12_octet_18 rfl ?_
    refine m_l46 (z := (P 46 a1)) dX12_octet_19 ⟨by omega, by omega⟩ rfl ?_
    refine g_goto (tgt := 24) dX12_octet_20 (by decide) ?_
    exact g_retI dX12_octet_24 rfl (hQ (P 46 a1) ⟨by have q0 := bl_46 (k := a1) hB; omega, by have q0 := bl_46 (k := a1) hB; omega⟩ )
set_option maxRecDepth 100000 in
set_option maxHeartbeats 4000000 in
theorem m_X12_leftOf (G : GT) (P : PH) (a1 : Int) (a2 : Int) (h_a1 : 0 ≤ a1 ∧ a1 ≤ 4095) (h_a2 : 0 ≤ a2 ∧ a2 ≤ 15) (hB : BdM P) (Q : Option PV → PH → Prop) (hQ : ∀ (r : Int) (_ : 0 ≤ r ∧ r ≤ 65535) (_ : r = a1 + 4096 * a2), Q (some (vI r)) P) : Ct WSM G 1 iX12_leftOf [vI a1, vI a2] P Q := by
  refine Ct.of (by decide) (l0 := [(0, vI a1), (1, vI a2)]) rfl (Nat.le_of_ble_eq_true rfl) ?_
  refine g_iload_n dX12_leftOf_0 rfl ?_
  refine g_iload_n dX12_leftOf_1 rfl ?_
  refine g_bipush dX12_leftOf_2 (by decide) ?_
  refine g_ishl dX12_leftOf_4 ?_
  refine g_nm (fun b1 e_b1 => ?_)
  have h_b1 : (ishl a2 12) = a2 * 4096 := ishl_c 12 (by decide) (x := a2) (show IR (a2 * 4096) from ⟨by omega, by omega⟩)
  rw [← e_b1] at h_b1
  refine g_ior dX12_leftOf_5 ?_
  refine g_nm (fun b2 e_b2 => ?_)
  have h_b2 : 0 ≤ (ior a1 b1) ∧ (ior a1 b1) < 65536 := ior_b 16 (by decide) (x := a1) (y := b1) (show 0 ≤ a1 ∧ a1 < 65536 from ⟨by omega, by omega⟩) (show 0 ≤ b1 ∧ b1 < 65536 from ⟨by omega, by omega⟩)
  rw [← e_b2] at h_b2
  have hz := ior_hl12 (x := a1) (y := a2) ⟨by omega, by omega⟩ (by omega) (by omega)
  have e9 : b2 = a2 * 4096 + a1 := by rw [e_b2, h_b1]; exact hz
  exact g_retI dX12_leftOf_6 rfl (hQ b2 ⟨by omega, by omega⟩ (by omega))
set_option maxRecDepth 100000 in
set_option maxHeartbeats 4000000 in
theorem m_X12_armsIn (G : GT) (P : PH) (a1 : Int) (h_a1 : 0 ≤ a1 ∧ a1 ≤ 65535) (hB : BdM P) (Q : Option PV → PH → Prop) (hQ : ∀ (r : Int) (_ : 0 ≤ r ∧ r ≤ 4095) (_ : r = a1 % 4096), Q (some (vI r)) P) : Ct WSM G 1 iX12_armsIn [vI a1] P Q := by
  refine Ct.of (by decide) (l0 := [(0, vI a1)]) rfl (Nat.le_of_ble_eq_true rfl) ?_
  refine g_iload_n dX12_armsIn_0 rfl ?_
  refine g_sipush dX12_armsIn_1 (by decide) ?_
  refine g_iand dX12_armsIn_4 ?_
  refine g_nm (fun b1 e_b1 => ?_)
  have h_b1 := iand_r (x := a1) (y := 4095) ⟨by omega, by omega⟩
  rw [← e_b1] at h_b1
  have e9 : b1 = a1 % 4096 := by rw [e_b1]; exact iand4095 ⟨by omega, by omega⟩
  exact g_retI dX12_armsIn_5 rfl (hQ b1 ⟨by omega, by omega⟩ (by omega))
set_option maxRecDepth 100000 in
set_option maxHeartbeats 4000000 in
theorem m_X12_columnsIn (G : GT) (P : PH) (a1 : Int) (h_a1 : 0 ≤ a1 ∧ a1 ≤ 65535) (hB : BdM P) (Q : Option PV → PH → Prop) (hQ : ∀ (r : Int) (_ : 0 ≤ r ∧ r ≤ 15) (_ : r = a1 / 4096), Q (some (vI r)) P) : Ct WSM G 1 iX12_columnsIn [vI a1] P Q := by
  refine Ct.of (by decide) (l0 := [(0, vI a1)]) rfl (Nat.le_of_ble_eq_true rfl) ?_
  refine g_iload_n dX12_columnsIn_0 rfl ?_
  refine g_bipush dX12_columnsIn_1 (by decide) ?_
  refine g_ishr dX12_columnsIn_3 ?_
  refine g_nm (fun b1 e_b1 => ?_)
  have h_b1 : (ishr a1 12) = a1 / 4096 := ishr_c 12 (by decide) (x := a1) ⟨by omega, by omega⟩
  rw [← e_b1] at h_b1
  exact g_retI dX12_columnsIn_4 rfl (hQ b1 ⟨by omega, by omega⟩ (by omega))
set_option maxRecDepth 100000 in
set_option maxHeartbeats 4000000 in
theorem m_X12_swapped (G : GT) (P : PH) (a1 : Int) (a2 : Int) (a3 : Int) (h_a1 : 0 ≤ a1 ∧ a1 ≤ 4095) (h_a2 : 0 ≤ a2 ∧ a2 ≤ 11) (h_a3 : 0 ≤ a3 ∧ a3 ≤ 11) (hB : BdM P) (Q : Option PV → PH → Prop) (hQ : ∀ (r : Int) (_ : 0 ≤ r ∧ r ≤ 4095), Q (some (vI r)) P) : Ct WSM G 1 iX12_swapped [vI a1, vI a2, vI a3] P Q := by
  refine Ct.of (by decide) (l0 := [(0, vI a1), (1, vI a2), (2, vI a3)]) rfl (Nat.le_of_ble_eq_true rfl) ?_
  refine g_iload_n dX12_swapped_0 rfl ?_
  refine g_iload_n dX12_swapped_1 rfl ?_
  refine g_ishr dX12_swapped_2 ?_
  refine g_nm (fun b1 e_b1 => ?_)
  have h_b1 := ishr_ir a1 a2
  rw [← e_b1] at h_b1
  refine g_iconst dX12_swapped_3 ?_
  refine g_iand dX12_swapped_4 ?_
  refine g_nm (fun b2 e_b2 => ?_)
  have h_b2 := iand_r (x := b1) (y := 1) ⟨by omega, by omega⟩
  rw [← e_b2] at h_b2
  refine g_iload_n dX12_swapped_5 rfl ?_
  refine g_iload_n dX12_swapped_6 rfl ?_
  refine g_ishr dX12_swapped_7 ?_
  refine g_nm (fun b3 e_b3 => ?_)
  have h_b3 := ishr_ir a1 a3
  rw [← e_b3] at h_b3
  refine g_iconst dX12_swapped_8 ?_
  refine g_iand dX12_swapped_9 ?_
  refine g_nm (fun b4 e_b4 => ?_)
  have h_b4 := iand_r (x := b3) (y := 1) ⟨by omega, by omega⟩
  rw [← e_b4] at h_b4
  refine g_icmp_ne (tgt := 15) dX12_swapped_10 (by decide) ⟨by omega, by omega⟩ ⟨by omega, by omega⟩ (fun k5 => ?_) (fun k5 => ?_)
  · refine g_iload_n dX12_swapped_15 rfl ?_
    refine g_iconst dX12_swapped_16 ?_
    refine g_iload_n dX12_swapped_17 rfl ?_
    refine g_ishl dX12_swapped_18 ?_
    refine g_nm (fun b6 e_b6 => ?_)
    have h_b6 : 1 ≤ (ishl 1 a2) ∧ (ishl 1 a2) ≤ 2048 := (ishl1 11 (by decide) (y := a2) ⟨by omega, by omega⟩).2
    rw [← e_b6] at h_b6
    refine g_iconst dX12_swapped_19 ?_
    refine g_iload_n dX12_swapped_20 rfl ?_
    refine g_ishl dX12_swapped_21 ?_
    refine g_nm (fun b7 e_b7 => ?_)
    have h_b7 : 1 ≤ (ishl 1 a3) ∧ (ishl 1 a3) ≤ 2048 := (ishl1 11 (by decide) (y := a3) ⟨by omega, by omega⟩).2
    rw [← e_b7] at h_b7
    refine g_ior dX12_swapped_22 ?_
    refine g_nm (fun b8 e_b8 => ?_)
    have h_b8 : 0 ≤ (ior b6 b7) ∧ (ior b6 b7) < 4096 := ior_b 12 (by decide) (x := b6) (y := b7) (show 0 ≤ b6 ∧ b6 < 4096 from ⟨by omega, by omega⟩) (show 0 ≤ b7 ∧ b7 < 4096 from ⟨by omega, by omega⟩)
    rw [← e_b8] at h_b8
    refine g_ixor dX12_swapped_23 ?_
    refine g_nm (fun b9 e_b9 => ?_)
    have h_b9 : 0 ≤ (ixor a1 b8) ∧ (ixor a1 b8) < 4096 := ixor_b 12 (by decide) (x := a1) (y := b8) (show 0 ≤ a1 ∧ a1 < 4096 from ⟨by omega, by omega⟩) (show 0 ≤ b8 ∧ b8 < 4096 from ⟨by omega, by omega⟩)
    rw [← e_b9] at h_b9
    exact g_retI dX12_swapped_24 rfl (hQ b9 ⟨by omega, by omega⟩ )
  · refine g_iload_n dX12_swapped_13 rfl ?_
    exact g_retI dX12_swapped_14 rfl (hQ a1 ⟨by omega, by omega⟩ )
set_option maxRecDepth 100000 in
set_option maxHeartbeats 4000000 in
theorem m_X12_moved (G : GT) (P : PH) (a1 : Int) (a2 : Int) (a3 : Int) (h_a1 : (-2147483648) ≤ a1 ∧ a1 ≤ 2147483647) (h_a2 : (-2147483648) ≤ a2 ∧ a2 ≤ 2147483647) (h_a3 : (-2147483648) ≤ a3 ∧ a3 ≤ 2147483647) (hB : BdM P) (Q : Option PV → PH → Prop) (hQ : ∀ (r : Int) (_ : (-2147483648) ≤ r ∧ r ≤ 2147483647), Q (some (vI r)) P) : Ct WSM G 1 iX12_moved [vI a1, vI a2, vI a3] P Q := by
  refine Ct.of (by decide) (l0 := [(0, vI a1), (1, vI a2), (2, vI a3)]) rfl (Nat.le_of_ble_eq_true rfl) ?_
  refine g_iload_n dX12_moved_0 rfl ?_
  refine g_iload_n dX12_moved_1 rfl ?_
  refine g_icmp_ne (tgt := 9) dX12_moved_2 (by decide) ⟨by omega, by omega⟩ ⟨by omega, by omega⟩ (fun k1 => ?_) (fun k1 => ?_)
  · refine g_iload_n dX12_moved_9 rfl ?_
    refine g_iload_n dX12_moved_10 rfl ?_
    refine g_icmp_ne (tgt := 18) dX12_moved_11 (by decide) ⟨by omega, by omega⟩ ⟨by omega, by omega⟩ (fun k2 => ?_) (fun k2 => ?_)
    · refine g_iload_n dX12_moved_18 rfl ?_
      exact g_retI dX12_moved_19 rfl (hQ a1 ⟨by omega, by omega⟩ )
    · refine g_iload_n dX12_moved_14 rfl ?_
      refine g_goto (tgt := 19) dX12_moved_15 (by decide) ?_
      exact g_retI dX12_moved_19 rfl (hQ a2 ⟨by omega, by omega⟩ )
  · refine g_iload_n dX12_moved_5 rfl ?_
    refine g_goto (tgt := 19) dX12_moved_6 (by decide) ?_
    exact g_retI dX12_moved_19 rfl (hQ a3 ⟨by omega, by omega⟩ )
set_option maxRecDepth 100000 in
set_option maxHeartbeats 4000000 in
theorem m_X12_copies (G : GT) (P : PH) (a1 : Int) (a2 : Int) (h_a1 : 0 ≤ a1 ∧ a1 ≤ 21) (h_a2 : 0 ≤ a2 ∧ a2 ≤ 21) (hB : BdM P) (Q : Option PV → PH → Prop) (hQ : ∀ (P1 : PH) (_ : BdM P1) (_ : FrM ([], [35, 36, 37, 38, 39, 40]) P P1) (_ : a1 = 0 ∨ P1 35 0 = P 35 0), Q none P1) : Ct WSM G 1 iX12_copies [vR 0, vI a1, vI a2] P Q := by
  refine Ct.of (by decide) (l0 := [(0, vR 0), (1, vI a1), (2, vI a2)]) rfl (Nat.le_of_ble_eq_true rfl) ?_
  refine g_aload_n dX12_copies_0 rfl ?_
  refine m_g53 rfl dX12_copies_1 ?_
  refine g_iload_n dX12_copies_4 rfl ?_
  refine g_aload_n dX12_copies_5 rfl ?_
  refine m_g53 rfl dX12_copies_6 ?_
  refine g_iload_n dX12_copies_9 rfl ?_
  refine m_l35 (z := (P 35 a2)) dX12_copies_10 ⟨by omega, by omega⟩ rfl ?_
  refine m_s35 dX12_copies_11 ⟨by omega, by omega⟩ ?_
  have hB1 := ba_35 (z := (P 35 a2)) (k := a1) hB ⟨by have q0 := bl_35 (k := a2) hB; omega, by have q0 := bl_35 (k := a2) hB; omega⟩
  refine g_iconst dX12_copies_12 ?_
  refine g_istore_n (l1 := [(3, vI 0), (0, vR 0), (1, vI a1), (2, vI a2)]) dX12_copies_13 (by decide) rfl ?_
  have L14_1 : ∀ (n14_1 : Nat) (x14_3_1 : Int) (h_x14_3_1 : 0 ≤ x14_3_1 ∧ x14_3_1 ≤ 12) (H14_1 : PH) (hB14_1 : BdM H14_1) (hE14_1 : FrM ([], [36]) (up P 35 a1 (P 35 a2)) H14_1) (hm14_1 : ((13 - x14_3_1) : Int).toNat < n14_1), Go WSM G 1 iX12_copies 14 [(0, vR 0), (1, vI a1), (2, vI a2), (3, vI x14_3_1)] [] H14_1 Q := by
    intro n14_1
    induction n14_1 with
    | zero => intro x14_3_1 h_x14_3_1 H14_1 hB14_1 hE14_1 hm14_1; exact absurd hm14_1 (Nat.not_lt_zero _)
    | succ n14_1 ih14_1 =>
    intro x14_3_1 h_x14_3_1 H14_1 hB14_1 hE14_1 hm14_1
    refine g_iload_n dX12_copies_14 rfl ?_
    refine g_bipush dX12_copies_15 (by decide) ?_
    refine g_icmp_ge (tgt := 48) dX12_copies_17 (by decide) ⟨by omega, by omega⟩ (by decide) (fun k321 => ?_) (fun k321 => ?_)
    · refine g_aload_n dX12_copies_48 rfl ?_
      refine m_g55 rfl dX12_copies_49 ?_
      refine g_iload_n dX12_copies_52 rfl ?_
      refine g_aload_n dX12_copies_53 rfl ?_
      refine m_g55 rfl dX12_copies_54 ?_
      refine g_iload_n dX12_copies_57 rfl ?_
      refine m_l37 (z := (P 37 a2)) dX12_copies_58 ⟨by omega, by omega⟩ ((congrFun (hE14_1.2 37 rfl rfl) _).trans ((up_o (by decide)).trans rfl)) ?_
      refine m_s37 dX12_copies_59 ⟨by omega, by omega⟩ ?_
      have hB322 := ba_37 (z := (P 37 a2)) (k := a1) hB14_1 ⟨by have q0 := bl_37 (k := a2) hB; omega, by have q0 := bl_37 (k := a2) hB; omega⟩
      refine g_aload_n dX12_copies_60 rfl ?_
      refine m_g56 rfl dX12_copies_61 ?_
      refine g_iload_n dX12_copies_64 rfl ?_
      refine g_aload_n dX12_copies_65 rfl ?_
      refine m_g56 rfl dX12_copies_66 ?_
      refine g_iload_n dX12_copies_69 rfl ?_
      refine m_l38 (z := (P 38 a2)) dX12_copies_70 ⟨by omega, by omega⟩ ((up_o (by decide)).trans ((congrFun (hE14_1.2 38 rfl rfl) _).trans ((up_o (by decide)).trans rfl))) ?_
      refine m_s38 dX12_copies_71 ⟨by omega, by omega⟩ ?_
      have hB323 := ba_38 (z := (P 38 a2)) (k := a1) hB322 ⟨by have q0 := bl_38 (k := a2) hB; omega, by have q0 := bl_38 (k := a2) hB; omega⟩
      refine g_aload_n dX12_copies_72 rfl ?_
      refine m_g57 rfl dX12_copies_73 ?_
      refine g_iload_n dX12_copies_76 rfl ?_
      refine g_aload_n dX12_copies_77 rfl ?_
      refine m_g57 rfl dX12_copies_78 ?_
      refine g_iload_n dX12_copies_81 rfl ?_
      refine m_l39 (z := (P 39 a2)) dX12_copies_82 ⟨by omega, by omega⟩ ((up_o (by decide)).trans ((up_o (by decide)).trans ((congrFun (hE14_1.2 39 rfl rfl) _).trans ((up_o (by decide)).trans rfl)))) ?_
      refine m_s39 dX12_copies_83 ⟨by omega, by omega⟩ ?_
      have hB324 := ba_39 (z := (P 39 a2)) (k := a1) hB323 ⟨by have q0 := bl_39 (k := a2) hB; omega, by have q0 := bl_39 (k := a2) hB; omega⟩
      refine g_iconst dX12_copies_84 ?_
      refine g_istore_n (l1 := [(3, vI 0), (0, vR 0), (1, vI a1), (2, vI a2)]) dX12_copies_85 (by decide) rfl ?_
      have L86_324 : ∀ (n86_324 : Nat) (x86_3_324 : Int) (h_x86_3_324 : 0 ≤ x86_3_324 ∧ x86_3_324 ≤ 120) (H86_324 : PH) (hB86_324 : BdM H86_324) (hE86_324 : FrM ([], [40]) (up (up (up H14_1 37 a1 (P 37 a2)) 38 a1 (P 38 a2)) 39 a1 (P 39 a2)) H86_324) (hm86_324 : ((121 - x86_3_324) : Int).toNat < n86_324), Go WSM G 1 iX12_copies 86 [(0, vR 0), (1, vI a1), (2, vI a2), (3, vI x86_3_324)] [] H86_324 Q := by
        intro n86_324
        induction n86_324 with
        | zero => intro x86_3_324 h_x86_3_324 H86_324 hB86_324 hE86_324 hm86_324; exact absurd hm86_324 (Nat.not_lt_zero _)
        | succ n86_324 ih86_324 =>
        intro x86_3_324 h_x86_3_324 H86_324 hB86_324 hE86_324 hm86_324
        refine g_iload_n dX12_copies_86 rfl ?_
        refine g_iconst dX12_copies_87 ?_
        refine g_aload_n dX12_copies_88 rfl ?_
        refine m_g57 rfl dX12_copies_89 ?_
        refine g_iload_n dX12_copies_92 rfl ?_
        refine m_l39 (z := ((up (up (up H14_1 37 a1 (P 37 a2)) 38 a1 (P 38 a2)) 39 a1 (P 39 a2)) 39 a2)) dX12_copies_93 ⟨by omega, by omega⟩ ((congrFun (hE86_324.2 39 rfl rfl) _).trans rfl) ?_
        refine g_imul dX12_copies_94 ?_
        have f416 := bl_39 (k := a2) hB324
        have f417 := up_cs (P := (up (up H14_1 37 a1 (P 37 a2)) 38 a1 (P 38 a2))) (o := 39) (k := a1) (k1 := a2) (z := (P 39 a2))
        have f418 := bl_39 (k := a2) hB
        have f419 := (((up_o (by decide)).trans ((up_o (by decide)).trans ((congrFun (hE14_1.2 39 rfl rfl) _).trans ((up_o (by decide)).trans rfl)))) : (up (up H14_1 37 a1 (P 37 a2)) 38 a1 (P 38 a2)) 39 a2 = (P 39 a2))
        refine g_icmp_ge (tgt := 126) dX12_copies_95 (by decide) ⟨by omega, by omega⟩ ⟨by have q0 := bl_39 (k := a2) hB324; have q1 := up_cs (P := (up (up H14_1 37 a1 (P 37 a2)) 38 a1 (P 38 a2))) (o := 39) (k := a1) (k1 := a2) (z := (P 39 a2)); have q2 := bl_39 (k := a2) hB; have q3 := (((up_o (by decide)).trans ((up_o (by decide)).trans ((congrFun (hE14_1.2 39 rfl rfl) _).trans ((up_o (by decide)).trans rfl)))) : (up (up H14_1 37 a1 (P 37 a2)) 38 a1 (P 38 a2)) 39 a2 = (P 39 a2)); omega, by have q0 := bl_39 (k := a2) hB324; have q1 := up_cs (P := (up (up H14_1 37 a1 (P 37 a2)) 38 a1 (P 38 a2))) (o := 39) (k := a1) (k1 := a2) (z := (P 39 a2)); have q2 := bl_39 (k := a2) hB; have q3 := (((up_o (by decide)).trans ((up_o (by decide)).trans ((congrFun (hE14_1.2 39 rfl rfl) _).trans ((up_o (by decide)).trans rfl)))) : (up (up H14_1 37 a1 (P 37 a2)) 38 a1 (P 38 a2)) 39 a2 = (P 39 a2)); omega⟩ (fun k420 => ?_) (fun k420 => ?_)
        · exact g_retV dX12_copies_126 rfl (hQ _ hB86_324 (FrM.c (FrM.a (FrM.a (FrM.a (FrM.c (FrM.a FrM.rf rfl rfl) hE14_1 rfl) rfl rfl) rfl rfl) rfl rfl) hE86_324 rfl) (by have q0 := (((congrFun (hE86_324.2 35 rfl rfl) _).trans ((up_o (by decide)).trans ((up_o (by decide)).trans ((up_o (by decide)).trans ((congrFun (hE14_1.2 35 rfl rfl) _).trans rfl))))) : H86_324 35 0 = ((up P 35 a1 (P 35 a2)) 35 0)); have q1 := bl_35 (k := 0) hB1; have q2 := up_cs (P := P) (o := 35) (k := a1) (k1 := 0) (z := (P 35 a2)); have q3 := bl_35 (k := a2) hB; have q4 := bl_35 (k := 0) hB; omega))
        · refine g_aload_n dX12_copies_98 rfl ?_
          refine m_g58 rfl dX12_copies_99 ?_
          refine g_bipush dX12_copies_102 (by decide) ?_
          refine g_iload_n dX12_copies_104 rfl ?_
          refine g_imul dX12_copies_105 ?_
          refine g_iload_n dX12_copies_106 rfl ?_
          refine g_iadd dX12_copies_107 ?_
          refine g_aload_n dX12_copies_108 rfl ?_
          refine m_g58 rfl dX12_copies_109 ?_
          refine g_bipush dX12_copies_112 (by decide) ?_
          refine g_iload_n dX12_copies_114 rfl ?_
          refine g_imul dX12_copies_115 ?_
          refine g_iload_n dX12_copies_116 rfl ?_
          refine g_iadd dX12_copies_117 ?_
          refine m_l40 (z := (H86_324 40 ((120 * a2) + x86_3_324))) dX12_copies_118 ⟨by omega, by omega⟩ rfl ?_
          refine m_s40 dX12_copies_119 ⟨by omega, by omega⟩ ?_
          have hB421 := ba_40 (z := (H86_324 40 ((120 * a2) + x86_3_324))) (k := ((120 * a1) + x86_3_324)) hB86_324 ⟨by have q0 := bl_40 (k := ((120 * a2) + x86_3_324)) hB86_324; omega, by have q0 := bl_40 (k := ((120 * a2) + x86_3_324)) hB86_324; omega⟩
          refine g_iinc (l1 := [(3, vI (x86_3_324 + 1)), (0, vR 0), (1, vI a1), (2, vI a2)]) dX12_copies_120 rfl (by decide) rfl ?_
          refine g_goto (tgt := 86) dX12_copies_123 (by decide) ?_
          refine g_forget (l1 := [(0, vR 0), (1, vI a1), (2, vI a2), (3, vI (x86_3_324 + 1))]) (by intro q hq; simp only [List.mem_cons, List.not_mem_nil, or_false] at hq ⊢; rcases hq with rfl | rfl | rfl | rfl <;> simp) ?_
          exact ih86_324 (x86_3_324 + 1) ⟨by omega, by omega⟩ _ hB421 (FrM.a (FrM.c FrM.rf hE86_324 rfl) rfl rfl) (by omega)
      refine g_forget (l1 := [(0, vR 0), (1, vI a1), (2, vI a2), (3, vI 0)]) (by intro q hq; simp only [List.mem_cons, List.not_mem_nil, or_false] at hq ⊢; rcases hq with rfl | rfl | rfl | rfl <;> simp) ?_
      exact L86_324 _ 0 (by decide) _ hB324 FrM.rf (Nat.lt_succ_self _)
    · refine g_aload_n dX12_copies_20 rfl ?_
      refine m_g54 rfl dX12_copies_21 ?_
      refine g_bipush dX12_copies_24 (by decide) ?_
      refine g_iload_n dX12_copies_26 rfl ?_
      refine g_imul dX12_copies_27 ?_
      refine g_iload_n dX12_copies_28 rfl ?_
      refine g_iadd dX12_copies_29 ?_
      refine g_aload_n dX12_copies_30 rfl ?_
      refine m_g54 rfl dX12_copies_31 ?_
      refine g_bipush dX12_copies_34 (by decide) ?_
      refine g_iload_n dX12_copies_36 rfl ?_
      refine g_imul dX12_copies_37 ?_
      refine g_iload_n dX12_copies_38 rfl ?_
      refine g_iadd dX12_copies_39 ?_
      refine m_l36 (z := (H14_1 36 ((12 * a2) + x14_3_1))) dX12_copies_40 ⟨by omega, by omega⟩ rfl ?_
      refine m_s36 dX12_copies_41 ⟨by omega, by omega⟩ ?_
      have hB422 := ba_36 (z := (H14_1 36 ((12 * a2) + x14_3_1))) (k := ((12 * a1) + x14_3_1)) hB14_1 ⟨by have q0 := bl_36 (k := ((12 * a2) + x14_3_1)) hB14_1; omega, by have q0 := bl_36 (k := ((12 * a2) + x14_3_1)) hB14_1; omega⟩
      refine g_iinc (l1 := [(3, vI (x14_3_1 + 1)), (0, vR 0), (1, vI a1), (2, vI a2)]) dX12_copies_42 rfl (by decide) rfl ?_
      refine g_goto (tgt := 14) dX12_copies_45 (by decide) ?_
      refine g_forget (l1 := [(0, vR 0), (1, vI a1), (2, vI a2), (3, vI (x14_3_1 + 1))]) (by intro q hq; simp only [List.mem_cons, List.not_mem_nil, or_false] at hq ⊢; rcases hq with rfl | rfl | rfl | rfl <;> simp) ?_
      exact ih14_1 (x14_3_1 + 1) ⟨by omega, by omega⟩ _ hB422 (FrM.a (FrM.c FrM.rf hE14_1 rfl) rfl rfl) (by omega)
  refine g_forget (l1 := [(0, vR 0), (1, vI a1), (2, vI a2), (3, vI 0)]) (by intro q hq; simp only [List.mem_cons, List.not_mem_nil, or_false] at hq ⊢; rcases hq with rfl | rfl | rfl | rfl <;> simp) ?_
  exact L14_1 _ 0 (by decide) _ hB1 FrM.rf (Nat.lt_succ_self _)
set_option maxRecDepth 100000 in
set_option maxHeartbeats 4000000 in
theorem m_X12_begin (G : GT) (P : PH) (hB : BdM P) (Q : Option PV → PH → Prop) (hQ : ∀ (P1 : PH) (_ : BdM P1) (_ : FrM ([60, 92], [35, 36, 37, 38, 39]) P P1) (_ : P1 35 0 = P 13 (P 0 13)) (_ : (P 0 44 = 0 ∧ P1 37 0 = 0) ∨ P 0 44 = 1) (_ : P1 38 0 = P 15 (P 0 13)) (_ : P1 39 0 = 0 ∧ P1 0 60 = 0 ∧ P1 0 92 = 0), Q none P1) : Ct WSM G 1 iX12_begin [vR 0] P Q := by
  refine Ct.of (by decide) (l0 := [(0, vR 0)]) rfl (Nat.le_of_ble_eq_true rfl) ?_
  refine g_aload_n dX12_begin_0 rfl ?_
  refine m_g53 rfl dX12_begin_1 ?_
  refine g_iconst dX12_begin_4 ?_
  refine g_aload_n dX12_begin_5 rfl ?_
  refine m_g25 rfl dX12_begin_6 ?_
  refine g_aload_n dX12_begin_9 rfl ?_
  refine m_g13 (z := (P 0 13)) rfl dX12_begin_10 rfl ?_
  refine m_l13 (z := (P 13 (P 0 13))) dX12_begin_13 ⟨by have q0 := b0_13 hB; omega, by have q0 := b0_13 hB; omega⟩ rfl ?_
  refine m_s35 dX12_begin_14 (by decide) ?_
  have hB1 := ba_35 (z := (P 13 (P 0 13))) (k := 0) hB ⟨by have q0 := bl_13 (k := (P 0 13)) hB; omega, by have q0 := bl_13 (k := (P 0 13)) hB; omega⟩
  refine g_iconst dX12_begin_15 ?_
  refine g_istore_n (l1 := [(1, vI 0), (0, vR 0)]) dX12_begin_16 (by decide) rfl ?_
  have L17_1 : ∀ (n17_1 : Nat) (x17_1_1 : Int) (h_x17_1_1 : 0 ≤ x17_1_1 ∧ x17_1_1 ≤ 12) (H17_1 : PH) (hB17_1 : BdM H17_1) (hE17_1 : FrM ([], [36]) (up P 35 0 (P 13 (P 0 13))) H17_1) (hm17_1 : ((13 - x17_1_1) : Int).toNat < n17_1), Go WSM G 1 iX12_begin 17 [(0, vR 0), (1, vI x17_1_1)] [] H17_1 Q := by
    intro n17_1
    induction n17_1 with
    | zero => intro x17_1_1 h_x17_1_1 H17_1 hB17_1 hE17_1 hm17_1; exact absurd hm17_1 (Nat.not_lt_zero _)
    | succ n17_1 ih17_1 =>
    intro x17_1_1 h_x17_1_1 H17_1 hB17_1 hE17_1 hm17_1
    refine g_iload_n dX12_begin_17 rfl ?_
    refine g_bipush dX12_begin_18 (by decide) ?_
    refine g_icmp_ge (tgt := 36) dX12_begin_20 (by decide) ⟨by omega, by omega⟩ (by decide) (fun k57 => ?_) (fun k57 => ?_)
    · refine g_aload_n dX12_begin_36 rfl ?_
      refine m_g55 rfl dX12_begin_37 ?_
      refine g_iconst dX12_begin_40 ?_
      refine g_aload_n dX12_begin_41 rfl ?_
      refine m_g44 (z := (P 0 44)) rfl dX12_begin_42 ((hE17_1.1 44 rfl).trans ((up_o (by decide)).trans rfl)) ?_
      have f58 := b0_44 hB
      refine g_if_eq (tgt := 54) dX12_begin_45 (by decide) ⟨by have q0 := b0_44 hB; omega, by have q0 := b0_44 hB; omega⟩ (fun k59 => ?_) (fun k59 => ?_)
      · refine g_iconst dX12_begin_54 ?_
        refine m_s37 dX12_begin_55 (by decide) ?_
        have hB60 := ba_37 (z := 0) (k := 0) hB17_1 (by decide)
        refine g_aload_n dX12_begin_56 rfl ?_
        refine m_g56 rfl dX12_begin_57 ?_
        refine g_iconst dX12_begin_60 ?_
        refine g_aload_n dX12_begin_61 rfl ?_
        refine m_g27 rfl dX12_begin_62 ?_
        refine g_aload_n dX12_begin_65 rfl ?_
        refine m_g13 (z := (P 0 13)) rfl dX12_begin_66 ((up_o (by decide)).trans ((hE17_1.1 13 rfl).trans ((up_o (by decide)).trans rfl))) ?_
        refine m_l15 (z := (P 15 (P 0 13))) dX12_begin_69 ⟨by have q0 := b0_13 hB; omega, by have q0 := b0_13 hB; omega⟩ ((up_o (by decide)).trans ((congrFun (hE17_1.2 15 rfl rfl) _).trans ((up_o (by decide)).trans rfl))) ?_
        refine m_s38 dX12_begin_70 (by decide) ?_
        have hB61 := ba_38 (z := (P 15 (P 0 13))) (k := 0) hB60 ⟨by have q0 := bl_15 (k := (P 0 13)) hB; omega, by have q0 := bl_15 (k := (P 0 13)) hB; omega⟩
        refine g_aload_n dX12_begin_71 rfl ?_
        refine m_g57 rfl dX12_begin_72 ?_
        refine g_iconst dX12_begin_75 ?_
        refine g_iconst dX12_begin_76 ?_
        refine m_s39 dX12_begin_77 (by decide) ?_
        have hB62 := ba_39 (z := 0) (k := 0) hB61 (by decide)
        refine g_aload_n dX12_begin_78 rfl ?_
        refine g_iconst dX12_begin_79 ?_
        refine m_p60 rfl dX12_begin_80 ?_
        have hB63 := bs_60 (z := 0) hB62 (by decide)
        refine g_aload_n dX12_begin_83 rfl ?_
        refine g_iconst dX12_begin_84 ?_
        refine m_p92 rfl dX12_begin_85 ?_
        have hB64 := bs_92 (z := 0) hB63 (by decide)
        exact g_retV dX12_begin_88 rfl (hQ _ hB64 (FrM.s (FrM.s (FrM.a (FrM.a (FrM.a (FrM.c (FrM.a FrM.rf rfl rfl) hE17_1 rfl) rfl rfl) rfl rfl) rfl rfl) rfl) rfl) (((up_o (by decide)).trans ((up_o (by decide)).trans ((up_o (by decide)).trans ((up_o (by decide)).trans ((up_o (by decide)).trans ((congrFun (hE17_1.2 35 rfl rfl) _).trans up_same))))))) (by have q44 := b0_44 hB; have q37 := (((up_o (by decide)).trans ((up_o (by decide)).trans ((up_o (by decide)).trans ((up_o (by decide)).trans up_same)))) : (up (up (up (up (up H17_1 37 0 0) 38 0 (P 15 (P 0 13))) 39 0 0) 0 60 0) 0 92 0) 37 0 = 0); omega) (((up_o (by decide)).trans ((up_o (by decide)).trans ((up_o (by decide)).trans up_same)))) (⟨((up_o (by decide)).trans ((up_o (by decide)).trans up_same)), ((up_k (by decide)).trans up_same), up_same⟩))
      · refine g_sipush dX12_begin_48 (by decide) ?_
        refine g_goto (tgt := 55) dX12_begin_51 (by decide) ?_
        refine m_s37 dX12_begin_55 (by decide) ?_
        have hB65 := ba_37 (z := 255) (k := 0) hB17_1 (by decide)
        refine g_aload_n dX12_begin_56 rfl ?_
        refine m_g56 rfl dX12_begin_57 ?_
        refine g_iconst dX12_begin_60 ?_
        refine g_aload_n dX12_begin_61 rfl ?_
        refine m_g27 rfl dX12_begin_62 ?_
        refine g_aload_n dX12_begin_65 rfl ?_
        refine m_g13 (z := (P 0 13)) rfl dX12_begin_66 ((up_o (by decide)).trans ((hE17_1.1 13 rfl).trans ((up_o (by decide)).trans rfl))) ?_
        refine m_l15 (z := (P 15 (P 0 13))) dX12_begin_69 ⟨by have q0 := b0_13 hB; omega, by have q0 := b0_13 hB; omega⟩ ((up_o (by decide)).trans ((congrFun (hE17_1.2 15 rfl rfl) _).trans ((up_o (by decide)).trans rfl))) ?_
        refine m_s38 dX12_begin_70 (by decide) ?_
        have hB66 := ba_38 (z := (P 15 (P 0 13))) (k := 0) hB65 ⟨by have q0 := bl_15 (k := (P 0 13)) hB; omega, by have q0 := bl_15 (k := (P 0 13)) hB; omega⟩
        refine g_aload_n dX12_begin_71 rfl ?_
        refine m_g57 rfl dX12_begin_72 ?_
        refine g_iconst dX12_begin_75 ?_
        refine g_iconst dX12_begin_76 ?_
        refine m_s39 dX12_begin_77 (by decide) ?_
        have hB67 := ba_39 (z := 0) (k := 0) hB66 (by decide)
        refine g_aload_n dX12_begin_78 rfl ?_
        refine g_iconst dX12_begin_79 ?_
        refine m_p60 rfl dX12_begin_80 ?_
        have hB68 := bs_60 (z := 0) hB67 (by decide)
        refine g_aload_n dX12_begin_83 rfl ?_
        refine g_iconst dX12_begin_84 ?_
        refine m_p92 rfl dX12_begin_85 ?_
        have hB69 := bs_92 (z := 0) hB68 (by decide)
        exact g_retV dX12_begin_88 rfl (hQ _ hB69 (FrM.s (FrM.s (FrM.a (FrM.a (FrM.a (FrM.c (FrM.a FrM.rf rfl rfl) hE17_1 rfl) rfl rfl) rfl rfl) rfl rfl) rfl) rfl) (((up_o (by decide)).trans ((up_o (by decide)).trans ((up_o (by decide)).trans ((up_o (by decide)).trans ((up_o (by decide)).trans ((congrFun (hE17_1.2 35 rfl rfl) _).trans up_same))))))) (by have q44 := b0_44 hB; have q37 := (((up_o (by decide)).trans ((up_o (by decide)).trans ((up_o (by decide)).trans ((up_o (by decide)).trans up_same)))) : (up (up (up (up (up H17_1 37 0 255) 38 0 (P 15 (P 0 13))) 39 0 0) 0 60 0) 0 92 0) 37 0 = 255); omega) (((up_o (by decide)).trans ((up_o (by decide)).trans ((up_o (by decide)).trans up_same)))) (⟨((up_o (by decide)).trans ((up_o (by decide)).trans up_same)), ((up_k (by decide)).trans up_same), up_same⟩))
    · refine g_aload_n dX12_begin_23 rfl ?_
      refine m_g54 rfl dX12_begin_24 ?_
      refine g_iload_n dX12_begin_27 rfl ?_
      refine g_iload_n dX12_begin_28 rfl ?_
      refine m_s36 dX12_begin_29 ⟨by omega, by omega⟩ ?_
      have hB70 := ba_36 (z := x17_1_1) (k := x17_1_1) hB17_1 ⟨by omega, by omega⟩
      refine g_iinc (l1 := [(1, vI (x17_1_1 + 1)), (0, vR 0)]) dX12_begin_30 rfl (by decide) rfl ?_
      refine g_goto (tgt := 17) dX12_begin_33 (by decide) ?_
      refine g_forget (l1 := [(0, vR 0), (1, vI (x17_1_1 + 1))]) (by intro q hq; simp only [List.mem_cons, List.not_mem_nil, or_false] at hq ⊢; rcases hq with rfl | rfl <;> simp) ?_
      exact ih17_1 (x17_1_1 + 1) ⟨by omega, by omega⟩ _ hB70 (FrM.a (FrM.c FrM.rf hE17_1 rfl) rfl rfl) (by omega)
  refine g_forget (l1 := [(0, vR 0), (1, vI 0)]) (by intro q hq; simp only [List.mem_cons, List.not_mem_nil, or_false] at hq ⊢; rcases hq with rfl | rfl <;> simp) ?_
  exact L17_1 _ 0 (by decide) _ hB1 FrM.rf (Nat.lt_succ_self _)
set_option maxRecDepth 100000 in
set_option maxHeartbeats 4000000 in
theorem m_X12_keeps (G : GT) (P : PH) (hB : BdM P) (Q : Option PV → PH → Prop) (hQ : ∀ (P1 : PH) (_ : BdM P1) (_ : FrM ([59, 60], [35, 36, 37, 38, 39, 40]) P P1) (_ : P1 35 0 = P 35 0), Q none P1) : Ct WSM G 2 iX12_keeps [vR 0] P Q := by
  refine Ct.of (by decide) (l0 := [(0, vR 0)]) rfl (Nat.le_of_ble_eq_true rfl) ?_
  refine g_aload_n dX12_keeps_0 rfl ?_
  refine m_g60 (z := (P 0 60)) rfl dX12_keeps_1 rfl ?_
  refine g_bipush dX12_keeps_4 (by decide) ?_
  have f1 := b0_60 hB
  refine g_icmp_ne (tgt := 32) dX12_keeps_6 (by decide) ⟨by have q0 := b0_60 hB; omega, by have q0 := b0_60 hB; omega⟩ (by decide) (fun k2 => ?_) (fun k2 => ?_)
  · refine g_aload_n dX12_keeps_32 rfl ?_
    refine g_aload_n dX12_keeps_33 rfl ?_
    refine g_aload_n dX12_keeps_34 rfl ?_
    refine m_g60 (z := (P 0 60)) rfl dX12_keeps_35 rfl ?_
    refine g_vI (av := [vI (P 0 60)]) (o := 0) (st := [vR 0]) (m_X12_slot G P (P 0 60) ⟨by have q0 := b0_60 hB; omega, by have q0 := b0_60 hB; omega⟩ hB  _ (fun rc3 hc3 => ⟨rc3, rfl, ?_⟩)) cf_X12_slot t_1855 rfl (by decide) rfl rfl rfl (Nat.le_of_ble_eq_true rfl) (by decide) rfl dX12_keeps_38
    refine g_iconst dX12_keeps_41 ?_
    refine g_vV (av := [vI rc3, vI 0]) (o := 0) (st := []) (m_X12_copies G P rc3 0 ⟨by omega, by omega⟩ (by decide) hB  _ (fun Pc4 hBc4 hFc4 gc4_o => ⟨rfl, ?_⟩)) cf_X12_copies t_1859 rfl (by decide) rfl rfl rfl (Nat.le_of_ble_eq_true rfl) (by decide) rfl dX12_keeps_42
    refine g_aload_n dX12_keeps_45 rfl ?_
    refine g_dup dX12_keeps_46 rfl ?_
    refine m_g60 (z := (P 0 60)) rfl dX12_keeps_47 ((hFc4.1 60 rfl).trans rfl) ?_
    refine g_iconst dX12_keeps_50 ?_
    refine g_iadd dX12_keeps_51 ?_
    refine m_p60 rfl dX12_keeps_52 ?_
    have hB5 := bs_60 (z := ((P 0 60) + 1)) hBc4 ⟨by have q0 := b0_60 hB; omega, by have q0 := b0_60 hB; omega⟩
    exact g_retV dX12_keeps_55 rfl (hQ _ hB5 (FrM.s (FrM.c FrM.rf hFc4 rfl) rfl) (by have q0 := (((up_o (by decide)).trans rfl) : (up Pc4 0 60 ((P 0 60) + 1)) 35 0 = (Pc4 35 0)); have q1 := bl_35 (k := 0) hBc4; omega))
  · refine g_aload_n dX12_keeps_9 rfl ?_
    refine g_aload_n dX12_keeps_10 rfl ?_
    refine m_g59 (z := (P 0 59)) rfl dX12_keeps_11 rfl ?_
    refine g_iconst dX12_keeps_14 ?_
    refine g_iadd dX12_keeps_15 ?_
    refine g_bipush dX12_keeps_16 (by decide) ?_
    refine g_irem dX12_keeps_18 ⟨(by decide), by decide⟩ ?_
    refine g_nm (fun b6 e_b6 => ?_)
    have h_b6 := irem_b (x := ((P 0 59) + 1)) (y := 20) ⟨by have q0 := b0_59 hB; omega, by have q0 := b0_59 hB; omega⟩ ⟨by omega, by omega⟩
    rw [← e_b6] at h_b6
    have f_b6_0 := b0_59 hB
    refine m_p59 rfl dX12_keeps_19 ?_
    have hB7 := bs_59 (z := b6) hB ⟨by omega, by omega⟩
    refine g_aload_n dX12_keeps_22 rfl ?_
    refine g_dup dX12_keeps_23 rfl ?_
    refine m_g60 (z := (P 0 60)) rfl dX12_keeps_24 ((up_k (by decide)).trans rfl) ?_
    refine g_iconst dX12_keeps_27 ?_
    refine g_isub dX12_keeps_28 ?_
    refine m_p60 rfl dX12_keeps_29 ?_
    have hB8 := bs_60 (z := ((P 0 60) - 1)) hB7 ⟨by have q0 := b0_60 hB; omega, by have q0 := b0_60 hB; omega⟩
    refine g_aload_n dX12_keeps_32 rfl ?_
    refine g_aload_n dX12_keeps_33 rfl ?_
    refine g_aload_n dX12_keeps_34 rfl ?_
    refine m_g60 (z := ((P 0 60) - 1)) rfl dX12_keeps_35 up_same ?_
    refine g_vI (av := [vI ((P 0 60) - 1)]) (o := 0) (st := [vR 0]) (m_X12_slot G (up (up P 0 59 b6) 0 60 ((P 0 60) - 1)) ((P 0 60) - 1) ⟨by have q0 := b0_60 hB; omega, by have q0 := b0_60 hB; omega⟩ hB8  _ (fun rc9 hc9 => ⟨rc9, rfl, ?_⟩)) cf_X12_slot t_1855 rfl (by decide) rfl rfl rfl (Nat.le_of_ble_eq_true rfl) (by decide) rfl dX12_keeps_38
    refine g_iconst dX12_keeps_41 ?_
    refine g_vV (av := [vI rc9, vI 0]) (o := 0) (st := []) (m_X12_copies G (up (up P 0 59 b6) 0 60 ((P 0 60) - 1)) rc9 0 ⟨by omega, by omega⟩ (by decide) hB8  _ (fun Pc10 hBc10 hFc10 gc10_o => ⟨rfl, ?_⟩)) cf_X12_copies t_1859 rfl (by decide) rfl rfl rfl (Nat.le_of_ble_eq_true rfl) (by decide) rfl dX12_keeps_42
    have z11 : (up (up P 0 59 b6) 0 60 ((P 0 60) - 1)) 35 0 = (P 35 0) := ((up_o (by decide)).trans ((up_o (by decide)).trans rfl))
    refine g_aload_n dX12_keeps_45 rfl ?_
    refine g_dup dX12_keeps_46 rfl ?_
    refine m_g60 (z := ((P 0 60) - 1)) rfl dX12_keeps_47 ((hFc10.1 60 rfl).trans up_same) ?_
    refine g_iconst dX12_keeps_50 ?_
    refine g_iadd dX12_keeps_51 ?_
    refine m_p60 rfl dX12_keeps_52 ?_
    have hB12 := bs_60 (z := (((P 0 60) - 1) + 1)) hBc10 ⟨by have q0 := b0_60 hB; omega, by have q0 := b0_60 hB; omega⟩
    exact g_retV dX12_keeps_55 rfl (hQ _ hB12 (FrM.s (FrM.c (FrM.s (FrM.s FrM.rf rfl) rfl) hFc10 rfl) rfl) (by have q0 := (((up_o (by decide)).trans rfl) : (up Pc10 0 60 (((P 0 60) - 1) + 1)) 35 0 = (Pc10 35 0)); have q1 := bl_35 (k := 0) hBc10; omega))
set_option maxRecDepth 100000 in
set_option maxHeartbeats 4000000 in
theorem m_X12_undo (G : GT) (P : PH) (hB : BdM P) (Q : Option PV → PH → Prop) (hQ : ∀ (r : Int) (_ : 0 ≤ r ∧ r ≤ 1) (P1 : PH) (_ : BdM P1) (_ : FrM ([60], [28, 35, 36, 37, 38, 39, 40]) P P1), Q (some (vI r)) P1) : Ct WSM G 2 iX12_undo [vR 0] P Q := by
  refine Ct.of (by decide) (l0 := [(0, vR 0)]) rfl (Nat.le_of_ble_eq_true rfl) ?_
  refine g_aload_n dX12_undo_0 rfl ?_
  refine m_g60 (z := (P 0 60)) rfl dX12_undo_1 rfl ?_
  have f1 := b0_60 hB
  refine g_if_ne (tgt := 21) dX12_undo_4 (by decide) ⟨by have q0 := b0_60 hB; omega, by have q0 := b0_60 hB; omega⟩ (fun k2 => ?_) (fun k2 => ?_)
  · refine g_aload_n dX12_undo_21 rfl ?_
    refine g_dup dX12_undo_22 rfl ?_
    refine m_g60 (z := (P 0 60)) rfl dX12_undo_23 rfl ?_
    refine g_iconst dX12_undo_26 ?_
    refine g_isub dX12_undo_27 ?_
    refine m_p60 rfl dX12_undo_28 ?_
    have hB3 := bs_60 (z := ((P 0 60) - 1)) hB ⟨by have q0 := b0_60 hB; omega, by have q0 := b0_60 hB; omega⟩
    refine g_aload_n dX12_undo_31 rfl ?_
    refine g_iconst dX12_undo_32 ?_
    refine g_aload_n dX12_undo_33 rfl ?_
    refine g_aload_n dX12_undo_34 rfl ?_
    refine m_g60 (z := ((P 0 60) - 1)) rfl dX12_undo_35 up_same ?_
    refine g_vI (av := [vI ((P 0 60) - 1)]) (o := 0) (st := [vI 0, vR 0]) (m_X12_slot G (up P 0 60 ((P 0 60) - 1)) ((P 0 60) - 1) ⟨by have q0 := b0_60 hB; omega, by have q0 := b0_60 hB; omega⟩ hB3  _ (fun rc4 hc4 => ⟨rc4, rfl, ?_⟩)) cf_X12_slot t_1855 rfl (by decide) rfl rfl rfl (Nat.le_of_ble_eq_true rfl) (by decide) rfl dX12_undo_38
    refine g_vV (av := [vI 0, vI rc4]) (o := 0) (st := []) (m_X12_copies G (up P 0 60 ((P 0 60) - 1)) 0 rc4 (by decide) ⟨by omega, by omega⟩ hB3  _ (fun Pc5 hBc5 hFc5 gc5_o => ⟨rfl, ?_⟩)) cf_X12_copies t_1859 rfl (by decide) rfl rfl rfl (Nat.le_of_ble_eq_true rfl) (by decide) rfl dX12_undo_41
    have z6 : (up P 0 60 ((P 0 60) - 1)) 35 0 = (P 35 0) := ((up_o (by decide)).trans rfl)
    refine g_iconst dX12_undo_44 ?_
    exact g_retZ dX12_undo_45 rfl (by decide) (hQ 1 (by decide) _ hBc5 (FrM.c (FrM.s FrM.rf rfl) hFc5 rfl) )
  · refine g_aload_n dX12_undo_7 rfl ?_
    refine g_iconst dX12_undo_8 ?_
    refine g_vI (av := [vI 4]) (o := 0) (st := []) (m_X12_refuses G P 4 (by decide) hB  _ (fun rc7 hc7 Pc7 hBc7 hFc7 => ⟨rc7, rfl, ?_⟩)) cf_X12_refuses t_1667 rfl (by decide) rfl rfl rfl (Nat.le_of_ble_eq_true rfl) (by decide) rfl dX12_undo_9
    refine g_if_lt (tgt := 19) dX12_undo_12 (by decide) ⟨by omega, by omega⟩ (fun k8 => ?_) (fun k8 => by exfalso; omega)
    refine g_iconst dX12_undo_19 ?_
    exact g_retZ dX12_undo_20 rfl (by decide) (hQ 0 (by decide) _ hBc7 (FrM.c FrM.rf hFc7 rfl) )
set_option maxRecDepth 100000 in
set_option maxHeartbeats 4000000 in
theorem m_X12_placed (G : GT) (P : PH) (a1 : Int) (a2 : Int) (h_a1 : 0 ≤ a1 ∧ a1 ≤ 21) (h_a2 : 0 ≤ a2 ∧ a2 ≤ 4095) (hB : BdM P) (Q : Option PV → PH → Prop) (hQ : ∀ (r : Int) (_ : 0 ≤ r ∧ r ≤ 4095), Q (some (vI r)) P) : Ct WSM G 1 iX12_placed [vR 0, vI a1, vI a2] P Q := by
  refine Ct.of (by decide) (l0 := [(0, vR 0), (1, vI a1), (2, vI a2)]) rfl (Nat.le_of_ble_eq_true rfl) ?_
  refine g_iconst dX12_placed_0 ?_
  refine g_istore_n (l1 := [(3, vI 0), (0, vR 0), (1, vI a1), (2, vI a2)]) dX12_placed_1 (by decide) rfl ?_
  refine g_iconst dX12_placed_2 ?_
  refine g_istore (l1 := [(4, vI 0), (3, vI 0), (0, vR 0), (1, vI a1), (2, vI a2)]) dX12_placed_3 (by decide) rfl ?_
  have L5_0 : ∀ (n5_0 : Nat) (x5_4_0 : Int) (h_x5_4_0 : 0 ≤ x5_4_0 ∧ x5_4_0 ≤ 12) (x5_3_0 : Int) (h_x5_3_0 : 0 ≤ x5_3_0 ∧ x5_3_0 ≤ 4095) (hm5_0 : ((13 - x5_4_0) : Int).toNat < n5_0), Go WSM G 1 iX12_placed 5 [(0, vR 0), (1, vI a1), (2, vI a2), (3, vI x5_3_0), (4, vI x5_4_0)] [] P Q := by
    intro n5_0
    induction n5_0 with
    | zero => intro x5_4_0 h_x5_4_0 x5_3_0 h_x5_3_0 hm5_0; exact absurd hm5_0 (Nat.not_lt_zero _)
    | succ n5_0 ih5_0 =>
    intro x5_4_0 h_x5_4_0 x5_3_0 h_x5_3_0 hm5_0
    refine g_iload dX12_placed_5 rfl ?_
    refine g_aload_n dX12_placed_7 rfl ?_
    refine m_g62 (z := (P 0 62)) rfl dX12_placed_8 rfl ?_
    have f56 := b0_62 hB
    refine g_icmp_ge (tgt := 42) dX12_placed_11 (by decide) ⟨by omega, by omega⟩ ⟨by have q0 := b0_62 hB; omega, by have q0 := b0_62 hB; omega⟩ (fun k57 => ?_) (fun k57 => ?_)
    · refine g_iload_n dX12_placed_42 rfl ?_
      exact g_retI dX12_placed_43 rfl (hQ x5_3_0 ⟨by omega, by omega⟩ )
    · refine g_iload_n dX12_placed_14 rfl ?_
      refine g_iload_n dX12_placed_15 rfl ?_
      refine g_aload_n dX12_placed_16 rfl ?_
      refine m_g54 rfl dX12_placed_17 ?_
      refine g_bipush dX12_placed_20 (by decide) ?_
      refine g_iload_n dX12_placed_22 rfl ?_
      refine g_imul dX12_placed_23 ?_
      refine g_iload dX12_placed_24 rfl ?_
      refine g_iadd dX12_placed_26 ?_
      refine m_l36 (z := (P 36 ((12 * a1) + x5_4_0))) dX12_placed_27 ⟨by omega, by omega⟩ rfl ?_
      refine g_ishr dX12_placed_28 ?_
      refine g_nm (fun b58 e_b58 => ?_)
      have h_b58 := ishr_ir a2 (P 36 ((12 * a1) + x5_4_0))
      rw [← e_b58] at h_b58
      have f_b58_0 := bl_36 (k := ((12 * a1) + x5_4_0)) hB
      refine g_iconst dX12_placed_29 ?_
      refine g_iand dX12_placed_30 ?_
      refine g_nm (fun b59 e_b59 => ?_)
      have h_b59 := iand_r (x := b58) (y := 1) ⟨by omega, by omega⟩
      rw [← e_b59] at h_b59
      refine g_iload dX12_placed_31 rfl ?_
      refine g_ishl dX12_placed_33 ?_
      refine g_nm (fun b60 e_b60 => ?_)
      have h_b60 : 0 ≤ (ishl b59 x5_4_0) ∧ (ishl b59 x5_4_0) ≤ 2048 := (ishl01 11 (by decide) (x := b59) (y := x5_4_0) ⟨by omega, by omega⟩ ⟨by omega, by omega⟩)
      rw [← e_b60] at h_b60
      refine g_ior dX12_placed_34 ?_
      refine g_nm (fun b61 e_b61 => ?_)
      have h_b61 : 0 ≤ (ior x5_3_0 b60) ∧ (ior x5_3_0 b60) < 4096 := ior_b 12 (by decide) (x := x5_3_0) (y := b60) (show 0 ≤ x5_3_0 ∧ x5_3_0 < 4096 from ⟨by omega, by omega⟩) (show 0 ≤ b60 ∧ b60 < 4096 from ⟨by omega, by omega⟩)
      rw [← e_b61] at h_b61
      refine g_istore_n (l1 := [(3, vI b61), (0, vR 0), (1, vI a1), (2, vI a2), (4, vI x5_4_0)]) dX12_placed_35 (by decide) rfl ?_
      refine g_iinc (l1 := [(4, vI (x5_4_0 + 1)), (3, vI b61), (0, vR 0), (1, vI a1), (2, vI a2)]) dX12_placed_36 rfl (by decide) rfl ?_
      refine g_goto (tgt := 5) dX12_placed_39 (by decide) ?_
      refine g_forget (l1 := [(0, vR 0), (1, vI a1), (2, vI a2), (3, vI b61), (4, vI (x5_4_0 + 1))]) (by intro q hq; simp only [List.mem_cons, List.not_mem_nil, or_false] at hq ⊢; rcases hq with rfl | rfl | rfl | rfl | rfl <;> simp) ?_
      exact ih5_0 (x5_4_0 + 1) ⟨by omega, by omega⟩ b61 ⟨by omega, by omega⟩ (by omega)
  refine g_forget (l1 := [(0, vR 0), (1, vI a1), (2, vI a2), (3, vI 0), (4, vI 0)]) (by intro q hq; simp only [List.mem_cons, List.not_mem_nil, or_false] at hq ⊢; rcases hq with rfl | rfl | rfl | rfl | rfl <;> simp) ?_
  exact L5_0 _ 0 (by decide) 0 (by decide) (Nat.lt_succ_self _)
set_option maxRecDepth 100000 in
set_option maxHeartbeats 4000000 in
theorem m_X12_openBy (G : GT) (P : PH) (a1 : Int) (h_a1 : (-2147483648) ≤ a1 ∧ a1 ≤ 2147483647) (hB : BdM P) (Q : Option PV → PH → Prop) (hQ : ∀ (r : Int) (_ : 0 ≤ r ∧ r ≤ 4095), Q (some (vI r)) P) : Ct WSM G 1 iX12_openBy [vR 0, vI a1] P Q := by
  refine Ct.of (by decide) (l0 := [(0, vR 0), (1, vI a1)]) rfl (Nat.le_of_ble_eq_true rfl) ?_
  refine g_aload_n dX12_openBy_0 rfl ?_
  refine m_g66 (z := (P 0 66)) rfl dX12_openBy_1 rfl ?_
  refine g_istore_n (l1 := [(2, vI (P 0 66)), (0, vR 0), (1, vI a1)]) dX12_openBy_4 (by decide) rfl ?_
  refine g_iconst dX12_openBy_5 ?_
  refine g_istore_n (l1 := [(3, vI 0), (2, vI (P 0 66)), (0, vR 0), (1, vI a1)]) dX12_openBy_6 (by decide) rfl ?_
  have L7_0 : ∀ (n7_0 : Nat) (x7_3_0 : Int) (h_x7_3_0 : 0 ≤ x7_3_0 ∧ x7_3_0 ≤ 12) (x7_2_0 : Int) (h_x7_2_0 : 0 ≤ x7_2_0 ∧ x7_2_0 ≤ 4095) (hm7_0 : ((13 - x7_3_0) : Int).toNat < n7_0), Go WSM G 1 iX12_openBy 7 [(0, vR 0), (1, vI a1), (2, vI x7_2_0), (3, vI x7_3_0)] [] P Q := by
    intro n7_0
    induction n7_0 with
    | zero => intro x7_3_0 h_x7_3_0 x7_2_0 h_x7_2_0 hm7_0; exact absurd hm7_0 (Nat.not_lt_zero _)
    | succ n7_0 ih7_0 =>
    intro x7_3_0 h_x7_3_0 x7_2_0 h_x7_2_0 hm7_0
    refine g_iload_n dX12_openBy_7 rfl ?_
    refine g_aload_n dX12_openBy_8 rfl ?_
    refine m_g62 (z := (P 0 62)) rfl dX12_openBy_9 rfl ?_
    have f101 := b0_62 hB
    refine g_icmp_ge (tgt := 55) dX12_openBy_12 (by decide) ⟨by omega, by omega⟩ ⟨by have q0 := b0_62 hB; omega, by have q0 := b0_62 hB; omega⟩ (fun k102 => ?_) (fun k102 => ?_)
    · refine g_iload_n dX12_openBy_55 rfl ?_
      exact g_retI dX12_openBy_56 rfl (hQ x7_2_0 ⟨by omega, by omega⟩ )
    · refine g_iload_n dX12_openBy_15 rfl ?_
      refine g_aload_n dX12_openBy_16 rfl ?_
      refine m_g65 rfl dX12_openBy_17 ?_
      refine g_iload_n dX12_openBy_20 rfl ?_
      refine m_l43 (z := (P 43 x7_3_0)) dX12_openBy_21 ⟨by omega, by omega⟩ rfl ?_
      refine g_iconst dX12_openBy_22 ?_
      have f103 := bl_43 (k := x7_3_0) hB
      refine g_icmp_eq (tgt := 46) dX12_openBy_23 (by decide) ⟨by have q0 := bl_43 (k := x7_3_0) hB; omega, by have q0 := bl_43 (k := x7_3_0) hB; omega⟩ (by decide) (fun k104 => ?_) (fun k104 => ?_)
      · refine g_iconst dX12_openBy_46 ?_
        refine g_ior dX12_openBy_47 ?_
        refine g_nm (fun b105 e_b105 => ?_)
        have h_b105 : 0 ≤ (ior x7_2_0 0) ∧ (ior x7_2_0 0) < 4096 := ior_b 12 (by decide) (x := x7_2_0) (y := 0) (show 0 ≤ x7_2_0 ∧ x7_2_0 < 4096 from ⟨by omega, by omega⟩) (show 0 ≤ 0 ∧ 0 < 4096 from ⟨by omega, by omega⟩)
        rw [← e_b105] at h_b105
        refine g_istore_n (l1 := [(2, vI b105), (0, vR 0), (1, vI a1), (3, vI x7_3_0)]) dX12_openBy_48 (by decide) rfl ?_
        refine g_iinc (l1 := [(3, vI (x7_3_0 + 1)), (2, vI b105), (0, vR 0), (1, vI a1)]) dX12_openBy_49 rfl (by decide) rfl ?_
        refine g_goto (tgt := 7) dX12_openBy_52 (by decide) ?_
        refine g_forget (l1 := [(0, vR 0), (1, vI a1), (2, vI b105), (3, vI (x7_3_0 + 1))]) (by intro q hq; simp only [List.mem_cons, List.not_mem_nil, or_false] at hq ⊢; rcases hq with rfl | rfl | rfl | rfl <;> simp) ?_
        exact ih7_0 (x7_3_0 + 1) ⟨by omega, by omega⟩ b105 ⟨by omega, by omega⟩ (by omega)
      · refine g_iload_n dX12_openBy_26 rfl ?_
        refine g_aload_n dX12_openBy_27 rfl ?_
        refine m_g65 rfl dX12_openBy_28 ?_
        refine g_iload_n dX12_openBy_31 rfl ?_
        refine m_l43 (z := (P 43 x7_3_0)) dX12_openBy_32 ⟨by omega, by omega⟩ rfl ?_
        refine g_ishr dX12_openBy_33 ?_
        refine g_nm (fun b106 e_b106 => ?_)
        have h_b106 := ishr_ir a1 (P 43 x7_3_0)
        rw [← e_b106] at h_b106
        have f_b106_0 := bl_43 (k := x7_3_0) hB
        refine g_iconst dX12_openBy_34 ?_
        refine g_iand dX12_openBy_35 ?_
        refine g_nm (fun b107 e_b107 => ?_)
        have h_b107 := iand_r (x := b106) (y := 1) ⟨by omega, by omega⟩
        rw [← e_b107] at h_b107
        refine g_iconst dX12_openBy_36 ?_
        refine g_icmp_ne (tgt := 46) dX12_openBy_37 (by decide) ⟨by omega, by omega⟩ (by decide) (fun k108 => ?_) (fun k108 => ?_)
        · refine g_iconst dX12_openBy_46 ?_
          refine g_ior dX12_openBy_47 ?_
          refine g_nm (fun b109 e_b109 => ?_)
          have h_b109 : 0 ≤ (ior x7_2_0 0) ∧ (ior x7_2_0 0) < 4096 := ior_b 12 (by decide) (x := x7_2_0) (y := 0) (show 0 ≤ x7_2_0 ∧ x7_2_0 < 4096 from ⟨by omega, by omega⟩) (show 0 ≤ 0 ∧ 0 < 4096 from ⟨by omega, by omega⟩)
          rw [← e_b109] at h_b109
          refine g_istore_n (l1 := [(2, vI b109), (0, vR 0), (1, vI a1), (3, vI x7_3_0)]) dX12_openBy_48 (by decide) rfl ?_
          refine g_iinc (l1 := [(3, vI (x7_3_0 + 1)), (2, vI b109), (0, vR 0), (1, vI a1)]) dX12_openBy_49 rfl (by decide) rfl ?_
          refine g_goto (tgt := 7) dX12_openBy_52 (by decide) ?_
          refine g_forget (l1 := [(0, vR 0), (1, vI a1), (2, vI b109), (3, vI (x7_3_0 + 1))]) (by intro q hq; simp only [List.mem_cons, List.not_mem_nil, or_false] at hq ⊢; rcases hq with rfl | rfl | rfl | rfl <;> simp) ?_
          exact ih7_0 (x7_3_0 + 1) ⟨by omega, by omega⟩ b109 ⟨by omega, by omega⟩ (by omega)
        · refine g_iconst dX12_openBy_40 ?_
          refine g_iload_n dX12_openBy_41 rfl ?_
          refine g_ishl dX12_openBy_42 ?_
          refine g_nm (fun b110 e_b110 => ?_)
          have h_b110 : 1 ≤ (ishl 1 x7_3_0) ∧ (ishl 1 x7_3_0) ≤ 2048 := (ishl1 11 (by decide) (y := x7_3_0) ⟨by omega, by omega⟩).2
          rw [← e_b110] at h_b110
          refine g_goto (tgt := 47) dX12_openBy_43 (by decide) ?_
          refine g_ior dX12_openBy_47 ?_
          refine g_nm (fun b111 e_b111 => ?_)
          have h_b111 : 0 ≤ (ior x7_2_0 b110) ∧ (ior x7_2_0 b110) < 4096 := ior_b 12 (by decide) (x := x7_2_0) (y := b110) (show 0 ≤ x7_2_0 ∧ x7_2_0 < 4096 from ⟨by omega, by omega⟩) (show 0 ≤ b110 ∧ b110 < 4096 from ⟨by omega, by omega⟩)
          rw [← e_b111] at h_b111
          refine g_istore_n (l1 := [(2, vI b111), (0, vR 0), (1, vI a1), (3, vI x7_3_0)]) dX12_openBy_48 (by decide) rfl ?_
          refine g_iinc (l1 := [(3, vI (x7_3_0 + 1)), (2, vI b111), (0, vR 0), (1, vI a1)]) dX12_openBy_49 rfl (by decide) rfl ?_
          refine g_goto (tgt := 7) dX12_openBy_52 (by decide) ?_
          refine g_forget (l1 := [(0, vR 0), (1, vI a1), (2, vI b111), (3, vI (x7_3_0 + 1))]) (by intro q hq; simp only [List.mem_cons, List.not_mem_nil, or_false] at hq ⊢; rcases hq with rfl | rfl | rfl | rfl <;> simp) ?_
          exact ih7_0 (x7_3_0 + 1) ⟨by omega, by omega⟩ b111 ⟨by omega, by omega⟩ (by omega)
  refine g_forget (l1 := [(0, vR 0), (1, vI a1), (2, vI (P 0 66)), (3, vI 0)]) (by intro q hq; simp only [List.mem_cons, List.not_mem_nil, or_false] at hq ⊢; rcases hq with rfl | rfl | rfl | rfl <;> simp) ?_
  exact L7_0 _ 0 (by decide) (P 0 66) ⟨by have q0 := b0_66 hB; omega, by have q0 := b0_66 hB; omega⟩ (Nat.lt_succ_self _)
set_option maxRecDepth 100000 in
set_option maxHeartbeats 4000000 in
theorem m_X12_has (G : GT) (P : PH) (a1 : Int) (h_a1 : (-2147483648) ≤ a1 ∧ a1 ≤ 2147483647) (hB : BdM P) (Q : Option PV → PH → Prop) (hQ : ∀ (r : Int) (_ : (-2147483648) ≤ r ∧ r ≤ 2147483647), Q (some (vI r)) P) : Ct WSM G 2 iX12_has [vR 0, vI a1] P Q := by
  refine Ct.of (by decide) (l0 := [(0, vR 0), (1, vI a1)]) rfl (Nat.le_of_ble_eq_true rfl) ?_
  refine g_iload_n dX12_has_0 rfl ?_
  by_cases k1 : a1 = 0
  · refine g_tswI (tgt := 60) 0 dX12_has_1 ⟨by omega, by omega⟩ (by omega) (by omega) rfl (by decide) ?_
    refine g_aload_n dX12_has_60 rfl ?_
    refine m_g14 rfl dX12_has_61 ?_
    refine g_aload_n dX12_has_64 rfl ?_
    refine m_g13 (z := (P 0 13)) rfl dX12_has_65 rfl ?_
    refine m_l2 (z := (P 2 (P 0 13))) dX12_has_68 ⟨by have q0 := b0_13 hB; omega, by have q0 := b0_13 hB; omega⟩ rfl ?_
    exact g_retI dX12_has_69 rfl (hQ (P 2 (P 0 13)) ⟨by have q0 := bl_2 (k := (P 0 13)) hB; omega, by have q0 := bl_2 (k := (P 0 13)) hB; omega⟩ )
  by_cases k2 : a1 = 1
  · refine g_tswI (tgt := 70) 1 dX12_has_1 ⟨by omega, by omega⟩ (by omega) (by omega) rfl (by decide) ?_
    refine g_aload_n dX12_has_70 rfl ?_
    refine m_g17 rfl dX12_has_71 ?_
    refine g_aload_n dX12_has_74 rfl ?_
    refine m_g13 (z := (P 0 13)) rfl dX12_has_75 rfl ?_
    refine m_l5 (z := (P 5 (P 0 13))) dX12_has_78 ⟨by have q0 := b0_13 hB; omega, by have q0 := b0_13 hB; omega⟩ rfl ?_
    exact g_retI dX12_has_79 rfl (hQ (P 5 (P 0 13)) ⟨by have q0 := bl_5 (k := (P 0 13)) hB; omega, by have q0 := bl_5 (k := (P 0 13)) hB; omega⟩ )
  by_cases k3 : a1 = 2
  · refine g_tswI (tgt := 80) 2 dX12_has_1 ⟨by omega, by omega⟩ (by omega) (by omega) rfl (by decide) ?_
    refine g_aload_n dX12_has_80 rfl ?_
    refine g_vI (av := []) (o := 0) (st := []) (m_X12_columns G P  hB  _ (fun rc4 hc4 gc4_c => ⟨rc4, rfl, ?_⟩)) cf_X12_columns t_1827 rfl (by decide) rfl rfl rfl (Nat.le_of_ble_eq_true rfl) (by decide) rfl dX12_has_81
    exact g_retI dX12_has_84 rfl (hQ rc4 ⟨by omega, by omega⟩ )
  by_cases k5 : a1 = 3
  · refine g_tswI (tgt := 85) 3 dX12_has_1 ⟨by omega, by omega⟩ (by omega) (by omega) rfl (by decide) ?_
    refine g_aload_n dX12_has_85 rfl ?_
    refine m_g44 (z := (P 0 44)) rfl dX12_has_86 rfl ?_
    have f6 := b0_44 hB
    refine g_if_eq (tgt := 99) dX12_has_89 (by decide) ⟨by have q0 := b0_44 hB; omega, by have q0 := b0_44 hB; omega⟩ (fun k7 => ?_) (fun k7 => ?_)
    · refine g_iconst dX12_has_99 ?_
      exact g_retI dX12_has_100 rfl (hQ 0 (by decide) )
    · refine g_aload_n dX12_has_92 rfl ?_
      refine m_g52 (z := (P 0 52)) rfl dX12_has_93 rfl ?_
      refine g_goto (tgt := 100) dX12_has_96 (by decide) ?_
      exact g_retI dX12_has_100 rfl (hQ (P 0 52) ⟨by have q0 := b0_52 hB; omega, by have q0 := b0_52 hB; omega⟩ )
  by_cases k8 : a1 = 4
  · refine g_tswI (tgt := 101) 4 dX12_has_1 ⟨by omega, by omega⟩ (by omega) (by omega) rfl (by decide) ?_
    refine g_aload_n dX12_has_101 rfl ?_
    refine m_g53 rfl dX12_has_102 ?_
    refine g_iconst dX12_has_105 ?_
    refine m_l35 (z := (P 35 0)) dX12_has_106 (by decide) rfl ?_
    exact g_retI dX12_has_107 rfl (hQ (P 35 0) ⟨by have q0 := bl_35 (k := 0) hB; omega, by have q0 := bl_35 (k := 0) hB; omega⟩ )
  by_cases k9 : a1 = 5
  · refine g_tswI (tgt := 108) 5 dX12_has_1 ⟨by omega, by omega⟩ (by omega) (by omega) rfl (by decide) ?_
    refine g_aload_n dX12_has_108 rfl ?_
    refine m_g55 rfl dX12_has_109 ?_
    refine g_iconst dX12_has_112 ?_
    refine m_l37 (z := (P 37 0)) dX12_has_113 (by decide) rfl ?_
    exact g_retI dX12_has_114 rfl (hQ (P 37 0) ⟨by have q0 := bl_37 (k := 0) hB; omega, by have q0 := bl_37 (k := 0) hB; omega⟩ )
  by_cases k10 : a1 = 6
  · refine g_tswI (tgt := 115) 6 dX12_has_1 ⟨by omega, by omega⟩ (by omega) (by omega) rfl (by decide) ?_
    refine g_aload_n dX12_has_115 rfl ?_
    refine m_g56 rfl dX12_has_116 ?_
    refine g_iconst dX12_has_119 ?_
    refine m_l38 (z := (P 38 0)) dX12_has_120 (by decide) rfl ?_
    exact g_retI dX12_has_121 rfl (hQ (P 38 0) ⟨by have q0 := bl_38 (k := 0) hB; omega, by have q0 := bl_38 (k := 0) hB; omega⟩ )
  by_cases k11 : a1 = 7
  · refine g_tswI (tgt := 122) 7 dX12_has_1 ⟨by omega, by omega⟩ (by omega) (by omega) rfl (by decide) ?_
    refine g_aload_n dX12_has_122 rfl ?_
    refine m_g57 rfl dX12_has_123 ?_
    refine g_iconst dX12_has_126 ?_
    refine m_l39 (z := (P 39 0)) dX12_has_127 (by decide) rfl ?_
    exact g_retI dX12_has_128 rfl (hQ (P 39 0) ⟨by have q0 := bl_39 (k := 0) hB; omega, by have q0 := bl_39 (k := 0) hB; omega⟩ )
  by_cases k12 : a1 = 8
  · refine g_tswI (tgt := 129) 8 dX12_has_1 ⟨by omega, by omega⟩ (by omega) (by omega) rfl (by decide) ?_
    refine g_aload_n dX12_has_129 rfl ?_
    refine m_g92 (z := (P 0 92)) rfl dX12_has_130 rfl ?_
    exact g_retI dX12_has_133 rfl (hQ (P 0 92) ⟨by have q0 := b0_92 hB; omega, by have q0 := b0_92 hB; omega⟩ )
  by_cases k13 : a1 = 9
  · refine g_tswI (tgt := 134) 9 dX12_has_1 ⟨by omega, by omega⟩ (by omega) (by omega) rfl (by decide) ?_
    refine g_aload_n dX12_has_134 rfl ?_
    refine m_g60 (z := (P 0 60)) rfl dX12_has_135 rfl ?_
    exact g_retI dX12_has_138 rfl (hQ (P 0 60) ⟨by have q0 := b0_60 hB; omega, by have q0 := b0_60 hB; omega⟩ )
  by_cases k14 : a1 = 10
  · refine g_tswI (tgt := 139) 10 dX12_has_1 ⟨by omega, by omega⟩ (by omega) (by omega) rfl (by decide) ?_
    refine g_aload_n dX12_has_139 rfl ?_
    refine m_g61 (z := (P 0 61)) rfl dX12_has_140 rfl ?_
    refine g_l2i dX12_has_143 ?_
    exact g_retI dX12_has_144 rfl (hQ (P 0 61) ⟨by have q0 := b0_61 hB; omega, by have q0 := b0_61 hB; omega⟩ )
  refine g_tswO (tgt := 145) dX12_has_1 ⟨by omega, by omega⟩ (by omega) (by decide) ?_
  refine g_iconst dX12_has_145 ?_
  exact g_retI dX12_has_146 rfl (hQ (-1) (by decide) )
set_option maxRecDepth 100000 in
set_option maxHeartbeats 4000000 in
theorem m_X12_kept (G : GT) (P : PH) (a1 : Int) (a2 : Int) (h_a1 : (-2147483648) ≤ a1 ∧ a1 ≤ 2147483647) (h_a2 : (-2147483648) ≤ a2 ∧ a2 ≤ 2147483647) (hB : BdM P) (Q : Option PV → PH → Prop) (hQ : ∀ (r : Int) (_ : (-2147483648) ≤ r ∧ r ≤ 2147483647), Q (some (vI r)) P) : Ct WSM G 2 iX12_kept [vR 0, vI a1, vI a2] P Q := by
  refine Ct.of (by decide) (l0 := [(0, vR 0), (1, vI a1), (2, vI a2)]) rfl (Nat.le_of_ble_eq_true rfl) ?_
  refine g_iload_n dX12_kept_0 rfl ?_
  refine g_iconst dX12_kept_1 ?_
  refine g_aload_n dX12_kept_2 rfl ?_
  refine m_g57 rfl dX12_kept_3 ?_
  refine g_iconst dX12_kept_6 ?_
  refine m_l39 (z := (P 39 0)) dX12_kept_7 (by decide) rfl ?_
  refine g_iconst dX12_kept_8 ?_
  refine g_isub dX12_kept_9 ?_
  have f1 := bl_39 (k := 0) hB
  refine g_sI (av := [vI a1, vI 0, vI ((P 39 0) - 1)]) (st := []) (m_X12_is G P a1 0 ((P 39 0) - 1) ⟨by omega, by omega⟩ (by decide) ⟨by have q0 := bl_39 (k := 0) hB; omega, by have q0 := bl_39 (k := 0) hB; omega⟩ hB  _ (fun rc2 hc2 gc2_is => ⟨rc2, rfl, ?_⟩)) cf_X12_is t_1800 rfl (Nat.le_of_ble_eq_true rfl) (by decide) rfl dX12_kept_10
  refine g_if_eq (tgt := 38) dX12_kept_13 (by decide) ⟨by omega, by omega⟩ (fun k3 => ?_) (fun k3 => ?_)
  · refine g_iconst dX12_kept_38 ?_
    exact g_retI dX12_kept_39 rfl (hQ (-1) (by decide) )
  · refine g_iload_n dX12_kept_16 rfl ?_
    refine g_iconst dX12_kept_17 ?_
    refine g_iconst dX12_kept_18 ?_
    refine g_sI (av := [vI a2, vI 0, vI 2]) (st := []) (m_X12_is G P a2 0 2 ⟨by omega, by omega⟩ (by decide) (by decide) hB  _ (fun rc4 hc4 gc4_is => ⟨rc4, rfl, ?_⟩)) cf_X12_is t_1800 rfl (Nat.le_of_ble_eq_true rfl) (by decide) rfl dX12_kept_19
    refine g_if_eq (tgt := 38) dX12_kept_22 (by decide) ⟨by omega, by omega⟩ (fun k5 => ?_) (fun k5 => ?_)
    · refine g_iconst dX12_kept_38 ?_
      exact g_retI dX12_kept_39 rfl (hQ (-1) (by decide) )
    · refine g_aload_n dX12_kept_25 rfl ?_
      refine m_g58 rfl dX12_kept_26 ?_
      refine g_iconst dX12_kept_29 ?_
      refine g_iload_n dX12_kept_30 rfl ?_
      refine g_imul dX12_kept_31 ?_
      refine g_iload_n dX12_kept_32 rfl ?_
      refine g_iadd dX12_kept_33 ?_
      refine m_l40 (z := (P 40 ((3 * a1) + a2))) dX12_kept_34 ⟨by omega, by omega⟩ rfl ?_
      refine g_goto (tgt := 39) dX12_kept_35 (by decide) ?_
      exact g_retI dX12_kept_39 rfl (hQ (P 40 ((3 * a1) + a2)) ⟨by have q0 := bl_40 (k := ((3 * a1) + a2)) hB; omega, by have q0 := bl_40 (k := ((3 * a1) + a2)) hB; omega⟩ )
set_option maxRecDepth 100000 in
set_option maxHeartbeats 4000000 in
theorem m_X12_swap (G : GT) (P : PH) (a1 : Int) (a2 : Int) (h_a1 : (-2147483648) ≤ a1 ∧ a1 ≤ 2147483647) (h_a2 : (-2147483648) ≤ a2 ∧ a2 ≤ 2147483647) (hB : BdM P) (Q : Option PV → PH → Prop) (hQ : ∀ (r : Int) (_ : 0 ≤ r ∧ r ≤ 1) (P1 : PH) (_ : BdM P1) (_ : FrM ([59, 60], [28, 35, 36, 37, 38, 39, 40]) P P1), Q (some (vI r)) P1) : Ct WSM G 3 iX12_swap [vR 0, vI a1, vI a2] P Q := by
  refine Ct.of (by decide) (l0 := [(0, vR 0), (1, vI a1), (2, vI a2)]) rfl (Nat.le_of_ble_eq_true rfl) ?_
  refine g_aload_n dX12_swap_0 rfl ?_
  refine g_iload_n dX12_swap_1 rfl ?_
  refine g_vI (av := [vI a1]) (o := 0) (st := []) (m_X12_isPlace G P a1 ⟨by omega, by omega⟩ hB  _ (fun rc1 hc1 gc1_p => ⟨rc1, rfl, ?_⟩)) cf_X12_isPlace t_1883 rfl (by decide) rfl rfl rfl (Nat.le_of_ble_eq_true rfl) (by decide) rfl dX12_swap_2
  have f2 := b0_44 hB
  have f3 := bl_35 (k := 0) hB
  refine g_if_eq (tgt := 21) dX12_swap_5 (by decide) ⟨by omega, by omega⟩ (fun k4 => ?_) (fun k4 => ?_)
  · refine g_aload_n dX12_swap_21 rfl ?_
    refine g_iconst dX12_swap_22 ?_
    refine g_vI (av := [vI 3]) (o := 0) (st := []) (m_X12_refuses G P 3 (by decide) hB  _ (fun rc5 hc5 Pc5 hBc5 hFc5 => ⟨rc5, rfl, ?_⟩)) cf_X12_refuses t_1667 rfl (by decide) rfl rfl rfl (Nat.le_of_ble_eq_true rfl) (by decide) rfl dX12_swap_23
    refine g_if_lt (tgt := 33) dX12_swap_26 (by decide) ⟨by omega, by omega⟩ (fun k6 => ?_) (fun k6 => by exfalso; omega)
    refine g_iconst dX12_swap_33 ?_
    exact g_retZ dX12_swap_34 rfl (by decide) (hQ 0 (by decide) _ hBc5 (FrM.c FrM.rf hFc5 rfl) )
  · refine g_aload_n dX12_swap_8 rfl ?_
    refine g_iload_n dX12_swap_9 rfl ?_
    refine g_vI (av := [vI a2]) (o := 0) (st := []) (m_X12_isPlace G P a2 ⟨by omega, by omega⟩ hB  _ (fun rc7 hc7 gc7_p => ⟨rc7, rfl, ?_⟩)) cf_X12_isPlace t_1883 rfl (by decide) rfl rfl rfl (Nat.le_of_ble_eq_true rfl) (by decide) rfl dX12_swap_10
    refine g_if_eq (tgt := 21) dX12_swap_13 (by decide) ⟨by omega, by omega⟩ (fun k8 => ?_) (fun k8 => ?_)
    · refine g_aload_n dX12_swap_21 rfl ?_
      refine g_iconst dX12_swap_22 ?_
      refine g_vI (av := [vI 3]) (o := 0) (st := []) (m_X12_refuses G P 3 (by decide) hB  _ (fun rc9 hc9 Pc9 hBc9 hFc9 => ⟨rc9, rfl, ?_⟩)) cf_X12_refuses t_1667 rfl (by decide) rfl rfl rfl (Nat.le_of_ble_eq_true rfl) (by decide) rfl dX12_swap_23
      refine g_if_lt (tgt := 33) dX12_swap_26 (by decide) ⟨by omega, by omega⟩ (fun k10 => ?_) (fun k10 => by exfalso; omega)
      refine g_iconst dX12_swap_33 ?_
      exact g_retZ dX12_swap_34 rfl (by decide) (hQ 0 (by decide) _ hBc9 (FrM.c FrM.rf hFc9 rfl) )
    · refine g_iload_n dX12_swap_16 rfl ?_
      refine g_iload_n dX12_swap_17 rfl ?_
      refine g_icmp_ne (tgt := 35) dX12_swap_18 (by decide) ⟨by omega, by omega⟩ ⟨by omega, by omega⟩ (fun k11 => ?_) (fun k11 => ?_)
      · refine g_aload_n dX12_swap_35 rfl ?_
        refine g_vV (av := []) (o := 0) (st := []) (m_X12_keeps G P  hB  _ (fun Pc12 hBc12 hFc12 gc12_o => ⟨rfl, ?_⟩)) cf_X12_keeps t_2132 rfl (by decide) rfl rfl rfl (Nat.le_of_ble_eq_true rfl) (by decide) rfl dX12_swap_36
        refine g_aload_n dX12_swap_39 rfl ?_
        refine g_iconst dX12_swap_40 ?_
        refine g_iload_n dX12_swap_41 rfl ?_
        refine g_iload_n dX12_swap_42 rfl ?_
        refine g_vV (av := [vI 0, vI a1, vI a2]) (o := 0) (st := []) (m_X12_exchanges G Pc12 0 a1 a2 (by decide) ⟨by omega, by omega⟩ ⟨by omega, by omega⟩ hBc12  _ (fun Pc13 hBc13 hFc13 => ⟨rfl, ?_⟩)) cf_X12_exchanges t_2103 rfl (by decide) rfl rfl rfl (Nat.le_of_ble_eq_true rfl) (by decide) rfl dX12_swap_43
        refine g_iconst dX12_swap_46 ?_
        exact g_retZ dX12_swap_47 rfl (by decide) (hQ 1 (by decide) _ hBc13 (FrM.c (FrM.c FrM.rf hFc12 rfl) hFc13 rfl) )
      · refine g_aload_n dX12_swap_21 rfl ?_
        refine g_iconst dX12_swap_22 ?_
        refine g_vI (av := [vI 3]) (o := 0) (st := []) (m_X12_refuses G P 3 (by decide) hB  _ (fun rc14 hc14 Pc14 hBc14 hFc14 => ⟨rc14, rfl, ?_⟩)) cf_X12_refuses t_1667 rfl (by decide) rfl rfl rfl (Nat.le_of_ble_eq_true rfl) (by decide) rfl dX12_swap_23
        refine g_if_lt (tgt := 33) dX12_swap_26 (by decide) ⟨by omega, by omega⟩ (fun k15 => ?_) (fun k15 => by exfalso; omega)
        refine g_iconst dX12_swap_33 ?_
        exact g_retZ dX12_swap_34 rfl (by decide) (hQ 0 (by decide) _ hBc14 (FrM.c FrM.rf hFc14 rfl) )
set_option maxRecDepth 100000 in
set_option maxHeartbeats 4000000 in
theorem m_X12_drop (G : GT) (P : PH) (a1 : Int) (h_a1 : (-2147483648) ≤ a1 ∧ a1 ≤ 2147483647) (hB : BdM P) (Q : Option PV → PH → Prop) (hQ : ∀ (r : Int) (_ : 0 ≤ r ∧ r ≤ 1) (P1 : PH) (_ : BdM P1) (_ : FrM ([59, 60], [28, 35, 36, 37, 38, 39, 40]) P P1), Q (some (vI r)) P1) : Ct WSM G 3 iX12_drop [vR 0, vI a1] P Q := by
  refine Ct.of (by decide) (l0 := [(0, vR 0), (1, vI a1)]) rfl (Nat.le_of_ble_eq_true rfl) ?_
  refine g_aload_n dX12_drop_0 rfl ?_
  refine g_iload_n dX12_drop_1 rfl ?_
  refine g_vI (av := [vI a1]) (o := 0) (st := []) (m_X12_isPlace G P a1 ⟨by omega, by omega⟩ hB  _ (fun rc1 hc1 gc1_p => ⟨rc1, rfl, ?_⟩)) cf_X12_isPlace t_1883 rfl (by decide) rfl rfl rfl (Nat.le_of_ble_eq_true rfl) (by decide) rfl dX12_drop_2
  have f2 := b0_44 hB
  have f3 := bl_35 (k := 0) hB
  refine g_if_ne (tgt := 22) dX12_drop_5 (by decide) ⟨by omega, by omega⟩ (fun k4 => ?_) (fun k4 => ?_)
  · refine g_aload_n dX12_drop_22 rfl ?_
    refine g_vV (av := []) (o := 0) (st := []) (m_X12_keeps G P  hB  _ (fun Pc5 hBc5 hFc5 gc5_o => ⟨rfl, ?_⟩)) cf_X12_keeps t_2132 rfl (by decide) rfl rfl rfl (Nat.le_of_ble_eq_true rfl) (by decide) rfl dX12_drop_23
    refine g_iload_n dX12_drop_26 rfl ?_
    refine g_istore_n (l1 := [(2, vI a1), (0, vR 0), (1, vI a1)]) dX12_drop_27 (by decide) rfl ?_
    have L28_5 : ∀ (n28_5 : Nat) (x28_2_5 : Int) (h_x28_2_5 : 0 ≤ x28_2_5 ∧ x28_2_5 ≤ 11) (H28_5 : PH) (hB28_5 : BdM H28_5) (hE28_5 : FrM ([], [36]) Pc5 H28_5) (hm28_5 : ((12 - x28_2_5) : Int).toNat < n28_5), Go WSM G 3 iX12_drop 28 [(0, vR 0), (2, vI x28_2_5)] [] H28_5 Q := by
      intro n28_5
      induction n28_5 with
      | zero => intro x28_2_5 h_x28_2_5 H28_5 hB28_5 hE28_5 hm28_5; exact absurd hm28_5 (Nat.not_lt_zero _)
      | succ n28_5 ih28_5 =>
      intro x28_2_5 h_x28_2_5 H28_5 hB28_5 hE28_5 hm28_5
      refine g_iload_n dX12_drop_28 rfl ?_
      refine g_iconst dX12_drop_29 ?_
      refine g_iadd dX12_drop_30 ?_
      refine g_aload_n dX12_drop_31 rfl ?_
      refine m_g53 rfl dX12_drop_32 ?_
      refine g_iconst dX12_drop_35 ?_
      refine m_l35 (z := (Pc5 35 0)) dX12_drop_36 (by decide) ((congrFun (hE28_5.2 35 rfl rfl) _).trans rfl) ?_
      have f23 := bl_35 (k := 0) hBc5
      refine g_icmp_ge (tgt := 60) dX12_drop_37 (by decide) ⟨by omega, by omega⟩ ⟨by have q0 := bl_35 (k := 0) hBc5; omega, by have q0 := bl_35 (k := 0) hBc5; omega⟩ (fun k24 => ?_) (fun k24 => ?_)
      · refine g_aload_n dX12_drop_60 rfl ?_
        refine m_g53 rfl dX12_drop_61 ?_
        refine g_iconst dX12_drop_64 ?_
        refine g_dup2 dX12_drop_65 rfl rfl ?_
        refine m_l35 (z := (Pc5 35 0)) dX12_drop_66 (by decide) ((congrFun (hE28_5.2 35 rfl rfl) _).trans rfl) ?_
        refine g_iconst dX12_drop_67 ?_
        refine g_isub dX12_drop_68 ?_
        refine m_s35 dX12_drop_69 (by decide) ?_
        have hB25 := ba_35 (z := ((Pc5 35 0) - 1)) (k := 0) hB28_5 ⟨by have q0 := bl_35 (k := 0) hBc5; omega, by have q0 := bl_35 (k := 0) hBc5; omega⟩
        refine g_iconst dX12_drop_70 ?_
        exact g_retZ dX12_drop_71 rfl (by decide) (hQ 1 (by decide) _ hB25 (FrM.a (FrM.c (FrM.c FrM.rf hFc5 rfl) hE28_5 rfl) rfl rfl) )
      · refine g_aload_n dX12_drop_40 rfl ?_
        refine m_g54 rfl dX12_drop_41 ?_
        refine g_iload_n dX12_drop_44 rfl ?_
        refine g_aload_n dX12_drop_45 rfl ?_
        refine m_g54 rfl dX12_drop_46 ?_
        refine g_iload_n dX12_drop_49 rfl ?_
        refine g_iconst dX12_drop_50 ?_
        refine g_iadd dX12_drop_51 ?_
        refine m_l36 (z := (H28_5 36 (x28_2_5 + 1))) dX12_drop_52 ⟨by omega, by omega⟩ rfl ?_
        refine m_s36 dX12_drop_53 ⟨by omega, by omega⟩ ?_
        have hB26 := ba_36 (z := (H28_5 36 (x28_2_5 + 1))) (k := x28_2_5) hB28_5 ⟨by have q0 := bl_36 (k := (x28_2_5 + 1)) hB28_5; omega, by have q0 := bl_36 (k := (x28_2_5 + 1)) hB28_5; omega⟩
        refine g_iinc (l1 := [(2, vI (x28_2_5 + 1)), (0, vR 0)]) dX12_drop_54 rfl (by decide) rfl ?_
        refine g_goto (tgt := 28) dX12_drop_57 (by decide) ?_
        refine g_forget (l1 := [(0, vR 0), (2, vI (x28_2_5 + 1))]) (by intro q hq; simp only [List.mem_cons, List.not_mem_nil, or_false] at hq ⊢; rcases hq with rfl | rfl <;> simp) ?_
        exact ih28_5 (x28_2_5 + 1) ⟨by omega, by omega⟩ _ hB26 (FrM.a (FrM.c FrM.rf hE28_5 rfl) rfl rfl) (by omega)
    refine g_forget (l1 := [(0, vR 0), (2, vI a1)]) (by intro q hq; simp only [List.mem_cons, List.not_mem_nil, or_false] at hq ⊢; rcases hq with rfl | rfl <;> simp) ?_
    exact L28_5 _ a1 ⟨by omega, by omega⟩ _ hBc5 FrM.rf (Nat.lt_succ_self _)
  · refine g_aload_n dX12_drop_8 rfl ?_
    refine g_iconst dX12_drop_9 ?_
    refine g_vI (av := [vI 3]) (o := 0) (st := []) (m_X12_refuses G P 3 (by decide) hB  _ (fun rc27 hc27 Pc27 hBc27 hFc27 => ⟨rc27, rfl, ?_⟩)) cf_X12_refuses t_1667 rfl (by decide) rfl rfl rfl (Nat.le_of_ble_eq_true rfl) (by decide) rfl dX12_drop_10
    refine g_if_lt (tgt := 20) dX12_drop_13 (by decide) ⟨by omega, by omega⟩ (fun k28 => ?_) (fun k28 => by exfalso; omega)
    refine g_iconst dX12_drop_20 ?_
    exact g_retZ dX12_drop_21 rfl (by decide) (hQ 0 (by decide) _ hBc27 (FrM.c FrM.rf hFc27 rfl) )
set_option maxRecDepth 100000 in
set_option maxHeartbeats 4000000 in
theorem m_X12_turn (G : GT) (P : PH) (a1 : Int) (h_a1 : (-2147483648) ≤ a1 ∧ a1 ≤ 2147483647) (hB : BdM P) (Q : Option PV → PH → Prop) (hQ : ∀ (r : Int) (_ : (-2147483648) ≤ r ∧ r ≤ 2147483647) (P1 : PH) (_ : BdM P1) (_ : FrM ([59, 60], [28, 35, 36, 37, 38, 39, 40]) P P1), Q (some (vI r)) P1) : Ct WSM G 3 iX12_turn [vR 0, vI a1] P Q := by
  refine Ct.of (by decide) (l0 := [(0, vR 0), (1, vI a1)]) rfl (Nat.le_of_ble_eq_true rfl) ?_
  refine g_aload_n dX12_turn_0 rfl ?_
  refine m_g44 (z := (P 0 44)) rfl dX12_turn_1 rfl ?_
  have f1 := b0_44 hB
  refine g_if_eq (tgt := 17) dX12_turn_4 (by decide) ⟨by have q0 := b0_44 hB; omega, by have q0 := b0_44 hB; omega⟩ (fun k2 => ?_) (fun k2 => ?_)
  · refine g_aload_n dX12_turn_17 rfl ?_
    refine g_iconst dX12_turn_18 ?_
    refine g_vI (av := [vI 3]) (o := 0) (st := []) (m_X12_refuses G P 3 (by decide) hB  _ (fun rc3 hc3 Pc3 hBc3 hFc3 => ⟨rc3, rfl, ?_⟩)) cf_X12_refuses t_1667 rfl (by decide) rfl rfl rfl (Nat.le_of_ble_eq_true rfl) (by decide) rfl dX12_turn_19
    exact g_retI dX12_turn_22 rfl (hQ rc3 ⟨by omega, by omega⟩ _ hBc3 (FrM.c FrM.rf hFc3 rfl) )
  · refine g_iload_n dX12_turn_7 rfl ?_
    refine g_iconst dX12_turn_8 ?_
    refine g_bipush dX12_turn_9 (by decide) ?_
    refine g_sI (av := [vI a1, vI 0, vI 7]) (st := []) (m_X12_is G P a1 0 7 ⟨by omega, by omega⟩ (by decide) (by decide) hB  _ (fun rc4 hc4 gc4_is => ⟨rc4, rfl, ?_⟩)) cf_X12_is t_1800 rfl (Nat.le_of_ble_eq_true rfl) (by decide) rfl dX12_turn_11
    refine g_if_ne (tgt := 23) dX12_turn_14 (by decide) ⟨by omega, by omega⟩ (fun k5 => ?_) (fun k5 => ?_)
    · refine g_aload_n dX12_turn_23 rfl ?_
      refine g_vV (av := []) (o := 0) (st := []) (m_X12_keeps G P  hB  _ (fun Pc6 hBc6 hFc6 gc6_o => ⟨rfl, ?_⟩)) cf_X12_keeps t_2132 rfl (by decide) rfl rfl rfl (Nat.le_of_ble_eq_true rfl) (by decide) rfl dX12_turn_24
      refine g_aload_n dX12_turn_27 rfl ?_
      refine m_g55 rfl dX12_turn_28 ?_
      refine g_iconst dX12_turn_31 ?_
      refine g_dup2 dX12_turn_32 rfl rfl ?_
      refine m_l37 (z := (Pc6 37 0)) dX12_turn_33 (by decide) rfl ?_
      refine g_iconst dX12_turn_34 ?_
      refine g_iload_n dX12_turn_35 rfl ?_
      refine g_ishl dX12_turn_36 ?_
      refine g_nm (fun b7 e_b7 => ?_)
      have h_b7 : 1 ≤ (ishl 1 a1) ∧ (ishl 1 a1) ≤ 128 := (ishl1 7 (by decide) (y := a1) ⟨by omega, by omega⟩).2
      rw [← e_b7] at h_b7
      refine g_ixor dX12_turn_37 ?_
      refine g_nm (fun b8 e_b8 => ?_)
      have h_b8 : 0 ≤ (ixor (Pc6 37 0) b7) ∧ (ixor (Pc6 37 0) b7) < 256 := ixor_b 8 (by decide) (x := (Pc6 37 0)) (y := b7) (show 0 ≤ (Pc6 37 0) ∧ (Pc6 37 0) < 256 from ⟨by have q0 := bl_37 (k := 0) hBc6; omega, by have q0 := bl_37 (k := 0) hBc6; omega⟩) (show 0 ≤ b7 ∧ b7 < 256 from ⟨by omega, by omega⟩)
      rw [← e_b8] at h_b8
      refine m_s37 dX12_turn_38 (by decide) ?_
      have hB9 := ba_37 (z := b8) (k := 0) hBc6 ⟨by omega, by omega⟩
      refine g_aload_n dX12_turn_39 rfl ?_
      refine m_g55 rfl dX12_turn_40 ?_
      refine g_iconst dX12_turn_43 ?_
      refine m_l37 (z := b8) dX12_turn_44 (by decide) up_same ?_
      refine g_iload_n dX12_turn_45 rfl ?_
      refine g_ishr dX12_turn_46 ?_
      refine g_nm (fun b10 e_b10 => ?_)
      have h_b10 := ishr_ir b8 a1
      rw [← e_b10] at h_b10
      refine g_iconst dX12_turn_47 ?_
      refine g_iand dX12_turn_48 ?_
      refine g_nm (fun b11 e_b11 => ?_)
      have h_b11 := iand_r (x := b10) (y := 1) ⟨by omega, by omega⟩
      rw [← e_b11] at h_b11
      exact g_retI dX12_turn_49 rfl (hQ b11 ⟨by omega, by omega⟩ _ hB9 (FrM.a (FrM.c FrM.rf hFc6 rfl) rfl rfl) )
    · refine g_aload_n dX12_turn_17 rfl ?_
      refine g_iconst dX12_turn_18 ?_
      refine g_vI (av := [vI 3]) (o := 0) (st := []) (m_X12_refuses G P 3 (by decide) hB  _ (fun rc12 hc12 Pc12 hBc12 hFc12 => ⟨rc12, rfl, ?_⟩)) cf_X12_refuses t_1667 rfl (by decide) rfl rfl rfl (Nat.le_of_ble_eq_true rfl) (by decide) rfl dX12_turn_19
      exact g_retI dX12_turn_22 rfl (hQ rc12 ⟨by omega, by omega⟩ _ hBc12 (FrM.c FrM.rf hFc12 rfl) )
set_option maxRecDepth 100000 in
set_option maxHeartbeats 4000000 in
theorem m_X12_choose (G : GT) (P : PH) (a1 : Int) (h_a1 : (-2147483648) ≤ a1 ∧ a1 ≤ 2147483647) (hB : BdM P) (Q : Option PV → PH → Prop) (hQ : ∀ (r : Int) (_ : 0 ≤ r ∧ r ≤ 1) (P1 : PH) (_ : BdM P1) (_ : FrM ([59, 60], [28, 35, 36, 37, 38, 39, 40]) P P1), Q (some (vI r)) P1) : Ct WSM G 3 iX12_choose [vR 0, vI a1] P Q := by
  refine Ct.of (by decide) (l0 := [(0, vR 0), (1, vI a1)]) rfl (Nat.le_of_ble_eq_true rfl) ?_
  refine g_aload_n dX12_choose_0 rfl ?_
  refine m_g44 (z := (P 0 44)) rfl dX12_choose_1 rfl ?_
  have f1 := b0_44 hB
  refine g_if_eq (tgt := 26) dX12_choose_4 (by decide) ⟨by have q0 := b0_44 hB; omega, by have q0 := b0_44 hB; omega⟩ (fun k2 => ?_) (fun k2 => ?_)
  · refine g_aload_n dX12_choose_26 rfl ?_
    refine g_iconst dX12_choose_27 ?_
    refine g_vI (av := [vI 3]) (o := 0) (st := []) (m_X12_refuses G P 3 (by decide) hB  _ (fun rc3 hc3 Pc3 hBc3 hFc3 => ⟨rc3, rfl, ?_⟩)) cf_X12_refuses t_1667 rfl (by decide) rfl rfl rfl (Nat.le_of_ble_eq_true rfl) (by decide) rfl dX12_choose_28
    refine g_if_lt (tgt := 38) dX12_choose_31 (by decide) ⟨by omega, by omega⟩ (fun k4 => ?_) (fun k4 => by exfalso; omega)
    refine g_iconst dX12_choose_38 ?_
    exact g_retZ dX12_choose_39 rfl (by decide) (hQ 0 (by decide) _ hBc3 (FrM.c FrM.rf hFc3 rfl) )
  · refine g_iload_n dX12_choose_7 rfl ?_
    refine g_iconst dX12_choose_8 ?_
    refine g_iconst dX12_choose_9 ?_
    refine g_sI (av := [vI a1, vI 0, vI 3]) (st := []) (m_X12_is G P a1 0 3 ⟨by omega, by omega⟩ (by decide) (by decide) hB  _ (fun rc5 hc5 gc5_is => ⟨rc5, rfl, ?_⟩)) cf_X12_is t_1800 rfl (Nat.le_of_ble_eq_true rfl) (by decide) rfl dX12_choose_10
    refine g_if_eq (tgt := 26) dX12_choose_13 (by decide) ⟨by omega, by omega⟩ (fun k6 => ?_) (fun k6 => ?_)
    · refine g_aload_n dX12_choose_26 rfl ?_
      refine g_iconst dX12_choose_27 ?_
      refine g_vI (av := [vI 3]) (o := 0) (st := []) (m_X12_refuses G P 3 (by decide) hB  _ (fun rc7 hc7 Pc7 hBc7 hFc7 => ⟨rc7, rfl, ?_⟩)) cf_X12_refuses t_1667 rfl (by decide) rfl rfl rfl (Nat.le_of_ble_eq_true rfl) (by decide) rfl dX12_choose_28
      refine g_if_lt (tgt := 38) dX12_choose_31 (by decide) ⟨by omega, by omega⟩ (fun k8 => ?_) (fun k8 => by exfalso; omega)
      refine g_iconst dX12_choose_38 ?_
      exact g_retZ dX12_choose_39 rfl (by decide) (hQ 0 (by decide) _ hBc7 (FrM.c FrM.rf hFc7 rfl) )
    · refine g_aload_n dX12_choose_16 rfl ?_
      refine m_g56 rfl dX12_choose_17 ?_
      refine g_iconst dX12_choose_20 ?_
      refine m_l38 (z := (P 38 0)) dX12_choose_21 (by decide) rfl ?_
      refine g_iload_n dX12_choose_22 rfl ?_
      have f9 := bl_38 (k := 0) hB
      refine g_icmp_ne (tgt := 40) dX12_choose_23 (by decide) ⟨by have q0 := bl_38 (k := 0) hB; omega, by have q0 := bl_38 (k := 0) hB; omega⟩ ⟨by omega, by omega⟩ (fun k10 => ?_) (fun k10 => ?_)
      · refine g_aload_n dX12_choose_40 rfl ?_
        refine g_vV (av := []) (o := 0) (st := []) (m_X12_keeps G P  hB  _ (fun Pc11 hBc11 hFc11 gc11_o => ⟨rfl, ?_⟩)) cf_X12_keeps t_2132 rfl (by decide) rfl rfl rfl (Nat.le_of_ble_eq_true rfl) (by decide) rfl dX12_choose_41
        refine g_aload_n dX12_choose_44 rfl ?_
        refine m_g56 rfl dX12_choose_45 ?_
        refine g_iconst dX12_choose_48 ?_
        refine g_iload_n dX12_choose_49 rfl ?_
        refine m_s38 dX12_choose_50 (by decide) ?_
        have hB12 := ba_38 (z := a1) (k := 0) hBc11 ⟨by omega, by omega⟩
        refine g_iconst dX12_choose_51 ?_
        exact g_retZ dX12_choose_52 rfl (by decide) (hQ 1 (by decide) _ hB12 (FrM.a (FrM.c FrM.rf hFc11 rfl) rfl rfl) )
      · refine g_aload_n dX12_choose_26 rfl ?_
        refine g_iconst dX12_choose_27 ?_
        refine g_vI (av := [vI 3]) (o := 0) (st := []) (m_X12_refuses G P 3 (by decide) hB  _ (fun rc13 hc13 Pc13 hBc13 hFc13 => ⟨rc13, rfl, ?_⟩)) cf_X12_refuses t_1667 rfl (by decide) rfl rfl rfl (Nat.le_of_ble_eq_true rfl) (by decide) rfl dX12_choose_28
        refine g_if_lt (tgt := 38) dX12_choose_31 (by decide) ⟨by omega, by omega⟩ (fun k14 => ?_) (fun k14 => by exfalso; omega)
        refine g_iconst dX12_choose_38 ?_
        exact g_retZ dX12_choose_39 rfl (by decide) (hQ 0 (by decide) _ hBc13 (FrM.c FrM.rf hFc13 rfl) )
set_option maxRecDepth 100000 in
set_option maxHeartbeats 4000000 in
theorem m_X12_image (G : GT) (P : PH) (hB : BdM P) (Q : Option PV → PH → Prop) (hQ : ∀ (r : Int) (_ : (-2147483648) ≤ r ∧ r ≤ 2147483647) (P1 : PH) (_ : BdM P1) (_ : FrM ([70], [46]) P P1), Q (some (vI r)) P1) : Ct WSM G 2 iX12_image [vR 0] P Q := by
  refine Ct.of (by decide) (l0 := [(0, vR 0)]) rfl (Nat.le_of_ble_eq_true rfl) ?_
  refine g_aload_n dX12_image_0 rfl ?_
  refine g_iconst dX12_image_1 ?_
  refine m_p70 rfl dX12_image_2 ?_
  have hB1 := bs_70 (z := 0) hB (by decide)
  refine g_aload_n dX12_image_5 rfl ?_
  refine g_aload_n dX12_image_6 rfl ?_
  refine m_g53 rfl dX12_image_7 ?_
  refine g_iconst dX12_image_10 ?_
  refine m_l35 (z := (P 35 0)) dX12_image_11 (by decide) ((up_o (by decide)).trans rfl) ?_
  have f2 := bl_35 (k := 0) hB
  refine g_vV (av := [vI (P 35 0)]) (o := 0) (st := []) (m_X12_writes G (up P 0 70 0) (P 35 0) ⟨by have q0 := bl_35 (k := 0) hB; omega, by have q0 := bl_35 (k := 0) hB; omega⟩ hB1 (by have q0 := bl_35 (k := 0) hB; have q1 := (up_same : (up P 0 70 0) 0 70 = 0); omega) _ (fun Pc3 hBc3 hFc3 gc3_o => ⟨rfl, ?_⟩)) cf_X12_writes t_1974 rfl (by decide) rfl rfl rfl (Nat.le_of_ble_eq_true rfl) (by decide) rfl dX12_image_12
  have z4 : (up P 0 70 0) 0 70 = 0 := up_same
  refine g_iconst dX12_image_15 ?_
  refine g_istore_n (l1 := [(1, vI 0), (0, vR 0)]) dX12_image_16 (by decide) rfl ?_
  have L17_4 : ∀ (n17_4 : Nat) (x17_1_4 : Int) (h_x17_1_4 : 0 ≤ x17_1_4 ∧ x17_1_4 ≤ 12) (H17_4 : PH) (hB17_4 : BdM H17_4) (hE17_4 : FrM ([70], [46]) Pc3 H17_4) (i17_0_4 : H17_4 0 70 = 1 + x17_1_4) (hm17_4 : ((13 - x17_1_4) : Int).toNat < n17_4), Go WSM G 2 iX12_image 17 [(0, vR 0), (1, vI x17_1_4)] [] H17_4 Q := by
    intro n17_4
    induction n17_4 with
    | zero => intro x17_1_4 h_x17_1_4 H17_4 hB17_4 hE17_4 i17_0_4 hm17_4; exact absurd hm17_4 (Nat.not_lt_zero _)
    | succ n17_4 ih17_4 =>
    intro x17_1_4 h_x17_1_4 H17_4 hB17_4 hE17_4 i17_0_4 hm17_4
    refine g_iload_n dX12_image_17 rfl ?_
    refine g_aload_n dX12_image_18 rfl ?_
    refine m_g53 rfl dX12_image_19 ?_
    refine g_iconst dX12_image_22 ?_
    refine m_l35 (z := (P 35 0)) dX12_image_23 (by decide) ((congrFun (hE17_4.2 35 rfl rfl) _).trans ((congrFun (hFc3.2 35 rfl rfl) _).trans ((up_o (by decide)).trans rfl))) ?_
    refine g_icmp_ge (tgt := 43) dX12_image_24 (by decide) ⟨by omega, by omega⟩ ⟨by have q0 := bl_35 (k := 0) hB; omega, by have q0 := bl_35 (k := 0) hB; omega⟩ (fun k798 => ?_) (fun k798 => ?_)
    · refine g_aload_n dX12_image_43 rfl ?_
      refine g_aload_n dX12_image_44 rfl ?_
      refine m_g55 rfl dX12_image_45 ?_
      refine g_iconst dX12_image_48 ?_
      refine m_l37 (z := (P 37 0)) dX12_image_49 (by decide) ((congrFun (hE17_4.2 37 rfl rfl) _).trans ((congrFun (hFc3.2 37 rfl rfl) _).trans ((up_o (by decide)).trans rfl))) ?_
      have f799 := bl_37 (k := 0) hB
      refine g_vV (av := [vI (P 37 0)]) (o := 0) (st := []) (m_X12_writes G H17_4 (P 37 0) ⟨by have q0 := bl_37 (k := 0) hB; omega, by have q0 := bl_37 (k := 0) hB; omega⟩ hB17_4 (by have q0 := bl_37 (k := 0) hB; have q1 := b0_70 hB17_4; omega) _ (fun Pc800 hBc800 hFc800 gc800_o => ⟨rfl, ?_⟩)) cf_X12_writes t_1974 rfl (by decide) rfl rfl rfl (Nat.le_of_ble_eq_true rfl) (by decide) rfl dX12_image_50
      refine g_aload_n dX12_image_53 rfl ?_
      refine g_aload_n dX12_image_54 rfl ?_
      refine m_g56 rfl dX12_image_55 ?_
      refine g_iconst dX12_image_58 ?_
      refine m_l38 (z := (P 38 0)) dX12_image_59 (by decide) ((congrFun (hFc800.2 38 rfl rfl) _).trans ((congrFun (hE17_4.2 38 rfl rfl) _).trans ((congrFun (hFc3.2 38 rfl rfl) _).trans ((up_o (by decide)).trans rfl)))) ?_
      have f801 := bl_38 (k := 0) hB
      refine g_vV (av := [vI (P 38 0)]) (o := 0) (st := []) (m_X12_writes G Pc800 (P 38 0) ⟨by have q0 := bl_38 (k := 0) hB; omega, by have q0 := bl_38 (k := 0) hB; omega⟩ hBc800 (by have q0 := bl_38 (k := 0) hB; have q1 := b0_70 hBc800; omega) _ (fun Pc802 hBc802 hFc802 gc802_o => ⟨rfl, ?_⟩)) cf_X12_writes t_1974 rfl (by decide) rfl rfl rfl (Nat.le_of_ble_eq_true rfl) (by decide) rfl dX12_image_60
      refine g_sipush dX12_image_63 (by decide) ?_
      refine g_istore_n (l1 := [(1, vI 199), (0, vR 0)]) dX12_image_66 (by decide) rfl ?_
      refine g_iconst dX12_image_67 ?_
      refine g_istore_n (l1 := [(2, vI 0), (1, vI 199), (0, vR 0)]) dX12_image_68 (by decide) rfl ?_
      have L69_802 : ∀ (n69_802 : Nat) (x69_2_802 : Int) (h_x69_2_802 : 0 ≤ x69_2_802 ∧ x69_2_802 ≤ 1800) (x69_1_802 : Int) (h_x69_1_802 : 0 ≤ x69_1_802 ∧ x69_1_802 ≤ 250) (hm69_802 : ((1801 - x69_2_802) : Int).toNat < n69_802), Go WSM G 2 iX12_image 69 [(0, vR 0), (1, vI x69_1_802), (2, vI x69_2_802)] [] Pc802 Q := by
        intro n69_802
        induction n69_802 with
        | zero => intro x69_2_802 h_x69_2_802 x69_1_802 h_x69_1_802 hm69_802; exact absurd hm69_802 (Nat.not_lt_zero _)
        | succ n69_802 ih69_802 =>
        intro x69_2_802 h_x69_2_802 x69_1_802 h_x69_1_802 hm69_802
        refine g_iload_n dX12_image_69 rfl ?_
        refine g_aload_n dX12_image_70 rfl ?_
        refine m_g70 (z := (Pc802 0 70)) rfl dX12_image_71 rfl ?_
        have f880 := b0_70 hBc802
        refine g_icmp_ge (tgt := 98) dX12_image_74 (by decide) ⟨by omega, by omega⟩ ⟨by have q0 := b0_70 hBc802; omega, by have q0 := b0_70 hBc802; omega⟩ (fun k881 => ?_) (fun k881 => ?_)
        · refine g_aload_n dX12_image_98 rfl ?_
          refine g_iload_n dX12_image_99 rfl ?_
          refine g_vV (av := [vI x69_1_802]) (o := 0) (st := []) (m_X12_writes G Pc802 x69_1_802 ⟨by omega, by omega⟩ hBc802 (by have q0 := b0_70 hBc802; omega) _ (fun Pc882 hBc882 hFc882 gc882_o => ⟨rfl, ?_⟩)) cf_X12_writes t_1974 rfl (by decide) rfl rfl rfl (Nat.le_of_ble_eq_true rfl) (by decide) rfl dX12_image_100
          refine g_aload_n dX12_image_103 rfl ?_
          refine m_g70 (z := (Pc882 0 70)) rfl dX12_image_104 rfl ?_
          exact g_retI dX12_image_107 rfl (hQ (Pc882 0 70) ⟨by have q0 := b0_70 hBc882; omega, by have q0 := b0_70 hBc882; omega⟩ _ hBc882 (FrM.c (FrM.c (FrM.c (FrM.c (FrM.c (FrM.s FrM.rf rfl) hFc3 rfl) hE17_4 rfl) hFc800 rfl) hFc802 rfl) hFc882 rfl) )
        · refine g_iconst dX12_image_77 ?_
          refine g_iload_n dX12_image_78 rfl ?_
          refine g_imul dX12_image_79 ?_
          refine g_aload_n dX12_image_80 rfl ?_
          refine m_g69 rfl dX12_image_81 ?_
          refine g_iload_n dX12_image_84 rfl ?_
          refine m_l46 (z := (Pc802 46 x69_2_802)) dX12_image_85 ⟨by omega, by omega⟩ rfl ?_
          refine g_iadd dX12_image_86 ?_
          refine g_sipush dX12_image_87 (by decide) ?_
          refine g_irem dX12_image_90 ⟨(by decide), by decide⟩ ?_
          refine g_nm (fun b883 e_b883 => ?_)
          have h_b883 := irem_b (x := ((5 * x69_1_802) + (Pc802 46 x69_2_802))) (y := 251) ⟨by have q0 := bl_46 (k := x69_2_802) hBc802; omega, by have q0 := bl_46 (k := x69_2_802) hBc802; omega⟩ ⟨by omega, by omega⟩
          rw [← e_b883] at h_b883
          have f_b883_0 := bl_46 (k := x69_2_802) hBc802
          refine g_istore_n (l1 := [(1, vI b883), (0, vR 0), (2, vI x69_2_802)]) dX12_image_91 (by decide) rfl ?_
          refine g_iinc (l1 := [(2, vI (x69_2_802 + 1)), (1, vI b883), (0, vR 0)]) dX12_image_92 rfl (by decide) rfl ?_
          refine g_goto (tgt := 69) dX12_image_95 (by decide) ?_
          refine g_forget (l1 := [(0, vR 0), (1, vI b883), (2, vI (x69_2_802 + 1))]) (by intro q hq; simp only [List.mem_cons, List.not_mem_nil, or_false] at hq ⊢; rcases hq with rfl | rfl | rfl <;> simp) ?_
          exact ih69_802 (x69_2_802 + 1) ⟨by omega, by omega⟩ b883 ⟨by omega, by omega⟩ (by omega)
      refine g_forget (l1 := [(0, vR 0), (1, vI 199), (2, vI 0)]) (by intro q hq; simp only [List.mem_cons, List.not_mem_nil, or_false] at hq ⊢; rcases hq with rfl | rfl | rfl <;> simp) ?_
      exact L69_802 _ 0 (by decide) 199 (by decide) (Nat.lt_succ_self _)
    · refine g_aload_n dX12_image_27 rfl ?_
      refine g_aload_n dX12_image_28 rfl ?_
      refine m_g54 rfl dX12_image_29 ?_
      refine g_iload_n dX12_image_32 rfl ?_
      refine m_l36 (z := (P 36 x17_1_4)) dX12_image_33 ⟨by omega, by omega⟩ ((congrFun (hE17_4.2 36 rfl rfl) _).trans ((congrFun (hFc3.2 36 rfl rfl) _).trans ((up_o (by decide)).trans rfl))) ?_
      have f884 := bl_36 (k := x17_1_4) hB
      refine g_vV (av := [vI (P 36 x17_1_4)]) (o := 0) (st := []) (m_X12_writes G H17_4 (P 36 x17_1_4) ⟨by have q0 := bl_36 (k := x17_1_4) hB; omega, by have q0 := bl_36 (k := x17_1_4) hB; omega⟩ hB17_4 (by have q0 := bl_36 (k := x17_1_4) hB; have q1 := b0_70 hB17_4; omega) _ (fun Pc885 hBc885 hFc885 gc885_o => ⟨rfl, ?_⟩)) cf_X12_writes t_1974 rfl (by decide) rfl rfl rfl (Nat.le_of_ble_eq_true rfl) (by decide) rfl dX12_image_34
      refine g_iinc (l1 := [(1, vI (x17_1_4 + 1)), (0, vR 0)]) dX12_image_37 rfl (by decide) rfl ?_
      refine g_goto (tgt := 17) dX12_image_40 (by decide) ?_
      refine g_forget (l1 := [(0, vR 0), (1, vI (x17_1_4 + 1))]) (by intro q hq; simp only [List.mem_cons, List.not_mem_nil, or_false] at hq ⊢; rcases hq with rfl | rfl <;> simp) ?_
      exact ih17_4 (x17_1_4 + 1) ⟨by omega, by omega⟩ _ hBc885 (FrM.c (FrM.c FrM.rf hE17_4 rfl) hFc885 rfl) (by have q0 := b0_70 hBc885; omega) (by omega)
  refine g_forget (l1 := [(0, vR 0), (1, vI 0)]) (by intro q hq; simp only [List.mem_cons, List.not_mem_nil, or_false] at hq ⊢; rcases hq with rfl | rfl <;> simp) ?_
  exact L17_4 _ 0 (by decide) _ hBc3 FrM.rf (by have q0 := b0_70 hBc3; omega) (Nat.lt_succ_self _)
set_option maxRecDepth 100000 in
set_option maxHeartbeats 4000000 in
theorem m_X12_comesOn (G : GT) (P : PH) (a1 : Int) (h_a1 : 0 ≤ a1 ∧ a1 ≤ 1600) (hB : BdM P) (Q : Option PV → PH → Prop) (hQ : ∀ (r : Int) (_ : 0 ≤ r ∧ r ≤ 1) (P1 : PH) (_ : BdM P1) (_ : FrM ([], [35, 36, 37, 38, 39, 40]) P P1), Q (some (vI r)) P1) : Ct WSM G 2 iX12_comesOn [vR 0, vI a1] P Q := by
  refine Ct.of (by decide) (l0 := [(0, vR 0), (1, vI a1)]) rfl (Nat.le_of_ble_eq_true rfl) ?_
  refine g_aload_n dX12_comesOn_0 rfl ?_
  refine m_g44 (z := (P 0 44)) rfl dX12_comesOn_1 rfl ?_
  have f1 := b0_44 hB
  refine g_if_eq (tgt := 42) dX12_comesOn_4 (by decide) ⟨by have q0 := b0_44 hB; omega, by have q0 := b0_44 hB; omega⟩ (fun k2 => ?_) (fun k2 => ?_)
  · refine g_iconst dX12_comesOn_42 ?_
    exact g_retZ dX12_comesOn_43 rfl (by decide) (hQ 0 (by decide) _ hB FrM.rf )
  · refine g_iload_n dX12_comesOn_7 rfl ?_
    refine g_iconst dX12_comesOn_8 ?_
    refine g_icmp_lt (tgt := 42) dX12_comesOn_9 (by decide) ⟨by omega, by omega⟩ (by decide) (fun k3 => ?_) (fun k3 => ?_)
    · refine g_iconst dX12_comesOn_42 ?_
      exact g_retZ dX12_comesOn_43 rfl (by decide) (hQ 0 (by decide) _ hB FrM.rf )
    · refine g_aload_n dX12_comesOn_12 rfl ?_
      refine m_g0 rfl dX12_comesOn_13 ?_
      refine g_iconst dX12_comesOn_16 ?_
      refine m_l1 (z := (P 1 0)) dX12_comesOn_17 (by decide) rfl ?_
      refine g_aload_n dX12_comesOn_18 rfl ?_
      refine m_g25 rfl dX12_comesOn_19 ?_
      refine g_aload_n dX12_comesOn_22 rfl ?_
      refine m_g13 (z := (P 0 13)) rfl dX12_comesOn_23 rfl ?_
      refine m_l13 (z := (P 13 (P 0 13))) dX12_comesOn_26 ⟨by have q0 := b0_13 hB; omega, by have q0 := b0_13 hB; omega⟩ rfl ?_
      have f4 := bl_1 (k := 0) hB
      have f5 := bl_13 (k := (P 0 13)) hB
      refine g_icmp_gt (tgt := 42) dX12_comesOn_27 (by decide) ⟨by have q0 := bl_1 (k := 0) hB; omega, by have q0 := bl_1 (k := 0) hB; omega⟩ ⟨by have q0 := bl_13 (k := (P 0 13)) hB; omega, by have q0 := bl_13 (k := (P 0 13)) hB; omega⟩ (fun k6 => ?_) (fun k6 => ?_)
      · refine g_iconst dX12_comesOn_42 ?_
        exact g_retZ dX12_comesOn_43 rfl (by decide) (hQ 0 (by decide) _ hB FrM.rf )
      · refine g_iload_n dX12_comesOn_30 rfl ?_
        refine g_aload_n dX12_comesOn_31 rfl ?_
        refine m_g0 rfl dX12_comesOn_32 ?_
        refine g_iconst dX12_comesOn_35 ?_
        refine m_l1 (z := (P 1 0)) dX12_comesOn_36 (by decide) rfl ?_
        refine g_iconst dX12_comesOn_37 ?_
        refine g_iadd dX12_comesOn_38 ?_
        refine g_icmp_eq (tgt := 44) dX12_comesOn_39 (by decide) ⟨by omega, by omega⟩ ⟨by have q0 := bl_1 (k := 0) hB; omega, by have q0 := bl_1 (k := 0) hB; omega⟩ (fun k7 => ?_) (fun k7 => ?_)
        · refine g_sipush dX12_comesOn_44 (by decide) ?_
          refine g_istore_n (l1 := [(2, vI 199), (0, vR 0), (1, vI a1)]) dX12_comesOn_47 (by decide) rfl ?_
          refine g_iconst dX12_comesOn_48 ?_
          refine g_istore_n (l1 := [(3, vI 0), (2, vI 199), (0, vR 0), (1, vI a1)]) dX12_comesOn_49 (by decide) rfl ?_
          have L50_7 : ∀ (n50_7 : Nat) (x50_3_7 : Int) (h_x50_3_7 : 0 ≤ x50_3_7 ∧ x50_3_7 ≤ 15) (x50_2_7 : Int) (h_x50_2_7 : 0 ≤ x50_2_7 ∧ x50_2_7 ≤ 250) (hm50_7 : ((16 - x50_3_7) : Int).toNat < n50_7), Go WSM G 2 iX12_comesOn 50 [(0, vR 0), (1, vI a1), (2, vI x50_2_7), (3, vI x50_3_7)] [] P Q := by
            intro n50_7
            induction n50_7 with
            | zero => intro x50_3_7 h_x50_3_7 x50_2_7 h_x50_2_7 hm50_7; exact absurd hm50_7 (Nat.not_lt_zero _)
            | succ n50_7 ih50_7 =>
            intro x50_3_7 h_x50_3_7 x50_2_7 h_x50_2_7 hm50_7
            refine g_iload_n dX12_comesOn_50 rfl ?_
            refine g_iload_n dX12_comesOn_51 rfl ?_
            refine g_iconst dX12_comesOn_52 ?_
            refine g_isub dX12_comesOn_53 ?_
            refine g_icmp_ge (tgt := 78) dX12_comesOn_54 (by decide) ⟨by omega, by omega⟩ ⟨by omega, by omega⟩ (fun k1698 => ?_) (fun k1698 => ?_)
            · refine g_aload_n dX12_comesOn_78 rfl ?_
              refine m_g0 rfl dX12_comesOn_79 ?_
              refine g_iload_n dX12_comesOn_82 rfl ?_
              refine g_iconst dX12_comesOn_83 ?_
              refine g_isub dX12_comesOn_84 ?_
              refine m_l1 (z := (P 1 (a1 - 1))) dX12_comesOn_85 ⟨by omega, by omega⟩ rfl ?_
              refine g_iload_n dX12_comesOn_86 rfl ?_
              have f1699 := bl_1 (k := (a1 - 1)) hB
              refine g_icmp_ne (tgt := 102) dX12_comesOn_87 (by decide) ⟨by have q0 := bl_1 (k := (a1 - 1)) hB; omega, by have q0 := bl_1 (k := (a1 - 1)) hB; omega⟩ ⟨by omega, by omega⟩ (fun k1700 => ?_) (fun k1700 => ?_)
              · refine g_iconst dX12_comesOn_102 ?_
                exact g_retZ dX12_comesOn_103 rfl (by decide) (hQ 0 (by decide) _ hB FrM.rf )
              · refine g_aload_n dX12_comesOn_90 rfl ?_
                refine m_g0 rfl dX12_comesOn_91 ?_
                refine g_iload_n dX12_comesOn_94 rfl ?_
                refine g_iconst dX12_comesOn_95 ?_
                refine g_isub dX12_comesOn_96 ?_
                refine m_l1 (z := (P 1 (a1 - 2))) dX12_comesOn_97 ⟨by omega, by omega⟩ rfl ?_
                refine g_iconst dX12_comesOn_98 ?_
                have f1701 := bl_1 (k := (a1 - 2)) hB
                refine g_icmp_lt (tgt := 104) dX12_comesOn_99 (by decide) ⟨by have q0 := bl_1 (k := (a1 - 2)) hB; omega, by have q0 := bl_1 (k := (a1 - 2)) hB; omega⟩ (by decide) (fun k1702 => ?_) (fun k1702 => ?_)
                · refine g_aload_n dX12_comesOn_104 rfl ?_
                  refine g_iconst dX12_comesOn_105 ?_
                  refine g_iconst dX12_comesOn_106 ?_
                  refine g_vV (av := [vI 1, vI 0]) (o := 0) (st := []) (m_X12_copies G P 1 0 (by decide) (by decide) hB  _ (fun Pc1703 hBc1703 hFc1703 gc1703_o => ⟨rfl, ?_⟩)) cf_X12_copies t_1859 rfl (by decide) rfl rfl rfl (Nat.le_of_ble_eq_true rfl) (by decide) rfl dX12_comesOn_107
                  refine g_aload_n dX12_comesOn_110 rfl ?_
                  refine m_g53 rfl dX12_comesOn_111 ?_
                  refine g_iconst dX12_comesOn_114 ?_
                  refine g_aload_n dX12_comesOn_115 rfl ?_
                  refine m_g0 rfl dX12_comesOn_116 ?_
                  refine g_iconst dX12_comesOn_119 ?_
                  refine m_l1 (z := (P 1 0)) dX12_comesOn_120 (by decide) ((congrFun (hFc1703.2 1 rfl rfl) _).trans rfl) ?_
                  refine m_s35 dX12_comesOn_121 (by decide) ?_
                  have hB1704 := ba_35 (z := (P 1 0)) (k := 1) hBc1703 ⟨by have q0 := bl_1 (k := 0) hB; omega, by have q0 := bl_1 (k := 0) hB; omega⟩
                  refine g_iconst dX12_comesOn_122 ?_
                  refine g_istore_n (l1 := [(3, vI 0), (0, vR 0), (1, vI a1), (2, vI x50_2_7)]) dX12_comesOn_123 (by decide) rfl ?_
                  refine g_iconst dX12_comesOn_124 ?_
                  refine g_istore (l1 := [(4, vI 0), (3, vI 0), (0, vR 0), (1, vI a1), (2, vI x50_2_7)]) dX12_comesOn_125 (by decide) rfl ?_
                  have L127_1704 : ∀ (n127_1704 : Nat) (x127_4_1704 : Int) (h_x127_4_1704 : 0 ≤ x127_4_1704 ∧ x127_4_1704 ≤ 12) (x127_3_1704 : Int) (h_x127_3_1704 : 0 ≤ x127_3_1704 ∧ x127_3_1704 ≤ 4095) (H127_1704 : PH) (hB127_1704 : BdM H127_1704) (hE127_1704 : FrM ([], [36]) (up Pc1703 35 1 (P 1 0)) H127_1704) (hm127_1704 : ((13 - x127_4_1704) : Int).toNat < n127_1704), Go WSM G 2 iX12_comesOn 127 [(0, vR 0), (1, vI a1), (3, vI x127_3_1704), (4, vI x127_4_1704)] [] H127_1704 Q := by
                    intro n127_1704
                    induction n127_1704 with
                    | zero => intro x127_4_1704 h_x127_4_1704 x127_3_1704 h_x127_3_1704 H127_1704 hB127_1704 hE127_1704 hm127_1704; exact absurd hm127_1704 (Nat.not_lt_zero _)
                    | succ n127_1704 ih127_1704 =>
                    intro x127_4_1704 h_x127_4_1704 x127_3_1704 h_x127_3_1704 H127_1704 hB127_1704 hE127_1704 hm127_1704
                    refine g_iload dX12_comesOn_127 rfl ?_
                    refine g_aload_n dX12_comesOn_129 rfl ?_
                    refine m_g0 rfl dX12_comesOn_130 ?_
                    refine g_iconst dX12_comesOn_133 ?_
                    refine m_l1 (z := (P 1 0)) dX12_comesOn_134 (by decide) ((congrFun (hE127_1704.2 1 rfl rfl) _).trans ((up_o (by decide)).trans ((congrFun (hFc1703.2 1 rfl rfl) _).trans rfl))) ?_
                    refine g_icmp_ge (tgt := 200) dX12_comesOn_135 (by decide) ⟨by omega, by omega⟩ ⟨by have q0 := bl_1 (k := 0) hB; omega, by have q0 := bl_1 (k := 0) hB; omega⟩ (fun k1838 => ?_) (fun k1838 => ?_)
                    · refine g_aload_n dX12_comesOn_200 rfl ?_
                      refine m_g55 rfl dX12_comesOn_201 ?_
                      refine g_iconst dX12_comesOn_204 ?_
                      refine g_aload_n dX12_comesOn_205 rfl ?_
                      refine m_g0 rfl dX12_comesOn_206 ?_
                      refine g_iload_n dX12_comesOn_209 rfl ?_
                      refine g_iconst dX12_comesOn_210 ?_
                      refine g_isub dX12_comesOn_211 ?_
                      refine m_l1 (z := (P 1 (a1 - 3))) dX12_comesOn_212 ⟨by omega, by omega⟩ ((congrFun (hE127_1704.2 1 rfl rfl) _).trans ((up_o (by decide)).trans ((congrFun (hFc1703.2 1 rfl rfl) _).trans rfl))) ?_
                      refine m_s37 dX12_comesOn_213 (by decide) ?_
                      have hB1839 := ba_37 (z := (P 1 (a1 - 3))) (k := 1) hB127_1704 ⟨by have q0 := bl_1 (k := (a1 - 3)) hB; omega, by have q0 := bl_1 (k := (a1 - 3)) hB; omega⟩
                      refine g_aload_n dX12_comesOn_214 rfl ?_
                      refine m_g56 rfl dX12_comesOn_215 ?_
                      refine g_iconst dX12_comesOn_218 ?_
                      refine g_aload_n dX12_comesOn_219 rfl ?_
                      refine m_g0 rfl dX12_comesOn_220 ?_
                      refine g_iload_n dX12_comesOn_223 rfl ?_
                      refine g_iconst dX12_comesOn_224 ?_
                      refine g_isub dX12_comesOn_225 ?_
                      refine m_l1 (z := (P 1 (a1 - 2))) dX12_comesOn_226 ⟨by omega, by omega⟩ ((up_o (by decide)).trans ((congrFun (hE127_1704.2 1 rfl rfl) _).trans ((up_o (by decide)).trans ((congrFun (hFc1703.2 1 rfl rfl) _).trans rfl)))) ?_
                      refine m_s38 dX12_comesOn_227 (by decide) ?_
                      have hB1840 := ba_38 (z := (P 1 (a1 - 2))) (k := 1) hB1839 ⟨by have q0 := bl_1 (k := (a1 - 2)) hB; omega, by have q0 := bl_1 (k := (a1 - 2)) hB; omega⟩
                      refine g_aload_n dX12_comesOn_228 rfl ?_
                      refine m_g57 rfl dX12_comesOn_229 ?_
                      refine g_iconst dX12_comesOn_232 ?_
                      refine g_iconst dX12_comesOn_233 ?_
                      refine m_s39 dX12_comesOn_234 (by decide) ?_
                      have hB1841 := ba_39 (z := 0) (k := 1) hB1840 (by decide)
                      refine g_iconst dX12_comesOn_235 ?_
                      exact g_retZ dX12_comesOn_236 rfl (by decide) (hQ 1 (by decide) _ hB1841 (FrM.a (FrM.a (FrM.a (FrM.c (FrM.a (FrM.c FrM.rf hFc1703 rfl) rfl rfl) hE127_1704 rfl) rfl rfl) rfl rfl) rfl rfl) )
                    · refine g_aload_n dX12_comesOn_138 rfl ?_
                      refine m_g0 rfl dX12_comesOn_139 ?_
                      refine g_iconst dX12_comesOn_142 ?_
                      refine g_iload dX12_comesOn_143 rfl ?_
                      refine g_iadd dX12_comesOn_145 ?_
                      refine m_l1 (z := (P 1 (1 + x127_4_1704))) dX12_comesOn_146 ⟨by omega, by omega⟩ ((congrFun (hE127_1704.2 1 rfl rfl) _).trans ((up_o (by decide)).trans ((congrFun (hFc1703.2 1 rfl rfl) _).trans rfl))) ?_
                      refine g_istore (l1 := [(5, vI (P 1 (1 + x127_4_1704))), (0, vR 0), (1, vI a1), (3, vI x127_3_1704), (4, vI x127_4_1704)]) dX12_comesOn_147 (by decide) rfl ?_
                      refine g_iload dX12_comesOn_149 rfl ?_
                      refine g_aload_n dX12_comesOn_151 rfl ?_
                      refine m_g25 rfl dX12_comesOn_152 ?_
                      refine g_aload_n dX12_comesOn_155 rfl ?_
                      refine m_g13 (z := (P 0 13)) rfl dX12_comesOn_156 ((hE127_1704.1 13 rfl).trans ((up_o (by decide)).trans ((hFc1703.1 13 rfl).trans rfl))) ?_
                      refine m_l13 (z := (P 13 (P 0 13))) dX12_comesOn_159 ⟨by have q0 := b0_13 hB; omega, by have q0 := b0_13 hB; omega⟩ ((congrFun (hE127_1704.2 13 rfl rfl) _).trans ((up_o (by decide)).trans ((congrFun (hFc1703.2 13 rfl rfl) _).trans rfl))) ?_
                      have f1842 := bl_1 (k := (1 + x127_4_1704)) hB
                      refine g_icmp_ge (tgt := 173) dX12_comesOn_160 (by decide) ⟨by have q0 := bl_1 (k := (1 + x127_4_1704)) hB; omega, by have q0 := bl_1 (k := (1 + x127_4_1704)) hB; omega⟩ ⟨by have q0 := bl_13 (k := (P 0 13)) hB; omega, by have q0 := bl_13 (k := (P 0 13)) hB; omega⟩ (fun k1843 => ?_) (fun k1843 => ?_)
                      · refine g_iconst dX12_comesOn_173 ?_
                        exact g_retZ dX12_comesOn_174 rfl (by decide) (hQ 0 (by decide) _ hB127_1704 (FrM.c (FrM.a (FrM.c FrM.rf hFc1703 rfl) rfl rfl) hE127_1704 rfl) )
                      · refine g_iload_n dX12_comesOn_163 rfl ?_
                        refine g_iload dX12_comesOn_164 rfl ?_
                        refine g_ishr dX12_comesOn_166 ?_
                        refine g_nm (fun b1844 e_b1844 => ?_)
                        have h_b1844 := ishr_ir x127_3_1704 (P 1 (1 + x127_4_1704))
                        rw [← e_b1844] at h_b1844
                        have f_b1844_0 := bl_1 (k := (1 + x127_4_1704)) hB
                        refine g_iconst dX12_comesOn_167 ?_
                        refine g_iand dX12_comesOn_168 ?_
                        refine g_nm (fun b1845 e_b1845 => ?_)
                        have h_b1845 := iand_r (x := b1844) (y := 1) ⟨by omega, by omega⟩
                        rw [← e_b1845] at h_b1845
                        refine g_iconst dX12_comesOn_169 ?_
                        refine g_icmp_ne (tgt := 175) dX12_comesOn_170 (by decide) ⟨by omega, by omega⟩ (by decide) (fun k1846 => ?_) (fun k1846 => ?_)
                        · refine g_iload_n dX12_comesOn_175 rfl ?_
                          refine g_iconst dX12_comesOn_176 ?_
                          refine g_iload dX12_comesOn_177 rfl ?_
                          refine g_ishl dX12_comesOn_179 ?_
                          refine g_nm (fun b1847 e_b1847 => ?_)
                          have h_b1847 : 1 ≤ (ishl 1 (P 1 (1 + x127_4_1704))) ∧ (ishl 1 (P 1 (1 + x127_4_1704))) ≤ 2048 := (ishl1 11 (by decide) (y := (P 1 (1 + x127_4_1704))) ⟨by have q0 := bl_1 (k := (1 + x127_4_1704)) hB; omega, by have q0 := bl_1 (k := (1 + x127_4_1704)) hB; omega⟩).2
                          rw [← e_b1847] at h_b1847
                          refine g_ior dX12_comesOn_180 ?_
                          refine g_nm (fun b1848 e_b1848 => ?_)
                          have h_b1848 : 0 ≤ (ior x127_3_1704 b1847) ∧ (ior x127_3_1704 b1847) < 4096 := ior_b 12 (by decide) (x := x127_3_1704) (y := b1847) (show 0 ≤ x127_3_1704 ∧ x127_3_1704 < 4096 from ⟨by omega, by omega⟩) (show 0 ≤ b1847 ∧ b1847 < 4096 from ⟨by omega, by omega⟩)
                          rw [← e_b1848] at h_b1848
                          refine g_istore_n (l1 := [(3, vI b1848), (5, vI (P 1 (1 + x127_4_1704))), (0, vR 0), (1, vI a1), (4, vI x127_4_1704)]) dX12_comesOn_181 (by decide) rfl ?_
                          refine g_aload_n dX12_comesOn_182 rfl ?_
                          refine m_g54 rfl dX12_comesOn_183 ?_
                          refine g_bipush dX12_comesOn_186 (by decide) ?_
                          refine g_iload dX12_comesOn_188 rfl ?_
                          refine g_iadd dX12_comesOn_190 ?_
                          refine g_iload dX12_comesOn_191 rfl ?_
                          refine m_s36 dX12_comesOn_193 ⟨by omega, by omega⟩ ?_
                          have hB1849 := ba_36 (z := (P 1 (1 + x127_4_1704))) (k := (12 + x127_4_1704)) hB127_1704 ⟨by have q0 := bl_1 (k := (1 + x127_4_1704)) hB; omega, by have q0 := bl_1 (k := (1 + x127_4_1704)) hB; omega⟩
                          refine g_iinc (l1 := [(4, vI (x127_4_1704 + 1)), (3, vI b1848), (5, vI (P 1 (1 + x127_4_1704))), (0, vR 0), (1, vI a1)]) dX12_comesOn_194 rfl (by decide) rfl ?_
                          refine g_goto (tgt := 127) dX12_comesOn_197 (by decide) ?_
                          refine g_forget (l1 := [(0, vR 0), (1, vI a1), (3, vI b1848), (4, vI (x127_4_1704 + 1))]) (by intro q hq; simp only [List.mem_cons, List.not_mem_nil, or_false] at hq ⊢; rcases hq with rfl | rfl | rfl | rfl <;> simp) ?_
                          exact ih127_1704 (x127_4_1704 + 1) ⟨by omega, by omega⟩ b1848 ⟨by omega, by omega⟩ _ hB1849 (FrM.a (FrM.c FrM.rf hE127_1704 rfl) rfl rfl) (by omega)
                        · refine g_iconst dX12_comesOn_173 ?_
                          exact g_retZ dX12_comesOn_174 rfl (by decide) (hQ 0 (by decide) _ hB127_1704 (FrM.c (FrM.a (FrM.c FrM.rf hFc1703 rfl) rfl rfl) hE127_1704 rfl) )
                  refine g_forget (l1 := [(0, vR 0), (1, vI a1), (3, vI 0), (4, vI 0)]) (by intro q hq; simp only [List.mem_cons, List.not_mem_nil, or_false] at hq ⊢; rcases hq with rfl | rfl | rfl | rfl <;> simp) ?_
                  exact L127_1704 _ 0 (by decide) 0 (by decide) _ hB1704 FrM.rf (Nat.lt_succ_self _)
                · refine g_iconst dX12_comesOn_102 ?_
                  exact g_retZ dX12_comesOn_103 rfl (by decide) (hQ 0 (by decide) _ hB FrM.rf )
            · refine g_iconst dX12_comesOn_57 ?_
              refine g_iload_n dX12_comesOn_58 rfl ?_
              refine g_imul dX12_comesOn_59 ?_
              refine g_aload_n dX12_comesOn_60 rfl ?_
              refine m_g0 rfl dX12_comesOn_61 ?_
              refine g_iload_n dX12_comesOn_64 rfl ?_
              refine m_l1 (z := (P 1 x50_3_7)) dX12_comesOn_65 ⟨by omega, by omega⟩ rfl ?_
              refine g_iadd dX12_comesOn_66 ?_
              refine g_sipush dX12_comesOn_67 (by decide) ?_
              refine g_irem dX12_comesOn_70 ⟨(by decide), by decide⟩ ?_
              refine g_nm (fun b1850 e_b1850 => ?_)
              have h_b1850 := irem_b (x := ((5 * x50_2_7) + (P 1 x50_3_7))) (y := 251) ⟨by have q0 := bl_1 (k := x50_3_7) hB; omega, by have q0 := bl_1 (k := x50_3_7) hB; omega⟩ ⟨by omega, by omega⟩
              rw [← e_b1850] at h_b1850
              have f_b1850_0 := bl_1 (k := x50_3_7) hB
              refine g_istore_n (l1 := [(2, vI b1850), (0, vR 0), (1, vI a1), (3, vI x50_3_7)]) dX12_comesOn_71 (by decide) rfl ?_
              refine g_iinc (l1 := [(3, vI (x50_3_7 + 1)), (2, vI b1850), (0, vR 0), (1, vI a1)]) dX12_comesOn_72 rfl (by decide) rfl ?_
              refine g_goto (tgt := 50) dX12_comesOn_75 (by decide) ?_
              refine g_forget (l1 := [(0, vR 0), (1, vI a1), (2, vI b1850), (3, vI (x50_3_7 + 1))]) (by intro q hq; simp only [List.mem_cons, List.not_mem_nil, or_false] at hq ⊢; rcases hq with rfl | rfl | rfl | rfl <;> simp) ?_
              exact ih50_7 (x50_3_7 + 1) ⟨by omega, by omega⟩ b1850 ⟨by omega, by omega⟩ (by omega)
          refine g_forget (l1 := [(0, vR 0), (1, vI a1), (2, vI 199), (3, vI 0)]) (by intro q hq; simp only [List.mem_cons, List.not_mem_nil, or_false] at hq ⊢; rcases hq with rfl | rfl | rfl | rfl <;> simp) ?_
          exact L50_7 _ 0 (by decide) 199 (by decide) (Nat.lt_succ_self _)
        · refine g_iconst dX12_comesOn_42 ?_
          exact g_retZ dX12_comesOn_43 rfl (by decide) (hQ 0 (by decide) _ hB FrM.rf )
set_option maxRecDepth 100000 in
set_option maxHeartbeats 4000000 in
theorem m_X12_on (G : GT) (P : PH) (hB : BdM P) (Q : Option PV → PH → Prop) (hQ : ∀ (r : Int) (_ : 0 ≤ r ∧ r ≤ 1) (P1 : PH) (_ : BdM P1) (_ : FrM ([1, 60], [28, 35, 36, 37, 38, 39, 40]) P P1) (_ : P1 0 1 = 0), Q (some (vI r)) P1) : Ct WSM G 3 iX12_on [vR 0] P Q := by
  refine Ct.of (by decide) (l0 := [(0, vR 0)]) rfl (Nat.le_of_ble_eq_true rfl) ?_
  refine g_aload_n dX12_on_0 rfl ?_
  refine m_g1 (z := (P 0 1)) rfl dX12_on_1 rfl ?_
  refine g_istore_n (l1 := [(1, vI (P 0 1)), (0, vR 0)]) dX12_on_4 (by decide) rfl ?_
  refine g_aload_n dX12_on_5 rfl ?_
  refine g_iconst dX12_on_6 ?_
  refine m_p1 rfl dX12_on_7 ?_
  have hB1 := bs_1 (z := 0) hB (by decide)
  refine g_aload_n dX12_on_10 rfl ?_
  refine g_iload_n dX12_on_11 rfl ?_
  have f2 := b0_1 hB
  refine g_vI (av := [vI (P 0 1)]) (o := 0) (st := []) (m_X12_comesOn G (up P 0 1 0) (P 0 1) ⟨by have q0 := b0_1 hB; omega, by have q0 := b0_1 hB; omega⟩ hB1  _ (fun rc3 hc3 Pc3 hBc3 hFc3 => ⟨rc3, rfl, ?_⟩)) cf_X12_comesOn t_2184 rfl (by decide) rfl rfl rfl (Nat.le_of_ble_eq_true rfl) (by decide) rfl dX12_on_12
  refine g_if_ne (tgt := 32) dX12_on_15 (by decide) ⟨by omega, by omega⟩ (fun k4 => ?_) (fun k4 => ?_)
  · refine g_aload_n dX12_on_32 rfl ?_
    refine g_iconst dX12_on_33 ?_
    refine g_iconst dX12_on_34 ?_
    refine g_vV (av := [vI 0, vI 1]) (o := 0) (st := []) (m_X12_copies G Pc3 0 1 (by decide) (by decide) hBc3  _ (fun Pc5 hBc5 hFc5 gc5_o => ⟨rfl, ?_⟩)) cf_X12_copies t_1859 rfl (by decide) rfl rfl rfl (Nat.le_of_ble_eq_true rfl) (by decide) rfl dX12_on_35
    refine g_aload_n dX12_on_38 rfl ?_
    refine g_iconst dX12_on_39 ?_
    refine m_p60 rfl dX12_on_40 ?_
    have hB6 := bs_60 (z := 0) hBc5 (by decide)
    refine g_iconst dX12_on_43 ?_
    exact g_retZ dX12_on_44 rfl (by decide) (hQ 1 (by decide) _ hB6 (FrM.s (FrM.c (FrM.c (FrM.s FrM.rf rfl) hFc3 rfl) hFc5 rfl) rfl) (by have q0 := (((up_k (by decide)).trans ((hFc5.1 1 rfl).trans ((hFc3.1 1 rfl).trans up_same))) : (up Pc5 0 60 0) 0 1 = 0); omega))
  · refine g_aload_n dX12_on_18 rfl ?_
    refine g_iconst dX12_on_19 ?_
    refine g_vI (av := [vI 5]) (o := 0) (st := []) (m_X12_refuses G Pc3 5 (by decide) hBc3  _ (fun rc7 hc7 Pc7 hBc7 hFc7 => ⟨rc7, rfl, ?_⟩)) cf_X12_refuses t_1667 rfl (by decide) rfl rfl rfl (Nat.le_of_ble_eq_true rfl) (by decide) rfl dX12_on_20
    refine g_if_lt (tgt := 30) dX12_on_23 (by decide) ⟨by omega, by omega⟩ (fun k8 => ?_) (fun k8 => by exfalso; omega)
    refine g_iconst dX12_on_30 ?_
    exact g_retZ dX12_on_31 rfl (by decide) (hQ 0 (by decide) _ hBc7 (FrM.c (FrM.c (FrM.s FrM.rf rfl) hFc3 rfl) hFc7 rfl) (by have q0 := (((hFc7.1 1 rfl).trans ((hFc3.1 1 rfl).trans up_same)) : Pc7 0 1 = 0); omega))
end
