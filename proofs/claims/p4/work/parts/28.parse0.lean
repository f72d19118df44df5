/-! What emits and later do, said once. -/
/-- a code is emitted -/
def EM (op a b : Int) (P P1 : PH) : Prop := P1 0 36 = P 0 36 + 1 ∧ (∀ j : Int, j ≠ 2800 * P 0 37 + P 0 36 → P1 19 j = P 19 j ∧ P1 20 j = P 20 j ∧ P1 21 j = P 21 j) ∧ P1 19 (2800 * P 0 37 + P 0 36) = op ∧ P1 20 (2800 * P 0 37 + P 0 36) = a ∧ P1 21 (2800 * P 0 37 + P 0 36) = b
/-- something is put on the pile -/
def LA (k v : Int) (P P1 : PH) : Prop := P1 0 73 = P 0 73 + 1 ∧ (∀ j : Int, j ≠ P 0 73 → P1 47 j = P 47 j ∧ P1 48 j = P 48 j) ∧ P1 47 (P 0 73) = k ∧ P1 48 (P 0 73) = v
/-- how many values a kind has -/
def vals (P : PH) (b k : Int) : Int := if k = 4 then 20 else P 3 (4 * b + k)
theorem vals_of {P : PH} {b k r : Int} (h : (k = 4 ∧ r = 20) ∨ (k < 4 ∧ r = P 3 (4 * b + k))) : r = vals P b k := by
  unfold vals
  rcases h with ⟨h, e⟩ | ⟨h, e⟩
  · rw [if_pos h]; exact e
  · rw [if_neg (by omega)]; exact e
theorem vals_eq {P P1 : PH} {b k : Int} (h : k ≠ 4 → P1 3 (4 * b + k) = P 3 (4 * b + k)) : vals P1 b k = vals P b k := by
  unfold vals
  by_cases e : k = 4
  · rw [if_pos e, if_pos e]
  · rw [if_neg e, if_neg e]; exact h e
theorem vals_row {P P1 : PH} {b k : Int} (h : P1 3 = P 3) : vals P1 b k = vals P b k := vals_eq fun _ => congrFun h _
/-- what is known of the choices before the first stamp -/
def MVw (P : PH) : Prop := ∀ k : Int, 0 ≤ P 49 k ∧ P 49 k / 8 ≤ P 0 74
theorem MVw.fr {P P1 : PH} {F : FS} (h : MVw P) (hf : FrM F P P1) (hd : disF F ([74], [49]) = true) : MVw P1 := by
  unfold disF at hd
  simp only [List.all_cons, List.all_nil, Bool.and_true, Bool.true_and, Bool.and_eq_true, Bool.not_eq_true'] at hd
  unfold MVw at h ⊢
  rw [hf.1 74 hd.1, hf.2 49 rfl hd.2]
  exact h
theorem MV.w {P : PH} (h : MV P) : MVw P := fun k => ⟨(h k).1, (h k).2.1⟩
theorem MVw.next {P P1 : PH} {F : FS} (h : MVw P) (hf : FrM F P P1) (h49 : F.2.contains 49 = false) (hs : P1 0 74 = P 0 74 + 1) : MV P1 := by
  intro k
  have e := hf.2 49 rfl h49
  have h1 := h k
  rw [e, hs]
  exact ⟨h1.1, by omega, fun q => by omega⟩
