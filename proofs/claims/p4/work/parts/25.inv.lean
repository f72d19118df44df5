/-! Invariants of the reference. -/
def disF (F s : FS) : Bool := s.1.all (fun k => !F.1.contains k) && s.2.all (fun k => !F.2.contains k)
/-- which column a node may ask for: none, or one that is left there -/
def mok (left c : Int) : Prop := c = 4 ∨ (0 ≤ c ∧ c ≤ 3 ∧ iand (ishr (left / 4096) c) 1 = 1)
def okC (P : PH) : Prop := ∀ c : Int, 0 ≤ c → c < P 11 (P 0 13) → P 12 ((4 * P 0 13) + c) = 4 ∨ 1 ≤ P 3 ((4 * P 0 13) + P 12 ((4 * P 0 13) + c))
theorem okC.fr {P P1 : PH} {F : FS} (h : okC P) (hf : FrM F P P1) (hd : disF F ([13], [3, 11, 12]) = true) : okC P1 := by
  unfold disF at hd
  simp only [List.all_cons, List.all_nil, Bool.and_true, Bool.and_eq_true, Bool.not_eq_true'] at hd
  unfold okC at h ⊢
  rw [hf.1 13 hd.1, hf.2 3 rfl hd.2.1, hf.2 11 rfl hd.2.2.1, hf.2 12 rfl hd.2.2.2]
  exact h
def okR (P : PH) : Prop := P 0 44 = 0 ∨ 1 ≤ P 0 52
theorem okR.fr {P P1 : PH} {F : FS} (h : okR P) (hf : FrM F P P1) (hd : disF F ([44, 52], []) = true) : okR P1 := by
  unfold disF at hd
  simp only [List.all_cons, List.all_nil, Bool.and_true, Bool.and_eq_true, Bool.not_eq_true'] at hd
  unfold okR at h ⊢
  rw [hf.1 44 hd.1, hf.1 52 hd.2]
  exact h
def MV (P : PH) : Prop := ∀ k : Int, 0 ≤ P 49 k ∧ P 49 k / 8 ≤ P 0 74 ∧ (P 49 k / 8 = P 0 74 → mok k (P 49 k % 8))
theorem MV.fr {P P1 : PH} {F : FS} (h : MV P) (hf : FrM F P P1) (hd : disF F ([74], [49]) = true) : MV P1 := by
  unfold disF at hd
  simp only [List.all_cons, List.all_nil, Bool.and_true, Bool.and_eq_true, Bool.not_eq_true'] at hd
  unfold MV at h ⊢
  rw [hf.1 74 hd.1, hf.2 49 rfl hd.2]
  exact h
def RE (P : PH) : Prop := ∀ k : Int, P 51 k ≤ P 0 74
theorem RE.fr {P P1 : PH} {F : FS} (h : RE P) (hf : FrM F P P1) (hd : disF F ([74], [51]) = true) : RE P1 := by
  unfold disF at hd
  simp only [List.all_cons, List.all_nil, Bool.and_true, Bool.and_eq_true, Bool.not_eq_true'] at hd
  unfold RE at h ⊢
  rw [hf.1 74 hd.1, hf.2 51 rfl hd.2]
  exact h
theorem MV.next {P P1 : PH} {F : FS} (h : MV P) (hf : FrM F P P1) (h49 : F.2.contains 49 = false) (hs : P1 0 74 = P 0 74 + 1) : MV P1 := by
  intro k
  have e := hf.2 49 rfl h49
  have h1 := h k
  rw [e, hs]
  exact ⟨h1.1, by omega, fun q => by omega⟩
theorem RE.next {P P1 : PH} {F : FS} (h : RE P) (hf : FrM F P P1) (h51 : F.2.contains 51 = false) (hs : P1 0 74 = P 0 74 + 1) : RE P1 := by
  intro k
  have e := hf.2 51 rfl h51
  have h1 := h k
  rw [e, hs]
  omega
