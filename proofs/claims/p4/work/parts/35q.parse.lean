/-! What the reference's parser keeps of its tables. -/
/-- values and cons of a kind -/
def KVP (P : PH) : Prop := ∀ k : Int, P 3 k ≤ 2000 + P 4 k ∧ (P 4 k = 0 ∨ 1 ≤ P 3 k)
theorem KVP.fr {P P1 : PH} {F : FS} (h : KVP P) (hf : FrM F P P1) (hd : disF F ([], [3, 4]) = true) : KVP P1 := by
  unfold disF at hd
  simp only [List.all_cons, List.all_nil, Bool.and_true, Bool.true_and, Bool.and_eq_true, Bool.not_eq_true'] at hd
  unfold KVP at h ⊢
  rw [hf.2 3 rfl hd.1, hf.2 4 rfl hd.2]
  exact h
theorem KVP.step {P P1 : PH} {i : Int} (h : KVP P) (o3 : ∀ j : Int, j ≠ i → P1 3 j = P 3 j) (o4 : ∀ j : Int, j ≠ i → P1 4 j = P 4 j) (e : P1 3 i ≤ 2000 + P1 4 i ∧ (P1 4 i = 0 ∨ 1 ≤ P1 3 i)) : KVP P1 := by
  intro k
  by_cases hk : k = i
  · subst hk; exact e
  · rw [o3 k hk, o4 k hk]; exact h k
/-- how many cons there can be -/
def KC (P : PH) : Prop := (P 2 (P 0 37) = 0 ∧ P 5 (P 0 37) = 0) ∨ (1 ≤ P 2 (P 0 37) ∧ P 5 (P 0 37) ≤ 6 * P 2 (P 0 37) - 6 + P 4 (4 * P 0 37 + (P 2 (P 0 37) - 1)))
theorem KC.fr {P P1 : PH} {F : FS} (h : KC P) (hf : FrM F P P1) (hd : disF F ([37], [2, 4, 5]) = true) : KC P1 := by
  unfold disF at hd
  simp only [List.all_cons, List.all_nil, Bool.and_true, Bool.and_eq_true, Bool.not_eq_true'] at hd
  unfold KC at h ⊢
  rw [hf.1 37 hd.1, hf.2 2 rfl hd.2.1, hf.2 4 rfl hd.2.2.1, hf.2 5 rfl hd.2.2.2]
  exact h
theorem KC.kind {P P1 : PH} (h : KC P) (hb : BdM P) (e37 : P1 0 37 = P 0 37) (e2 : P1 2 (P 0 37) = P 2 (P 0 37) + 1) (e5 : P1 5 (P 0 37) = P 5 (P 0 37)) (e4 : P1 4 (4 * P 0 37 + P 2 (P 0 37)) = 0) : KC P1 := by
  unfold KC at h ⊢
  rw [e37, e2, e5, show 4 * P 0 37 + (P 2 (P 0 37) + 1 - 1) = 4 * P 0 37 + P 2 (P 0 37) by omega, e4]
  have q := bl_4 (k := 4 * P 0 37 + (P 2 (P 0 37) - 1)) hb
  rcases h with h | h
  · right; omega
  · right; omega
theorem KC.con {P P1 : PH} (h : KC P) (hk : 1 ≤ P 2 (P 0 37)) (e37 : P1 0 37 = P 0 37) (e2 : P1 2 (P 0 37) = P 2 (P 0 37)) (e5 : P1 5 (P 0 37) = P 5 (P 0 37) + 1) (e4 : P1 4 (4 * P 0 37 + (P 2 (P 0 37) - 1)) = P 4 (4 * P 0 37 + (P 2 (P 0 37) - 1)) + 1) : KC P1 := by
  unfold KC at h ⊢
  rw [e37, e2, e5, e4]
  right
  rcases h with h | h <;> omega
/-- a con's fields are of kinds before its own, or numbers -/
def CF (P : PH) : Prop := ∀ c f : Int, 0 ≤ f → f < P 7 c → P 8 (2 * c + f) = 4 ∨ P 8 (2 * c + f) < P 6 c
theorem CF.fr {P P1 : PH} {F : FS} (h : CF P) (hf : FrM F P P1) (hd : disF F ([], [6, 7, 8]) = true) : CF P1 := by
  unfold disF at hd
  simp only [List.all_cons, List.all_nil, Bool.and_true, Bool.true_and, Bool.and_eq_true, Bool.not_eq_true'] at hd
  unfold CF at h ⊢
  rw [hf.2 6 rfl hd.1, hf.2 7 rfl hd.2.1, hf.2 8 rfl hd.2.2]
  exact h
theorem CF.new {P P1 : PH} {c : Int} (h : CF P) (o6 : ∀ j : Int, j ≠ c → P1 6 j = P 6 j) (o7 : ∀ j : Int, j ≠ c → P1 7 j = P 7 j) (o8 : ∀ j : Int, P1 8 j = P 8 j) (e7 : P1 7 c = 0) : CF P1 := by
  intro d f h0 h1
  by_cases e : d = c
  · subst e; rw [e7] at h1; omega
  · rw [o7 d e] at h1; rw [o6 d e, o8]; exact h d f h0 h1
theorem CF.field {P P1 : PH} {c z : Int} (h : CF P) (hb : BdM P) (h7 : P 7 c ≤ 1) (e6 : ∀ j : Int, P1 6 j = P 6 j) (o7 : ∀ j : Int, j ≠ c → P1 7 j = P 7 j) (e7 : P1 7 c = P 7 c + 1) (o8 : ∀ j : Int, j ≠ 2 * c + P 7 c → P1 8 j = P 8 j) (e8 : P1 8 (2 * c + P 7 c) = z) (hz : z = 4 ∨ z < P 6 c) : CF P1 := by
  intro d f h0 h1
  have q7 := bl_7 (k := d) hb
  have q7c := bl_7 (k := c) hb
  by_cases e : d = c
  · subst e
    rw [e7] at h1
    rw [e6]
    rcases (show f = P 7 d ∨ f < P 7 d by omega) with e | e
    · rw [e, e8]; exact hz
    · rw [o8 _ (by omega)]; exact h d f h0 e
  · rw [o7 d e] at h1
    rw [e6, o8 _ (by omega)]
    exact h d f h0 h1
theorem mul_b {a b A B : Int} (ha : 1 ≤ a ∧ a ≤ A) (hb : 1 ≤ b ∧ b ≤ B) : 1 ≤ a * b ∧ a * b ≤ A * B := by
  have h1 : 1 * 1 ≤ a * b := Int.mul_le_mul ha.1 hb.1 (by omega) (by omega)
  have h2 : a * b ≤ A * B := Int.mul_le_mul ha.2 hb.2 (by omega) (by omega)
  omega
