/-! The reference's picture of a text, of the token ahead, of the tables told. -/
theorem disF_k {F s : FS} {P P1 : PH} (hd : disF F s = true) (hf : FrM F P P1) {k : Int} (hk : k ∈ s.1) : P1 0 k = P 0 k := by
  unfold disF at hd
  rw [Bool.and_eq_true] at hd
  refine hf.1 k ?_
  have := List.all_eq_true.mp hd.1 k hk
  simpa using this
theorem disF_o {F s : FS} {P P1 : PH} (hd : disF F s = true) (hf : FrM F P P1) {o : Nat} (ho : o ∈ s.2) (h0 : (o == 0) = false) : P1 o = P o := by
  unfold disF at hd
  rw [Bool.and_eq_true] at hd
  refine hf.2 o h0 ?_
  have := List.all_eq_true.mp hd.2 o ho
  simpa using this
/-- a predicate that holds where a number is 0 -/
def CP (f : Int) (p : PH → Prop) (P : PH) : Prop := f = 0 → p P
/-- the text -/
def MT (T : TT) (P : PH) : Prop := P 0 2 = T.2 ∧ ∀ i : Int, 0 ≤ i → i < T.2 → P 1 i = T.1 i
theorem MT.fr {T : TT} {P P1 : PH} {F : FS} (h : MT T P) (hf : FrM F P P1) (hd : disF F ([2], [1]) = true) : MT T P1 := by
  unfold MT at h ⊢
  rw [disF_k hd hf (k := 2) (by decide), disF_o hd hf (o := 1) (by decide) rfl]
  exact h
/-- the token ahead, behind place p -/
def MS (T : TT) (p : Int) (P : PH) : Prop := P 0 4 = tA T p ∧ 0 ≤ p ∧ p ≤ T.2 ∧ (tK T p = 4 → P 0 12 = tS T p ∧ P 0 12 ≠ -1 ∧ P 0 3 ≠ 0) ∧ (tK T p ≠ 4 → P 0 12 = -1 ∧ P 0 3 = tK T p ∧ P 0 5 = tE T p) ∧ (tK T p = 2 ∨ tK T p = 3 → P 0 6 = tV T p) ∧ (tK T p = 1 → P 0 7 = tW T p)
theorem MS.fr {T : TT} {p : Int} {P P1 : PH} {F : FS} (h : MS T p P) (hf : FrM F P P1) (hd : disF F ([3, 4, 5, 6, 7, 12], []) = true) : MS T p P1 := by
  unfold MS at h ⊢
  rw [disF_k hd hf (k := 3) (by decide), disF_k hd hf (k := 4) (by decide), disF_k hd hf (k := 5) (by decide), disF_k hd hf (k := 6) (by decide), disF_k hd hf (k := 7) (by decide), disF_k hd hf (k := 12) (by decide)]
  exact h
theorem MS.at {T : TT} {p : Int} {P : PH} (h : MS T p P) : P 0 4 = tA T p ∧ 0 ≤ p ∧ p ≤ T.2 := ⟨h.1, h.2.1, h.2.2.1⟩
theorem MS.bad {T : TT} {p : Int} {P : PH} (h : MS T p P) : (tK T p = 4 ∧ P 0 12 = tS T p ∧ P 0 12 ≠ -1) ∨ (tK T p ≠ 4 ∧ P 0 12 = -1) := by
  by_cases h4 : tK T p = 4
  · exact Or.inl ⟨h4, (h.2.2.2.1 h4).1, (h.2.2.2.1 h4).2.1⟩
  · exact Or.inr ⟨h4, (h.2.2.2.2.1 h4).1⟩
theorem MS.tok {T : TT} {p : Int} {P : PH} (h : MS T p P) (h4 : tK T p ≠ 4) : P 0 3 = tK T p ∧ P 0 5 = tE T p := (h.2.2.2.2.1 h4).2
theorem MS.sg {T : TT} {p : Int} {P : PH} (h : MS T p P) : (P 0 3 = 0 ∧ tK T p = 0) ∨ (P 0 3 ≠ 0 ∧ tK T p ≠ 0) := by
  by_cases h4 : tK T p = 4
  · exact Or.inr ⟨(h.2.2.2.1 h4).2.2, by omega⟩
  · have := (h.2.2.2.2.1 h4).2.1
    omega
theorem MS.val {T : TT} {p : Int} {P : PH} (h : MS T p P) (h4 : tK T p = 2 ∨ tK T p = 3) : P 0 6 = tV T p := h.2.2.2.2.2.1 h4
theorem MS.word {T : TT} {p : Int} {P : PH} (h : MS T p P) (h4 : tK T p = 1) : P 0 7 = tW T p := h.2.2.2.2.2.2 h4
/-- a kind there (4: num) and here (-1: num) -/
def K4 (x y : Int) : Prop := (x = 4 ∧ y = -1) ∨ (0 ≤ x ∧ x ≤ 3 ∧ y = x)
/-- kinds and constructors, in the bank that is told -/
def MK (K P : PH) : Prop := P 2 (P 0 37) = K 0 0 ∧ P 5 (P 0 37) = K 0 1 ∧
  (∀ k : Int, 0 ≤ k → k < K 0 0 → NW (K 1 k) (P 22 (4 * P 0 37 + k)) ∧ P 3 (4 * P 0 37 + k) = K 2 k ∧ P 4 (4 * P 0 37 + k) = K 3 k) ∧
  ∀ c : Int, 0 ≤ c → c < K 0 1 → NW (K 4 c) (P 23 (24 * P 0 37 + c)) ∧ P 6 (24 * P 0 37 + c) = K 5 c ∧ P 7 (24 * P 0 37 + c) = K 6 c ∧ (1 ≤ K 6 c → K4 (P 8 (2 * (24 * P 0 37 + c))) (K 7 c)) ∧ (2 ≤ K 6 c → K4 (P 8 (2 * (24 * P 0 37 + c) + 1)) (K 8 c)) ∧ P 9 (24 * P 0 37 + c) = K 10 c
theorem MK.fr {K P P1 : PH} {F : FS} (h : MK K P) (hf : FrM F P P1) (hd : disF F ([37], [2, 3, 4, 5, 6, 7, 8, 9, 22, 23]) = true) : MK K P1 := by
  unfold MK at h ⊢
  rw [disF_k hd hf (k := 37) (by decide), disF_o hd hf (o := 2) (by decide) rfl, disF_o hd hf (o := 3) (by decide) rfl, disF_o hd hf (o := 4) (by decide) rfl, disF_o hd hf (o := 5) (by decide) rfl, disF_o hd hf (o := 6) (by decide) rfl, disF_o hd hf (o := 7) (by decide) rfl, disF_o hd hf (o := 8) (by decide) rfl, disF_o hd hf (o := 9) (by decide) rfl, disF_o hd hf (o := 22) (by decide) rfl, disF_o hd hf (o := 23) (by decide) rfl]
  exact h
/-- columns, arms, rule, budget -/
def MM (M P : PH) : Prop := P 11 (P 0 37) = M 0 0 ∧ P 13 (P 0 37) = M 0 2 ∧ P 15 (P 0 37) = M 0 3 ∧ P 16 (P 0 37) = M 0 4 ∧
  (∀ c : Int, 0 ≤ c → c < M 0 0 → K4 (P 12 (4 * P 0 37 + c)) (M 1 c)) ∧ ∀ a : Int, 0 ≤ a → a < M 0 2 → P 14 (12 * P 0 37 + a) = M 2 a
theorem MM.fr {M P P1 : PH} {F : FS} (h : MM M P) (hf : FrM F P P1) (hd : disF F ([37], [11, 12, 13, 14, 15, 16]) = true) : MM M P1 := by
  unfold MM at h ⊢
  rw [disF_k hd hf (k := 37) (by decide), disF_o hd hf (o := 11) (by decide) rfl, disF_o hd hf (o := 12) (by decide) rfl, disF_o hd hf (o := 13) (by decide) rfl, disF_o hd hf (o := 14) (by decide) rfl, disF_o hd hf (o := 15) (by decide) rfl, disF_o hd hf (o := 16) (by decide) rfl]
  exact h
/-- columns are told or not -/
def MTl (M P : PH) : Prop := (P 0 38 = 0 ∧ M 0 0 = 0) ∨ (P 0 38 = 1 ∧ 1 ≤ M 0 0)
theorem MTl.fr {M P P1 : PH} {F : FS} (h : MTl M P) (hf : FrM F P P1) (hd : disF F ([38], []) = true) : MTl M P1 := by
  unfold MTl at h ⊢
  rw [disF_k hd hf (k := 38) (by decide)]
  exact h
/-! What is well formed: kinds. -/
def AW (K : PH) : Prop := (0 ≤ K 0 0 ∧ K 0 0 ≤ 4 ∧ 0 ≤ K 0 1 ∧ K 0 1 ≤ 6 * K 0 0) ∧
  (∀ k : Int, 0 ≤ k → k < K 0 0 → 0 ≤ K 3 k ∧ K 3 k ≤ 6 ∧ 0 ≤ K 9 k ∧ K 9 k ≤ 6 * k ∧ K 9 k + K 3 k ≤ K 0 1 ∧ (k = K 0 0 - 1 → K 9 k + K 3 k = K 0 1) ∧ ((K 3 k = 0 ∧ K 2 k = 0) ∨ (1 ≤ K 3 k ∧ 1 ≤ K 2 k)) ∧ K 2 k ≤ 2000 + K 3 k) ∧
  (∀ c : Int, 0 ≤ c → c < K 0 1 → 0 ≤ K 5 c ∧ K 5 c < K 0 0 ∧ 0 ≤ K 6 c ∧ K 6 c ≤ 2 ∧ -1 ≤ K 7 c ∧ K 7 c < K 5 c ∧ -1 ≤ K 8 c ∧ K 8 c < K 5 c) ∧
  ∀ c k : Int, 0 ≤ c → c < K 0 1 → 0 ≤ k → k < K 0 0 → (K 5 c = k ↔ K 9 k ≤ c ∧ c < K 9 k + K 3 k)
theorem kNm_b {K : PH} (h : AW K) (v : Int) : -1 ≤ kNm K v ∧ kNm K v < K 0 0 := by
  have := fxi_b (K 1) v (K 0 0).toNat
  have := h.1
  unfold kNm
  omega
theorem cNm_b {K : PH} (h : AW K) (v : Int) : -1 ≤ cNm K v ∧ cNm K v < K 0 1 := by
  have := fxi_b (K 4) v (K 0 1).toNat
  have := h.1
  unfold cNm
  omega
theorem kHe_b {T : TT} {K : PH} (h : AW K) (p : Int) : -1 ≤ kHe T K p ∧ kHe T K p < K 0 0 := by
  have := kNm_b h (tV T p)
  have h0 := h.1
  rcases kHe_s T K p with q | q <;> omega
theorem AW.zero : AW K0 := by
  unfold AW K0
  refine ⟨by decide, fun k h1 h2 => ?_, fun c h1 h2 => ?_, fun c k h1 h2 => ?_⟩
  · exfalso; have h2 : k < 0 := h2; omega
  · exfalso; have h2 : c < 0 := h2; omega
  · exfalso; have h2 : c < 0 := h2; omega
