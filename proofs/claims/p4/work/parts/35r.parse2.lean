/-! The tables of kinds, cons, columns and codes, of both banks. -/
/-- the values of a con -/
def ZV (P : PH) (b c : Int) : Prop := (P 7 c = 0 ∧ P 10 c = 1) ∨ (P 7 c = 1 ∧ 1 ≤ vals P b (P 8 (2 * c)) ∧ P 10 c = vals P b (P 8 (2 * c))) ∨ (P 7 c = 2 ∧ 1 ≤ vals P b (P 8 (2 * c)) ∧ 1 ≤ vals P b (P 8 (2 * c + 1)) ∧ P 10 c = vals P b (P 8 (2 * c)) * vals P b (P 8 (2 * c + 1)))
theorem ZV.eq {P P1 : PH} {b c : Int} (h : ZV P b c) (e7 : P1 7 c = P 7 c) (e10 : P1 10 c = P 10 c) (e8 : ∀ f : Int, 0 ≤ f → f < P 7 c → P1 8 (2 * c + f) = P 8 (2 * c + f) ∧ vals P1 b (P 8 (2 * c + f)) = vals P b (P 8 (2 * c + f))) : ZV P1 b c := by
  have h0 := e8 0 (by omega)
  have h1 := e8 1 (by omega)
  rw [show 2 * c + 0 = 2 * c by omega] at h0
  unfold ZV at h ⊢
  rw [e7, e10]
  rcases h with h | h | h
  · exact Or.inl h
  · obtain ⟨a1, a2⟩ := h0 (by omega)
    rw [a1, a2]; exact Or.inr (Or.inl h)
  · obtain ⟨a1, a2⟩ := h0 (by omega)
    obtain ⟨b1, b2⟩ := h1 (by omega)
    rw [a1, a2, b1, b2]; exact Or.inr (Or.inr h)
/-- the cons of both banks -/
def ZT (P : PH) : Prop := ∀ b c : Int, 0 ≤ b → b ≤ 1 → 0 ≤ c → c < P 5 b → P 6 (24 * b + c) < P 2 b ∧ ZV P b (24 * b + c)
theorem ZT.fr {P P1 : PH} {F : FS} (h : ZT P) (hf : FrM F P P1) (hd : disF F ([], [2, 3, 5, 6, 7, 8, 10]) = true) : ZT P1 := by
  unfold disF at hd
  simp only [List.all_cons, List.all_nil, Bool.and_true, Bool.true_and, Bool.and_eq_true, Bool.not_eq_true'] at hd
  unfold ZT ZV vals at h ⊢
  rw [hf.2 2 rfl hd.1, hf.2 3 rfl hd.2.1, hf.2 5 rfl hd.2.2.1, hf.2 6 rfl hd.2.2.2.1, hf.2 7 rfl hd.2.2.2.2.1, hf.2 8 rfl hd.2.2.2.2.2.1, hf.2 10 rfl hd.2.2.2.2.2.2]
  exact h
theorem ZT.kind {P P1 : PH} {i K : Int} (h : ZT P) (hcf : CF P) (hb : BdM P) (eK : P 2 i = K) (hk : K ≤ 3) (o3 : ∀ j : Int, j ≠ 4 * i + K → P1 3 j = P 3 j) (o2 : ∀ j : Int, j ≠ i → P1 2 j = P 2 j) (e2 : P1 2 i = K + 1) (r5 : ∀ j, P1 5 j = P 5 j) (r6 : ∀ j, P1 6 j = P 6 j) (r7 : ∀ j, P1 7 j = P 7 j) (r8 : ∀ j, P1 8 j = P 8 j) (r10 : ∀ j, P1 10 j = P 10 j) : ZT P1 := by
  intro b c hb0 hb1 hc0 hc1
  rw [r5] at hc1
  obtain ⟨h1, h2⟩ := h b c hb0 hb1 hc0 hc1
  have q2 := bl_2 (k := i) hb
  have hlt : P 2 b ≤ P1 2 b := by
    by_cases e : b = i
    · rw [e, e2]; omega
    · rw [o2 b e]; omega
  refine ⟨by rw [r6]; omega, h2.eq (r7 _) (r10 _) (fun f f0 f1 => ⟨r8 _, vals_eq fun e4 => o3 _ fun hh => ?_⟩)⟩
  have q := hcf (24 * b + c) f f0 f1
  have q8 := bl_8 (k := 2 * (24 * b + c) + f) hb
  by_cases e : b = i
  · have e9 : P 2 b = P 2 i := by rw [e]
    omega
  · omega
/-- a con that isn't counted yet is written -/
theorem ZT.un {P P1 : PH} {i c : Int} (h : ZT P) (hb : BdM P) (hi : 0 ≤ i ∧ i ≤ 1) (h5 : P 5 i ≤ 23) (hc : c = 24 * i + P 5 i) (r2 : ∀ j, P1 2 j = P 2 j) (r3 : ∀ j, P1 3 j = P 3 j) (r5 : ∀ j, P1 5 j = P 5 j) (o6 : ∀ j : Int, j ≠ c → P1 6 j = P 6 j) (o7 : ∀ j : Int, j ≠ c → P1 7 j = P 7 j) (o8 : ∀ j : Int, (j < 2 * c ∨ 2 * c + 1 < j) → P1 8 j = P 8 j) (o10 : ∀ j : Int, j ≠ c → P1 10 j = P 10 j) : ZT P1 := by
  intro b d hb0 hb1 hd0 hd1
  rw [r5] at hd1
  obtain ⟨h1, h2⟩ := h b d hb0 hb1 hd0 hd1
  have q5 := bl_5 (k := b) hb
  have q5i := bl_5 (k := i) hb
  have hne : 24 * b + d ≠ c := by
    by_cases e : b = i
    · have e9 : P 5 b = P 5 i := by rw [e]
      omega
    · omega
  have q7 := bl_7 (k := 24 * b + d) hb
  refine ⟨by rw [o6 _ hne, r2]; exact h1, h2.eq (o7 _ hne) (o10 _ hne) (fun f f0 f1 => ⟨o8 _ (by omega), vals_eq fun e4 => r3 _⟩)⟩
/-- which con covers a value -/
def ZO (P : PH) : Prop := ∀ b k v : Int, 0 ≤ b → b ≤ 1 → 0 ≤ k → k < P 2 b → 0 ≤ v → v < P 3 (4 * b + k) → ∃ c : Int, 0 ≤ c ∧ c < P 5 b ∧ P 6 (24 * b + c) = k ∧ P 9 (24 * b + c) ≤ v ∧ v < P 9 (24 * b + c) + P 10 (24 * b + c)
theorem ZO.fr {P P1 : PH} {F : FS} (h : ZO P) (hf : FrM F P P1) (hd : disF F ([], [2, 3, 5, 6, 9, 10]) = true) : ZO P1 := by
  unfold disF at hd
  simp only [List.all_cons, List.all_nil, Bool.and_true, Bool.true_and, Bool.and_eq_true, Bool.not_eq_true'] at hd
  unfold ZO at h ⊢
  rw [hf.2 2 rfl hd.1, hf.2 3 rfl hd.2.1, hf.2 5 rfl hd.2.2.1, hf.2 6 rfl hd.2.2.2.1, hf.2 9 rfl hd.2.2.2.2.1, hf.2 10 rfl hd.2.2.2.2.2]
  exact h
theorem ZO.kind {P P1 : PH} {i K : Int} (h : ZO P) (hb : BdM P) (eK : P 2 i = K) (o3 : ∀ j : Int, j ≠ 4 * i + K → P1 3 j = P 3 j) (e3 : P1 3 (4 * i + K) = 0) (o2 : ∀ j : Int, j ≠ i → P1 2 j = P 2 j) (e2 : P1 2 i = K + 1) (r5 : ∀ j, P1 5 j = P 5 j) (r6 : ∀ j, P1 6 j = P 6 j) (r9 : ∀ j, P1 9 j = P 9 j) (r10 : ∀ j, P1 10 j = P 10 j) : ZO P1 := by
  intro b k v hb0 hb1 hk0 hk1 hv0 hv1
  have hne : 4 * b + k ≠ 4 * i + K := fun e => by rw [e, e3] at hv1; omega
  rw [o3 _ hne] at hv1
  have hk2 : k < P 2 b := by
    by_cases e : b = i
    · have e9 : P 2 b = P 2 i := by rw [e]
      rw [e, e2] at hk1
      omega
    · rw [o2 b e] at hk1; exact hk1
  obtain ⟨c, a1, a2, a3, a4, a5⟩ := h b k v hb0 hb1 hk0 hk2 hv0 hv1
  exact ⟨c, a1, by rw [r5]; exact a2, by rw [r6]; exact a3, by rw [r9]; exact a4, by rw [r9, r10]; exact a5⟩
theorem ZO.un {P P1 : PH} {i c : Int} (h : ZO P) (hb : BdM P) (hi : 0 ≤ i ∧ i ≤ 1) (h5 : P 5 i ≤ 23) (hc : c = 24 * i + P 5 i) (r2 : ∀ j, P1 2 j = P 2 j) (r3 : ∀ j, P1 3 j = P 3 j) (r5 : ∀ j, P1 5 j = P 5 j) (o6 : ∀ j : Int, j ≠ c → P1 6 j = P 6 j) (o9 : ∀ j : Int, j ≠ c → P1 9 j = P 9 j) (o10 : ∀ j : Int, j ≠ c → P1 10 j = P 10 j) : ZO P1 := by
  intro b k v hb0 hb1 hk0 hk1 hv0 hv1
  rw [r2] at hk1
  rw [r3] at hv1
  obtain ⟨d, a1, a2, a3, a4, a5⟩ := h b k v hb0 hb1 hk0 hk1 hv0 hv1
  have q5 := bl_5 (k := b) hb
  have q5i := bl_5 (k := i) hb
  have hne : 24 * b + d ≠ c := by
    by_cases e : b = i
    · have e9 : P 5 b = P 5 i := by rw [e]
      omega
    · omega
  exact ⟨d, a1, by rw [r5]; exact a2, by rw [o6 _ hne]; exact a3, by rw [o9 _ hne]; exact a4, by rw [o9 _ hne, o10 _ hne]; exact a5⟩
/-- the columns of both banks -/
def ZC (P : PH) : Prop := ∀ b c : Int, 0 ≤ b → b ≤ 1 → 0 ≤ c → c < P 11 b → P 12 (4 * b + c) = 4 ∨ (P 12 (4 * b + c) < P 2 b ∧ 1 ≤ P 3 (4 * b + P 12 (4 * b + c)))
theorem ZC.fr {P P1 : PH} {F : FS} (h : ZC P) (hf : FrM F P P1) (hd : disF F ([], [2, 3, 11, 12]) = true) : ZC P1 := by
  unfold disF at hd
  simp only [List.all_cons, List.all_nil, Bool.and_true, Bool.true_and, Bool.and_eq_true, Bool.not_eq_true'] at hd
  unfold ZC at h ⊢
  rw [hf.2 2 rfl hd.1, hf.2 3 rfl hd.2.1, hf.2 11 rfl hd.2.2.1, hf.2 12 rfl hd.2.2.2]
  exact h
theorem ZC.kind {P P1 : PH} {i K : Int} (h : ZC P) (hb : BdM P) (hi : 0 ≤ i ∧ i ≤ 1) (eK : P 2 i = K) (hk : K ≤ 3) (h11 : P 11 i = 0) (o3 : ∀ j : Int, j ≠ 4 * i + K → P1 3 j = P 3 j) (o2 : ∀ j : Int, j ≠ i → P1 2 j = P 2 j) (r11 : ∀ j, P1 11 j = P 11 j) (r12 : ∀ j, P1 12 j = P 12 j) : ZC P1 := by
  intro b c hb0 hb1 hc0 hc1
  rw [r11] at hc1
  have hne : b ≠ i := fun e => by rw [e, h11] at hc1; omega
  have q2 := bl_2 (k := b) hb
  have q2i := bl_2 (k := i) hb
  have q12 := bl_12 (k := 4 * b + c) hb
  rw [r12, o2 b hne]
  rcases h b c hb0 hb1 hc0 hc1 with h1 | ⟨h1, h2⟩
  · exact Or.inl h1
  · exact Or.inr ⟨h1, by rw [o3 _ (by omega)]; exact h2⟩
theorem ZC.con {P P1 : PH} {i : Int} (h : ZC P) (o3 : ∀ j : Int, j ≠ i → P1 3 j = P 3 j) (e3 : P 3 i ≤ P1 3 i) (r2 : ∀ j, P1 2 j = P 2 j) (r11 : ∀ j, P1 11 j = P 11 j) (r12 : ∀ j, P1 12 j = P 12 j) : ZC P1 := by
  intro b c hb0 hb1 hc0 hc1
  rw [r11] at hc1
  rw [r12, r2]
  rcases h b c hb0 hb1 hc0 hc1 with h1 | ⟨h1, h2⟩
  · exact Or.inl h1
  · right
    refine ⟨h1, ?_⟩
    by_cases e : 4 * b + P 12 (4 * b + c) = i
    · rw [e] at h2 ⊢; omega
    · rw [o3 _ e]; exact h2
theorem ZC.col {P P1 : PH} {i n z : Int} (h : ZC P) (hi : 0 ≤ i ∧ i ≤ 1) (en : P 11 i = n) (hn : 0 ≤ n ∧ n ≤ 3) (o12 : ∀ j : Int, j ≠ 4 * i + n → P1 12 j = P 12 j) (e12 : P1 12 (4 * i + n) = z) (o11 : ∀ j : Int, j ≠ i → P1 11 j = P 11 j) (e11 : P1 11 i = n + 1) (h4 : P 11 (1 - i) ≤ 4) (hz : z = 4 ∨ (z < P 2 i ∧ 1 ≤ P 3 (4 * i + z))) (r2 : ∀ j, P1 2 j = P 2 j) (r3 : ∀ j, P1 3 j = P 3 j) : ZC P1 := by
  intro b c hb0 hb1 hc0 hc1
  rw [r2, r3]
  by_cases e : b = i
  · by_cases e2 : c = n
    · rw [e, e2, e12]
      exact hz
    · rw [e, e11] at hc1
      rw [o12 _ (by omega)]
      exact h b c hb0 hb1 hc0 (by rw [e]; omega)
  · rw [o11 b e] at hc1
    have hb9 : b = 1 - i := by omega
    rw [o12 _ (by rw [hb9] at hc1 ⊢; omega)]
    exact h b c hb0 hb1 hc0 hc1
/-- before the match there is neither a column nor an arm -/
def ZI (P : PH) : Prop := P 0 38 = 0 → P 11 (P 0 37) = 0 ∧ P 13 (P 0 37) = 0
theorem ZI.fr {P P1 : PH} {F : FS} (h : ZI P) (hf : FrM F P P1) (hd : disF F ([37, 38], [11, 13]) = true) : ZI P1 := by
  unfold disF at hd
  simp only [List.all_cons, List.all_nil, Bool.and_true, Bool.and_eq_true, Bool.not_eq_true'] at hd
  unfold ZI at h ⊢
  rw [hf.1 37 hd.1.1, hf.1 38 hd.1.2, hf.2 11 rfl hd.2.1, hf.2 13 rfl hd.2.2]
  exact h
/-- the con that is being told -/
def ZN (P : PH) : Prop := P 6 (24 * P 0 37 + P 5 (P 0 37)) = P 2 (P 0 37) - 1 ∧ P 9 (24 * P 0 37 + P 5 (P 0 37)) = P 3 (4 * P 0 37 + (P 2 (P 0 37) - 1)) ∧ ZV P (P 0 37) (24 * P 0 37 + P 5 (P 0 37))
theorem ZN.fr {P P1 : PH} {F : FS} (h : ZN P) (hf : FrM F P P1) (hd : disF F ([37], [2, 3, 5, 6, 7, 8, 9, 10]) = true) : ZN P1 := by
  unfold disF at hd
  simp only [List.all_cons, List.all_nil, Bool.and_true, Bool.true_and, Bool.and_eq_true, Bool.not_eq_true'] at hd
  unfold ZN ZV vals at h ⊢
  rw [hf.1 37 hd.1, hf.2 2 rfl hd.2.1, hf.2 3 rfl hd.2.2.1, hf.2 5 rfl hd.2.2.2.1, hf.2 6 rfl hd.2.2.2.2.1, hf.2 7 rfl hd.2.2.2.2.2.1, hf.2 8 rfl hd.2.2.2.2.2.2.1, hf.2 9 rfl hd.2.2.2.2.2.2.2.1, hf.2 10 rfl hd.2.2.2.2.2.2.2.2]
  exact h
theorem ZN.new {P1 : PH} {i c k n : Int} (e37 : P1 0 37 = i) (e5 : P1 5 i = n) (e2 : P1 2 i = k + 1) (hc : c = 24 * i + n) (e6 : P1 6 c = k) (e9 : P1 9 c = P1 3 (4 * i + k)) (e7 : P1 7 c = 0) (e10 : P1 10 c = 1) : ZN P1 := by
  unfold ZN
  rw [e37, e5, e2, ← hc, show k + 1 - 1 = k by omega]
  exact ⟨e6, e9, Or.inl ⟨e7, e10⟩⟩
theorem ZN.field {P P1 : PH} {i c z : Int} (h : ZN P) (e37 : P 0 37 = i) (e37' : P1 0 37 = i) (hc : c = 24 * i + P 5 i) (h7 : 0 ≤ P 7 c ∧ P 7 c ≤ 1) (r2 : ∀ j, P1 2 j = P 2 j) (r3 : ∀ j, P1 3 j = P 3 j) (r5 : ∀ j, P1 5 j = P 5 j) (r6 : ∀ j, P1 6 j = P 6 j) (r9 : ∀ j, P1 9 j = P 9 j) (e7 : P1 7 c = P 7 c + 1) (o8 : ∀ j : Int, j ≠ 2 * c + P 7 c → P1 8 j = P 8 j) (e8 : P1 8 (2 * c + P 7 c) = z) (hz : 1 ≤ vals P i z) (e10 : P1 10 c = P 10 c * vals P i z) : ZN P1 := by
  obtain ⟨h1, h2, h3⟩ := h
  rw [e37, ← hc] at h1 h2 h3
  unfold ZN
  rw [e37', r5, ← hc, r6, r2, r9, r3]
  refine ⟨h1, h2, ?_⟩
  have hv : ∀ x, vals P1 i x = vals P i x := fun x => vals_eq fun _ => r3 _
  unfold ZV at h3 ⊢
  rw [e7, e10, hv, hv]
  rcases h3 with ⟨a, b⟩ | ⟨a, b, d⟩ | ⟨a, _⟩
  · right; left
    rw [a, show 2 * c + 0 = 2 * c by omega] at e8
    rw [e8, b, a]
    exact ⟨rfl, hz, by omega⟩
  · right; right
    rw [a] at e8
    rw [o8 (2 * c) (by omega), e8, a, d]
    exact ⟨rfl, b, hz, rfl⟩
  · omega
/-- the con is counted -/
theorem ZT.con {P P1 : PH} {i k : Int} (h : ZT P) (hn : ZN P) (hcf : CF P) (hb : BdM P) (hi : 0 ≤ i ∧ i ≤ 1) (e37 : P 0 37 = i) (e2 : P 2 i = k + 1) (hk : 0 ≤ k) (o3 : ∀ j : Int, j ≠ 4 * i + k → P1 3 j = P 3 j) (o5 : ∀ j : Int, j ≠ i → P1 5 j = P 5 j) (e5 : P1 5 i = P 5 i + 1) (r2 : ∀ j, P1 2 j = P 2 j) (r6 : ∀ j, P1 6 j = P 6 j) (r7 : ∀ j, P1 7 j = P 7 j) (r8 : ∀ j, P1 8 j = P 8 j) (r10 : ∀ j, P1 10 j = P 10 j) : ZT P1 := by
  obtain ⟨n1, n2, n3⟩ := hn
  rw [e37] at n1 n2 n3
  intro b c hb0 hb1 hc0 hc1
  have q2i := bl_2 (k := i) hb
  rcases (show (b = i ∧ c = P 5 i) ∨ c < P 5 b by
    by_cases e : b = i
    · rw [e, e5] at hc1; rw [e]; omega
    · rw [o5 b e] at hc1; exact Or.inr hc1) with ⟨eb, ec⟩ | hc2
  · rw [eb, ec]
    refine ⟨by rw [r6, r2]; omega, n3.eq (r7 _) (r10 _) (fun f f0 f1 => ⟨r8 _, vals_eq fun e4 => o3 _ fun hh => ?_⟩)⟩
    have q := hcf (24 * i + P 5 i) f f0 f1
    omega
  · obtain ⟨h1, h2⟩ := h b c hb0 hb1 hc0 hc2
    refine ⟨by rw [r6, r2]; exact h1, h2.eq (r7 _) (r10 _) (fun f f0 f1 => ⟨r8 _, vals_eq fun e4 => o3 _ fun hh => ?_⟩)⟩
    have q := hcf (24 * b + c) f f0 f1
    have q8 := bl_8 (k := 2 * (24 * b + c) + f) hb
    by_cases e : b = i
    · have e9 : P 2 b = P 2 i := by rw [e]
      omega
    · omega
theorem ZO.con {P P1 : PH} {i k : Int} (h : ZO P) (hn : ZN P) (hb : BdM P) (hi : 0 ≤ i ∧ i ≤ 1) (e37 : P 0 37 = i) (e2 : P 2 i = k + 1) (hk : 0 ≤ k) (o3 : ∀ j : Int, j ≠ 4 * i + k → P1 3 j = P 3 j) (e3 : P1 3 (4 * i + k) = P 3 (4 * i + k) + P 10 (24 * i + P 5 i)) (o5 : ∀ j : Int, j ≠ i → P1 5 j = P 5 j) (e5 : P1 5 i = P 5 i + 1) (r2 : ∀ j, P1 2 j = P 2 j) (r6 : ∀ j, P1 6 j = P 6 j) (r9 : ∀ j, P1 9 j = P 9 j) (r10 : ∀ j, P1 10 j = P 10 j) : ZO P1 := by
  obtain ⟨n1, n2, n3⟩ := hn
  rw [e37] at n1 n2 n3
  intro b k1 v hb0 hb1 hk0 hk1 hv0 hv1
  rw [r2] at hk1
  have q5 := bl_5 (k := i) hb
  have h5 : P 5 b ≤ P1 5 b := by
    by_cases e : b = i
    · rw [e, e5]; omega
    · rw [o5 b e]; omega
  rw [e2, show k + 1 - 1 = k by omega] at n1 n2
  by_cases hlt : v < P 3 (4 * b + k1)
  · obtain ⟨c, a1, a2, a3, a4, a5⟩ := h b k1 v hb0 hb1 hk0 hk1 hv0 hlt
    exact ⟨c, a1, by omega, by rw [r6]; exact a3, by rw [r9]; exact a4, by rw [r9, r10]; exact a5⟩
  · have hix : 4 * b + k1 = 4 * i + k := Classical.byContradiction fun e => by rw [o3 _ e] at hv1; omega
    have q2 := bl_2 (k := b) hb
    have q2i := bl_2 (k := i) hb
    have hbi : b = i := by omega
    have hki : k1 = k := by omega
    subst hbi hki
    rw [e3] at hv1
    exact ⟨P 5 b, by omega, by rw [e5]; omega, by rw [r6]; exact n1, by rw [r9]; omega, by rw [r9, r10]; omega⟩
/-- how many rows the columns make -/
def prdU (P : PH) (b : Int) : Nat → Int
  | 0 => 1
  | n + 1 => prdU P b n * vals P b (P 12 (4 * b + (n : Int)))
theorem prdU_eq {P P1 : PH} {b : Int} (h3 : ∀ j, P1 3 j = P 3 j) : ∀ n : Nat, (∀ j : Int, 4 * b ≤ j → j < 4 * b + n → P1 12 j = P 12 j) → prdU P1 b n = prdU P b n := by
  intro n
  induction n with
  | zero => intro _; rfl
  | succ n ih =>
    intro h
    show prdU P1 b n * _ = prdU P b n * _
    rw [ih (fun j h0 h1 => h j h0 (by omega)), h _ (by omega) (by omega)]
    rw [vals_eq fun _ => h3 _]
theorem prdU_col {P P1 : PH} {b n z : Int} (hn : 0 ≤ n) (en : P 11 b = n) (o12 : ∀ j : Int, j ≠ 4 * b + n → P1 12 j = P 12 j) (e12 : P1 12 (4 * b + n) = z) (r3 : ∀ j, P1 3 j = P 3 j) (e11 : P1 11 b = n + 1) : prdU P1 b (P1 11 b).toNat = prdU P b (P 11 b).toNat * vals P b z := by
  rw [e11, en, show (n + 1).toNat = n.toNat + 1 by omega]
  show prdU P1 b n.toNat * _ = _
  rw [prdU_eq r3 n.toNat (fun j h0 h1 => o12 j (by omega)), show ((n.toNat : Nat) : Int) = n by omega, e12, vals_eq fun _ => r3 _]
theorem prdU_fr {P P1 : PH} {F : FS} {b : Int} {n : Nat} (hf : FrM F P P1) (hd : disF F ([], [3, 12]) = true) : prdU P1 b n = prdU P b n := by
  unfold disF at hd
  simp only [List.all_cons, List.all_nil, Bool.and_true, Bool.true_and, Bool.and_eq_true, Bool.not_eq_true'] at hd
  exact prdU_eq (fun j => by rw [hf.2 3 rfl hd.1]) n (fun j _ _ => by rw [hf.2 12 rfl hd.2])
/-- a number is the product of what the columns have -/
def PU (x b : Int) (P : PH) : Prop := x = prdU P b (P 11 b).toNat
theorem PU.fr {x b : Int} {P P1 : PH} {F : FS} (h : PU x b P) (hf : FrM F P P1) (hd : disF F ([], [3, 11, 12]) = true) : PU x b P1 := by
  unfold disF at hd
  simp only [List.all_cons, List.all_nil, Bool.and_true, Bool.true_and, Bool.and_eq_true, Bool.not_eq_true'] at hd
  unfold PU at h ⊢
  rw [hf.2 11 rfl hd.2.1, prdU_eq (P := P) (fun j => by rw [hf.2 3 rfl hd.1]) _ (fun j _ _ => by rw [hf.2 12 rfl hd.2.2])]
  exact h
theorem PU.zero {b : Int} {P : PH} (h : P 11 b = 0) : PU 1 b P := by unfold PU; rw [h]; rfl
theorem PU.col {x y b n z r : Int} {P P1 : PH} (h : PU y b P) (hx : x = y * r) (hr : r = vals P b z) (hn : 0 ≤ n) (en : P 11 b = n) (o12 : ∀ j : Int, j ≠ 4 * b + n → P1 12 j = P 12 j) (e12 : P1 12 (4 * b + n) = z) (r3 : ∀ j, P1 3 j = P 3 j) (e11 : P1 11 b = n + 1) : PU x b P1 := by
  unfold PU at h ⊢
  rw [prdU_col hn en o12 e12 r3 e11, ← h, ← hr, hx]
theorem prd0_le {P : PH} {b : Int} (h : P 11 b = 0) : prdU P b (P 11 b).toNat ≤ 20000 := by rw [h]; show (1 : Int) ≤ 20000; decide
theorem prd_fr {P P1 : PH} {F : FS} {b : Int} (hf : FrM F P P1) (hd : disF F ([], [3, 11, 12]) = true) : prdU P1 b (P1 11 b).toNat = prdU P b (P 11 b).toNat := by
  unfold disF at hd
  simp only [List.all_cons, List.all_nil, Bool.and_true, Bool.true_and, Bool.and_eq_true, Bool.not_eq_true'] at hd
  rw [hf.2 11 rfl hd.2.1, prdU_eq (P := P) (fun j => by rw [hf.2 3 rfl hd.1]) _ (fun j _ _ => by rw [hf.2 12 rfl hd.2.2])]
theorem ZC.vals1 {P : PH} (h : ZC P) {b c : Int} (hb : 0 ≤ b ∧ b ≤ 1) (hc : 0 ≤ c ∧ c < P 11 b) : 1 ≤ vals P b (P 12 (4 * b + c)) := by
  unfold vals
  rcases h b c hb.1 hb.2 hc.1 hc.2 with h | h
  · rw [if_pos h]; decide
  · by_cases e : P 12 (4 * b + c) = 4
    · rw [if_pos e]; decide
    · rw [if_neg e]; exact h.2
theorem prdU_pos {P : PH} (h : ZC P) {b : Int} (hb : 0 ≤ b ∧ b ≤ 1) : ∀ n : Nat, (n : Int) ≤ P 11 b → 1 ≤ prdU P b n := by
  intro n
  induction n with
  | zero => intro _; exact Int.le_refl 1
  | succ n ih =>
    intro hn
    have h1 := ih (by omega)
    have h2 := h.vals1 hb (c := (n : Int)) ⟨by omega, by omega⟩
    show 1 ≤ prdU P b n * _
    have := Int.mul_le_mul h1 h2 (by decide) (by omega)
    omega
theorem prdU_mono {P : PH} (h : ZC P) {b : Int} (hb : 0 ≤ b ∧ b ≤ 1) : ∀ n m : Nat, (n + m : Nat) ≤ (P 11 b).toNat → prdU P b n ≤ prdU P b (n + m) := by
  intro n m
  induction m with
  | zero => intro _; exact Int.le_refl _
  | succ m ih =>
    intro hn
    have h1 := ih (by omega)
    have h2 := h.vals1 hb (c := ((n + m : Nat) : Int)) ⟨by omega, by omega⟩
    have h3 := prdU_pos h hb (n + m) (by omega)
    show _ ≤ prdU P b (n + m) * vals P b (P 12 (4 * b + ((n + m : Nat) : Int)))
    have := Int.mul_le_mul_of_nonneg_left h2 (show 0 ≤ prdU P b (n + m) by omega)
    omega
/-- the product up to a column -/
theorem prdU_lt {P : PH} (h : ZC P) {b c : Int} (hb : 0 ≤ b ∧ b ≤ 1) (hc : 0 ≤ c ∧ c < P 11 b) (ht : prdU P b (P 11 b).toNat ≤ 20000) : prdU P b (c + 1).toNat = prdU P b c.toNat * vals P b (P 12 (4 * b + c)) ∧ 1 ≤ prdU P b (c + 1).toNat ∧ prdU P b (c + 1).toNat ≤ 20000 := by
  have e : (c + 1).toNat = c.toNat + 1 := by omega
  have h1 := prdU_pos h hb (c.toNat + 1) (by omega)
  have h2 := prdU_mono h hb (c.toNat + 1) ((P 11 b).toNat - (c.toNat + 1)) (by omega)
  rw [show c.toNat + 1 + ((P 11 b).toNat - (c.toNat + 1)) = (P 11 b).toNat by omega] at h2
  rw [e]
  refine ⟨?_, h1, by omega⟩
  show prdU P b c.toNat * vals P b (P 12 (4 * b + (c.toNat : Int))) = _
  rw [show ((c.toNat : Nat) : Int) = c by omega]
theorem ZC.okC {P : PH} (h : ZC P) (hb : BdM P) : okC P := by
  intro c c0 c1
  have q := b0_13 hb
  rcases h (P 0 13) c q.1 q.2 c0 c1 with h | h
  · exact Or.inl h
  · exact Or.inr h.2
