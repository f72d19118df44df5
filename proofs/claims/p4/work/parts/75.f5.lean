/-! The reference's tables: what writes do. -/
theorem MK.b {K P : PH} (h : MK K P) : P 2 (P 0 37) = K 0 0 ∧ P 5 (P 0 37) = K 0 1 := ⟨h.1, h.2.1⟩
theorem MK.k {K P : PH} (h : MK K P) {k : Int} (h0 : 0 ≤ k) (h1 : k < K 0 0) : NW (K 1 k) (P 22 (4 * P 0 37 + k)) ∧ P 3 (4 * P 0 37 + k) = K 2 k ∧ P 4 (4 * P 0 37 + k) = K 3 k := h.2.2.1 k h0 h1
theorem MK.c {K P : PH} (h : MK K P) {c : Int} (h0 : 0 ≤ c) (h1 : c < K 0 1) : NW (K 4 c) (P 23 (24 * P 0 37 + c)) ∧ P 6 (24 * P 0 37 + c) = K 5 c ∧ P 7 (24 * P 0 37 + c) = K 6 c ∧ (1 ≤ K 6 c → K4 (P 8 (2 * (24 * P 0 37 + c))) (K 7 c)) ∧ (2 ≤ K 6 c → K4 (P 8 (2 * (24 * P 0 37 + c) + 1)) (K 8 c)) ∧ P 9 (24 * P 0 37 + c) = K 10 c := h.2.2.2 c h0 h1
/-- the first kind of a name -/
theorem MK.kn {K P : PH} (h : MK K P) (ha : AW K) {v w : Int} (hw : NW v w) : fxi (fun i => P 22 (4 * P 0 37 + i)) w (P 2 (P 0 37)).toNat = kNm K v := by
  unfold kNm
  rw [h.1]
  refine fxi_cg _ (fun i h0 h1 => ?_)
  have := ha.1
  exact ((h.k (k := i) h0 (by omega)).1.inj hw).symm
theorem MK.cn {K P : PH} (h : MK K P) (ha : AW K) {v w : Int} (hw : NW v w) : fxi (fun i => P 23 (24 * P 0 37 + i)) w (P 5 (P 0 37)).toNat = cNm K v := by
  unfold cNm
  rw [h.2.1]
  refine fxi_cg _ (fun i h0 h1 => ?_)
  have := ha.1
  exact ((h.c (c := i) h0 (by omega)).1.inj hw).symm
theorem MK.kind {K P P1 : PH} {v w i : Int} (h : MK K P) (ha : AW K) (hw : NW v w) (hi : i = 4 * P 0 37 + P 2 (P 0 37)) (e37 : P1 0 37 = P 0 37) (e2 : P1 2 (P 0 37) = P 2 (P 0 37) + 1) (e5 : P1 5 (P 0 37) = P 5 (P 0 37))
    (s22 : P1 22 i = w) (q22 : ∀ j : Int, j ≠ i → P1 22 j = P 22 j) (s3 : P1 3 i = 0) (q3 : ∀ j : Int, j ≠ i → P1 3 j = P 3 j) (s4 : P1 4 i = 0) (q4 : ∀ j : Int, j ≠ i → P1 4 j = P 4 j)
    (q6 : ∀ j, P1 6 j = P 6 j) (q7 : ∀ j, P1 7 j = P 7 j) (q8 : ∀ j, P1 8 j = P 8 j) (q9 : ∀ j, P1 9 j = P 9 j) (q23 : ∀ j, P1 23 j = P 23 j) : MK (kNew K v) P1 := by
  have h2 := h.1
  unfold MK
  rw [kNew_0.1, kNew_0.2, e37, e2, e5]
  refine ⟨by omega, h.2.1, fun k k0 k1 => ?_, fun c c0 c1 => ?_⟩
  · rw [kNew_1, kNew_2, kNew_3]
    by_cases e : k = K 0 0
    · have e9 : 4 * P 0 37 + k = i := by omega
      rw [if_pos e, if_pos e, if_pos e, e9, s22, s3, s4]
      exact ⟨hw, rfl, rfl⟩
    · have e9 : 4 * P 0 37 + k ≠ i := by omega
      rw [if_neg e, if_neg e, if_neg e, q22 _ e9, q3 _ e9, q4 _ e9]
      exact h.k k0 (by omega)
  · rw [kNew_c (o := 4) (by decide) (by decide) (by decide) (by decide) (by decide), kNew_c (o := 5) (by decide) (by decide) (by decide) (by decide) (by decide), kNew_c (o := 6) (by decide) (by decide) (by decide) (by decide) (by decide), kNew_c (o := 7) (by decide) (by decide) (by decide) (by decide) (by decide), kNew_c (o := 8) (by decide) (by decide) (by decide) (by decide) (by decide), kNew_c (o := 10) (by decide) (by decide) (by decide) (by decide) (by decide), q6, q7, q8, q8, q9, q23]
    exact h.c c0 c1
/-- writes behind what is told -/
theorem MK.un {K P P1 : PH} {i : Int} (h : MK K P) (hi : i = 24 * P 0 37 + P 5 (P 0 37)) (e37 : P1 0 37 = P 0 37) (q2 : ∀ j, P1 2 j = P 2 j) (q3 : ∀ j, P1 3 j = P 3 j) (q4 : ∀ j, P1 4 j = P 4 j) (q5 : ∀ j, P1 5 j = P 5 j) (q22 : ∀ j, P1 22 j = P 22 j)
    (q6 : ∀ j : Int, j ≠ i → P1 6 j = P 6 j) (q7 : ∀ j : Int, j ≠ i → P1 7 j = P 7 j) (q8 : ∀ j : Int, j < 2 * i → P1 8 j = P 8 j) (q9 : ∀ j : Int, j ≠ i → P1 9 j = P 9 j) (q23 : ∀ j : Int, j ≠ i → P1 23 j = P 23 j) : MK K P1 := by
  have h5 := h.2.1
  unfold MK
  rw [e37, q2, q5]
  refine ⟨h.1, h.2.1, fun k k0 k1 => ?_, fun c c0 c1 => ?_⟩
  · rw [q22, q3, q4]
    exact h.k k0 k1
  · have e9 : 24 * P 0 37 + c ≠ i := by omega
    rw [q6 _ e9, q7 _ e9, q8 _ (by omega), q8 _ (by omega), q9 _ e9, q23 _ e9]
    exact h.c c0 c1
/-- the constructor that is being told -/
def MN (L v n a b i f : Int) (P : PH) : Prop := NW v (P 23 (24 * P 0 37 + P 5 (P 0 37))) ∧ P 6 (24 * P 0 37 + P 5 (P 0 37)) = L ∧ P 7 (24 * P 0 37 + P 5 (P 0 37)) = n ∧ (1 ≤ n → K4 (P 8 (2 * (24 * P 0 37 + P 5 (P 0 37)))) a) ∧ (2 ≤ n → K4 (P 8 (2 * (24 * P 0 37 + P 5 (P 0 37)) + 1)) b) ∧ P 9 (24 * P 0 37 + P 5 (P 0 37)) = f ∧ P 10 (24 * P 0 37 + P 5 (P 0 37)) = i
theorem MN.fr {L v n a b i f : Int} {P P1 : PH} {F : FS} (h : MN L v n a b i f P) (hf : FrM F P P1) (hd : disF F ([37], [5, 6, 7, 8, 9, 10, 23]) = true) : MN L v n a b i f P1 := by
  unfold MN at h ⊢
  rw [disF_k hd hf (k := 37) (by decide), disF_o hd hf (o := 5) (by decide) rfl, disF_o hd hf (o := 6) (by decide) rfl, disF_o hd hf (o := 7) (by decide) rfl, disF_o hd hf (o := 8) (by decide) rfl, disF_o hd hf (o := 9) (by decide) rfl, disF_o hd hf (o := 10) (by decide) rfl, disF_o hd hf (o := 23) (by decide) rfl]
  exact h
theorem MN.new {L v w f c b e : Int} {P : PH} (hw : NW v w) (e37 : P 0 37 = b) (e5 : P 5 b = e) (hc : c = 24 * b + e) (s23 : P 23 c = w) (s6 : P 6 c = L) (s7 : P 7 c = 0) (s9 : P 9 c = f) (s10 : P 10 c = 1) : MN L v 0 (-1) (-1) 1 f P := by
  subst hc
  unfold MN
  rw [e37, e5, s23]
  exact ⟨hw, s6, s7, fun h => absurd h (by decide), fun h => absurd h (by decide), s9, s10⟩
theorem MN.field {L v n a b i f k z i2 : Int} {P P1 : PH} (h : MN L v n a b i f P) (hn : 0 ≤ n ∧ n ≤ 1) (e37 : P1 0 37 = P 0 37) (e5 : P1 5 (P 0 37) = P 5 (P 0 37)) (hk : K4 z k)
    (s8 : P1 8 (2 * (24 * P 0 37 + P 5 (P 0 37)) + n) = z) (q8 : ∀ j : Int, j ≠ 2 * (24 * P 0 37 + P 5 (P 0 37)) + n → P1 8 j = P 8 j) (s7 : P1 7 (24 * P 0 37 + P 5 (P 0 37)) = n + 1) (s10 : P1 10 (24 * P 0 37 + P 5 (P 0 37)) = i2)
    (q6 : ∀ j, P1 6 j = P 6 j) (q9 : ∀ j, P1 9 j = P 9 j) (q23 : ∀ j, P1 23 j = P 23 j) : MN L v (n + 1) (if n = 0 then k else a) (if n = 0 then b else k) i2 f P1 := by
  unfold MN at h ⊢
  rw [e37, e5, q6, q9, q23, s7, s10]
  obtain ⟨h1, h2, h3, h4, h5, h6, h7⟩ := h
  refine ⟨h1, h2, rfl, fun _ => ?_, fun hn2 => ?_, h6, rfl⟩
  · by_cases e : n = 0
    · rw [if_pos e]
      rw [e, Int.add_zero] at s8
      rw [s8]
      exact hk
    · rw [if_neg e, q8 _ (by omega)]
      exact h4 (by omega)
  · have e : n = 1 := by omega
    rw [e] at s8
    rw [if_neg (by omega), s8]
    exact hk
theorem MK.con {K P P1 : PH} {v n a b i : Int} (h : MK K P) (hm : MN (K 0 0 - 1) v n a b i (K 2 (K 0 0 - 1)) P) (hk : 1 ≤ K 0 0) (e37 : P1 0 37 = P 0 37) (e5 : P1 5 (P 0 37) = P 5 (P 0 37) + 1)
    (s3 : P1 3 (4 * P 0 37 + (K 0 0 - 1)) = P 3 (4 * P 0 37 + (K 0 0 - 1)) + i) (q3 : ∀ j : Int, j ≠ 4 * P 0 37 + (K 0 0 - 1) → P1 3 j = P 3 j) (s4 : P1 4 (4 * P 0 37 + (K 0 0 - 1)) = P 4 (4 * P 0 37 + (K 0 0 - 1)) + 1) (q4 : ∀ j : Int, j ≠ 4 * P 0 37 + (K 0 0 - 1) → P1 4 j = P 4 j)
    (q2 : ∀ j, P1 2 j = P 2 j) (q6 : ∀ j, P1 6 j = P 6 j) (q7 : ∀ j, P1 7 j = P 7 j) (q8 : ∀ j, P1 8 j = P 8 j) (q9 : ∀ j, P1 9 j = P 9 j) (q22 : ∀ j, P1 22 j = P 22 j) (q23 : ∀ j, P1 23 j = P 23 j) : MK (cNew K v n a b i) P1 := by
  have h5 := h.2.1
  have hl := h.k (k := K 0 0 - 1) (by omega) (by omega)
  unfold MK
  rw [cNew_0.1, cNew_0.2, cNew_c (o := 1) (Or.inl rfl), e37, q2, e5]
  refine ⟨h.1, by omega, fun k k0 k1 => ?_, fun c c0 c1 => ?_⟩
  · rw [q22, cNew_2, cNew_3]
    by_cases e : k = K 0 0 - 1
    · rw [if_pos e, if_pos e, e, s3, s4, hl.2.1, hl.2.2]
      exact ⟨hl.1, rfl, rfl⟩
    · rw [if_neg e, if_neg e, q3 _ (by omega), q4 _ (by omega)]
      exact h.k k0 k1
  · rw [q6, q7, q8, q8, q9, q23, cNew_4, cNew_5, cNew_6, cNew_7, cNew_8, cNew_10]
    by_cases e : c = K 0 1
    · rw [if_pos e, if_pos e, if_pos e, if_pos e, if_pos e, if_pos e, show 24 * P 0 37 + c = 24 * P 0 37 + P 5 (P 0 37) by omega]
      exact ⟨hm.1, hm.2.1, hm.2.2.1, hm.2.2.2.1, hm.2.2.2.2.1, hm.2.2.2.2.2.1⟩
    · rw [if_neg e, if_neg e, if_neg e, if_neg e, if_neg e, if_neg e]
      exact h.c c0 (by omega)
theorem MM.b {M P : PH} (h : MM M P) : P 11 (P 0 37) = M 0 0 ∧ P 13 (P 0 37) = M 0 2 ∧ P 15 (P 0 37) = M 0 3 ∧ P 16 (P 0 37) = M 0 4 := ⟨h.1, h.2.1, h.2.2.1, h.2.2.2.1⟩
theorem mCol_0 {M : PH} {k r : Int} : mCol M k r 0 0 = M 0 0 + 1 ∧ mCol M k r 0 1 = r ∧ mCol M k r 0 2 = M 0 2 ∧ mCol M k r 0 3 = M 0 3 ∧ mCol M k r 0 4 = M 0 4 := ⟨by simp [mCol, up], by simp [mCol, up], by simp [mCol, up], by simp [mCol, up], by simp [mCol, up]⟩
theorem mCol_1 {M : PH} {k r : Int} (c : Int) : mCol M k r 1 c = if c = M 0 0 then k else M 1 c := by simp [mCol, up]
theorem mCol_2 {M : PH} {k r : Int} : mCol M k r 2 = M 2 := by funext j; simp [mCol, up]
theorem MM.col {M P P1 : PH} {k z r : Int} (h : MM M P) (hk : K4 z k) (e37 : P1 0 37 = P 0 37) (e11 : P1 11 (P 0 37) = P 11 (P 0 37) + 1) (s12 : P1 12 (4 * P 0 37 + P 11 (P 0 37)) = z) (q12 : ∀ j : Int, j ≠ 4 * P 0 37 + P 11 (P 0 37) → P1 12 j = P 12 j)
    (q13 : ∀ j, P1 13 j = P 13 j) (q14 : ∀ j, P1 14 j = P 14 j) (q15 : ∀ j, P1 15 j = P 15 j) (q16 : ∀ j, P1 16 j = P 16 j) : MM (mCol M k r) P1 := by
  obtain ⟨h1, h2, h3, h4, h5, h6⟩ := h
  unfold MM
  rw [mCol_0.1, mCol_0.2.2.1, mCol_0.2.2.2.1, mCol_0.2.2.2.2, mCol_2, e37, e11, q13, q15, q16]
  refine ⟨by omega, h2, h3, h4, fun c c0 c1 => ?_, fun a a0 a1 => ?_⟩
  · rw [mCol_1]
    by_cases e : c = M 0 0
    · rw [if_pos e, e, ← h1, s12]
      exact hk
    · rw [if_neg e, q12 _ (by omega)]
      exact h5 c c0 (by omega)
  · rw [q14]
    exact h6 a a0 a1
theorem MM.un {M P P1 : PH} (h : MM M P) (e37 : P1 0 37 = P 0 37) (q14 : ∀ j : Int, j ≠ 12 * P 0 37 + P 13 (P 0 37) → P1 14 j = P 14 j) (q11 : ∀ j, P1 11 j = P 11 j) (q12 : ∀ j, P1 12 j = P 12 j) (q13 : ∀ j, P1 13 j = P 13 j) (q15 : ∀ j, P1 15 j = P 15 j) (q16 : ∀ j, P1 16 j = P 16 j) : MM M P1 := by
  obtain ⟨h1, h2, h3, h4, h5, h6⟩ := h
  unfold MM
  rw [e37, q11, q13, q15, q16]
  exact ⟨h1, h2, h3, h4, fun c c0 c1 => by rw [q12]; exact h5 c c0 c1, fun a a0 a1 => by rw [q14 _ (by omega)]; exact h6 a a0 a1⟩
theorem aNew_0 {M : PH} {g : Int} : aNew M g 0 0 = M 0 0 ∧ aNew M g 0 2 = M 0 2 + 1 ∧ aNew M g 0 3 = M 0 3 ∧ aNew M g 0 4 = M 0 4 := ⟨by simp [aNew, up], by simp [aNew, up], by simp [aNew, up], by simp [aNew, up]⟩
theorem aNew_2 {M : PH} {g : Int} (a : Int) : aNew M g 2 a = if a = M 0 2 then g else M 2 a := by simp [aNew, up]
theorem aNew_1 {M : PH} {g : Int} : aNew M g 1 = M 1 := by funext j; simp [aNew, up]
theorem MM.arm {M P P1 : PH} {g : Int} (h : MM M P) (hg : P 14 (12 * P 0 37 + P 13 (P 0 37)) = g) (e37 : P1 0 37 = P 0 37) (e13 : P1 13 (P 0 37) = P 13 (P 0 37) + 1) (q14 : ∀ j, P1 14 j = P 14 j) (q11 : ∀ j, P1 11 j = P 11 j) (q12 : ∀ j, P1 12 j = P 12 j) (q15 : ∀ j, P1 15 j = P 15 j) (q16 : ∀ j, P1 16 j = P 16 j) : MM (aNew M g) P1 := by
  obtain ⟨h1, h2, h3, h4, h5, h6⟩ := h
  unfold MM
  rw [aNew_0.1, aNew_0.2.1, aNew_0.2.2.1, aNew_0.2.2.2, aNew_1, e37, e13, q11, q15, q16]
  refine ⟨h1, by omega, h3, h4, fun c c0 c1 => by rw [q12]; exact h5 c c0 c1, fun a a0 a1 => ?_⟩
  rw [aNew_2, q14]
  by_cases e : a = M 0 2
  · rw [if_pos e, e, ← h2, hg]
  · rw [if_neg e]
    exact h6 a a0 (by omega)
theorem MM.rule {M P P1 : PH} {g : Int} (h : MM M P) (e37 : P1 0 37 = P 0 37) (e15 : P1 15 (P 0 37) = g) (q14 : ∀ j, P1 14 j = P 14 j) (q11 : ∀ j, P1 11 j = P 11 j) (q12 : ∀ j, P1 12 j = P 12 j) (q13 : ∀ j, P1 13 j = P 13 j) (q16 : ∀ j, P1 16 j = P 16 j) : MM (up M 0 3 g) P1 := by
  obtain ⟨h1, h2, h3, h4, h5, h6⟩ := h
  unfold MM
  rw [up_k (by decide), up_k (by decide), up_same, up_k (by decide), up_row (o1 := 1) (by decide), up_row (o1 := 2) (by decide), e37, q11, q13, q16]
  exact ⟨h1, h2, e15, h4, fun c c0 c1 => by rw [q12]; exact h5 c c0 c1, fun a a0 a1 => by rw [q14]; exact h6 a a0 a1⟩
theorem MM.budget {M P P1 : PH} {g : Int} (h : MM M P) (e37 : P1 0 37 = P 0 37) (e16 : P1 16 (P 0 37) = g) (q14 : ∀ j, P1 14 j = P 14 j) (q11 : ∀ j, P1 11 j = P 11 j) (q12 : ∀ j, P1 12 j = P 12 j) (q13 : ∀ j, P1 13 j = P 13 j) (q15 : ∀ j, P1 15 j = P 15 j) : MM (up M 0 4 g) P1 := by
  obtain ⟨h1, h2, h3, h4, h5, h6⟩ := h
  unfold MM
  rw [up_k (by decide), up_k (by decide), up_k (by decide), up_same, up_row (o1 := 1) (by decide), up_row (o1 := 2) (by decide), e37, q11, q13, q15]
  exact ⟨h1, h2, h3, e16, fun c c0 c1 => by rw [q12]; exact h5 c c0 c1, fun a a0 a1 => by rw [q14]; exact h6 a a0 a1⟩
