section
/-! The reference's tables: what writes do. -/
theorem MK.b {K P : PH} (h : MK K P) : P 2 (P 0 37) = K 0 0 ∧ P 5 (P 0 37) = K 0 1 := ⟨h.1, h.2.1⟩
theorem MK.k {K P : PH} (h : MK K P) {k : Int} (h0 : 0 ≤ k) (h1 : k < K 0 0) : NW (K 1 k) (P 22 (4 * P 0 37 + k)) ∧ P 3 (4 * P 0 37 + k) = K 2 k ∧ P 4 (4 * P 0 37 + k) = K 3 k := h.2.2.1 k h0 h1
theorem MK.c {K P : PH} (h : MK K P) {c : Int} (h0 : 0 ≤ c) (h1 : c < K 0 1) : NW (K 4 c) (P 23 (24 * P 0 37 + c)) ∧ P 6 (24 * P 0 37 + c) = K 5 c ∧ P 7 (24 * P 0 37 + c) = K 6 c ∧ (1 ≤ K 6 c → K4 (P 8 (2 * (24 * P 0 37 + c))) (K 7 c)) ∧ (2 ≤ K 6 c → K4 (P 8 (2 * (24 * P 0 37 + c) + 1)) (K 8 c)) ∧ P 9 (24 * P 0 37 + c) = K 10 c := h.2.2.2 c h0 h1
/-- the first kind of a name -/
theorem MK.kn {K P : PH} (h : MK K P) (ha : AW K) {v w : Int} (hw : NW v w) : fxi (fun i => P 22 (4 * P 0 37 + i)) w (P 2 (P 0 37)).toNat = kNm K v := by
  unfold kNm
  rw [h.1]
  refine fxi_cg _ (fun i h0 h1 => ?_)
  have := ha.1
  exact ((h.k (k := i) h0 (by omega)).1.inj hw).symm
theorem MK.cn {K P : PH} (h : MK K P) (ha : AW K) {v w : Int} (hw : NW v w) : fxi (fun i => P 23 (24 * P 0 37 + i)) w (P 5 (P 0 37)).toNat = cNm K v := by
  unfold cNm
  rw [h.2.1]
  refine fxi_cg _ (fun i h0 h1 => ?_)
  have := ha.1
  exact ((h.c (c := i) h0 (by omega)).1.inj hw).symm
theorem MK.kind {K P P1 : PH} {v w i : Int} (h : MK K P) (ha : AW K) (hw : NW v w) (hi : i = 4 * P 0 37 + P 2 (P 0 37)) (e37 : P1 0 37 = P 0 37) (e2 : P1 2 (P 0 37) = P 2 (P 0 37) + 1) (e5 : P1 5 (P 0 37) = P 5 (P 0 37))
    (s22 : P1 22 i = w) (q22 : ∀ j : Int, j ≠ i → P1 22 j = P 22 j) (s3 : P1 3 i = 0) (q3 : ∀ j : Int, j ≠ i → P1 3 j = P 3 j) (s4 : P1 4 i = 0) (q4 : ∀ j : Int, j ≠ i → P1 4 j = P 4 j)
    (q6 : ∀ j, P1 6 j = P 6 j) (q7 : ∀ j, P1 7 j = P 7 j) (q8 : ∀ j, P1 8 j = P 8 j) (q9 : ∀ j, P1 9 j = P 9 j) (q23 : ∀ j, P1 23 j = P 23 j) : MK (kNew K v) P1 := by
  have h2 := h.1
  unfold MK
  rw [kNew_0.1, kNew_0.2, e37, e2, e5]
  refine ⟨by omega, h.2.1, fun k k0 k1 => ?_, fun c c0 c1 => ?_⟩
  · rw [kNew_1, kNew_2, kNew_3]
    by_cases e : k = K 0 0
    · have e9 : 4 * P 0 37 + k = i := by omega
      rw [if_pos e, if_pos e, if_pos e, e9, s22, s3, s4]
      exact ⟨hw, rfl, rfl⟩
    · have e9 : 4 * P 0 37 + k ≠ i := by omega
      rw [if_neg e, if_neg e, if_neg e, q22 _ e9, q3 _ e9, q4 _ e9]
      exact h.k k0 (by omega)
  · rw [kNew_c (o := 4) (by decide) (by decide) (by decide) (by decide) (by decide), kNew_c (o := 5) (by decide) (by decide) (by decide) (by decide) (by decide), kNew_c (o := 6) (by decide) (by decide) (by decide) (by decide) (by decide), kNew_c (o := 7) (by decide) (by decide) (by decide) (by decide) (by decide), kNew_c (o := 8) (by decide) (by decide) (by decide) (by decide) (by decide), kNew_c (o := 10) (by decide) (by decide) (by decide) (by decide) (by decide), q6, q7, q8, q8, q9, q23]
    exact h.c c0 c1
/-- writes behind what is told -/
theorem MK.un {K P P1 : PH} {i : Int} (h : MK K P) (hi : i = 24 * P 0 37 + P 5 (P 0 37)) (e37 : P1 0 37 = P 0 37) (q2 : ∀ j, P1 2 j = P 2 j) (q3 : ∀ j, P1 3 j = P 3 j) (q4 : ∀ j, P1 4 j = P 4 j) (q5 : ∀ j, P1 5 j = P 5 j) (q22 : ∀ j, P1 22 j = P 22 j)
    (q6 : ∀ j : Int, j ≠ i → P1 6 j = P 6 j) (q7 : ∀ j : Int, j ≠ i → P1 7 j = P 7 j) (q8 : ∀ j : Int, j < 2 * i → P1 8 j = P 8 j) (q9 : ∀ j : Int, j ≠ i → P1 9 j = P 9 j) (q23 : ∀ j : Int, j ≠ i → P1 23 j = P 23 j) : MK K P1 := by
  have h5 := h.2.1
  unfold MK
  rw [e37, q2, q5]
  refine ⟨h.1, h.2.1, fun k k0 k1 => ?_, fun c c0 c1 => ?_⟩
  · rw [q22, q3, q4]
    exact h.k k0 k1
  · have e9 : 24 * P 0 37 + c ≠ i := by omega
    rw [q6 _ e9, q7 _ e9, q8 _ (by omega), q8 _ (by omega), q9 _ e9, q23 _ e9]
    exact h.c c0 c1
/-- the constructor that is being told -/
def MN (L v n a b i f : Int) (P : PH) : Prop := NW v (P 23 (24 * P 0 37 + P 5 (P 0 37))) ∧ P 6 (24 * P 0 37 + P 5 (P 0 37)) = L ∧ P 7 (24 * P 0 37 + P 5 (P 0 37)) = n ∧ (1 ≤ n → K4 (P 8 (2 * (24 * P 0 37 + P 5 (P 0 37)))) a) ∧ (2 ≤ n → K4 (P 8 (2 * (24 * P 0 37 + P 5 (P 0 37)) + 1)) b) ∧ P 9 (24 * P 0 37 + P 5 (P 0 37)) = f ∧ P 10 (24 * P 0 37 + P 5 (P 0 37)) = i
theorem MN.fr {L v n a b i f : Int} {P P1 : PH} {F : FS} (h : MN L v n a b i f P) (hf : FrM F P P1) (hd : disF F ([37], [5, 6, 7, 8, 9, 10, 23]) = true) : MN L v n a b i f P1 := by
  unfold MN at h ⊢
  rw [disF_k hd hf (k := 37) (by decide), disF_o hd hf (o := 5) (by decide) rfl, disF_o hd hf (o := 6) (by decide) rfl, disF_o hd hf (o := 7) (by decide) rfl, disF_o hd hf (o := 8) (by decide) rfl, disF_o hd hf (o := 9) (by decide) rfl, disF_o hd hf (o := 10) (by decide) rfl, disF_o hd hf (o := 23) (by decide) rfl]
  exact h
theorem MN.new {L v w f c b e : Int} {P : PH} (hw : NW v w) (e37 : P 0 37 = b) (e5 : P 5 b = e) (hc : c = 24 * b + e) (s23 : P 23 c = w) (s6 : P 6 c = L) (s7 : P 7 c = 0) (s9 : P 9 c = f) (s10 : P 10 c = 1) : MN L v 0 (-1) (-1) 1 f P := by
  subst hc
  unfold MN
  rw [e37, e5, s23]
  exact ⟨hw, s6, s7, fun h => absurd h (by decide), fun h => absurd h (by decide), s9, s10⟩
theorem MN.field {L v n a b i f k z i2 : Int} {P P1 : PH} (h : MN L v n a b i f P) (hn : 0 ≤ n ∧ n ≤ 1) (e37 : P1 0 37 = P 0 37) (e5 : P1 5 (P 0 37) = P 5 (P 0 37)) (hk : K4 z k)
    (s8 : P1 8 (2 * (24 * P 0 37 + P 5 (P 0 37)) + n) = z) (q8 : ∀ j : Int, j ≠ 2 * (24 * P 0 37 + P 5 (P 0 37)) + n → P1 8 j = P 8 j) (s7 : P1 7 (24 * P 0 37 + P 5 (P 0 37)) = n + 1) (s10 : P1 10 (24 * P 0 37 + P 5 (P 0 37)) = i2)
    (q6 : ∀ j, P1 6 j = P 6 j) (q9 : ∀ j, P1 9 j = P 9 j) (q23 : ∀ j, P1 23 j = P 23 j) : MN L v (n + 1) (if n = 0 then k else a) (if n = 0 then b else k) i2 f P1 := by
  unfold MN at h ⊢
  rw [e37, e5, q6, q9, q23, s7, s10]
  obtain ⟨h1, h2, h3, h4, h5, h6, h7⟩ := h
  refine ⟨h1, h2, rfl, fun _ => ?_, fun hn2 => ?_, h6, rfl⟩
  · by_cases e : n = 0
    · rw [if_pos e]
      rw [e, Int.add_zero] at s8
      rw [s8]
      exact hk
    · rw [if_neg e, q8 _ (by omega)]
      exact h4 (by omega)
  · have e : n = 1 := by omega
    rw [e] at s8
    rw [if_neg (by omega), s8]
    exact hk
theorem MK.con {K P P1 : PH} {v n a b i : Int} (h : MK K P) (hm : MN (K 0 0 - 1) v n a b i (K 2 (K 0 0 - 1)) P) (hk : 1 ≤ K 0 0) (e37 : P1 0 37 = P 0 37) (e5 : P1 5 (P 0 37) = P 5 (P 0 37) + 1)
    (s3 : P1 3 (4 * P 0 37 + (K 0 0 - 1)) = P 3 (4 * P 0 37 + (K 0 0 - 1)) + i) (q3 : ∀ j : Int, j ≠ 4 * P 0 37 + (K 0 0 - 1) → P1 3 j = P 3 j) (s4 : P1 4 (4 * P 0 37 + (K 0 0 - 1)) = P 4 (4 * P 0 37 + (K 0 0 - 1)) + 1) (q4 : ∀ j : Int, j ≠ 4 * P 0 37 + (K 0 0 - 1) → P1 4 j = P 4 j)
    (q2 : ∀ j, P1 2 j = P 2 j) (q6 : ∀ j, P1 6 j = P 6 j) (q7 : ∀ j, P1 7 j = P 7 j) (q8 : ∀ j, P1 8 j = P 8 j) (q9 : ∀ j, P1 9 j = P 9 j) (q22 : ∀ j, P1 22 j = P 22 j) (q23 : ∀ j, P1 23 j = P 23 j) : MK (cNew K v n a b i) P1 := by
  have h5 := h.2.1
  have hl := h.k (k := K 0 0 - 1) (by omega) (by omega)
  unfold MK
  rw [cNew_0.1, cNew_0.2, cNew_c (o := 1) (Or.inl rfl), e37, q2, e5]
  refine ⟨h.1, by omega, fun k k0 k1 => ?_, fun c c0 c1 => ?_⟩
  · rw [q22, cNew_2, cNew_3]
    by_cases e : k = K 0 0 - 1
    · rw [if_pos e, if_pos e, e, s3, s4, hl.2.1, hl.2.2]
      exact ⟨hl.1, rfl, rfl⟩
    · rw [if_neg e, if_neg e, q3 _ (by omega), q4 _ (by omega)]
      exact h.k k0 k1
  · rw [q6, q7, q8, q8, q9, q23, cNew_4, cNew_5, cNew_6, cNew_7, cNew_8, cNew_10]
    by_cases e : c = K 0 1
    · rw [if_pos e, if_pos e, if_pos e, if_pos e, if_pos e, if_pos e, show 24 * P 0 37 + c = 24 * P 0 37 + P 5 (P 0 37) by omega]
      exact ⟨hm.1, hm.2.1, hm.2.2.1, hm.2.2.2.1, hm.2.2.2.2.1, hm.2.2.2.2.2.1⟩
    · rw [if_neg e, if_neg e, if_neg e, if_neg e, if_neg e, if_neg e]
      exact h.c c0 (by omega)
theorem MM.b {M P : PH} (h : MM M P) : P 11 (P 0 37) = M 0 0 ∧ P 13 (P 0 37) = M 0 2 ∧ P 15 (P 0 37) = M 0 3 ∧ P 16 (P 0 37) = M 0 4 := ⟨h.1, h.2.1, h.2.2.1, h.2.2.2.1⟩
theorem mCol_0 {M : PH} {k r : Int} : mCol M k r 0 0 = M 0 0 + 1 ∧ mCol M k r 0 1 = r ∧ mCol M k r 0 2 = M 0 2 ∧ mCol M k r 0 3 = M 0 3 ∧ mCol M k r 0 4 = M 0 4 := ⟨by simp [mCol, up], by simp [mCol, up], by simp [mCol, up], by simp [mCol, up], by simp [mCol, up]⟩
theorem mCol_1 {M : PH} {k r : Int} (c : Int) : mCol M k r 1 c = if c = M 0 0 then k else M 1 c := by simp [mCol, up]
theorem mCol_2 {M : PH} {k r : Int} : mCol M k r 2 = M 2 := by funext j; simp [mCol, up]
theorem MM.col {M P P1 : PH} {k z r : Int} (h : MM M P) (hk : K4 z k) (e37 : P1 0 37 = P 0 37) (e11 : P1 11 (P 0 37) = P 11 (P 0 37) + 1) (s12 : P1 12 (4 * P 0 37 + P 11 (P 0 37)) = z) (q12 : ∀ j : Int, j ≠ 4 * P 0 37 + P 11 (P 0 37) → P1 12 j = P 12 j)
    (q13 : ∀ j, P1 13 j = P 13 j) (q14 : ∀ j, P1 14 j = P 14 j) (q15 : ∀ j, P1 15 j = P 15 j) (q16 : ∀ j, P1 16 j = P 16 j) : MM (mCol M k r) P1 := by
  obtain ⟨h1, h2, h3, h4, h5, h6⟩ := h
  unfold MM
  rw [mCol_0.1, mCol_0.2.2.1, mCol_0.2.2.2.1, mCol_0.2.2.2.2, mCol_2, e37, e11, q13, q15, q16]
  refine ⟨by omega, h2, h3, h4, fun c c0 c1 => ?_, fun a a0 a1 => ?_⟩
  · rw [mCol_1]
    by_cases e : c = M 0 0
    · rw [if_pos e, e, ← h1, s12]
      exact hk
    · rw [if_neg e, q12 _ (by omega)]
      exact h5 c c0 (by omega)
  · rw [q14]
    exact h6 a a0 a1
theorem MM.un {M P P1 : PH} (h : MM M P) (e37 : P1 0 37 = P 0 37) (q14 : ∀ j : Int, j ≠ 12 * P 0 37 + P 13 (P 0 37) → P1 14 j = P 14 j) (q11 : ∀ j, P1 11 j = P 11 j) (q12 : ∀ j, P1 12 j = P 12 j) (q13 : ∀ j, P1 13 j = P 13 j) (q15 : ∀ j, P1 15 j = P 15 j) (q16 : ∀ j, P1 16 j = P 16 j) : MM M P1 := by
  obtain ⟨h1, h2, h3, h4, h5, h6⟩ := h
  unfold MM
  rw [e37, q11, q13, q15, q16]
  exact ⟨h1, h2, h3, h4, fun c c0 c1 => by rw [q12]; exact h5 c c0 c1, fun a a0 a1 => by rw [q14 _ (by omega)]; exact h6 a a0 a1⟩
theorem aNew_0 {M : PH} {g : Int} : aNew M g 0 0 = M 0 0 ∧ aNew M g 0 2 = M 0 2 + 1 ∧ aNew M g 0 3 = M 0 3 ∧ aNew M g 0 4 = M 0 4 := ⟨by simp [aNew, up], by simp [aNew, up], by simp [aNew, up], by simp [aNew, up]⟩
theorem aNew_2 {M : PH} {g : Int} (a : Int) : aNew M g 2 a = if a = M 0 2 then g else M 2 a := by simp [aNew, up]
theorem aNew_1 {M : PH} {g : Int} : aNew M g 1 = M 1 := by funext j; simp [aNew, up]
theorem MM.arm {M P P1 : PH} {g : Int} (h : MM M P) (hg : P 14 (12 * P 0 37 + P 13 (P 0 37)) = g) (e37 : P1 0 37 = P 0 37) (e13 : P1 13 (P 0 37) = P 13 (P 0 37) + 1) (q14 : ∀ j, P1 14 j = P 14 j) (q11 : ∀ j, P1 11 j = P 11 j) (q12 : ∀ j, P1 12 j = P 12 j) (q15 : ∀ j, P1 15 j = P 15 j) (q16 : ∀ j, P1 16 j = P 16 j) : MM (aNew M g) P1 := by
  obtain ⟨h1, h2, h3, h4, h5, h6⟩ := h
  unfold MM
  rw [aNew_0.1, aNew_0.2.1, aNew_0.2.2.1, aNew_0.2.2.2, aNew_1, e37, e13, q11, q15, q16]
  refine ⟨h1, by omega, h3, h4, fun c c0 c1 => by rw [q12]; exact h5 c c0 c1, fun a a0 a1 => ?_⟩
  rw [aNew_2, q14]
  by_cases e : a = M 0 2
  · rw [if_pos e, e, ← h2, hg]
  · rw [if_neg e]
    exact h6 a a0 (by omega)
theorem MM.rule {M P P1 : PH} {g : Int} (h : MM M P) (e37 : P1 0 37 = P 0 37) (e15 : P1 15 (P 0 37) = g) (q14 : ∀ j, P1 14 j = P 14 j) (q11 : ∀ j, P1 11 j = P 11 j) (q12 : ∀ j, P1 12 j = P 12 j) (q13 : ∀ j, P1 13 j = P 13 j) (q16 : ∀ j, P1 16 j = P 16 j) : MM (up M 0 3 g) P1 := by
  obtain ⟨h1, h2, h3, h4, h5, h6⟩ := h
  unfold MM
  rw [up_k (by decide), up_k (by decide), up_same, up_k (by decide), up_row (o1 := 1) (by decide), up_row (o1 := 2) (by decide), e37, q11, q13, q16]
  exact ⟨h1, h2, e15, h4, fun c c0 c1 => by rw [q12]; exact h5 c c0 c1, fun a a0 a1 => by rw [q14]; exact h6 a a0 a1⟩
theorem MM.budget {M P P1 : PH} {g : Int} (h : MM M P) (e37 : P1 0 37 = P 0 37) (e16 : P1 16 (P 0 37) = g) (q14 : ∀ j, P1 14 j = P 14 j) (q11 : ∀ j, P1 11 j = P 11 j) (q12 : ∀ j, P1 12 j = P 12 j) (q13 : ∀ j, P1 13 j = P 13 j) (q15 : ∀ j, P1 15 j = P 15 j) : MM (up M 0 4 g) P1 := by
  obtain ⟨h1, h2, h3, h4, h5, h6⟩ := h
  unfold MM
  rw [up_k (by decide), up_k (by decide), up_k (by decide), up_same, up_row (o1 := 1) (by decide), up_row (o1 := 2) (by decide), e37, q11, q13, q15]
  exact ⟨h1, h2, h3, e16, fun c c0 c1 => by rw [q12]; exact h5 c c0 c1, fun a a0 a1 => by rw [q14]; exact h6 a a0 a1⟩
end
section
/-! Longs: a byte more. The reference's token ahead, made. -/
theorem l64_bv (x : Int64) : x.toInt = x.toBitVec.toInt := rfl
theorem llshl8 {x : Int} (h : LR (x * 256)) : llshl x 8 = x * 256 := by
  have e : Int64.ofInt x <<< ((Int32.ofInt (8 : Int)).toInt64 &&& 63) = Int64.ofInt (x * 256) := by
    apply Int64.toBitVec.inj
    rw [Int64.toBitVec_shiftLeft, BitVec.shiftLeft_eq', show ((((Int32.ofInt (8 : Int)).toInt64 &&& 63).toBitVec.smod 64)).toNat = 8 from l64_smod (c := 8) (by decide)]
    have h1 : (Int64.ofInt x).toBitVec = BitVec.ofInt 64 x := rfl
    have h2 : (Int64.ofInt (x * 256)).toBitVec = BitVec.ofInt 64 (x * 256) := rfl
    rw [h1, h2, BitVec.shiftLeft_eq_mul_twoPow, BitVec.ofInt_mul]
    rfl
  unfold llshl
  rw [e, oL h]
theorem bv64_of {z : Int} (h : 0 ≤ z ∧ z ≤ 9223372036854775807) : (Int64.ofInt z).toBitVec.toNat = z.toNat := by
  have h1 : (Int64.ofInt z).toBitVec = BitVec.ofInt 64 z := rfl
  rw [h1, BitVec.toNat_ofInt]
  omega
theorem llor8 {x c : Int} (hx : 0 ≤ x ∧ x ≤ 36028797018963967) (hc : 0 ≤ c ∧ c < 256) : llor (x * 256) c = x * 256 + c := by
  have e4 : ((x.toNat : Nat) : Int) = x := Int.toNat_of_nonneg hx.1
  have e3 : ((c.toNat : Nat) : Int) = c := Int.toNat_of_nonneg hc.1
  unfold llor
  rw [l64_bv, Int64.toBitVec_or]
  have e1 := bv64_of (z := x * 256) ⟨by omega, by omega⟩
  have e2 := bv64_of (z := c) ⟨hc.1, by omega⟩
  have hv : ((Int64.ofInt (x * 256)).toBitVec ||| (Int64.ofInt c).toBitVec).toNat = x.toNat * 2 ^ 8 + c.toNat := by
    rw [BitVec.toNat_or, e1, e2, show (x * 256).toNat = x.toNat * 2 ^ 8 by omega, ← Nat.shiftLeft_eq, Nat.shiftLeft_add_eq_or_of_lt (by omega)]
  rw [BitVec.toInt_eq_toNat_cond, hv, if_pos (by omega)]
  omega
def p256 : Nat → Int
  | 0 => 1
  | k + 1 => p256 k * 256
theorem e56_lt {g : Nat → Int} : ∀ (k : Nat), (∀ i, i < k → 1 ≤ g i ∧ g i ≤ 26) → e56 g k < p256 k := by
  intro k
  induction k with
  | zero => intro _; show (0 : Int) < 1; omega
  | succ k ih =>
    intro h
    have h1 := ih (fun i hi => h i (by omega))
    have h2 := h k (by omega)
    show e56 g k * 256 + (96 + g k) < p256 k * 256
    omega
theorem e56_r {g : Nat → Int} {k : Nat} (hk : k ≤ 6) (h : ∀ i, i < k → 1 ≤ g i ∧ g i ≤ 26) : 0 ≤ e56 g k ∧ e56 g k < 281474976710656 := by
  have h0 := e56_b k h
  have h1 := e56_lt k h
  have h2 : ∀ k : Nat, k < 7 → p256 k ≤ 281474976710656 := by decide
  have := h2 k (by omega)
  omega
/-- a letter more -/
theorem e56_one {T : TT} {a w c : Int} {n : Nat} (h : w = e56 (tL T a) n) (hn : n ≤ 5) (hl : ∀ i, i < n → 1 ≤ tL T a i ∧ tL T a i ≤ 26) (hc : c = T.1 (a + n)) (hr : 97 ≤ c ∧ c ≤ 122) : llor (llshl w 8) c = e56 (tL T a) (n + 1) := by
  have hb := e56_r (by omega) hl
  rw [← h] at hb
  rw [llshl8 ⟨by omega, by omega⟩, llor8 ⟨by omega, by omega⟩ ⟨by omega, by omega⟩]
  show w * 256 + c = e56 (tL T a) n * 256 + (96 + (T.1 (a + n) - 96))
  rw [← h, ← hc]
  omega
theorem e10_b {T : TT} {a : Int} : ∀ (n : Nat), n ≤ 4 → (∀ i : Nat, i < n → 48 ≤ T.1 (a + i) ∧ T.1 (a + i) ≤ 57) → 0 ≤ e10 (tD T a) n ∧ e10 (tD T a) n ≤ 9999 ∧ (n ≤ 3 → e10 (tD T a) n ≤ 999) ∧ (n ≤ 2 → e10 (tD T a) n ≤ 99) ∧ (n ≤ 1 → e10 (tD T a) n ≤ 9) ∧ (n = 0 → e10 (tD T a) n = 0) := by
  intro n
  induction n with
  | zero => intro _ _; exact ⟨Int.le_refl _, by show (0 : Int) ≤ 9999; omega, fun _ => by show (0 : Int) ≤ 999; omega, fun _ => by show (0 : Int) ≤ 99; omega, fun _ => by show (0 : Int) ≤ 9; omega, fun _ => rfl⟩
  | succ n ih =>
    intro hn h
    have h1 := ih (by omega) (fun i hi => h i (by omega))
    have h2 := h n (by omega)
    have e : e10 (tD T a) (n + 1) = e10 (tD T a) n * 10 + (T.1 (a + n) - 48) := rfl
    rw [e]
    omega
theorem tE_0 {T : TT} {p : Int} (h : tK T p = 0) : tE T p = tA T p := by
  unfold tE
  rw [if_neg (by omega), if_neg (by omega), if_neg (by omega)]
/-- the kind of a token, by what stands there -/
theorem tK_0 {T : TT} {p : Int} (h : T.2 ≤ tA T p) : tK T p = 0 := by unfold tK; rw [if_pos h]
theorem tK_3 {T : TT} {p : Int} (h : tA T p < T.2) (hl : bL (T.1 (tA T p)) = false) (hn : bN (T.1 (tA T p)) = false) : tK T p = 3 := by
  unfold tK
  rw [if_neg (by omega), if_pos ⟨hl, hn⟩]
theorem tK_j {T : TT} {p : Int} (h : tA T p < T.2) (hl : bL (T.1 (tA T p)) = true ∨ bN (T.1 (tA T p)) = true) (hj : tJ T p = true) : tK T p = 4 := by
  unfold tK
  rw [if_neg (by omega), if_neg (fun q => by rcases hl with z | z <;> (rw [z] at q; simp at q)), if_pos hj]
theorem tK_w {T : TT} {p : Int} (h : tA T p < T.2) (hl : bL (T.1 (tA T p)) = true) (hj : tJ T p = false) : tK T p = if rE bL T (tA T p) - tA T p ≤ 6 then 1 else 4 := by
  unfold tK
  rw [if_neg (by omega), if_neg (fun q => by rw [hl] at q; simp at q), if_neg (by rw [hj]; simp), if_pos hl]
theorem tK_n {T : TT} {p : Int} (h : tA T p < T.2) (hl : bL (T.1 (tA T p)) = false) (hn : bN (T.1 (tA T p)) = true) (hj : tJ T p = false) : tK T p = if rE bN T (tA T p) - tA T p ≤ 4 then 2 else 4 := by
  unfold tK
  rw [if_neg (by omega), if_neg (fun q => by rw [hn] at q; simp at q), if_neg (by rw [hj]; simp), if_neg (by rw [hl]; simp)]
theorem bL_f {c : Int} (h : c < 97 ∨ 122 < c) : bL c = false := by
  cases e : bL c with
  | false => rfl
  | true => have := bL_t.mp e; omega
theorem bN_f {c : Int} (h : c < 48 ∨ 57 < c) : bN c = false := by
  cases e : bN c with
  | false => rfl
  | true => have := bN_t.mp e; omega
/-- a letter or a digit just ahead of the token: as the reference looks -/
theorem tJ_t {T : TT} {p : Int} (h0 : 0 ≤ p) (h : 0 < tA T p ∧ ((97 ≤ T.1 (tA T p - 1) ∧ T.1 (tA T p - 1) ≤ 122) ∨ (48 ≤ T.1 (tA T p - 1) ∧ T.1 (tA T p - 1) ≤ 57))) : tJ T p = true := by
  have e : tA T p = p := by
    have hg := tA_ge T p
    rcases (show tA T p = p ∨ p < tA T p by omega) with q | q
    · exact q
    · exfalso
      have hi := rE_in (f := bW) (T := T) (p := p) (i := tA T p - 1) (by omega) (by show _ < tA T p; omega)
      have := bW_t.mp hi.2
      omega
  unfold tJ
  rw [Bool.and_eq_true, Bool.or_eq_true, decide_eq_true_iff]
  rw [e] at h
  refine ⟨⟨e, by omega⟩, ?_⟩
  rcases h.2 with q | q
  · exact Or.inl (bL_t.mpr q)
  · exact Or.inr (bN_t.mpr q)
theorem tJ_f {T : TT} {p : Int} (h : tA T p ≤ 0 ∨ ((T.1 (tA T p - 1) < 97 ∨ 122 < T.1 (tA T p - 1)) ∧ (T.1 (tA T p - 1) < 48 ∨ 57 < T.1 (tA T p - 1)))) : tJ T p = false := by
  cases e : tJ T p with
  | false => rfl
  | true =>
    exfalso
    unfold tJ at e
    rw [Bool.and_eq_true, Bool.or_eq_true, decide_eq_true_iff] at e
    obtain ⟨⟨e1, e2⟩, e3⟩ := e
    rw [e1] at h
    rcases h with h | h
    · omega
    · rcases e3 with q | q
      · have := bL_t.mp q; omega
      · have := bN_t.mp q; omega
/-- as a number -/
def tJn (T : TT) (p : Int) : Int := if tJ T p = true then 1 else 0
theorem tJn_1 {T : TT} {p : Int} (h : tJ T p = true) : tJn T p = 1 := by unfold tJn; rw [if_pos h]
theorem tJn_0 {T : TT} {p : Int} (h : tJ T p = false) : tJn T p = 0 := by unfold tJn; rw [if_neg (by rw [h]; simp)]
theorem tJn_t {T : TT} {p : Int} (h : tJn T p = 1) : tJ T p = true := by
  cases e : tJ T p with
  | true => rfl
  | false => rw [tJn_0 e] at h; omega
theorem tJn_f {T : TT} {p : Int} (h : tJn T p = 0) : tJ T p = false := by
  cases e : tJ T p with
  | false => rfl
  | true => rw [tJn_1 e] at h; omega
theorem MS.end {T : TT} {p : Int} {P : PH} (hp : 0 ≤ p ∧ p ≤ T.2) (h4 : P 0 4 = tA T p) (hn : T.2 ≤ tA T p) (h3 : P 0 3 = 0) (h12 : P 0 12 = -1) (h5 : P 0 5 = tA T p) : MS T p P := by
  have hk := tK_0 hn
  refine ⟨h4, hp.1, hp.2, fun q => by omega, fun _ => ⟨h12, by omega, by rw [tE_0 hk]; exact h5⟩, fun q => by omega, fun q => by omega⟩
theorem MS.sig {T : TT} {p : Int} {P : PH} (hp : 0 ≤ p ∧ p ≤ T.2) (h4 : P 0 4 = tA T p) (hn : tA T p < T.2) (hl : T.1 (tA T p) < 97 ∨ 122 < T.1 (tA T p)) (hd : T.1 (tA T p) < 48 ∨ 57 < T.1 (tA T p)) (h3 : P 0 3 = 3) (h12 : P 0 12 = -1) (h5 : P 0 5 = tA T p + 1) (h6 : P 0 6 = T.1 (tA T p)) : MS T p P := by
  have hk := tK_3 hn (bL_f hl) (bN_f hd)
  have h9 := tK3 hk
  refine ⟨h4, hp.1, hp.2, fun q => by omega, fun _ => ⟨h12, by omega, by omega⟩, fun _ => by rw [h9.2.2.2]; exact h6, fun q => by omega⟩
theorem MS.wor {T : TT} {p : Int} {P : PH} (hp : 0 ≤ p ∧ p ≤ T.2) (h4 : P 0 4 = tA T p) (hn : tA T p < T.2) (hl : 97 ≤ T.1 (tA T p) ∧ T.1 (tA T p) ≤ 122) (h3 : P 0 3 = 1) (h5 : P 0 5 = rE bL T (tA T p))
    (hx : (tJn T p = 1 ∧ P 0 12 = tA T p) ∨ (tJn T p = 0 ∧ ((rE bL T (tA T p) - tA T p ≤ 6 ∧ P 0 12 = -1) ∨ (6 < rE bL T (tA T p) - tA T p ∧ P 0 12 = tA T p + 6)))) (hw : rE bL T (tA T p) - tA T p ≤ 6 → P 0 7 = e56 (tL T (tA T p)) (rE bL T (tA T p) - tA T p).toNat) : MS T p P := by
  have hl1 := bL_t.mpr hl
  have hg := tA_ge T p
  rcases hx with ⟨hj, h12⟩ | ⟨hj, hx⟩
  · have hj := tJn_t hj
    have hk := tK_j hn (Or.inl hl1) hj
    refine ⟨h4, hp.1, hp.2, fun _ => ⟨?_, by omega, by omega⟩, fun q => by omega, fun q => by omega, fun q => by omega⟩
    unfold tS
    rw [if_pos hj]
    exact h12
  · have hj := tJn_f hj
    have hk := tK_w hn hl1 hj
    rcases hx with ⟨hle, h12⟩ | ⟨hle, h12⟩
    · rw [if_pos hle] at hk
      refine ⟨h4, hp.1, hp.2, fun q => by omega, fun _ => ⟨h12, by omega, ?_⟩, fun q => by omega, fun _ => hw hle⟩
      unfold tE
      rw [if_neg (by omega), if_pos hk]
      exact h5
    · rw [if_neg (by omega)] at hk
      refine ⟨h4, hp.1, hp.2, fun _ => ⟨?_, by omega, by omega⟩, fun q => by omega, fun q => by omega, fun q => by omega⟩
      unfold tS
      rw [if_neg (by rw [hj]; simp), if_pos hl1]
      exact h12
theorem MS.nu {T : TT} {p : Int} {P : PH} (hp : 0 ≤ p ∧ p ≤ T.2) (h4 : P 0 4 = tA T p) (hn : tA T p < T.2) (hl : 48 ≤ T.1 (tA T p) ∧ T.1 (tA T p) ≤ 57) (h3 : P 0 3 = 2) (h5 : P 0 5 = rE bN T (tA T p))
    (hx : (tJn T p = 1 ∧ P 0 12 = tA T p) ∨ (tJn T p = 0 ∧ ((rE bN T (tA T p) - tA T p ≤ 4 ∧ P 0 12 = -1) ∨ (4 < rE bN T (tA T p) - tA T p ∧ P 0 12 = tA T p + 4)))) (hw : rE bN T (tA T p) - tA T p ≤ 4 → P 0 6 = e10 (tD T (tA T p)) (rE bN T (tA T p) - tA T p).toNat) : MS T p P := by
  have hl1 := bN_t.mpr hl
  have hl0 : bL (T.1 (tA T p)) = false := bL_f (by omega)
  have hg := tA_ge T p
  rcases hx with ⟨hj, h12⟩ | ⟨hj, hx⟩
  · have hj := tJn_t hj
    have hk := tK_j hn (Or.inr hl1) hj
    refine ⟨h4, hp.1, hp.2, fun _ => ⟨?_, by omega, by omega⟩, fun q => by omega, fun q => by omega, fun q => by omega⟩
    unfold tS
    rw [if_pos hj]
    exact h12
  · have hj := tJn_f hj
    have hk := tK_n hn hl0 hl1 hj
    rcases hx with ⟨hle, h12⟩ | ⟨hle, h12⟩
    · rw [if_pos hle] at hk
      refine ⟨h4, hp.1, hp.2, fun q => by omega, fun _ => ⟨h12, by omega, ?_⟩, fun _ => ?_, fun q => by omega⟩
      · unfold tE
        rw [if_neg (by omega), if_neg (by omega), if_pos hk]
        exact h5
      · unfold tV
        rw [if_neg (by omega), if_neg (by omega), if_pos hk]
        exact hw hle
    · rw [if_neg (by omega)] at hk
      refine ⟨h4, hp.1, hp.2, fun _ => ⟨?_, by omega, by omega⟩, fun q => by omega, fun q => by omega, fun q => by omega⟩
      unfold tS
      rw [if_neg (by rw [hj]; simp), if_neg (by rw [hl0]; simp)]
      exact h12
/-- what the run so far holds -/
theorem run_l {T : TT} {a b : Int} (h : rE bL T a = rE bL T b) (hb : a ≤ b) (hg : b ≤ rE bL T a) : ∀ i : Nat, a + i < b → 1 ≤ tL T a i ∧ tL T a i ≤ 26 := by
  intro i hi
  have := bL_t.mp (rE_in (f := bL) (T := T) (p := a) (i := a + i) (by omega) (by omega)).2
  unfold tL
  omega
theorem run_d {T : TT} {a b : Int} (hb : a ≤ b) (hg : b ≤ rE bN T a) : ∀ i : Nat, a + i < b → 48 ≤ T.1 (a + i) ∧ T.1 (a + i) ≤ 57 := by
  intro i hi
  exact bN_t.mp (rE_in (f := bN) (T := T) (p := a) (i := a + i) (by omega) (by omega)).2
theorem own_r {T : TT} {p r w : Int} (hg : (r = 1 ∧ oWS w) ∨ (r = 0 ∧ ¬ oWS w)) (hw : tK T p = 1 → w = tW T p) (h1 : tK T p = 1) : (r = 1 ∧ tO T p ≠ -1) ∨ (r = 0 ∧ tO T p = -1) := by
  have ha := own_any h1
  rw [hw h1] at hg
  rcases hg with ⟨e, q⟩ | ⟨e, q⟩
  · exact Or.inl ⟨e, ha.mp q⟩
  · by_cases z : tO T p = -1
    · exact Or.inr ⟨e, z⟩
    · exact absurd (ha.mpr z) q
end
section
/-! The reference's stack of patterns begun; what a reading of a pattern ends with. -/
def STL (P : PH) : SK → Prop
  | [] => True
  | (c, f, k) :: s => P 26 ((s.length : Int) + 1) = c ∧ P 27 ((s.length : Int) + 1) = f ∧ K4 (P 24 ((s.length : Int) + 1)) k ∧ STL P s
theorem STL.eq {P P1 : PH} : ∀ (s : SK), STL P s → (∀ j : Int, 1 ≤ j → j ≤ s.length → P1 24 j = P 24 j ∧ P1 26 j = P 26 j ∧ P1 27 j = P 27 j) → STL P1 s := by
  intro s
  induction s with
  | nil => intro _ _; trivial
  | cons x s ih =>
    obtain ⟨c, f, k⟩ := x
    intro h e
    have e1 := e ((s.length : Int) + 1) (by omega) (by rw [List.length_cons]; omega)
    refine ⟨by rw [e1.2.1]; exact h.1, by rw [e1.2.2]; exact h.2.1, by rw [e1.1]; exact h.2.2.1, ih h.2.2.2 (fun j j1 j2 => e j j1 (by rw [List.length_cons]; omega))⟩
/-- patterns begun: the stack, the kind of the one on top -/
def STK (s : SK) (k : Int) (P : PH) : Prop := P 0 43 = (s.length : Int) + 1 ∧ K4 (P 24 (P 0 43)) k ∧ STL P s
theorem STK.fr {s : SK} {k : Int} {P P1 : PH} {F : FS} (h : STK s k P) (hf : FrM F P P1) (hd : disF F ([43], [24, 26, 27]) = true) : STK s k P1 := by
  obtain ⟨h1, h2, h3⟩ := h
  refine ⟨by rw [disF_k hd hf (k := 43) (by decide)]; exact h1, by rw [disF_k hd hf (k := 43) (by decide), disF_o hd hf (o := 24) (by decide) rfl]; exact h2, h3.eq s (fun j _ _ => ?_)⟩
  rw [disF_o hd hf (o := 24) (by decide) rfl, disF_o hd hf (o := 26) (by decide) rfl, disF_o hd hf (o := 27) (by decide) rfl]
  exact ⟨rfl, rfl, rfl⟩
theorem STK.start {k z : Int} {P : PH} (h43 : P 0 43 = 1) (h24 : P 24 1 = z) (hk : K4 z k) : STK [] k P := ⟨h43, by rw [h43, h24]; exact hk, trivial⟩
theorem STK.pop {c f k1 k : Int} {s : SK} {P P1 : PH} (h : STK ((c, f, k1) :: s) k P) (h43 : P1 0 43 = P 0 43 - 1) (q24 : ∀ j, P1 24 j = P 24 j) (q26 : ∀ j, P1 26 j = P 26 j) (q27 : ∀ j, P1 27 j = P 27 j) : STK s k1 P1 ∧ P1 26 (P1 0 43) = c ∧ P1 27 (P1 0 43) = f := by
  obtain ⟨h1, h2, h3, h4, h5, h6⟩ := h
  have h1 : P 0 43 = ((s.length : Int) + 1) + 1 := by rw [h1, List.length_cons]; omega
  have e : P1 0 43 = (s.length : Int) + 1 := by omega
  refine ⟨⟨e, by rw [e, q24]; exact h5, h6.eq s (fun j _ _ => ⟨q24 j, q26 j, q27 j⟩)⟩, by rw [e, q26]; exact h3, by rw [e, q27]; exact h4⟩
theorem STK.push {c f k k1 z : Int} {s : SK} {P P1 : PH} (h : STK s k P) (hz : K4 z k1) (h43 : P1 0 43 = P 0 43 + 1) (s24 : P1 24 (P 0 43 + 1) = z) (q24 : ∀ j : Int, j ≠ P 0 43 + 1 → P1 24 j = P 24 j) (s26 : P1 26 (P 0 43) = c) (q26 : ∀ j : Int, j ≠ P 0 43 → P1 26 j = P 26 j) (s27 : P1 27 (P 0 43) = f) (q27 : ∀ j : Int, j ≠ P 0 43 → P1 27 j = P 27 j) : STK ((c, f, k) :: s) k1 P1 := by
  obtain ⟨h1, h2, h3⟩ := h
  refine ⟨by rw [h43, h1, List.length_cons]; omega, by rw [h43, s24]; exact hz, by rw [← h1]; exact s26, by rw [← h1]; exact s27, by rw [← h1, q24 _ (by omega)]; exact h2, h3.eq s (fun j j1 j2 => ⟨q24 j (by omega), q26 j (by omega), q27 j (by omega)⟩)⟩
theorem STK.b {s : SK} {k : Int} {P : PH} (h : STK s k P) : P 0 43 = (s.length : Int) + 1 ∧ ((P 24 (P 0 43) = 4 ∧ k = -1) ∨ (0 ≤ P 24 (P 0 43) ∧ P 24 (P 0 43) ≤ 3 ∧ k = P 24 (P 0 43))) := ⟨h.1, h.2.1⟩
/-- a fault: the machine's own, or that of a token that can't be anywhere, just behind a whole pattern -/
def LFa (T : TT) (K : PH) (m : Int) (s : SK) (k p f pl : Int) : Prop := Runs T K m s k p (f, pl) ∨ ∃ q, tK T q = 4 ∧ f = 1 ∧ pl = tS T q ∧ Runs T K m s k p (0, q)
theorem LFa.go {T : TT} {K : PH} {m m1 : Int} {s s1 : SK} {k k1 p p1 f pl : Int} (h : LFa T K m1 s1 k1 p1 f pl) (hr : ∀ x, Runs T K m1 s1 k1 p1 x → Runs T K m s k p x) : LFa T K m s k p f pl := by
  rcases h with h | ⟨q, h1, h2, h3, h4⟩
  · exact Or.inl (hr _ h)
  · exact Or.inr ⟨q, h1, h2, h3, hr _ h4⟩
theorem tO_4 {T : TT} {p : Int} (h : tK T p ≠ 1) : tO T p = -1 := by
  unfold tO
  rw [if_neg h]
theorem sgn_4 {T : TT} {c p : Int} (h : tK T p = 4) : sgn T c p = (1, tS T p) := by
  unfold sgn fh
  rw [if_neg (by omega), if_pos h]
/-- a token that can't be anywhere behind an alternative -/
theorem LFa.bad {T : TT} {K : PH} {s : SK} {k p f pl : Int} (h : tK T p = 4) (hf : f = 1) (hp : pl = tS T p) : LFa T K 1 s k p f pl := by
  have ho : tO T p ≠ 9 := by rw [tO_4 (by omega)]; decide
  subst hf
  subst hp
  cases s with
  | nil => exact Or.inr ⟨p, h, rfl, rfl, Runs.done ho⟩
  | cons x s =>
    obtain ⟨c, g, k1⟩ := x
    left
    by_cases hg : g + 1 < K 6 c
    · have := Runs.commaF (T := T) (K := K) (s := s) (k := k) (p := p) (k1 := k1) ho hg (by rw [sgn_4 h]; show (1 : Int) ≠ 0; decide)
      rw [sgn_4 h] at this
      exact this
    · have := Runs.closeF (T := T) (K := K) (s := s) (k := k) (p := p) (k1 := k1) ho hg (by rw [sgn_4 h]; show (1 : Int) ≠ 0; decide)
      rw [sgn_4 h] at this
      exact this
/-- what an alternative leaves -/
def AL (T : TT) (K : PH) (s : SK) (k p r : Int) (P : PH) : Prop := (0 < P 0 8 ∧ LFa T K 0 s k p (P 0 8) (P 0 9)) ∨ (P 0 8 ≤ 0 ∧ r = 1 ∧ ∃ q, MS T q P ∧ STK s k P ∧ ∀ x, Runs T K 1 s k q x → Runs T K 0 s k p x) ∨ (P 0 8 ≤ 0 ∧ r = 0 ∧ ∃ s1 k1 q, MS T q P ∧ STK s1 k1 P ∧ ∀ x, Runs T K 0 s1 k1 q x → Runs T K 0 s k p x)
/-- what the going on behind an alternative leaves -/
def GN (T : TT) (K : PH) (s : SK) (k p r : Int) (P : PH) : Prop := (0 < P 0 8 ∧ LFa T K 1 s k p (P 0 8) (P 0 9)) ∨ (P 0 8 ≤ 0 ∧ r = 1 ∧ ∃ s1 k1 q, MS T q P ∧ STK s1 k1 P ∧ ∀ x, Runs T K 0 s1 k1 q x → Runs T K 1 s k p x) ∨ (P 0 8 ≤ 0 ∧ r = 0 ∧ ∃ q, MS T q P ∧ Runs T K 1 s k p (0, q))
/-- a reading that ends at q, or with a fault, or with one of a token that can't be anywhere just there -/
def REn (T : TT) (x : Int × Int) (P : PH) : Prop := (P 0 8 = x.1 ∧ (x.1 = 0 ∨ P 0 9 = x.2)) ∨ (x.1 = 0 ∧ tK T x.2 = 4 ∧ P 0 8 = 1 ∧ P 0 9 = tS T x.2)
theorem LFa.pat {T : TT} {K : PH} {k p : Int} {P : PH} (h : LFa T K 0 [] k p (P 0 8) (P 0 9)) : REn T (pat T K k p) P := by
  rcases h with h | ⟨q, h1, h2, h3, h4⟩
  · rw [h.pat]
    exact Or.inl ⟨rfl, Or.inr rfl⟩
  · rw [h4.pat]
    exact Or.inr ⟨rfl, h1, h2, h3⟩
theorem STK.top {c f k1 k : Int} {s : SK} {P : PH} (h : STK ((c, f, k1) :: s) k P) : P 26 (P 0 43 - 1) = c ∧ P 27 (P 0 43 - 1) = f := by
  obtain ⟨h1, h2, h3, h4, h5, h6⟩ := h
  have h1 : P 0 43 = ((s.length : Int) + 1) + 1 := by rw [h1, List.length_cons]; omega
  rw [show P 0 43 - 1 = (s.length : Int) + 1 by omega]
  exact ⟨h3, h4⟩
theorem num_4 {T : TT} {lo hi p : Int} (h : tK T p = 4) : num T lo hi p = (1, tS T p) := by
  unfold num fh
  rw [if_neg (by omega), if_pos h]
theorem LFa.bad0 {T : TT} {K : PH} {s : SK} {k p f pl : Int} (h : tK T p = 4) (hf : f = 1) (hp : pl = tS T p) : LFa T K 0 s k p f pl := by
  have ho : tO T p ≠ 8 := by rw [tO_4 (by omega)]; decide
  subst hf
  subst hp
  left
  by_cases hk : k = -1
  · have e : rng T p = (1, tS T p) := by
      unfold rng
      rw [num_4 h]
      rfl
    have := Runs.rangeF (T := T) (K := K) (s := s) (k := k) (p := p) ho hk (by rw [e]; show (1 : Int) ≠ 0; decide)
    rw [e] at this
    exact this
  · have e : cas T K k p = (1, tS T p) := by
      unfold cas fh
      rw [if_neg (by omega), if_pos h]
    have := Runs.caseF (T := T) (K := K) (s := s) (k := k) (p := p) ho hk (by rw [e]; show (1 : Int) ≠ 0; decide)
    rw [e] at this
    exact this
theorem pair_eq {x : Int × Int} {a b : Int} (h1 : a = x.1) (h2 : b = x.2) : (a, b) = x := by
  subst h1
  subst h2
  rfl
theorem AL.bad {T : TT} {K : PH} {s : SK} {k p r : Int} {P : PH} (h : tK T p = 4) (h8 : P 0 8 = 1) (h9 : P 0 9 = tS T p) : AL T K s k p r P := Or.inl ⟨by omega, LFa.bad0 h h8 h9⟩
theorem AL.any {T : TT} {K : PH} {s : SK} {k p : Int} {P : PH} (h : tO T p = 8) (h8 : P 0 8 ≤ 0) (hs : MS T (tE T p) P) (hk : STK s k P) : AL T K s k p 1 P := Or.inr (Or.inl ⟨h8, rfl, tE T p, hs, hk, fun _ hx => Runs.any h hx⟩)
theorem AL.range {T : TT} {K : PH} {s : SK} {k p : Int} {P : PH} (ho : tO T p ≠ 8) (hk : k = -1) (hr : REn T (rng T p) P) (h0 : 0 ≤ P 0 8) (hs : P 0 8 = 0 → MS T (rng T p).2 P) (hst : STK s k P) : AL T K s k p 1 P := by
  rcases hr with ⟨h1, h2⟩ | ⟨h1, h2, h3, h4⟩
  · by_cases e : (rng T p).1 = 0
    · exact Or.inr (Or.inl ⟨by omega, rfl, (rng T p).2, hs (by omega), hst, fun _ hx => Runs.range ho hk e hx⟩)
    · refine Or.inl ⟨by omega, Or.inl ?_⟩
      rw [pair_eq h1 (h2.resolve_left e)]
      exact Runs.rangeF ho hk e
  · exact Or.inl ⟨by omega, (LFa.bad h2 h3 h4).go (fun _ hx => Runs.range ho hk h1 hx)⟩
theorem AL.caseF {T : TT} {K : PH} {s : SK} {k p r : Int} {P : PH} (ho : tO T p ≠ 8) (hk : k ≠ -1) (h0 : 0 < P 0 8) (h1 : P 0 8 = (cas T K k p).1) (h2 : P 0 9 = (cas T K k p).2) : AL T K s k p r P := by
  refine Or.inl ⟨h0, Or.inl ?_⟩
  rw [pair_eq h1 h2]
  exact Runs.caseF ho hk (by omega)
theorem AL.case0 {T : TT} {K : PH} {s : SK} {k p : Int} {P : PH} (ho : tO T p ≠ 8) (hk : k ≠ -1) (h0 : P 0 8 ≤ 0) (hc : (cas T K k p).1 = 0) (h6 : K 6 (cNm K (tV T p)) = 0) (hs : MS T (tE T p) P) (hst : STK s k P) : AL T K s k p 1 P := Or.inr (Or.inl ⟨h0, rfl, tE T p, hs, hst, fun _ hx => Runs.case0 ho hk hc h6 hx⟩)
theorem AL.intoF {T : TT} {K : PH} {s : SK} {k p r : Int} {P : PH} (ho : tO T p ≠ 8) (hk : k ≠ -1) (h0 : 0 < P 0 8) (hc : (cas T K k p).1 = 0) (h6 : K 6 (cNm K (tV T p)) ≠ 0) (h1 : P 0 8 = (sgn T 40 (tE T p)).1) (h2 : P 0 9 = (sgn T 40 (tE T p)).2) : AL T K s k p r P := by
  refine Or.inl ⟨h0, Or.inl ?_⟩
  rw [pair_eq h1 h2]
  exact Runs.intoF ho hk hc h6 (by omega)
theorem AL.into {T : TT} {K : PH} {s : SK} {k p c : Int} {P : PH} (ho : tO T p ≠ 8) (hk : k ≠ -1) (h0 : P 0 8 ≤ 0) (hc : (cas T K k p).1 = 0) (e : c = cNm K (tV T p)) (h6 : K 6 (cNm K (tV T p)) ≠ 0) (h1 : (sgn T 40 (tE T p)).1 = 0) (hs : MS T (tE T (tE T p)) P) (hst : STK ((c, 0, k) :: s) (K 7 c) P) : AL T K s k p 0 P := by
  subst e
  exact Or.inr (Or.inr ⟨h0, rfl, _, _, _, hs, hst, fun _ hx => Runs.into ho hk hc h6 h1 hx⟩)
theorem AL.one {T : TT} {K : PH} {s : SK} {k p r : Int} {P : PH} (h : AL T K s k p r P) (hr : r ≠ 0) : ∃ q, (0 < P 0 8 ∧ LFa T K 0 s k p (P 0 8) (P 0 9)) ∨ (P 0 8 ≤ 0 ∧ MS T q P ∧ STK s k P ∧ ∀ x, Runs T K 1 s k q x → Runs T K 0 s k p x) := by
  rcases h with h | ⟨h1, h2, q, h3, h4, h5⟩ | ⟨h1, h2, h3⟩
  · exact ⟨0, Or.inl h⟩
  · exact ⟨q, Or.inr ⟨h1, h3, h4, h5⟩⟩
  · exact absurd h2 hr
/-- the reading of a pattern goes on, or has ended -/
def PL (T : TT) (K : PH) (k p l : Int) (P : PH) : Prop := (0 < P 0 8 → REn T (pat T K k p) P) ∧ (P 0 8 ≤ 0 → (l = 1 ∧ ∃ s1 k1 q, MS T q P ∧ STK s1 k1 P ∧ ∀ x, Runs T K 0 s1 k1 q x → Runs T K 0 [] k p x) ∨ (l = 0 ∧ MS T (pat T K k p).2 P ∧ (pat T K k p).1 = 0))
theorem PL.start {T : TT} {K : PH} {k p : Int} {P : PH} (h8 : P 0 8 ≤ 0) (hs : MS T p P) (hk : STK [] k P) : PL T K k p 1 P := ⟨fun h => by omega, fun _ => Or.inl ⟨rfl, [], k, p, hs, hk, fun _ hx => hx⟩⟩
theorem PL.al {T : TT} {K : PH} {s1 : SK} {k p k1 q r l : Int} {P : PH} (hl : l = 1) (h : AL T K s1 k1 q r P) (hr : r = 0) (hR : ∀ x, Runs T K 0 s1 k1 q x → Runs T K 0 [] k p x) : PL T K k p l P := by
  subst hl
  rcases h with ⟨h1, h2⟩ | ⟨h1, h2, _⟩ | ⟨h1, h2, s2, k2, q2, h3, h4, h5⟩
  · exact ⟨fun _ => (h2.go hR).pat, fun h => by omega⟩
  · omega
  · exact ⟨fun h => by omega, fun _ => Or.inl ⟨rfl, s2, k2, q2, h3, h4, fun x hx => hR x (h5 x hx)⟩⟩
theorem PL.gn {T : TT} {K : PH} {s1 : SK} {k p k1 q q1 r : Int} {P P1 : PH} (ha : (0 < P 0 8 ∧ LFa T K 0 s1 k1 q (P 0 8) (P 0 9)) ∨ (P 0 8 ≤ 0 ∧ MS T q1 P ∧ STK s1 k1 P ∧ ∀ x, Runs T K 1 s1 k1 q1 x → Runs T K 0 s1 k1 q x)) (hR : ∀ x, Runs T K 0 s1 k1 q x → Runs T K 0 [] k p x)
    (h : (0 < P 0 8 ∧ P1 0 8 = P 0 8 ∧ P1 0 9 = P 0 9) ∨ (P 0 8 ≤ 0 ∧ GN T K s1 k1 q1 r P1)) : PL T K k p r P1 := by
  rcases h with ⟨h1, h2, h3⟩ | ⟨h1, h2⟩
  · have ha := (ha.resolve_right (by omega)).2
    rw [← h2, ← h3] at ha
    exact ⟨fun _ => (ha.go hR).pat, fun h => by omega⟩
  · have ha := ha.resolve_left (by omega)
    have hR1 : ∀ x, Runs T K 1 s1 k1 q1 x → Runs T K 0 [] k p x := fun x hx => hR x (ha.2.2.2 x hx)
    rcases h2 with ⟨g1, g2⟩ | ⟨g1, g2, s2, k2, q2, g3, g4, g5⟩ | ⟨g1, g2, q2, g3, g4⟩
    · exact ⟨fun _ => (g2.go hR1).pat, fun h => by omega⟩
    · exact ⟨fun h => by omega, fun _ => Or.inl ⟨g2, s2, k2, q2, g3, g4, fun x hx => hR1 x (g5 x hx)⟩⟩
    · have e := (hR1 _ g4).pat
      exact ⟨fun h => by omega, fun _ => Or.inr ⟨g2, by rw [e]; exact g3, by rw [e]⟩⟩
/-- behind an alternative, round the loop -/
def GL (T : TT) (K : PH) (s : SK) (k p : Int) (P : PH) : Prop := ∃ (s1 : SK) (k1 q : Int), (P 0 8 ≤ 0 → MS T q P ∧ STK s1 k1 P ∧ ∀ x, Runs T K 1 s1 k1 q x → Runs T K 1 s k p x) ∧ (0 < P 0 8 → LFa T K 1 s k p (P 0 8) (P 0 9))
theorem GL.start {T : TT} {K : PH} {s : SK} {k p : Int} {P : PH} (h8 : P 0 8 ≤ 0) (h : MS T p P ∧ STK s k P) : GL T K s k p P := ⟨s, k, p, fun _ => ⟨h.1, h.2, fun _ hx => hx⟩, fun h => by omega⟩
theorem GL.lr {T : TT} {K : PH} {s : SK} {k p : Int} {P : PH} (h : GL T K s k p P) (h0 : 0 < P 0 8) : LFa T K 1 s k p (P 0 8) (P 0 9) := by
  obtain ⟨s1, k1, q, _, h2⟩ := h
  exact h2 h0
section GNS
variable {T : TT} {K : PH} {s s1 : SK} {k p k1 q c f g r : Int} {P : PH}
theorem GN.bad (hR : ∀ x, Runs T K 1 s1 k1 q x → Runs T K 1 s k p x) (h : tK T q = 4) (h8 : P 0 8 = 1) (h9 : P 0 9 = tS T q) : GN T K s k p r P := Or.inl ⟨by omega, (LFa.bad h h8 h9).go hR⟩
theorem GN.or (hR : ∀ x, Runs T K 1 s1 k1 q x → Runs T K 1 s k p x) (h : tO T q = 9) (h8 : P 0 8 ≤ 0) (hs : MS T (tE T q) P) (hk : STK s1 k1 P) : GN T K s k p 1 P := Or.inr (Or.inl ⟨h8, rfl, s1, k1, tE T q, hs, hk, fun x hx => hR x (Runs.or h hx)⟩)
theorem GN.done (hR : ∀ x, Runs T K 1 s1 k1 q x → Runs T K 1 s k p x) (hl : s1.length = 0) (h : tO T q ≠ 9) (h8 : P 0 8 ≤ 0) (hs : MS T q P) : GN T K s k p 0 P := by
  obtain rfl : s1 = [] := List.length_eq_zero_iff.mp hl
  exact Or.inr (Or.inr ⟨h8, rfl, q, hs, hR _ (Runs.done h)⟩)
theorem GN.commaF (hR : ∀ x, Runs T K 1 ((c, f, g) :: s1) k1 q x → Runs T K 1 s k p x) (ho : tO T q ≠ 9) (hf : f + 1 < K 6 c) (h0 : 0 < P 0 8) (h1 : P 0 8 = (sgn T 44 q).1) (h2 : P 0 9 = (sgn T 44 q).2) : GN T K s k p r P := by
  refine Or.inl ⟨h0, Or.inl ?_⟩
  rw [pair_eq h1 h2]
  exact hR _ (Runs.commaF ho hf (by omega))
theorem GN.comma (hR : ∀ x, Runs T K 1 ((c, f, g) :: s1) k1 q x → Runs T K 1 s k p x) (ho : tO T q ≠ 9) (hf : f + 1 < K 6 c) (h0 : P 0 8 ≤ 0) (h1 : (sgn T 44 q).1 = 0) (hs : MS T (tE T q) P) (hk : STK ((c, f + 1, g) :: s1) (K 8 c) P) : GN T K s k p 1 P :=
  Or.inr (Or.inl ⟨h0, rfl, _, _, _, hs, hk, fun x hx => hR x (Runs.comma ho hf h1 hx)⟩)
theorem GL.close (hR : ∀ x, Runs T K 1 ((c, f, g) :: s1) k1 q x → Runs T K 1 s k p x) (ho : tO T q ≠ 9) (hf : ¬ f + 1 < K 6 c) (h1 : P 0 8 = (sgn T 41 q).1) (h2 : (sgn T 41 q).1 = 0 ∨ P 0 9 = (sgn T 41 q).2) (hs : (sgn T 41 q).1 = 0 → MS T (tE T q) P) (hk : STK s1 g P) (h0 : 0 ≤ P 0 8) : GL T K s k p P := by
  refine ⟨s1, g, tE T q, fun h8 => ⟨hs (by omega), hk, fun x hx => hR x (Runs.close ho hf (by omega) hx)⟩, fun h8 => Or.inl ?_⟩
  rw [pair_eq h1 (h2.resolve_left (by omega))]
  exact hR _ (Runs.closeF ho hf (by omega))
end GNS
theorem fh_ok {T : TT} {p : Int} (h : tK T p ≠ 4) : fh T p = tA T p := by unfold fh; rw [if_neg h]
theorem fh_no {T : TT} {p : Int} (h : tK T p = 4) : fh T p = tS T p := by unfold fh; rw [if_pos h]
theorem fre_4 {T : TT} {K : PH} {p : Int} (h : tK T p = 4) : fre T K p = (1, tS T p) := by unfold fre; rw [if_neg (by omega), fh_no h]
end
section
/-! Arms, statements: lemmas for the reference's loops. -/
theorem MM.arm2 {M P P1 : PH} {g : Int} (h : MM M P) (e37 : P1 0 37 = P 0 37) (e13 : P1 13 (P 0 37) = P 13 (P 0 37) + 1) (s14 : P1 14 (12 * P 0 37 + P 13 (P 0 37)) = g) (q14 : ∀ j : Int, j ≠ 12 * P 0 37 + P 13 (P 0 37) → P1 14 j = P 14 j) (q11 : ∀ j, P1 11 j = P 11 j) (q12 : ∀ j, P1 12 j = P 12 j) (q15 : ∀ j, P1 15 j = P 15 j) (q16 : ∀ j, P1 16 j = P 16 j) : MM (aNew M g) P1 := by
  obtain ⟨h1, h2, h3, h4, h5, h6⟩ := h
  unfold MM
  rw [aNew_0.1, aNew_0.2.1, aNew_0.2.2.1, aNew_0.2.2.2, aNew_1, e37, e13, q11, q15, q16]
  refine ⟨h1, by omega, h3, h4, fun c c0 c1 => by rw [q12]; exact h5 c c0 c1, fun a a0 a1 => ?_⟩
  rw [aNew_2]
  by_cases e : a = M 0 2
  · rw [if_pos e, e, ← h2, s14]
  · rw [if_neg e, q14 _ (by omega)]
    exact h6 a a0 (by omega)
theorem arl_bad {T : TT} {K M : PH} {r : Nat} {c p : Int} (hc : 0 < c) (h : tK T p = 4) : arl T K M r c p = if r = 0 then (0, p) else (1, tS T p) := by
  cases r with
  | zero => rfl
  | succ r =>
    rw [if_neg (by omega), arl_sF hc (by rw [sgn_4 h]; show (1 : Int) ≠ 0; decide), sgn_4 h]
/-- a column's pattern more -/
theorem ARn {T : TT} {K M : PH} {r : Nat} {c q q1 : Int} {X : Int × Int} {P : PH} (hX : X = arl T K M (r + 1) c q) (h0 : 0 ≤ c) (hq : (c ≤ 0 ∧ q1 = q) ∨ (0 < c ∧ (sgn T 44 q).1 = 0 ∧ q1 = tE T q)) (hp : REn T (pat T K (M 1 c) q1) P) (h8 : 0 ≤ P 0 8) (hs : P 0 8 = 0 → MS T (pat T K (M 1 c) q1).2 P) :
    ∃ q2 : Int, (P 0 8 ≤ 0 → X = arl T K M r (c + 1) q2 ∧ MS T q2 P) ∧ (0 < P 0 8 → REn T X P) := by
  have e : arl T K M (r + 1) c q = if (pat T K (M 1 c) q1).1 ≠ 0 then pat T K (M 1 c) q1 else arl T K M r (c + 1) (pat T K (M 1 c) q1).2 := by
    rcases hq with ⟨h, rfl⟩ | ⟨h, h2, rfl⟩
    · exact arl_p0 h
    · exact arl_p1 h h2
  rw [e] at hX
  rcases hp with ⟨h1, h2⟩ | ⟨h1, h2, h3, h4⟩
  · by_cases z : (pat T K (M 1 c) q1).1 = 0
    · rw [if_neg (by omega)] at hX
      exact ⟨(pat T K (M 1 c) q1).2, fun _ => ⟨hX, hs (by omega)⟩, fun h => by omega⟩
    · rw [if_pos z] at hX
      rw [hX]
      exact ⟨0, fun h => by omega, fun _ => Or.inl ⟨h1, h2⟩⟩
  · rw [if_neg (by omega), arl_bad (by omega) h2] at hX
    refine ⟨0, fun h => by omega, fun _ => ?_⟩
    rw [hX]
    by_cases z : r = 0
    · rw [if_pos z]
      exact Or.inr ⟨rfl, h2, h3, h4⟩
    · rw [if_neg z]
      exact Or.inl ⟨h3, Or.inr h4⟩
theorem ARs {T : TT} {K M : PH} {r : Nat} {c q : Int} {X : Int × Int} {P : PH} (hX : X = arl T K M (r + 1) c q) (hc : 0 < c) (h0 : 0 < P 0 8) (h1 : P 0 8 = (sgn T 44 q).1) (h2 : P 0 9 = (sgn T 44 q).2) :
    ∃ q2 : Int, (P 0 8 ≤ 0 → X = arl T K M r (c + 1) q2 ∧ MS T q2 P) ∧ (0 < P 0 8 → REn T X P) := by
  rw [arl_sF hc (by omega)] at hX
  refine ⟨0, fun h => by omega, fun _ => ?_⟩
  rw [hX]
  exact Or.inl ⟨h1, Or.inr h2⟩
theorem tA_E {T : TT} {p : Int} : (tA T p < T.2 ∧ tK T p ≠ 0) ∨ (T.2 ≤ tA T p ∧ tK T p = 0) := by
  rcases Int.lt_or_le (tA T p) T.2 with h | h
  · refine Or.inl ⟨h, fun e => ?_⟩
    unfold tK at e
    rw [if_neg (by omega)] at e
    repeat' split at e
    all_goals omega
  · exact Or.inr ⟨h, tK_0 h⟩
theorem AW.st {T : TT} {K M : PH} {p : Int} (h : AW K) (hs : (sSt T K M p).1 = 0) : AW (kSt T K p) := by
  unfold kSt
  unfold sSt at hs
  by_cases h0 : tO T p = 0
  · rw [if_pos h0] at hs ⊢
    have hk := sKi_s T K M p
    exact h.kind (by omega)
  · rw [if_neg h0] at hs ⊢
    by_cases h1 : tO T p = 1
    · rw [if_pos h1] at hs ⊢
      have hc := sCo_s T K M p
      have hf := fre_s T K (tE T p)
      have e : (fre T K (tE T p)).1 = 0 := by omega
      have e2 : (fre T K (tE T p)).2 = tE T (tE T p) := by omega
      rw [e2] at hc
      have hx : (fldX T K (tE T (tE T p))).1 = 0 := by omega
      have hw := fldX_w h (by omega) (tE T (tE T p)) hx
      unfold kCo
      exact h.con (by omega) (by omega) ⟨hw.1, hw.2.1⟩ hw.2.2.1 hw.2.2.2.1 hw.2.2.2.2.1 hw.2.2.2.2.2
    · rw [if_neg h1]
      exact h
/-- the statements so far -/
theorem mlo_n {T : TT} {n : Int} {K M : PH} {q : Int} (h0 : 0 ≤ n) (hn : n < 60) (h : tK T q ≠ 0) :
    ((sSt T K M q).1 ≠ 0 → mlo T (60 - n).toNat n K M q = ((sSt T K M q).1, (sSt T K M q).2, K, M)) ∧
    ((sSt T K M q).1 = 0 → (sgn T 59 (sSt T K M q).2).1 ≠ 0 → mlo T (60 - n).toNat n K M q = ((sgn T 59 (sSt T K M q).2).1, (sgn T 59 (sSt T K M q).2).2, K, M)) ∧
    ((sSt T K M q).1 = 0 → (sgn T 59 (sSt T K M q).2).1 = 0 → mlo T (60 - n).toNat n K M q = mlo T (60 - (n + 1)).toNat (n + 1) (kSt T K q) (mSt T K M q) (sgn T 59 (sSt T K M q).2).2) := by
  rw [show (60 - n).toNat = (60 - (n + 1)).toNat + 1 by omega]
  refine ⟨fun h1 => mlo_sF h h1, fun h1 h2 => mlo_eF h h1 h2, fun h1 h2 => ?_⟩
  rw [mlo_go h h1 h2]
  have := sgn_s T 59 (sSt T K M q).2
  rw [show (sgn T 59 (sSt T K M q).2).2 = tE T (sSt T K M q).2 by omega]
theorem ML.fault {T : TT} {n : Int} {K M : PH} {q f pl : Int} (h0 : 0 ≤ n) (hn : n < 60) (hk : tK T q ≠ 0) (hR : mlR T = mlo T (60 - n).toNat n K M q)
    (h : ((sSt T K M q).1 ≠ 0 ∧ f = (sSt T K M q).1 ∧ pl = (sSt T K M q).2) ∨ ((sSt T K M q).1 = 0 ∧ (sgn T 59 (sSt T K M q).2).1 ≠ 0 ∧ f = (sgn T 59 (sSt T K M q).2).1 ∧ pl = (sgn T 59 (sSt T K M q).2).2) ∨
      ((sSt T K M q).1 = 0 ∧ (sgn T 59 (sSt T K M q).2).1 = 0 ∧ n + 1 = 60 ∧ tA T (tE T (sSt T K M q).2) < T.2 ∧ f = 6 ∧ pl = tA T (tE T (sSt T K M q).2))) : (mlR T).1 = f ∧ (mlR T).2.1 = pl := by
  obtain ⟨m1, m2, m3⟩ := mlo_n (T := T) (K := K) (M := M) h0 hn hk
  rcases h with ⟨a, b, c⟩ | ⟨a, a2, b, c⟩ | ⟨a, a2, a3, a4, b, c⟩
  · rw [hR, m1 a]; exact ⟨b.symm, c.symm⟩
  · rw [hR, m2 a a2]; exact ⟨b.symm, c.symm⟩
  · have hs := sgn_s T 59 (sSt T K M q).2
    have hte := tA_E (T := T) (p := tE T (sSt T K M q).2)
    rw [hR, m3 a a2, show (60 - (n + 1)).toNat = 0 by omega, show (sgn T 59 (sSt T K M q).2).2 = tE T (sSt T K M q).2 by omega, mlo_much (by omega)]
    exact ⟨b.symm, c.symm⟩
theorem ML.go {T : TT} {n : Int} {K M : PH} {q : Int} (h0 : 0 ≤ n) (hn : n < 60) (hk : tK T q ≠ 0) (hR : mlR T = mlo T (60 - n).toNat n K M q) (h1 : (sSt T K M q).1 = 0) (h2 : (sgn T 59 (sSt T K M q).2).1 = 0) : mlR T = mlo T (60 - (n + 1)).toNat (n + 1) (kSt T K q) (mSt T K M q) (sgn T 59 (sSt T K M q).2).2 := hR.trans ((mlo_n h0 hn hk).2.2 h1 h2)
theorem ML.fin {T : TT} {n : Int} {K M : PH} {q : Int} (hk : tK T q = 0) (hR : mlR T = mlo T (60 - n).toNat n K M q) : (M 0 0 ≤ 0 ∧ (mlR T).1 = 1 ∧ (mlR T).2.1 = tA T q) ∨ (0 < M 0 0 ∧ (mlR T).1 = 0 ∧ (mlR T).2.1 = n) := by
  rw [hR, mlo_end hk]
  by_cases h : M 0 0 ≤ 0
  · left
    exact ⟨h, by show (if M 0 0 ≤ 0 then (1 : Int) else 0) = 1; rw [if_pos h], by show (if M 0 0 ≤ 0 then tA T q else n) = _; rw [if_pos h]⟩
  · right
    exact ⟨by omega, by show (if M 0 0 ≤ 0 then (1 : Int) else 0) = 0; rw [if_neg h], by show (if M 0 0 ≤ 0 then tA T q else n) = _; rw [if_neg h]⟩
theorem ML.tab {T : TT} {n : Int} {K M : PH} {q : Int} (hk : tK T q = 0) (hR : mlR T = mlo T (60 - n).toNat n K M q) : (mlR T).2.2.1 = K ∧ (mlR T).2.2.2 = M := by
  rw [hR, mlo_end hk]
  exact ⟨rfl, rfl⟩
theorem MK.zero {P : PH} {b : Int} (e37 : P 0 37 = b) (e2 : P 2 b = 0) (e5 : P 5 b = 0) : MK K0 P := by
  unfold MK
  rw [e37, e2, e5]
  exact ⟨rfl, rfl, fun k h0 h1 => by exfalso; have h1 : k < 0 := h1; omega, fun k h0 h1 => by exfalso; have h1 : k < 0 := h1; omega⟩
theorem MM.zero {P : PH} {b : Int} (e37 : P 0 37 = b) (e11 : P 11 b = 0) (e13 : P 13 b = 0) (e15 : P 15 b = 0) (e16 : P 16 b = 300) : MM M0 P := by
  unfold MM
  rw [e37, e11, e13, e15, e16]
  exact ⟨rfl, rfl, rfl, rfl, fun k h0 h1 => by exfalso; have h1 : k < 0 := h1; omega, fun k h0 h1 => by exfalso; have h1 : k < 0 := h1; omega⟩
/-- a statement and what ends it: round the loop, or a fault -/
theorem ML.cases {T : TT} {S : Int × Int} {s8 s9 h8 h9 n : Int} (hs : (s8 = S.1 ∧ (S.1 = 0 ∨ s9 = S.2)) ∨ (S.1 = 0 ∧ tK T S.2 = 4 ∧ s8 = 1 ∧ s9 = tS T S.2))
    (hf : (0 < s8 ∧ h8 = s8 ∧ h9 = s9) ∨ (s8 ≤ 0 ∧ (sgn T 59 S.2).1 = 0 ∧ n = 60 ∧ tA T (tE T S.2) < T.2 ∧ h8 = 6 ∧ h9 = tA T (tE T S.2)) ∨ (s8 ≤ 0 ∧ ((sgn T 59 S.2).1 ≠ 0 ∨ n ≠ 60 ∨ T.2 ≤ tA T (tE T S.2)) ∧ h8 = (sgn T 59 S.2).1 ∧ ((sgn T 59 S.2).1 = 0 ∨ h9 = (sgn T 59 S.2).2))) (h0 : 0 ≤ s8) :
    (h8 = 0 ∧ S.1 = 0 ∧ (sgn T 59 S.2).1 = 0 ∧ (n ≠ 60 ∨ T.2 ≤ tA T (tE T S.2))) ∨ (0 < h8 ∧ ((S.1 ≠ 0 ∧ h8 = S.1 ∧ h9 = S.2) ∨ (S.1 = 0 ∧ (sgn T 59 S.2).1 ≠ 0 ∧ h8 = (sgn T 59 S.2).1 ∧ h9 = (sgn T 59 S.2).2) ∨ (S.1 = 0 ∧ (sgn T 59 S.2).1 = 0 ∧ n = 60 ∧ tA T (tE T S.2) < T.2 ∧ h8 = 6 ∧ h9 = tA T (tE T S.2)))) := by
  rcases hs with ⟨a1, a2⟩ | ⟨a1, a2, a3, a4⟩
  · rcases hf with ⟨b1, b2, b3⟩ | ⟨b1, b2, b3, b4, b5, b6⟩ | ⟨b1, b2, b3, b4⟩
    · exact Or.inr ⟨by omega, Or.inl ⟨by omega, by omega, by omega⟩⟩
    · exact Or.inr ⟨by omega, Or.inr (Or.inr ⟨by omega, b2, b3, b4, b5, b6⟩)⟩
    · have hg := sgn_s T 59 S.2
      by_cases e : (sgn T 59 S.2).1 = 0
      · exact Or.inl ⟨by omega, by omega, e, by omega⟩
      · exact Or.inr ⟨by omega, Or.inr (Or.inl ⟨by omega, e, b3, by omega⟩)⟩
  · rcases hf with ⟨b1, b2, b3⟩ | ⟨b1, b2⟩ | ⟨b1, b2⟩
    · have hg : sgn T 59 S.2 = (1, tS T S.2) := sgn_4 a2
      have hg1 : (sgn T 59 S.2).1 = 1 ∧ (sgn T 59 S.2).2 = tS T S.2 := by rw [hg]; exact ⟨rfl, rfl⟩
      exact Or.inr ⟨by omega, Or.inr (Or.inl ⟨a1, by omega, by omega, by omega⟩)⟩
    · exfalso; omega
    · exfalso; omega
end
