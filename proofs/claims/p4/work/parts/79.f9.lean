/-! The class's picture of a text, of the token ahead, of the tables told. -/
def disX (F : FSX) (s : List (Nat × Int) × List Nat) : Bool := s.1.all (fun q => !inF F q.1 q.2) && s.2.all (fun k => !F.2.contains k && F.1.all fun q => !(q.1 == k))
theorem disX_f {F : FSX} {s : List (Nat × Int) × List Nat} {P P1 : PH} (hd : disX F s = true) (hf : FrX F P P1) {o k : Nat} {j : Int} (hk : kx o k) (hm : (k, j) ∈ s.1) : P1 o j = P o j := by
  unfold disX at hd
  rw [Bool.and_eq_true] at hd
  refine hf.g hk ?_
  have := List.all_eq_true.mp hd.1 (k, j) hm
  simpa using this
theorem disX_a {F : FSX} {s : List (Nat × Int) × List Nat} {P P1 : PH} (hd : disX F s = true) (hf : FrX F P P1) {o k : Nat} (hk : kx o k) (hm : k ∈ s.2) (j : Int) : P1 o j = P o j := by
  unfold disX at hd
  rw [Bool.and_eq_true] at hd
  refine hf.g hk ?_
  have h := List.all_eq_true.mp hd.2 k hm
  rw [Bool.and_eq_true] at h
  unfold inF
  rw [Bool.or_eq_false_iff]
  refine ⟨by simpa using h.1, ?_⟩
  cases e : F.1.any fun q => q.1 == k && q.2 == j with
  | false => rfl
  | true =>
    obtain ⟨q, hq, he⟩ := List.any_eq_true.mp e
    have h2 := List.all_eq_true.mp h.2 q hq
    rw [Bool.and_eq_true] at he
    rw [he.1] at h2
    exact absurd h2 (by decide)
/-- the text -/
def XT (T : TT) (P : PH) : Prop := P 111 2 = T.2 ∧ ∀ i : Int, 0 ≤ i → i < T.2 → P 2 i = T.1 i
theorem XT.fr {T : TT} {P P1 : PH} {F : FSX} (h : XT T P) (hf : FrX F P P1) (hd : disX F ([(46, 2)], [2]) = true) : XT T P1 := by
  refine ⟨by rw [disX_f hd hf (o := 111) (k := 46) (j := 2) ⟨by decide, rfl⟩ (by decide)]; exact h.1, fun i h0 h1 => ?_⟩
  rw [disX_a hd hf (o := 2) (k := 2) ⟨by decide, rfl⟩ (by decide)]
  exact h.2 i h0 h1
/-- the token ahead, behind place p -/
def XS (T : TT) (p : Int) (P : PH) : Prop := P 111 4 = tK T p ∧ P 111 5 = tA T p ∧ P 111 8 = tO T p ∧ 0 ≤ p ∧ p ≤ T.2 ∧ (tK T p = 4 → P 111 6 = tS T p) ∧ (1 ≤ tK T p ∧ tK T p ≤ 3 → P 111 3 = tE T p ∧ P 111 7 = tV T p)
theorem XS.fr {T : TT} {p : Int} {P P1 : PH} {F : FSX} (h : XS T p P) (hf : FrX F P P1) (hd : disX F ([(46, 3), (46, 4), (46, 5), (46, 6), (46, 7), (46, 8)], []) = true) : XS T p P1 := by
  have hk : kx 111 46 := ⟨by decide, rfl⟩
  unfold XS at h ⊢
  rw [disX_f hd hf (j := 3) hk (by decide), disX_f hd hf (j := 4) hk (by decide), disX_f hd hf (j := 5) hk (by decide), disX_f hd hf (j := 6) hk (by decide), disX_f hd hf (j := 7) hk (by decide), disX_f hd hf (j := 8) hk (by decide)]
  exact h
theorem XS.b {T : TT} {p : Int} {P : PH} (h : XS T p P) : P 111 4 = tK T p ∧ P 111 5 = tA T p ∧ P 111 8 = tO T p ∧ 0 ≤ p ∧ p ≤ T.2 := ⟨h.1, h.2.1, h.2.2.1, h.2.2.2.1, h.2.2.2.2.1⟩
theorem XS.bad {T : TT} {p : Int} {P : PH} (h : XS T p P) (h4 : tK T p = 4) : P 111 6 = tS T p := h.2.2.2.2.2.1 h4
theorem XS.tok {T : TT} {p : Int} {P : PH} (h : XS T p P) (h4 : 1 ≤ tK T p ∧ tK T p ≤ 3) : P 111 3 = tE T p ∧ P 111 7 = tV T p := h.2.2.2.2.2.2 h4
/-- a letter or a digit just ahead of a place -/
def jn (T : TT) (q : Int) : Int := if 0 < q ∧ (bL (T.1 (q - 1)) || bN (T.1 (q - 1))) = true then 1 else 0
theorem jn_b (T : TT) (q : Int) : jn T q = 0 ∨ jn T q = 1 := by
  unfold jn
  split
  · exact Or.inr rfl
  · exact Or.inl rfl
theorem tJ_jn {T : TT} {q : Int} : tJn T q = if tA T q = q ∧ jn T q = 1 then 1 else 0 := by
  have key : tJ T q = true ↔ tA T q = q ∧ jn T q = 1 := by
    unfold tJ jn
    rw [Bool.and_eq_true, decide_eq_true_iff]
    constructor
    · intro h
      exact ⟨h.1.1, if_pos ⟨h.1.2, h.2⟩⟩
    · intro h
      by_cases e : 0 < q ∧ (bL (T.1 (q - 1)) || bN (T.1 (q - 1))) = true
      · exact ⟨⟨h.1, e.1⟩, e.2⟩
      · rw [if_neg e] at h
        exact absurd h.2 (by decide)
  unfold tJn
  by_cases h : tJ T q = true
  · rw [if_pos h, if_pos (key.mp h)]
  · rw [if_neg h, if_neg (fun z => h (key.mpr z))]
theorem tJ_s (T : TT) (q : Int) : (tA T q = q ∧ jn T q = 1 ∧ tJn T q = 1) ∨ ((tA T q ≠ q ∨ jn T q ≠ 1) ∧ tJn T q = 0) := by
  have h := tJ_jn (T := T) (q := q)
  by_cases e : tA T q = q ∧ jn T q = 1
  · rw [if_pos e] at h; exact Or.inl ⟨e.1, e.2, h⟩
  · rw [if_neg e] at h; exact Or.inr ⟨by omega, h⟩
/-- what a step wants -/
theorem XS.stp {T : TT} {p : Int} {P : PH} (h : XS T p P) (h4 : 1 ≤ tK T p ∧ tK T p ≤ 3) : (P 111 3 = tE T p ∧ 0 ≤ tE T p ∧ tE T p ≤ T.2) ∧ (((P 111 4 = 1 ∨ P 111 4 = 2) ∧ jn T (tE T p) = 1) ∨ (P 111 4 ≠ 1 ∧ P 111 4 ≠ 2 ∧ jn T (tE T p) = 0)) := by
  have hb := h.b
  have ht := h.tok h4
  have he := tE_b h4
  have hg := tA_ge T p
  have hc := tE_c h4
  refine ⟨⟨ht.1, by omega, he.2.2⟩, ?_⟩
  unfold jn
  rw [hc]
  by_cases e : tK T p = 3
  · right
    refine ⟨by omega, by omega, ?_⟩
    rw [if_neg]
    intro z
    rw [decide_eq_true_iff] at z
    exact z.2 e
  · left
    refine ⟨by omega, ?_⟩
    rw [if_pos ⟨by omega, decide_eq_true_iff.mpr e⟩]
/-- the own words, by 27 -/
def OWN (P : PH) : Prop := ∀ k : Nat, k < 11 → P 112 (k : Int) = o27 k
theorem OWN.fr {P P1 : PH} {F : FSX} (h : OWN P) (hf : FrX F P P1) (hd : disX F ([], [47]) = true) : OWN P1 := by
  intro k hk
  rw [disX_a hd hf (o := 112) (k := 47) ⟨by decide, rfl⟩ (by decide)]
  exact h k hk
/-- the table that the reader fills -/
def RT (o : Nat) (P : PH) : Prop := P 110 2 = (o : Int)
theorem RT.fr {o : Nat} {P P1 : PH} {F : FSX} (h : RT o P) (hf : FrX F P P1) (hd : disX F ([(45, 2)], []) = true) : RT o P1 := (disX_f hd hf (o := 110) (k := 45) (j := 2) ⟨by decide, rfl⟩ (by decide)).trans h
/-- kinds and constructors -/
def XK (K : PH) (o : Nat) (P : PH) : Prop := kx o 29 ∧ P o 9 = K 0 0 ∧ P o 10 = K 0 1 ∧
  (∀ k : Int, 0 ≤ k → k < K 0 0 → P (crX o 0) k = K 1 k ∧ P (crX o 1) k = K 9 k ∧ P (crX o 2) k = K 3 k ∧ P (crX o 3) k = K 2 k) ∧
  ∀ c : Int, 0 ≤ c → c < K 0 1 → P (crX o 4) c = K 4 c ∧ P (crX o 5) c = K 10 c ∧ P (crX o 6) c = K 6 c ∧ P (crX o 7) c = K 7 c ∧ P (crX o 8) c = K 8 c
theorem XK.fr {K : PH} {o : Nat} {P P1 : PH} {F : FSX} (h : XK K o P) (hf : FrX F P P1) (hd : disX F ([(29, 9), (29, 10)], [30, 31, 32, 33, 34, 35, 36, 37, 38]) = true) : XK K o P1 := by
  obtain ⟨hk, h1, h2, h3, h4⟩ := h
  refine ⟨hk, by rw [disX_f hd hf (j := 9) hk (by decide)]; exact h1, by rw [disX_f hd hf (j := 10) hk (by decide)]; exact h2, fun k k0 k1 => ?_, fun c c0 c1 => ?_⟩
  · rw [disX_a hd hf (ck_29_0 hk) (by decide), disX_a hd hf (ck_29_1 hk) (by decide), disX_a hd hf (ck_29_2 hk) (by decide), disX_a hd hf (ck_29_3 hk) (by decide)]
    exact h3 k k0 k1
  · rw [disX_a hd hf (ck_29_4 hk) (by decide), disX_a hd hf (ck_29_5 hk) (by decide), disX_a hd hf (ck_29_6 hk) (by decide), disX_a hd hf (ck_29_7 hk) (by decide), disX_a hd hf (ck_29_8 hk) (by decide)]
    exact h4 c c0 c1
theorem XK.b {K : PH} {o : Nat} {P : PH} (h : XK K o P) : P o 9 = K 0 0 ∧ P o 10 = K 0 1 := ⟨h.2.1, h.2.2.1⟩
theorem XK.k {K : PH} {o : Nat} {P : PH} (h : XK K o P) {k : Int} (k0 : 0 ≤ k) (k1 : k < K 0 0) : P (crX o 0) k = K 1 k ∧ P (crX o 1) k = K 9 k ∧ P (crX o 2) k = K 3 k ∧ P (crX o 3) k = K 2 k := h.2.2.2.1 k k0 k1
theorem XK.c {K : PH} {o : Nat} {P : PH} (h : XK K o P) {c : Int} (c0 : 0 ≤ c) (c1 : c < K 0 1) : P (crX o 4) c = K 4 c ∧ P (crX o 5) c = K 10 c ∧ P (crX o 6) c = K 6 c ∧ P (crX o 7) c = K 7 c ∧ P (crX o 8) c = K 8 c := h.2.2.2.2 c c0 c1
theorem XK.kn {K : PH} {o : Nat} {P : PH} (h : XK K o P) (v : Int) : fxi (fun i => P (crX o 0) i) v (P o 9).toNat = kNm K v := by
  unfold kNm
  rw [h.2.1]
  exact fxi_cg _ (fun i h0 h1 => by show P (crX o 0) i = v ↔ _; rw [(h.k (k := i) h0 (by omega)).1])
theorem XK.cn {K : PH} {o : Nat} {P : PH} (h : XK K o P) (v : Int) : fxi (fun i => P (crX o 4) i) v (P o 10).toNat = cNm K v := by
  unfold cNm
  rw [h.2.2.1]
  exact fxi_cg _ (fun i h0 h1 => by show P (crX o 4) i = v ↔ _; rw [(h.c (c := i) h0 (by omega)).1])
theorem XK.zero {o : Nat} {P : PH} (hk : kx o 29) (h9 : P o 9 = 0) (h10 : P o 10 = 0) : XK K0 o P := ⟨hk, h9, h10, fun k h0 h1 => by exfalso; have h1 : k < 0 := h1; omega, fun k h0 h1 => by exfalso; have h1 : k < 0 := h1; omega⟩
theorem XK.kind {K : PH} {o : Nat} {P P1 : PH} {v : Int} (h : XK K o P) (h9 : P1 o 9 = P o 9 + 1) (h10 : P1 o 10 = P o 10) (s0 : P1 (crX o 0) (P o 9) = v) (q0 : ∀ j : Int, j ≠ P o 9 → P1 (crX o 0) j = P (crX o 0) j) (s1 : P1 (crX o 1) (P o 9) = P o 10) (q1 : ∀ j : Int, j ≠ P o 9 → P1 (crX o 1) j = P (crX o 1) j)
    (s2 : P1 (crX o 2) (P o 9) = 0) (q2 : ∀ j : Int, j ≠ P o 9 → P1 (crX o 2) j = P (crX o 2) j) (s3 : P1 (crX o 3) (P o 9) = 0) (q3 : ∀ j : Int, j ≠ P o 9 → P1 (crX o 3) j = P (crX o 3) j)
    (q4 : ∀ j, P1 (crX o 4) j = P (crX o 4) j) (q5 : ∀ j, P1 (crX o 5) j = P (crX o 5) j) (q6 : ∀ j, P1 (crX o 6) j = P (crX o 6) j) (q7 : ∀ j, P1 (crX o 7) j = P (crX o 7) j) (q8 : ∀ j, P1 (crX o 8) j = P (crX o 8) j) : XK (kNew K v) o P1 := by
  have hb := h.b
  refine ⟨h.1, by rw [h9, kNew_0.1, hb.1], by rw [h10, kNew_0.2, hb.2], fun k k0 k1 => ?_, fun c c0 c1 => ?_⟩
  · rw [kNew_0.1] at k1
    rw [kNew_1, kNew_9, kNew_3, kNew_2]
    by_cases e : k = K 0 0
    · have e9 : k = P o 9 := by omega
      rw [if_pos e, if_pos e, if_pos e, if_pos e, e9, s0, s1, s2, s3]
      exact ⟨rfl, hb.2, rfl, rfl⟩
    · have e9 : k ≠ P o 9 := by omega
      rw [if_neg e, if_neg e, if_neg e, if_neg e, q0 _ e9, q1 _ e9, q2 _ e9, q3 _ e9]
      exact h.k k0 (by omega)
  · rw [kNew_0.2] at c1
    rw [kNew_c (o := 4) (by decide) (by decide) (by decide) (by decide) (by decide), kNew_c (o := 6) (by decide) (by decide) (by decide) (by decide) (by decide), kNew_c (o := 7) (by decide) (by decide) (by decide) (by decide) (by decide), kNew_c (o := 8) (by decide) (by decide) (by decide) (by decide) (by decide), kNew_c (o := 10) (by decide) (by decide) (by decide) (by decide) (by decide), q4, q5, q6, q7, q8]
    exact h.c c0 c1
theorem XK.con {K : PH} {o : Nat} {P P1 : PH} {v n a b i : Int} (h : XK K o P) (h9 : P1 o 9 = P o 9) (h10 : P1 o 10 = P o 10 + 1) (s4 : P1 (crX o 4) (P o 10) = v) (q4 : ∀ j : Int, j ≠ P o 10 → P1 (crX o 4) j = P (crX o 4) j) (s5 : P1 (crX o 5) (P o 10) = P (crX o 3) (P o 9 - 1)) (q5 : ∀ j : Int, j ≠ P o 10 → P1 (crX o 5) j = P (crX o 5) j)
    (s6 : P1 (crX o 6) (P o 10) = n) (q6 : ∀ j : Int, j ≠ P o 10 → P1 (crX o 6) j = P (crX o 6) j) (s7 : P1 (crX o 7) (P o 10) = a) (q7 : ∀ j : Int, j ≠ P o 10 → P1 (crX o 7) j = P (crX o 7) j) (s8 : P1 (crX o 8) (P o 10) = b) (q8 : ∀ j : Int, j ≠ P o 10 → P1 (crX o 8) j = P (crX o 8) j)
    (s2 : P1 (crX o 2) (P o 9 - 1) = P (crX o 2) (P o 9 - 1) + 1) (q2 : ∀ j : Int, j ≠ P o 9 - 1 → P1 (crX o 2) j = P (crX o 2) j) (s3 : P1 (crX o 3) (P o 9 - 1) = P (crX o 3) (P o 9 - 1) + i) (q3 : ∀ j : Int, j ≠ P o 9 - 1 → P1 (crX o 3) j = P (crX o 3) j)
    (q0 : ∀ j, P1 (crX o 0) j = P (crX o 0) j) (q1 : ∀ j, P1 (crX o 1) j = P (crX o 1) j) (h1 : 1 ≤ K 0 0) : XK (cNew K v n a b i) o P1 := by
  have hb := h.b
  have hl := h.k (k := K 0 0 - 1) (by omega) (by omega)
  rw [show P o 9 - 1 = K 0 0 - 1 by omega] at s2 s3 s5 q2 q3
  refine ⟨h.1, by rw [h9, cNew_0.1, hb.1], by rw [h10, cNew_0.2, hb.2], fun k k0 k1 => ?_, fun c c0 c1 => ?_⟩
  · rw [cNew_0.1] at k1
    rw [cNew_c (o := 1) (Or.inl rfl), cNew_c (o := 9) (Or.inr rfl), cNew_3, cNew_2, q0, q1]
    have hk := h.k k0 k1
    by_cases e : k = K 0 0 - 1
    · rw [if_pos e, if_pos e]
      rw [e] at hk ⊢
      rw [s2, s3]
      exact ⟨hk.1, hk.2.1, by rw [hk.2.2.1], by rw [hk.2.2.2]⟩
    · rw [if_neg e, if_neg e, q2 _ e, q3 _ e]
      exact hk
  · rw [cNew_0.2] at c1
    rw [cNew_4, cNew_10, cNew_6, cNew_7, cNew_8]
    by_cases e : c = K 0 1
    · have e9 : c = P o 10 := by omega
      rw [if_pos e, if_pos e, if_pos e, if_pos e, if_pos e, e9, s4, s5, s6, s7, s8]
      exact ⟨rfl, hl.2.2.2, rfl, rfl, rfl⟩
    · have e9 : c ≠ P o 10 := by omega
      rw [if_neg e, if_neg e, if_neg e, if_neg e, if_neg e, q4 _ e9, q5 _ e9, q6 _ e9, q7 _ e9, q8 _ e9]
      exact h.c c0 (by omega)
/-- columns, arms, rule, budget -/
def XM (M : PH) (o : Nat) (P : PH) : Prop := kx o 28 ∧ P o 6 = M 0 0 ∧ P o 7 = M 0 1 ∧ P o 8 = M 0 2 ∧ P o 9 = M 0 3 ∧ P o 10 = M 0 4 ∧ (∀ c : Int, 0 ≤ c → c < M 0 0 → P (crX o 1) c = M 1 c) ∧ ∀ a : Int, 0 ≤ a → a < M 0 2 → P (crX o 4) a = M 2 a
theorem XM.fr {M : PH} {o : Nat} {P P1 : PH} {F : FSX} (h : XM M o P) (hf : FrX F P P1) (hd : disX F ([(28, 6), (28, 7), (28, 8), (28, 9), (28, 10)], [39, 42]) = true) : XM M o P1 := by
  obtain ⟨hk, h1, h2, h3, h4, h5, h6, h7⟩ := h
  refine ⟨hk, by rw [disX_f hd hf (j := 6) hk (by decide)]; exact h1, by rw [disX_f hd hf (j := 7) hk (by decide)]; exact h2, by rw [disX_f hd hf (j := 8) hk (by decide)]; exact h3, by rw [disX_f hd hf (j := 9) hk (by decide)]; exact h4, by rw [disX_f hd hf (j := 10) hk (by decide)]; exact h5, fun c c0 c1 => ?_, fun a a0 a1 => ?_⟩
  · rw [disX_a hd hf (ck_28_1 hk) (by decide)]
    exact h6 c c0 c1
  · rw [disX_a hd hf (ck_28_4 hk) (by decide)]
    exact h7 a a0 a1
theorem XM.b {M : PH} {o : Nat} {P : PH} (h : XM M o P) : P o 6 = M 0 0 ∧ P o 7 = M 0 1 ∧ P o 8 = M 0 2 ∧ P o 9 = M 0 3 ∧ P o 10 = M 0 4 := ⟨h.2.1, h.2.2.1, h.2.2.2.1, h.2.2.2.2.1, h.2.2.2.2.2.1⟩
theorem XM.c {M : PH} {o : Nat} {P : PH} (h : XM M o P) {c : Int} (c0 : 0 ≤ c) (c1 : c < M 0 0) : P (crX o 1) c = M 1 c := h.2.2.2.2.2.2.1 c c0 c1
theorem XM.zero {o : Nat} {P : PH} (hk : kx o 28) (h6 : P o 6 = 0) (h7 : P o 7 = 0) (h8 : P o 8 = 0) (h9 : P o 9 = 0) (h10 : P o 10 = 300) : XM M0 o P := ⟨hk, h6, h7, h8, h9, h10, fun k h0 h1 => by exfalso; have h1 : k < 0 := h1; omega, fun k h0 h1 => by exfalso; have h1 : k < 0 := h1; omega⟩
theorem XM.col {M : PH} {o : Nat} {P P1 : PH} {k r : Int} (h : XM M o P) (h6 : P1 o 6 = P o 6 + 1) (h7 : P1 o 7 = r) (h8 : P1 o 8 = P o 8) (h9 : P1 o 9 = P o 9) (h10 : P1 o 10 = P o 10) (s1 : P1 (crX o 1) (P o 6) = k) (q1 : ∀ j : Int, j ≠ P o 6 → P1 (crX o 1) j = P (crX o 1) j) (q4 : ∀ j, P1 (crX o 4) j = P (crX o 4) j) : XM (mCol M k r) o P1 := by
  have hb := h.b
  refine ⟨h.1, by rw [h6, mCol_0.1, hb.1], by rw [h7, mCol_0.2.1], by rw [h8, mCol_0.2.2.1, hb.2.2.1], by rw [h9, mCol_0.2.2.2.1, hb.2.2.2.1], by rw [h10, mCol_0.2.2.2.2, hb.2.2.2.2], fun c c0 c1 => ?_, fun a a0 a1 => ?_⟩
  · rw [mCol_0.1] at c1
    rw [mCol_1]
    by_cases e : c = M 0 0
    · rw [if_pos e, show c = P o 6 by omega, s1]
    · rw [if_neg e, q1 _ (by omega)]
      exact h.c c0 (by omega)
  · rw [mCol_0.2.2.1] at a1
    rw [mCol_2, q4]
    exact h.2.2.2.2.2.2.2 a a0 a1
theorem XM.arm {M : PH} {o : Nat} {P P1 : PH} {g : Int} (h : XM M o P) (h6 : P1 o 6 = P o 6) (h7 : P1 o 7 = P o 7) (h8 : P1 o 8 = P o 8 + 1) (h9 : P1 o 9 = P o 9) (h10 : P1 o 10 = P o 10) (q1 : ∀ j, P1 (crX o 1) j = P (crX o 1) j) (s4 : P1 (crX o 4) (P o 8) = g) (q4 : ∀ j : Int, j ≠ P o 8 → P1 (crX o 4) j = P (crX o 4) j) : XM (aNew M g) o P1 := by
  have hb := h.b
  have e1 : aNew M g 0 1 = M 0 1 := by simp [aNew, up]
  refine ⟨h.1, by rw [h6, aNew_0.1, hb.1], by rw [h7, e1, hb.2.1], by rw [h8, aNew_0.2.1, hb.2.2.1], by rw [h9, aNew_0.2.2.1, hb.2.2.2.1], by rw [h10, aNew_0.2.2.2, hb.2.2.2.2], fun c c0 c1 => ?_, fun a a0 a1 => ?_⟩
  · rw [aNew_0.1] at c1
    rw [aNew_1, q1]
    exact h.c c0 c1
  · rw [aNew_0.2.1] at a1
    rw [aNew_2]
    by_cases e : a = M 0 2
    · rw [if_pos e, show a = P o 8 by omega, s4]
    · rw [if_neg e, q4 _ (by omega)]
      exact h.2.2.2.2.2.2.2 a a0 (by omega)
theorem XM.rule {M : PH} {o : Nat} {P P1 : PH} {g : Int} (h : XM M o P) (h6 : P1 o 6 = P o 6) (h7 : P1 o 7 = P o 7) (h8 : P1 o 8 = P o 8) (h9 : P1 o 9 = g) (h10 : P1 o 10 = P o 10) (q1 : ∀ j, P1 (crX o 1) j = P (crX o 1) j) (q4 : ∀ j, P1 (crX o 4) j = P (crX o 4) j) : XM (up M 0 3 g) o P1 := by
  have hb := h.b
  refine ⟨h.1, by rw [h6, up_k (by decide), hb.1], by rw [h7, up_k (by decide), hb.2.1], by rw [h8, up_k (by decide), hb.2.2.1], by rw [h9, up_same], by rw [h10, up_k (by decide), hb.2.2.2.2], fun c c0 c1 => ?_, fun a a0 a1 => ?_⟩
  · rw [up_k (by decide)] at c1
    rw [up_row (o1 := 1) (by decide), q1]
    exact h.c c0 c1
  · rw [up_k (by decide)] at a1
    rw [up_row (o1 := 2) (by decide), q4]
    exact h.2.2.2.2.2.2.2 a a0 a1
theorem XM.budget {M : PH} {o : Nat} {P P1 : PH} {g : Int} (h : XM M o P) (h6 : P1 o 6 = P o 6) (h7 : P1 o 7 = P o 7) (h8 : P1 o 8 = P o 8) (h9 : P1 o 9 = P o 9) (h10 : P1 o 10 = g) (q1 : ∀ j, P1 (crX o 1) j = P (crX o 1) j) (q4 : ∀ j, P1 (crX o 4) j = P (crX o 4) j) : XM (up M 0 4 g) o P1 := by
  have hb := h.b
  refine ⟨h.1, by rw [h6, up_k (by decide), hb.1], by rw [h7, up_k (by decide), hb.2.1], by rw [h8, up_k (by decide), hb.2.2.1], by rw [h9, up_k (by decide), hb.2.2.2.1], by rw [h10, up_same], fun c c0 c1 => ?_, fun a a0 a1 => ?_⟩
  · rw [up_k (by decide)] at c1
    rw [up_row (o1 := 1) (by decide), q1]
    exact h.c c0 c1
  · rw [up_k (by decide)] at a1
    rw [up_row (o1 := 2) (by decide), q4]
    exact h.2.2.2.2.2.2.2 a a0 a1
section XSM
variable {T : TT} {p : Int} {P : PH}
theorem XS.end (hp : 0 ≤ p ∧ p ≤ T.2) (h4 : P 111 4 = 0) (h5 : P 111 5 = tA T p) (h8 : P 111 8 = -1) (hn : T.2 ≤ tA T p) : XS T p P := by
  have hk := tK_0 hn
  exact ⟨by omega, h5, by rw [tO_4 (by omega)]; exact h8, hp.1, hp.2, fun q => by omega, fun q => by omega⟩
theorem XS.sig (hp : 0 ≤ p ∧ p ≤ T.2) (h4 : P 111 4 = 3) (h5 : P 111 5 = tA T p) (h8 : P 111 8 = -1) (h3 : P 111 3 = tA T p + 1) (h7 : P 111 7 = T.1 (tA T p)) (hn : tA T p < T.2) (hl : T.1 (tA T p) < 97 ∨ 122 < T.1 (tA T p)) (hd : T.1 (tA T p) < 48 ∨ 57 < T.1 (tA T p)) : XS T p P := by
  have hk := tK_3 hn (bL_f hl) (bN_f hd)
  have h9 := tK3 hk
  exact ⟨by omega, h5, by rw [tO_4 (by omega)]; exact h8, hp.1, hp.2, fun q => by omega, fun _ => ⟨by omega, by rw [h9.2.2.2]; exact h7⟩⟩
theorem XS.badj (hp : 0 ≤ p ∧ p ≤ T.2) (h4 : P 111 4 = 4) (h5 : P 111 5 = tA T p) (h8 : P 111 8 = -1) (h6 : P 111 6 = tA T p) (hn : tA T p < T.2) (hl : (97 ≤ T.1 (tA T p) ∧ T.1 (tA T p) ≤ 122) ∨ (48 ≤ T.1 (tA T p) ∧ T.1 (tA T p) ≤ 57)) (hj : tJn T p = 1) : XS T p P := by
  have hj := tJn_t hj
  have hk := tK_j hn (by rcases hl with h | h; exact Or.inl (bL_t.mpr h); exact Or.inr (bN_t.mpr h)) hj
  refine ⟨by omega, h5, by rw [tO_4 (by omega)]; exact h8, hp.1, hp.2, fun _ => ?_, fun q => by omega⟩
  unfold tS
  rw [if_pos hj]
  exact h6
theorem XS.nu (hp : 0 ≤ p ∧ p ≤ T.2) (h4 : P 111 4 = 2) (h5 : P 111 5 = tA T p) (h8 : P 111 8 = -1) (h3 : P 111 3 = rE bN T (tA T p)) (hle : rE bN T (tA T p) - tA T p ≤ 4) (h7 : P 111 7 = e10 (tD T (tA T p)) (rE bN T (tA T p) - tA T p).toNat) (hn : tA T p < T.2) (hl : 48 ≤ T.1 (tA T p) ∧ T.1 (tA T p) ≤ 57) (hj : tJn T p = 0) : XS T p P := by
  have hk := tK_n hn (bL_f (by omega)) (bN_t.mpr hl) (tJn_f hj)
  rw [if_pos hle] at hk
  refine ⟨by omega, h5, by rw [tO_4 (by omega)]; exact h8, hp.1, hp.2, fun q => by omega, fun _ => ⟨?_, ?_⟩⟩
  · unfold tE
    rw [if_neg (by omega), if_neg (by omega), if_pos hk]
    exact h3
  · unfold tV
    rw [if_neg (by omega), if_neg (by omega), if_pos hk]
    exact h7
theorem XS.nub (hp : 0 ≤ p ∧ p ≤ T.2) (h4 : P 111 4 = 4) (h5 : P 111 5 = tA T p) (h8 : P 111 8 = -1) (h6 : P 111 6 = tA T p + 4) (hle : 4 < rE bN T (tA T p) - tA T p) (hn : tA T p < T.2) (hl : 48 ≤ T.1 (tA T p) ∧ T.1 (tA T p) ≤ 57) (hj : tJn T p = 0) : XS T p P := by
  have hl0 : bL (T.1 (tA T p)) = false := bL_f (by omega)
  have hk := tK_n hn hl0 (bN_t.mpr hl) (tJn_f hj)
  rw [if_neg (by omega)] at hk
  refine ⟨by omega, h5, by rw [tO_4 (by omega)]; exact h8, hp.1, hp.2, fun _ => ?_, fun q => by omega⟩
  unfold tS
  rw [if_neg (by rw [tJn_f hj]; simp), if_neg (by rw [hl0]; simp)]
  exact h6
theorem XS.wo (hp : 0 ≤ p ∧ p ≤ T.2) (h4 : P 111 4 = 1) (h5 : P 111 5 = tA T p) (h8 : P 111 8 = oWF (P 111 7) 11) (h3 : P 111 3 = rE bL T (tA T p)) (hle : rE bL T (tA T p) - tA T p ≤ 6) (h7 : P 111 7 = e27 (tPad (tL T (tA T p)) (rE bL T (tA T p) - tA T p).toNat) 6) (hn : tA T p < T.2) (hl : 97 ≤ T.1 (tA T p) ∧ T.1 (tA T p) ≤ 122) (hj : tJn T p = 0) : XS T p P := by
  have hk := tK_w hn (bL_t.mpr hl) (tJn_f hj)
  rw [if_pos hle] at hk
  have hge := rE_ge bL T (tA T p)
  have hv : P 111 7 = tV T p := by
    unfold tV tN
    rw [if_neg (by omega), if_pos hk, h7]
    have := e27_pad (tL T (tA T p)) (rE bL T (tA T p) - tA T p).toNat (6 - (rE bL T (tA T p) - tA T p).toNat)
    rw [show (rE bL T (tA T p) - tA T p).toNat + (6 - (rE bL T (tA T p) - tA T p).toNat) = 6 by omega] at this
    exact this
  refine ⟨by omega, h5, ?_, hp.1, hp.2, fun q => by omega, fun _ => ⟨?_, hv⟩⟩
  · unfold tO
    rw [if_pos hk, h8, hv]
    rfl
  · unfold tE
    rw [if_neg (by omega), if_pos hk]
    exact h3
theorem XS.wob (hp : 0 ≤ p ∧ p ≤ T.2) (h4 : P 111 4 = 4) (h5 : P 111 5 = tA T p) (h8 : P 111 8 = -1) (h6 : P 111 6 = tA T p + 6) (hle : 6 < rE bL T (tA T p) - tA T p) (hn : tA T p < T.2) (hl : 97 ≤ T.1 (tA T p) ∧ T.1 (tA T p) ≤ 122) (hj : tJn T p = 0) : XS T p P := by
  have hk := tK_w hn (bL_t.mpr hl) (tJn_f hj)
  rw [if_neg (by omega)] at hk
  refine ⟨by omega, h5, by rw [tO_4 (by omega)]; exact h8, hp.1, hp.2, fun _ => ?_, fun q => by omega⟩
  unfold tS
  rw [if_neg (by rw [tJn_f hj]; simp), if_pos (bL_t.mpr hl)]
  exact h6
end XSM
/-- a letter more, by 27 -/
theorem e27_one {T : TT} {a v c : Int} {n : Nat} (h : v = e27 (tL T a) n) (hc : c = T.1 (a + n)) : v * 27 + c - 97 + 1 = e27 (tL T a) (n + 1) := by
  show v * 27 + c - 97 + 1 = e27 (tL T a) n * 27 + (T.1 (a + n) - 96)
  rw [← h, ← hc]
  omega
theorem e27_lt {T : TT} {a : Int} {n : Nat} (hn : n ≤ 5) (h : ∀ i, i < n → 1 ≤ tL T a i ∧ tL T a i ≤ 26) : 0 ≤ e27 (tL T a) n ∧ e27 (tL T a) n ≤ 14348906 := by
  have hb := e27_b (g := tL T a) n (by omega) (fun i hi => by have := h i hi; omega)
  have h2 : ∀ k : Nat, k < 6 → p27 k ≤ 14348907 := by decide
  have := h2 n (by omega)
  omega
theorem pad_lt {g : Nat → Int} {L k : Nat} (hk : k ≤ 5) (h : ∀ i, i < L → 1 ≤ g i ∧ g i ≤ 26) : 0 ≤ e27 (tPad g L) k ∧ e27 (tPad g L) k ≤ 14348906 := by
  have hb := e27_b (g := tPad g L) k (by omega) (fun i _ => by
    unfold tPad
    by_cases q : i < L
    · rw [if_pos q]; have := h i q; omega
    · rw [if_neg q]; omega)
  have h2 : ∀ k : Nat, k < 6 → p27 k ≤ 14348907 := by decide
  have := h2 k (by omega)
  omega
theorem pad_one {g : Nat → Int} {L k : Nat} (h : L ≤ k) : e27 (tPad g L) (k + 1) = e27 (tPad g L) k * 27 := by
  show e27 (tPad g L) k * 27 + tPad g L k = _
  rw [show tPad g L k = 0 by unfold tPad; rw [if_neg (by omega)]]
  omega
theorem pad_0 {g : Nat → Int} {L : Nat} : e27 (tPad g L) L = e27 g L := e27_cg L (fun i hi => by unfold tPad; rw [if_pos hi])
theorem oWF_s {v x : Int} {n : Nat} (h : x = o27 n) : (x = v ∧ oWF v (n + 1) = n) ∨ (x ≠ v ∧ oWF v (n + 1) = oWF v n) := by
  have e : oWF v (n + 1) = if o27 n = v then (n : Int) else oWF v n := rfl
  by_cases q : x = v
  · left; rw [e, if_pos (h ▸ q)]; exact ⟨q, rfl⟩
  · right; rw [e, if_neg (h ▸ q)]; exact ⟨q, rfl⟩
theorem jn_0 (T : TT) : jn T 0 = 0 := by
  unfold jn
  rw [if_neg (fun h => by omega)]
/-- a range, or any -/
def rg8 (T : TT) (p : Int) : Int × Int := if tO T p = 8 then (0, tE T p) else rng T p
theorem rg8_s (T : TT) (p : Int) : (tO T p = 8 ∧ (rg8 T p).1 = 0 ∧ (rg8 T p).2 = tE T p) ∨ (tO T p ≠ 8 ∧ (rg8 T p).1 = (rng T p).1 ∧ (rg8 T p).2 = (rng T p).2) := by
  unfold rg8
  by_cases h : tO T p = 8
  · rw [if_pos h]; exact Or.inl ⟨h, rfl, rfl⟩
  · rw [if_neg h]; exact Or.inr ⟨h, rfl, rfl⟩
theorem num_ge {T : TT} {lo hi p : Int} (h : (num T lo hi p).1 = 0) : p ≤ (num T lo hi p).2 := by
  have hs := num_s T lo hi p
  have := tE_b (T := T) (p := p)
  omega
theorem rg8_ge {T : TT} {p : Int} (h : (rg8 T p).1 = 0) : p ≤ (rg8 T p).2 := by
  have hs := rg8_s T p
  have hr := rng_s T p
  have hn := num_s T 0 19 p
  have hn2 := num_s T (tV T p) 19 (tE T (tE T p))
  have h1 := tE_b (T := T) (p := p)
  have h2 := tE_b (T := T) (p := tE T p)
  have h3 := tE_b (T := T) (p := tE T (tE T p))
  have h4 := tO_r T p
  have h5 := tO_r T (tE T p)
  omega
/-- what an alternative's reading leaves -/
def AC (T : TT) (K : PH) (k p r : Int) (P P1 : PH) : Prop := (r = 1 ∧ P1 110 3 = P 110 3 ∧ P1 110 4 = P 110 4 ∧ ∃ q : Int, p ≤ q ∧ XS T q P1 ∧ ∀ (s : SK) (x : Int × Int), Runs T K 1 s k q x → Runs T K 0 s k p x) ∨ (r = 0 ∧ P1 110 3 ≠ 0 ∧ ∀ s : SK, Runs T K 0 s k p (P1 110 3, P1 110 4))
/-- what a pattern's reading leaves -/
def AP (T : TT) (K : PH) (k p r : Int) (P P1 : PH) : Prop := (r = 1 ∧ P1 110 3 = P 110 3 ∧ P1 110 4 = P 110 4 ∧ ∃ q : Int, p ≤ q ∧ tO T q ≠ 9 ∧ XS T q P1 ∧ ∀ (s : SK) (x : Int × Int), Runs T K 1 s k q x → Runs T K 0 s k p x) ∨ (r = 0 ∧ P1 110 3 ≠ 0 ∧ ∀ s : SK, Runs T K 0 s k p (P1 110 3, P1 110 4))
section ACS
variable {T : TT} {K : PH} {k p r c q f : Int} {P P1 : PH}
theorem AC.range (hk : k = -1) (h : (r = 1 ∧ (rg8 T p).1 = 0 ∧ P1 110 3 = P 110 3 ∧ P1 110 4 = P 110 4) ∨ (r = 0 ∧ (rg8 T p).1 ≠ 0 ∧ P1 110 3 = (rg8 T p).1 ∧ P1 110 4 = (rg8 T p).2)) (hs : (rg8 T p).1 = 0 → XS T (rg8 T p).2 P1) : AC T K k p r P P1 := by
  have hg := rg8_s T p
  rcases h with ⟨h1, h2, h3, h4⟩ | ⟨h1, h2, h3, h4⟩
  · refine Or.inl ⟨h1, h3, h4, (rg8 T p).2, rg8_ge h2, hs h2, fun s x hx => ?_⟩
    rcases hg with ⟨g1, g2, g3⟩ | ⟨g1, g2, g3⟩
    · rw [g3] at hx; exact Runs.any g1 hx
    · rw [g3] at hx; exact Runs.range g1 hk (by omega) hx
  · refine Or.inr ⟨h1, by omega, fun s => ?_⟩
    rcases hg with ⟨g1, g2, g3⟩ | ⟨g1, g2, g3⟩
    · omega
    · rw [pair_eq (h3.trans g2) (h4.trans g3)]
      exact Runs.rangeF g1 hk (by omega)
theorem AC.any (ho : tO T p = 8) (h3 : P1 110 3 = P 110 3) (h4 : P1 110 4 = P 110 4) (hs : XS T (tE T p) P1) : AC T K k p 1 P P1 := by
  have h1 := tE_b (T := T) (p := p)
  have h5 := tO_r T p
  exact Or.inl ⟨rfl, h3, h4, tE T p, by omega, hs, fun s x hx => Runs.any ho hx⟩
theorem AC.caseF (ho : tO T p ≠ 8) (hk : k ≠ -1) (h0 : (cas T K k p).1 ≠ 0) (h3 : P1 110 3 = (cas T K k p).1) (h4 : P1 110 4 = (cas T K k p).2) : AC T K k p 0 P P1 := by
  refine Or.inr ⟨rfl, by omega, fun s => ?_⟩
  rw [pair_eq h3 h4]
  exact Runs.caseF ho hk h0
theorem AC.case0 (ho : tO T p ≠ 8) (hk : k ≠ -1) (h0 : (cas T K k p).1 = 0) (h6 : K 6 (cNm K (tV T p)) = 0) (h3 : P1 110 3 = P 110 3) (h4 : P1 110 4 = P 110 4) (hs : XS T (tE T p) P1) : AC T K k p 1 P P1 := by
  have h1 := tE_b (T := T) (p := p)
  have hc := cas_s T K k p
  exact Or.inl ⟨rfl, h3, h4, tE T p, by omega, hs, fun s x hx => Runs.case0 ho hk h0 h6 hx⟩
theorem AC.intoF (ho : tO T p ≠ 8) (hk : k ≠ -1) (h0 : (cas T K k p).1 = 0) (h6 : K 6 (cNm K (tV T p)) ≠ 0) (hn : (sgn T 40 (tE T p)).1 ≠ 0) (h3 : P1 110 3 = (sgn T 40 (tE T p)).1) (h4 : P1 110 4 = (sgn T 40 (tE T p)).2) : AC T K k p 0 P P1 := by
  refine Or.inr ⟨rfl, by omega, fun s => ?_⟩
  rw [pair_eq h3 h4]
  exact Runs.intoF ho hk h0 h6 hn
/-- a field's fault -/
theorem AC.inF {k1 q1 : Int} (hr : ∀ (s : SK) (x : Int × Int), Runs T K 0 ((c, f, k) :: s) k1 q1 x → Runs T K 0 s k p x) (h0 : P1 110 3 ≠ 0) (h : ∀ s : SK, Runs T K 0 s k1 q1 (P1 110 3, P1 110 4)) : AC T K k p 0 P P1 := Or.inr ⟨rfl, h0, fun s => hr s _ (h _)⟩
theorem AC.commaF {k1 : Int} (hC : ∀ (s : SK) (x : Int × Int), Runs T K 1 ((c, f, k) :: s) k1 q x → Runs T K 0 s k p x) (ho : tO T q ≠ 9) (hf : f + 1 < K 6 c) (hn : (sgn T 44 q).1 ≠ 0) (h3 : P1 110 3 = (sgn T 44 q).1) (h4 : P1 110 4 = (sgn T 44 q).2) : AC T K k p 0 P P1 := by
  refine Or.inr ⟨rfl, by omega, fun s => ?_⟩
  rw [pair_eq h3 h4]
  exact hC s _ (Runs.commaF ho hf hn)
theorem AC.close {k1 : Int} (hC : ∀ (s : SK) (x : Int × Int), Runs T K 1 ((c, f, k) :: s) k1 q x → Runs T K 0 s k p x) (hp : p ≤ q) (ho : tO T q ≠ 9) (hf : ¬ f + 1 < K 6 c) (h : (r = 1 ∧ (sgn T 41 q).1 = 0 ∧ P1 110 3 = P 110 3 ∧ P1 110 4 = P 110 4) ∨ (r = 0 ∧ (sgn T 41 q).1 ≠ 0 ∧ P1 110 3 = (sgn T 41 q).1 ∧ P1 110 4 = (sgn T 41 q).2)) (hs : (sgn T 41 q).1 = 0 → XS T (sgn T 41 q).2 P1) : AC T K k p r P P1 := by
  have hg := sgn_s T 41 q
  have ht := tE_b (T := T) (p := q)
  rcases h with ⟨h1, h2, h3, h4⟩ | ⟨h1, h2, h3, h4⟩
  · refine Or.inl ⟨h1, h3, h4, (sgn T 41 q).2, by omega, hs h2, fun s x hx => ?_⟩
    rw [show (sgn T 41 q).2 = tE T q by omega] at hx
    exact hC s x (Runs.close ho hf h2 hx)
  · refine Or.inr ⟨h1, by omega, fun s => ?_⟩
    rw [pair_eq h3 h4]
    exact hC s _ (Runs.closeF ho hf h2)
end ACS
/-- columns' kinds are kinds -/
def AV (K M : PH) : Prop := 0 ≤ M 0 0 ∧ M 0 0 ≤ 4 ∧ 0 ≤ M 0 2 ∧ M 0 2 ≤ 12 ∧ ∀ c : Int, 0 ≤ c → c < M 0 0 → -1 ≤ M 1 c ∧ M 1 c < K 0 0
theorem AV.zero : AV K0 M0 := ⟨by decide, by decide, by decide, by decide, fun c h0 h1 => by exfalso; have h1 : c < 0 := h1; omega⟩
theorem col_v {T : TT} {K : PH} (h : AW K) : ∀ (r : Nat) (M : PH) (i p : Int), M 0 0 + r = 4 → AV K M → AV K (col T K r M i p).2.2 := by
  intro r
  induction r with
  | zero =>
    intro M i p hr hv
    exact hv
  | succ r ih =>
    intro M i p hr hv
    by_cases e : kGo T K (-1) (M 0 0) 4 0 i 20000 p = 0
    · rw [col_go e]
      refine ih _ _ _ (by rw [mCol_0.1]; omega) ?_
      have hb := kHe_b (T := T) h p
      obtain ⟨v1, v2, v3, v4, v5⟩ := hv
      refine ⟨by rw [mCol_0.1]; omega, by rw [mCol_0.1]; omega, by rw [mCol_0.2.2.1]; exact v3, by rw [mCol_0.2.2.1]; exact v4, fun c c0 c1 => ?_⟩
      rw [mCol_0.1] at c1
      rw [mCol_1]
      by_cases z : c = M 0 0
      · rw [if_pos z]; exact hb
      · rw [if_neg z]; exact v5 c c0 (by omega)
    · by_cases e1 : kGo T K (-1) (M 0 0) 4 0 i 20000 p = 1
      · rw [col_end e1]; exact hv
      · rw [col_bad e1 e]; exact hv
theorem AV.st {T : TT} {K M : PH} {p : Int} (hw : AW K) (h : AV K M) (hs : (sSt T K M p).1 = 0) : AV (kSt T K p) (mSt T K M p) := by
  have hk : kSt T K p 0 0 = if tO T p = 0 then K 0 0 + 1 else K 0 0 := by
    unfold kSt
    by_cases h0 : tO T p = 0
    · rw [if_pos h0, if_pos h0, kNew_0.1]
    · rw [if_neg h0, if_neg h0]
      by_cases h1 : tO T p = 1
      · rw [if_pos h1]; unfold kCo; rw [cNew_0.1]
      · rw [if_neg h1]
  obtain ⟨v1, v2, v3, v4, v5⟩ := h
  have hkw := hw.1
  unfold sSt at hs
  unfold mSt
  by_cases h2 : tO T p = 2
  · rw [if_pos h2]
    rw [if_neg (by omega), if_neg (by omega), if_pos h2] at hs
    have hm := sMa_s T K M p
    have hs : (sMa T K M p).1 = 0 := hs
    have e := sMa_M (T := T) (K := K) (M := M) (p := p) (by omega) (by omega)
    have hc := col_v (T := T) hw 4 M 1 (tE T p) (by omega) ⟨v1, v2, v3, v4, v5⟩
    rw [← e] at hc
    obtain ⟨w1, w2, w3, w4, w5⟩ := hc
    refine ⟨w1, w2, w3, w4, fun c c0 c1 => ?_⟩
    rw [hk, if_neg (by omega)]
    exact w5 c c0 c1
  · rw [if_neg h2]
    have key : ∀ c : Int, 0 ≤ c → c < M 0 0 → -1 ≤ M 1 c ∧ M 1 c < kSt T K p 0 0 := by
      intro c c0 c1
      have := v5 c c0 c1
      rw [hk]
      split <;> omega
    by_cases h3 : tO T p = 3
    · rw [if_pos h3]
      rw [if_neg (by omega), if_neg (by omega), if_neg (by omega), if_pos h3] at hs
      have ha := sAr_s T K M p
      unfold mAr
      refine ⟨by rw [aNew_0.1]; exact v1, by rw [aNew_0.1]; exact v2, by rw [aNew_0.2.1]; omega, by rw [aNew_0.2.1]; omega, fun c c0 c1 => ?_⟩
      rw [aNew_0.1] at c1
      rw [aNew_1]
      exact key c c0 c1
    · rw [if_neg h3]
      by_cases h5 : tO T p = 5
      · rw [if_pos h5]
        refine ⟨by rw [up_k (by decide)]; exact v1, by rw [up_k (by decide)]; exact v2, by rw [up_k (by decide)]; exact v3, by rw [up_k (by decide)]; exact v4, fun c c0 c1 => ?_⟩
        rw [up_k (by decide)] at c1
        rw [up_row (by decide)]
        exact key c c0 c1
      · rw [if_neg h5]
        by_cases h6 : tO T p = 6
        · rw [if_pos h6]
          refine ⟨by rw [up_k (by decide)]; exact v1, by rw [up_k (by decide)]; exact v2, by rw [up_k (by decide)]; exact v3, by rw [up_k (by decide)]; exact v4, fun c c0 c1 => ?_⟩
          rw [up_k (by decide)] at c1
          rw [up_row (by decide)]
          exact key c c0 c1
        · rw [if_neg h6]
          exact ⟨v1, v2, v3, v4, key⟩
theorem AC.tr {T : TT} {K : PH} {k p r : Int} {P P0 P1 : PH} (h : AC T K k p r P0 P1) (h3 : P0 110 3 = P 110 3) (h4 : P0 110 4 = P 110 4) : AC T K k p r P P1 := by
  rcases h with ⟨a, b, c, d⟩ | h
  · exact Or.inl ⟨a, b.trans h3, c.trans h4, d⟩
  · exact Or.inr h
theorem AP.tr {T : TT} {K : PH} {k p r : Int} {P P0 P1 : PH} (h : AP T K k p r P0 P1) (h3 : P0 110 3 = P 110 3) (h4 : P0 110 4 = P 110 4) : AP T K k p r P P1 := by
  rcases h with ⟨a, b, c, d⟩ | h
  · exact Or.inl ⟨a, b.trans h3, c.trans h4, d⟩
  · exact Or.inr h
theorem arl_x {T : TT} {K M : PH} {r : Nat} {c q q1 : Int} (hq : (c ≤ 0 ∧ q1 = q) ∨ (0 < c ∧ (sgn T 44 q).1 = 0 ∧ q1 = tE T q)) : arl T K M (r + 1) c q = if (pat T K (M 1 c) q1).1 ≠ 0 then pat T K (M 1 c) q1 else arl T K M r (c + 1) (pat T K (M 1 c) q1).2 := by
  rcases hq with ⟨h, rfl⟩ | ⟨h, h2, rfl⟩
  · exact arl_p0 h
  · exact arl_p1 h h2
theorem ARf {T : TT} {K M : PH} {r : Nat} {c q q1 f pl : Int} {X : Int × Int} (hX : X = arl T K M (r + 1) c q) (hq : (c ≤ 0 ∧ q1 = q) ∨ (0 < c ∧ (sgn T 44 q).1 = 0 ∧ q1 = tE T q)) (hp : pat T K (M 1 c) q1 = (f, pl)) (hf : f ≠ 0) : X.1 = f ∧ X.2 = pl := by
  rw [hX, arl_x hq, hp, if_pos hf]
  exact ⟨rfl, rfl⟩
theorem ARok {T : TT} {K M : PH} {r : Nat} {c q q1 q2 : Int} {X : Int × Int} (hX : X = arl T K M (r + 1) c q) (hq : (c ≤ 0 ∧ q1 = q) ∨ (0 < c ∧ (sgn T 44 q).1 = 0 ∧ q1 = tE T q)) (hp : pat T K (M 1 c) q1 = (0, q2)) : X = arl T K M r (c + 1) q2 := by
  rw [hX, arl_x hq, hp, if_neg (fun h => h rfl)]
