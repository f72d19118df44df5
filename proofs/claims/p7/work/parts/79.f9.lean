section
/-! The class's picture of a text, of the token ahead, of the tables told. -/
def disX (F : FSX) (s : List (Nat × Int) × List Nat) : Bool := s.1.all (fun q => !inF F q.1 q.2) && s.2.all (fun k => !F.2.contains k && F.1.all fun q => !(q.1 == k))
theorem disX_f {F : FSX} {s : List (Nat × Int) × List Nat} {P P1 : PH} (hd : disX F s = true) (hf : FrX F P P1) {o k : Nat} {j : Int} (hk : kx o k) (hm : (k, j) ∈ s.1) : P1 o j = P o j := by
  unfold disX at hd
  rw [Bool.and_eq_true] at hd
  refine hf.g hk ?_
  have := List.all_eq_true.mp hd.1 (k, j) hm
  simpa using this
theorem disX_a {F : FSX} {s : List (Nat × Int) × List Nat} {P P1 : PH} (hd : disX F s = true) (hf : FrX F P P1) {o k : Nat} (hk : kx o k) (hm : k ∈ s.2) (j : Int) : P1 o j = P o j := by
  unfold disX at hd
  rw [Bool.and_eq_true] at hd
  refine hf.g hk ?_
  have h := List.all_eq_true.mp hd.2 k hm
  rw [Bool.and_eq_true] at h
  unfold inF
  rw [Bool.or_eq_false_iff]
  refine ⟨by simpa using h.1, ?_⟩
  cases e : F.1.any fun q => q.1 == k && q.2 == j with
  | false => rfl
  | true =>
    obtain ⟨q, hq, he⟩ := List.any_eq_true.mp e
    have h2 := List.all_eq_true.mp h.2 q hq
    rw [Bool.and_eq_true] at he
    rw [he.1] at h2
    exact absurd h2 (by decide)
/-- the text -/
def XT (T : TT) (P : PH) : Prop := P 111 2 = T.2 ∧ ∀ i : Int, 0 ≤ i → i < T.2 → P 2 i = T.1 i
theorem XT.fr {T : TT} {P P1 : PH} {F : FSX} (h : XT T P) (hf : FrX F P P1) (hd : disX F ([(46, 2)], [2]) = true) : XT T P1 := by
  refine ⟨by rw [disX_f hd hf (o := 111) (k := 46) (j := 2) ⟨by decide, rfl⟩ (by decide)]; exact h.1, fun i h0 h1 => ?_⟩
  rw [disX_a hd hf (o := 2) (k := 2) ⟨by decide, rfl⟩ (by decide)]
  exact h.2 i h0 h1
/-- the token ahead, behind place p -/
def XS (T : TT) (p : Int) (P : PH) : Prop := P 111 4 = tK T p ∧ P 111 5 = tA T p ∧ P 111 8 = tO T p ∧ 0 ≤ p ∧ p ≤ T.2 ∧ (tK T p = 4 → P 111 6 = tS T p) ∧ (1 ≤ tK T p ∧ tK T p ≤ 3 → P 111 3 = tE T p ∧ P 111 7 = tV T p)
theorem XS.fr {T : TT} {p : Int} {P P1 : PH} {F : FSX} (h : XS T p P) (hf : FrX F P P1) (hd : disX F ([(46, 3), (46, 4), (46, 5), (46, 6), (46, 7), (46, 8)], []) = true) : XS T p P1 := by
  have hk : kx 111 46 := ⟨by decide, rfl⟩
  unfold XS at h ⊢
  rw [disX_f hd hf (j := 3) hk (by decide), disX_f hd hf (j := 4) hk (by decide), disX_f hd hf (j := 5) hk (by decide), disX_f hd hf (j := 6) hk (by decide), disX_f hd hf (j := 7) hk (by decide), disX_f hd hf (j := 8) hk (by decide)]
  exact h
theorem XS.b {T : TT} {p : Int} {P : PH} (h : XS T p P) : P 111 4 = tK T p ∧ P 111 5 = tA T p ∧ P 111 8 = tO T p ∧ 0 ≤ p ∧ p ≤ T.2 := ⟨h.1, h.2.1, h.2.2.1, h.2.2.2.1, h.2.2.2.2.1⟩
theorem XS.bad {T : TT} {p : Int} {P : PH} (h : XS T p P) (h4 : tK T p = 4) : P 111 6 = tS T p := h.2.2.2.2.2.1 h4
theorem XS.tok {T : TT} {p : Int} {P : PH} (h : XS T p P) (h4 : 1 ≤ tK T p ∧ tK T p ≤ 3) : P 111 3 = tE T p ∧ P 111 7 = tV T p := h.2.2.2.2.2.2 h4
/-- a letter or a digit just ahead of a place -/
def jn (T : TT) (q : Int) : Int := if 0 < q ∧ (bL (T.1 (q - 1)) || bN (T.1 (q - 1))) = true then 1 else 0
theorem tJ_jn {T : TT} {q : Int} : tJn T q = if tA T q = q ∧ jn T q = 1 then 1 else 0 := by
  have key : tJ T q = true ↔ tA T q = q ∧ jn T q = 1 := by
    unfold tJ jn
    rw [Bool.and_eq_true, decide_eq_true_iff]
    constructor
    · intro h
      exact ⟨h.1.1, if_pos ⟨h.1.2, h.2⟩⟩
    · intro h
      by_cases e : 0 < q ∧ (bL (T.1 (q - 1)) || bN (T.1 (q - 1))) = true
      · exact ⟨⟨h.1, e.1⟩, e.2⟩
      · rw [if_neg e] at h
        exact absurd h.2 (by decide)
  unfold tJn
  by_cases h : tJ T q = true
  · rw [if_pos h, if_pos (key.mp h)]
  · rw [if_neg h, if_neg (fun z => h (key.mpr z))]
theorem tJ_s (T : TT) (q : Int) : (tA T q = q ∧ jn T q = 1 ∧ tJn T q = 1) ∨ ((tA T q ≠ q ∨ jn T q ≠ 1) ∧ tJn T q = 0) := by
  have h := tJ_jn (T := T) (q := q)
  by_cases e : tA T q = q ∧ jn T q = 1
  · rw [if_pos e] at h; exact Or.inl ⟨e.1, e.2, h⟩
  · rw [if_neg e] at h; exact Or.inr ⟨by omega, h⟩
/-- what a step wants -/
theorem XS.stp {T : TT} {p : Int} {P : PH} (h : XS T p P) (h4 : 1 ≤ tK T p ∧ tK T p ≤ 3) : (P 111 3 = tE T p ∧ 0 ≤ tE T p ∧ tE T p ≤ T.2) ∧ (((P 111 4 = 1 ∨ P 111 4 = 2) ∧ jn T (tE T p) = 1) ∨ (P 111 4 ≠ 1 ∧ P 111 4 ≠ 2 ∧ jn T (tE T p) = 0)) := by
  have hb := h.b
  have ht := h.tok h4
  have he := tE_b h4
  have hg := tA_ge T p
  have hc := tE_c h4
  refine ⟨⟨ht.1, by omega, he.2.2⟩, ?_⟩
  unfold jn
  rw [hc]
  by_cases e : tK T p = 3
  · right
    refine ⟨by omega, by omega, ?_⟩
    rw [if_neg]
    intro z
    rw [decide_eq_true_iff] at z
    exact z.2 e
  · left
    refine ⟨by omega, ?_⟩
    rw [if_pos ⟨by omega, decide_eq_true_iff.mpr e⟩]
/-- the own words, by 27 -/
def OWN (P : PH) : Prop := ∀ k : Nat, k < 11 → P 112 (k : Int) = o27 k
theorem OWN.fr {P P1 : PH} {F : FSX} (h : OWN P) (hf : FrX F P P1) (hd : disX F ([], [47]) = true) : OWN P1 := by
  intro k hk
  rw [disX_a hd hf (o := 112) (k := 47) ⟨by decide, rfl⟩ (by decide)]
  exact h k hk
/-- the table that the reader fills -/
def RT (o : Nat) (P : PH) : Prop := P 110 2 = (o : Int)
theorem RT.fr {o : Nat} {P P1 : PH} {F : FSX} (h : RT o P) (hf : FrX F P P1) (hd : disX F ([(45, 2)], []) = true) : RT o P1 := (disX_f hd hf (o := 110) (k := 45) (j := 2) ⟨by decide, rfl⟩ (by decide)).trans h
/-- kinds and constructors -/
def XK (K : PH) (o : Nat) (P : PH) : Prop := kx o 29 ∧ P o 9 = K 0 0 ∧ P o 10 = K 0 1 ∧
  (∀ k : Int, 0 ≤ k → k < K 0 0 → P (crX o 0) k = K 1 k ∧ P (crX o 1) k = K 9 k ∧ P (crX o 2) k = K 3 k ∧ P (crX o 3) k = K 2 k) ∧
  ∀ c : Int, 0 ≤ c → c < K 0 1 → P (crX o 4) c = K 4 c ∧ P (crX o 5) c = K 10 c ∧ P (crX o 6) c = K 6 c ∧ P (crX o 7) c = K 7 c ∧ P (crX o 8) c = K 8 c
theorem XK.fr {K : PH} {o : Nat} {P P1 : PH} {F : FSX} (h : XK K o P) (hf : FrX F P P1) (hd : disX F ([(29, 9), (29, 10)], [30, 31, 32, 33, 34, 35, 36, 37, 38]) = true) : XK K o P1 := by
  obtain ⟨hk, h1, h2, h3, h4⟩ := h
  refine ⟨hk, by rw [disX_f hd hf (j := 9) hk (by decide)]; exact h1, by rw [disX_f hd hf (j := 10) hk (by decide)]; exact h2, fun k k0 k1 => ?_, fun c c0 c1 => ?_⟩
  · rw [disX_a hd hf (ck_29_0 hk) (by decide), disX_a hd hf (ck_29_1 hk) (by decide), disX_a hd hf (ck_29_2 hk) (by decide), disX_a hd hf (ck_29_3 hk) (by decide)]
    exact h3 k k0 k1
  · rw [disX_a hd hf (ck_29_4 hk) (by decide), disX_a hd hf (ck_29_5 hk) (by decide), disX_a hd hf (ck_29_6 hk) (by decide), disX_a hd hf (ck_29_7 hk) (by decide), disX_a hd hf (ck_29_8 hk) (by decide)]
    exact h4 c c0 c1
theorem XK.b {K : PH} {o : Nat} {P : PH} (h : XK K o P) : P o 9 = K 0 0 ∧ P o 10 = K 0 1 := ⟨h.2.1, h.2.2.1⟩
theorem XK.k {K : PH} {o : Nat} {P : PH} (h : XK K o P) {k : Int} (k0 : 0 ≤ k) (k1 : k < K 0 0) : P (crX o 0) k = K 1 k ∧ P (crX o 1) k = K 9 k ∧ P (crX o 2) k = K 3 k ∧ P (crX o 3) k = K 2 k := h.2.2.2.1 k k0 k1
theorem XK.c {K : PH} {o : Nat} {P : PH} (h : XK K o P) {c : Int} (c0 : 0 ≤ c) (c1 : c < K 0 1) : P (crX o 4) c = K 4 c ∧ P (crX o 5) c = K 10 c ∧ P (crX o 6) c = K 6 c ∧ P (crX o 7) c = K 7 c ∧ P (crX o 8) c = K 8 c := h.2.2.2.2 c c0 c1
theorem XK.kn {K : PH} {o : Nat} {P : PH} (h : XK K o P) (v : Int) : fxi (fun i => P (crX o 0) i) v (P o 9).toNat = kNm K v := by
  unfold kNm
  rw [h.2.1]
  exact fxi_cg _ (fun i h0 h1 => by show P (crX o 0) i = v ↔ _; rw [(h.k (k := i) h0 (by omega)).1])
theorem XK.cn {K : PH} {o : Nat} {P : PH} (h : XK K o P) (v : Int) : fxi (fun i => P (crX o 4) i) v (P o 10).toNat = cNm K v := by
  unfold cNm
  rw [h.2.2.1]
  exact fxi_cg _ (fun i h0 h1 => by show P (crX o 4) i = v ↔ _; rw [(h.c (c := i) h0 (by omega)).1])
theorem XK.zero {o : Nat} {P : PH} (hk : kx o 29) (h9 : P o 9 = 0) (h10 : P o 10 = 0) : XK K0 o P := ⟨hk, h9, h10, fun k h0 h1 => by exfalso; have h1 : k < 0 := h1; omega, fun k h0 h1 => by exfalso; have h1 : k < 0 := h1; omega⟩
theorem XK.kind {K : PH} {o : Nat} {P P1 : PH} {v : Int} (h : XK K o P) (h9 : P1 o 9 = P o 9 + 1) (h10 : P1 o 10 = P o 10) (s0 : P1 (crX o 0) (P o 9) = v) (q0 : ∀ j : Int, j ≠ P o 9 → P1 (crX o 0) j = P (crX o 0) j) (s1 : P1 (crX o 1) (P o 9) = P o 10) (q1 : ∀ j : Int, j ≠ P o 9 → P1 (crX o 1) j = P (crX o 1) j)
    (s2 : P1 (crX o 2) (P o 9) = 0) (q2 : ∀ j : Int, j ≠ P o 9 → P1 (crX o 2) j = P (crX o 2) j) (s3 : P1 (crX o 3) (P o 9) = 0) (q3 : ∀ j : Int, j ≠ P o 9 → P1 (crX o 3) j = P (crX o 3) j)
    (q4 : ∀ j, P1 (crX o 4) j = P (crX o 4) j) (q5 : ∀ j, P1 (crX o 5) j = P (crX o 5) j) (q6 : ∀ j, P1 (crX o 6) j = P (crX o 6) j) (q7 : ∀ j, P1 (crX o 7) j = P (crX o 7) j) (q8 : ∀ j, P1 (crX o 8) j = P (crX o 8) j) : XK (kNew K v) o P1 := by
  have hb := h.b
  refine ⟨h.1, by rw [h9, kNew_0.1, hb.1], by rw [h10, kNew_0.2, hb.2], fun k k0 k1 => ?_, fun c c0 c1 => ?_⟩
  · rw [kNew_0.1] at k1
    rw [kNew_1, kNew_9, kNew_3, kNew_2]
    by_cases e : k = K 0 0
    · have e9 : k = P o 9 := by omega
      rw [if_pos e, if_pos e, if_pos e, if_pos e, e9, s0, s1, s2, s3]
      exact ⟨rfl, hb.2, rfl, rfl⟩
    · have e9 : k ≠ P o 9 := by omega
      rw [if_neg e, if_neg e, if_neg e, if_neg e, q0 _ e9, q1 _ e9, q2 _ e9, q3 _ e9]
      exact h.k k0 (by omega)
  · rw [kNew_0.2] at c1
    rw [kNew_c (o := 4) (by decide) (by decide) (by decide) (by decide) (by decide), kNew_c (o := 6) (by decide) (by decide) (by decide) (by decide) (by decide), kNew_c (o := 7) (by decide) (by decide) (by decide) (by decide) (by decide), kNew_c (o := 8) (by decide) (by decide) (by decide) (by decide) (by decide), kNew_c (o := 10) (by decide) (by decide) (by decide) (by decide) (by decide), q4, q5, q6, q7, q8]
    exact h.c c0 c1
theorem XK.con {K : PH} {o : Nat} {P P1 : PH} {v n a b i : Int} (h : XK K o P) (h9 : P1 o 9 = P o 9) (h10 : P1 o 10 = P o 10 + 1) (s4 : P1 (crX o 4) (P o 10) = v) (q4 : ∀ j : Int, j ≠ P o 10 → P1 (crX o 4) j = P (crX o 4) j) (s5 : P1 (crX o 5) (P o 10) = P (crX o 3) (P o 9 - 1)) (q5 : ∀ j : Int, j ≠ P o 10 → P1 (crX o 5) j = P (crX o 5) j)
    (s6 : P1 (crX o 6) (P o 10) = n) (q6 : ∀ j : Int, j ≠ P o 10 → P1 (crX o 6) j = P (crX o 6) j) (s7 : P1 (crX o 7) (P o 10) = a) (q7 : ∀ j : Int, j ≠ P o 10 → P1 (crX o 7) j = P (crX o 7) j) (s8 : P1 (crX o 8) (P o 10) = b) (q8 : ∀ j : Int, j ≠ P o 10 → P1 (crX o 8) j = P (crX o 8) j)
    (s2 : P1 (crX o 2) (P o 9 - 1) = P (crX o 2) (P o 9 - 1) + 1) (q2 : ∀ j : Int, j ≠ P o 9 - 1 → P1 (crX o 2) j = P (crX o 2) j) (s3 : P1 (crX o 3) (P o 9 - 1) = P (crX o 3) (P o 9 - 1) + i) (q3 : ∀ j : Int, j ≠ P o 9 - 1 → P1 (crX o 3) j = P (crX o 3) j)
    (q0 : ∀ j, P1 (crX o 0) j = P (crX o 0) j) (q1 : ∀ j, P1 (crX o 1) j = P (crX o 1) j) (h1 : 1 ≤ K 0 0) : XK (cNew K v n a b i) o P1 := by
  have hb := h.b
  have hl := h.k (k := K 0 0 - 1) (by omega) (by omega)
  rw [show P o 9 - 1 = K 0 0 - 1 by omega] at s2 s3 s5 q2 q3
  refine ⟨h.1, by rw [h9, cNew_0.1, hb.1], by rw [h10, cNew_0.2, hb.2], fun k k0 k1 => ?_, fun c c0 c1 => ?_⟩
  · rw [cNew_0.1] at k1
    rw [cNew_c (o := 1) (Or.inl rfl), cNew_c (o := 9) (Or.inr rfl), cNew_3, cNew_2, q0, q1]
    have hk := h.k k0 k1
    by_cases e : k = K 0 0 - 1
    · rw [if_pos e, if_pos e]
      rw [e] at hk ⊢
      rw [s2, s3]
      exact ⟨hk.1, hk.2.1, by rw [hk.2.2.1], by rw [hk.2.2.2]⟩
    · rw [if_neg e, if_neg e, q2 _ e, q3 _ e]
      exact hk
  · rw [cNew_0.2] at c1
    rw [cNew_4, cNew_10, cNew_6, cNew_7, cNew_8]
    by_cases e : c = K 0 1
    · have e9 : c = P o 10 := by omega
      rw [if_pos e, if_pos e, if_pos e, if_pos e, if_pos e, e9, s4, s5, s6, s7, s8]
      exact ⟨rfl, hl.2.2.2, rfl, rfl, rfl⟩
    · have e9 : c ≠ P o 10 := by omega
      rw [if_neg e, if_neg e, if_neg e, if_neg e, if_neg e, q4 _ e9, q5 _ e9, q6 _ e9, q7 _ e9, q8 _ e9]
      exact h.c c0 (by omega)
/-- columns, arms, rule, budget -/
def XM (M : PH) (o : Nat) (P : PH) : Prop := kx o 28 ∧ P o 6 = M 0 0 ∧ P o 7 = M 0 1 ∧ P o 8 = M 0 2 ∧ P o 9 = M 0 3 ∧ P o 10 = M 0 4 ∧ (∀ c : Int, 0 ≤ c → c < M 0 0 → P (crX o 1) c = M 1 c) ∧ ∀ a : Int, 0 ≤ a → a < M 0 2 → P (crX o 4) a = M 2 a
theorem XM.fr {M : PH} {o : Nat} {P P1 : PH} {F : FSX} (h : XM M o P) (hf : FrX F P P1) (hd : disX F ([(28, 6), (28, 7), (28, 8), (28, 9), (28, 10)], [39, 42]) = true) : XM M o P1 := by
  obtain ⟨hk, h1, h2, h3, h4, h5, h6, h7⟩ := h
  refine ⟨hk, by rw [disX_f hd hf (j := 6) hk (by decide)]; exact h1, by rw [disX_f hd hf (j := 7) hk (by decide)]; exact h2, by rw [disX_f hd hf (j := 8) hk (by decide)]; exact h3, by rw [disX_f hd hf (j := 9) hk (by decide)]; exact h4, by rw [disX_f hd hf (j := 10) hk (by decide)]; exact h5, fun c c0 c1 => ?_, fun a a0 a1 => ?_⟩
  · rw [disX_a hd hf (ck_28_1 hk) (by decide)]
    exact h6 c c0 c1
  · rw [disX_a hd hf (ck_28_4 hk) (by decide)]
    exact h7 a a0 a1
theorem XM.b {M : PH} {o : Nat} {P : PH} (h : XM M o P) : P o 6 = M 0 0 ∧ P o 7 = M 0 1 ∧ P o 8 = M 0 2 ∧ P o 9 = M 0 3 ∧ P o 10 = M 0 4 := ⟨h.2.1, h.2.2.1, h.2.2.2.1, h.2.2.2.2.1, h.2.2.2.2.2.1⟩
theorem XM.c {M : PH} {o : Nat} {P : PH} (h : XM M o P) {c : Int} (c0 : 0 ≤ c) (c1 : c < M 0 0) : P (crX o 1) c = M 1 c := h.2.2.2.2.2.2.1 c c0 c1
theorem XM.zero {o : Nat} {P : PH} (hk : kx o 28) (h6 : P o 6 = 0) (h7 : P o 7 = 0) (h8 : P o 8 = 0) (h9 : P o 9 = 0) (h10 : P o 10 = 300) : XM M0 o P := ⟨hk, h6, h7, h8, h9, h10, fun k h0 h1 => by exfalso; have h1 : k < 0 := h1; omega, fun k h0 h1 => by exfalso; have h1 : k < 0 := h1; omega⟩
theorem XM.col {M : PH} {o : Nat} {P P1 : PH} {k r : Int} (h : XM M o P) (h6 : P1 o 6 = P o 6 + 1) (h7 : P1 o 7 = r) (h8 : P1 o 8 = P o 8) (h9 : P1 o 9 = P o 9) (h10 : P1 o 10 = P o 10) (s1 : P1 (crX o 1) (P o 6) = k) (q1 : ∀ j : Int, j ≠ P o 6 → P1 (crX o 1) j = P (crX o 1) j) (q4 : ∀ j, P1 (crX o 4) j = P (crX o 4) j) : XM (mCol M k r) o P1 := by
  have hb := h.b
  refine ⟨h.1, by rw [h6, mCol_0.1, hb.1], by rw [h7, mCol_0.2.1], by rw [h8, mCol_0.2.2.1, hb.2.2.1], by rw [h9, mCol_0.2.2.2.1, hb.2.2.2.1], by rw [h10, mCol_0.2.2.2.2, hb.2.2.2.2], fun c c0 c1 => ?_, fun a a0 a1 => ?_⟩
  · rw [mCol_0.1] at c1
    rw [mCol_1]
    by_cases e : c = M 0 0
    · rw [if_pos e, show c = P o 6 by omega, s1]
    · rw [if_neg e, q1 _ (by omega)]
      exact h.c c0 (by omega)
  · rw [mCol_0.2.2.1] at a1
    rw [mCol_2, q4]
    exact h.2.2.2.2.2.2.2 a a0 a1
theorem XM.arm {M : PH} {o : Nat} {P P1 : PH} {g : Int} (h : XM M o P) (h6 : P1 o 6 = P o 6) (h7 : P1 o 7 = P o 7) (h8 : P1 o 8 = P o 8 + 1) (h9 : P1 o 9 = P o 9) (h10 : P1 o 10 = P o 10) (q1 : ∀ j, P1 (crX o 1) j = P (crX o 1) j) (s4 : P1 (crX o 4) (P o 8) = g) (q4 : ∀ j : Int, j ≠ P o 8 → P1 (crX o 4) j = P (crX o 4) j) : XM (aNew M g) o P1 := by
  have hb := h.b
  have e1 : aNew M g 0 1 = M 0 1 := by simp [aNew, up]
  refine ⟨h.1, by rw [h6, aNew_0.1, hb.1], by rw [h7, e1, hb.2.1], by rw [h8, aNew_0.2.1, hb.2.2.1], by rw [h9, aNew_0.2.2.1, hb.2.2.2.1], by rw [h10, aNew_0.2.2.2, hb.2.2.2.2], fun c c0 c1 => ?_, fun a a0 a1 => ?_⟩
  · rw [aNew_0.1] at c1
    rw [aNew_1, q1]
    exact h.c c0 c1
  · rw [aNew_0.2.1] at a1
    rw [aNew_2]
    by_cases e : a = M 0 2
    · rw [if_pos e, show a = P o 8 by omega, s4]
    · rw [if_neg e, q4 _ (by omega)]
      exact h.2.2.2.2.2.2.2 a a0 (by omega)
theorem XM.rule {M : PH} {o : Nat} {P P1 : PH} {g : Int} (h : XM M o P) (h6 : P1 o 6 = P o 6) (h7 : P1 o 7 = P o 7) (h8 : P1 o 8 = P o 8) (h9 : P1 o 9 = g) (h10 : P1 o 10 = P o 10) (q1 : ∀ j, P1 (crX o 1) j = P (crX o 1) j) (q4 : ∀ j, P1 (crX o 4) j = P (crX o 4) j) : XM (up M 0 3 g) o P1 := by
  have hb := h.b
  refine ⟨h.1, by rw [h6, up_k (by decide), hb.1], by rw [h7, up_k (by decide), hb.2.1], by rw [h8, up_k (by decide), hb.2.2.1], by rw [h9, up_same], by rw [h10, up_k (by decide), hb.2.2.2.2], fun c c0 c1 => ?_, fun a a0 a1 => ?_⟩
  · rw [up_k (by decide)] at c1
    rw [up_row (o1 := 1) (by decide), q1]
    exact h.c c0 c1
  · rw [up_k (by decide)] at a1
    rw [up_row (o1 := 2) (by decide), q4]
    exact h.2.2.2.2.2.2.2 a a0 a1
theorem XM.budget {M : PH} {o : Nat} {P P1 : PH} {g : Int} (h : XM M o P) (h6 : P1 o 6 = P o 6) (h7 : P1 o 7 = P o 7) (h8 : P1 o 8 = P o 8) (h9 : P1 o 9 = P o 9) (h10 : P1 o 10 = g) (q1 : ∀ j, P1 (crX o 1) j = P (crX o 1) j) (q4 : ∀ j, P1 (crX o 4) j = P (crX o 4) j) : XM (up M 0 4 g) o P1 := by
  have hb := h.b
  refine ⟨h.1, by rw [h6, up_k (by decide), hb.1], by rw [h7, up_k (by decide), hb.2.1], by rw [h8, up_k (by decide), hb.2.2.1], by rw [h9, up_k (by decide), hb.2.2.2.1], by rw [h10, up_same], fun c c0 c1 => ?_, fun a a0 a1 => ?_⟩
  · rw [up_k (by decide)] at c1
    rw [up_row (o1 := 1) (by decide), q1]
    exact h.c c0 c1
  · rw [up_k (by decide)] at a1
    rw [up_row (o1 := 2) (by decide), q4]
    exact h.2.2.2.2.2.2.2 a a0 a1
section XSM
variable {T : TT} {p : Int} {P : PH}
theorem XS.end (hp : 0 ≤ p ∧ p ≤ T.2) (h4 : P 111 4 = 0) (h5 : P 111 5 = tA T p) (h8 : P 111 8 = -1) (hn : T.2 ≤ tA T p) : XS T p P := by
  have hk := tK_0 hn
  exact ⟨by omega, h5, by rw [tO_4 (by omega)]; exact h8, hp.1, hp.2, fun q => by omega, fun q => by omega⟩
theorem XS.sig (hp : 0 ≤ p ∧ p ≤ T.2) (h4 : P 111 4 = 3) (h5 : P 111 5 = tA T p) (h8 : P 111 8 = -1) (h3 : P 111 3 = tA T p + 1) (h7 : P 111 7 = T.1 (tA T p)) (hn : tA T p < T.2) (hl : T.1 (tA T p) < 97 ∨ 122 < T.1 (tA T p)) (hd : T.1 (tA T p) < 48 ∨ 57 < T.1 (tA T p)) : XS T p P := by
  have hk := tK_3 hn (bL_f hl) (bN_f hd)
  have h9 := tK3 hk
  exact ⟨by omega, h5, by rw [tO_4 (by omega)]; exact h8, hp.1, hp.2, fun q => by omega, fun _ => ⟨by omega, by rw [h9.2.2.2]; exact h7⟩⟩
theorem XS.badj (hp : 0 ≤ p ∧ p ≤ T.2) (h4 : P 111 4 = 4) (h5 : P 111 5 = tA T p) (h8 : P 111 8 = -1) (h6 : P 111 6 = tA T p) (hn : tA T p < T.2) (hl : (97 ≤ T.1 (tA T p) ∧ T.1 (tA T p) ≤ 122) ∨ (48 ≤ T.1 (tA T p) ∧ T.1 (tA T p) ≤ 57)) (hj : tJn T p = 1) : XS T p P := by
  have hj := tJn_t hj
  have hk := tK_j hn (by rcases hl with h | h; exact Or.inl (bL_t.mpr h); exact Or.inr (bN_t.mpr h)) hj
  refine ⟨by omega, h5, by rw [tO_4 (by omega)]; exact h8, hp.1, hp.2, fun _ => ?_, fun q => by omega⟩
  unfold tS
  rw [if_pos hj]
  exact h6
theorem XS.nu (hp : 0 ≤ p ∧ p ≤ T.2) (h4 : P 111 4 = 2) (h5 : P 111 5 = tA T p) (h8 : P 111 8 = -1) (h3 : P 111 3 = rE bN T (tA T p)) (hle : rE bN T (tA T p) - tA T p ≤ 4) (h7 : P 111 7 = e10 (tD T (tA T p)) (rE bN T (tA T p) - tA T p).toNat) (hn : tA T p < T.2) (hl : 48 ≤ T.1 (tA T p) ∧ T.1 (tA T p) ≤ 57) (hj : tJn T p = 0) : XS T p P := by
  have hk := tK_n hn (bL_f (by omega)) (bN_t.mpr hl) (tJn_f hj)
  rw [if_pos hle] at hk
  refine ⟨by omega, h5, by rw [tO_4 (by omega)]; exact h8, hp.1, hp.2, fun q => by omega, fun _ => ⟨?_, ?_⟩⟩
  · unfold tE
    rw [if_neg (by omega), if_neg (by omega), if_pos hk]
    exact h3
  · unfold tV
    rw [if_neg (by omega), if_neg (by omega), if_pos hk]
    exact h7
theorem XS.nub (hp : 0 ≤ p ∧ p ≤ T.2) (h4 : P 111 4 = 4) (h5 : P 111 5 = tA T p) (h8 : P 111 8 = -1) (h6 : P 111 6 = tA T p + 4) (hle : 4 < rE bN T (tA T p) - tA T p) (hn : tA T p < T.2) (hl : 48 ≤ T.1 (tA T p) ∧ T.1 (tA T p) ≤ 57) (hj : tJn T p = 0) : XS T p P := by
  have hl0 : bL (T.1 (tA T p)) = false := bL_f (by omega)
  have hk := tK_n hn hl0 (bN_t.mpr hl) (tJn_f hj)
  rw [if_neg (by omega)] at hk
  refine ⟨by omega, h5, by rw [tO_4 (by omega)]; exact h8, hp.1, hp.2, fun _ => ?_, fun q => by omega⟩
  unfold tS
  rw [if_neg (by rw [tJn_f hj]; simp), if_neg (by rw [hl0]; simp)]
  exact h6
theorem XS.wo (hp : 0 ≤ p ∧ p ≤ T.2) (h4 : P 111 4 = 1) (h5 : P 111 5 = tA T p) (h8 : P 111 8 = oWF (P 111 7) 11) (h3 : P 111 3 = rE bL T (tA T p)) (hle : rE bL T (tA T p) - tA T p ≤ 6) (h7 : P 111 7 = e27 (tPad (tL T (tA T p)) (rE bL T (tA T p) - tA T p).toNat) 6) (hn : tA T p < T.2) (hl : 97 ≤ T.1 (tA T p) ∧ T.1 (tA T p) ≤ 122) (hj : tJn T p = 0) : XS T p P := by
  have hk := tK_w hn (bL_t.mpr hl) (tJn_f hj)
  rw [if_pos hle] at hk
  have hge := rE_ge bL T (tA T p)
  have hv : P 111 7 = tV T p := by
    unfold tV tN
    rw [if_neg (by omega), if_pos hk, h7]
    have := e27_pad (tL T (tA T p)) (rE bL T (tA T p) - tA T p).toNat (6 - (rE bL T (tA T p) - tA T p).toNat)
    rw [show (rE bL T (tA T p) - tA T p).toNat + (6 - (rE bL T (tA T p) - tA T p).toNat) = 6 by omega] at this
    exact this
  refine ⟨by omega, h5, ?_, hp.1, hp.2, fun q => by omega, fun _ => ⟨?_, hv⟩⟩
  · unfold tO
    rw [if_pos hk, h8, hv]
    rfl
  · unfold tE
    rw [if_neg (by omega), if_pos hk]
    exact h3
theorem XS.wob (hp : 0 ≤ p ∧ p ≤ T.2) (h4 : P 111 4 = 4) (h5 : P 111 5 = tA T p) (h8 : P 111 8 = -1) (h6 : P 111 6 = tA T p + 6) (hle : 6 < rE bL T (tA T p) - tA T p) (hn : tA T p < T.2) (hl : 97 ≤ T.1 (tA T p) ∧ T.1 (tA T p) ≤ 122) (hj : tJn T p = 0) : XS T p P := by
  have hk := tK_w hn (bL_t.mpr hl) (tJn_f hj)
  rw [if_neg (by omega)] at hk
  refine ⟨by omega, h5, by rw [tO_4 (by omega)]; exact h8, hp.1, hp.2, fun _ => ?_, fun q => by omega⟩
  unfold tS
  rw [if_neg (by rw [tJn_f hj]; simp), if_pos (bL_t.mpr hl)]
  exact h6
end XSM
/-- a letter more, by 27 -/
theorem e27_one {T : TT} {a v c : Int} {n : Nat} (h : v = e27 (tL T a) n) (hc : c = T.1 (a + n)) : v * 27 + c - 97 + 1 = e27 (tL T a) (n + 1) := by
  show v * 27 + c - 97 + 1 = e27 (tL T a) n * 27 + (T.1 (a + n) - 96)
  rw [← h, ← hc]
  omega
theorem e27_lt {T : TT} {a : Int} {n : Nat} (hn : n ≤ 5) (h : ∀ i, i < n → 1 ≤ tL T a i ∧ tL T a i ≤ 26) : 0 ≤ e27 (tL T a) n ∧ e27 (tL T a) n ≤ 14348906 := by
  have hb := e27_b (g := tL T a) n (by omega) (fun i hi => by have := h i hi; omega)
  have h2 : ∀ k : Nat, k < 6 → p27 k ≤ 14348907 := by decide
  have := h2 n (by omega)
  omega
theorem pad_lt {g : Nat → Int} {L k : Nat} (hk : k ≤ 5) (h : ∀ i, i < L → 1 ≤ g i ∧ g i ≤ 26) : 0 ≤ e27 (tPad g L) k ∧ e27 (tPad g L) k ≤ 14348906 := by
  have hb := e27_b (g := tPad g L) k (by omega) (fun i _ => by
    unfold tPad
    by_cases q : i < L
    · rw [if_pos q]; have := h i q; omega
    · rw [if_neg q]; omega)
  have h2 : ∀ k : Nat, k < 6 → p27 k ≤ 14348907 := by decide
  have := h2 k (by omega)
  omega
theorem pad_one {g : Nat → Int} {L k : Nat} (h : L ≤ k) : e27 (tPad g L) (k + 1) = e27 (tPad g L) k * 27 := by
  show e27 (tPad g L) k * 27 + tPad g L k = _
  rw [show tPad g L k = 0 by unfold tPad; rw [if_neg (by omega)]]
  omega
theorem pad_0 {g : Nat → Int} {L : Nat} : e27 (tPad g L) L = e27 g L := e27_cg L (fun i hi => by unfold tPad; rw [if_pos hi])
theorem oWF_s {v x : Int} {n : Nat} (h : x = o27 n) : (x = v ∧ oWF v (n + 1) = n) ∨ (x ≠ v ∧ oWF v (n + 1) = oWF v n) := by
  have e : oWF v (n + 1) = if o27 n = v then (n : Int) else oWF v n := rfl
  by_cases q : x = v
  · left; rw [e, if_pos (h ▸ q)]; exact ⟨q, rfl⟩
  · right; rw [e, if_neg (h ▸ q)]; exact ⟨q, rfl⟩
theorem jn_0 (T : TT) : jn T 0 = 0 := by
  unfold jn
  rw [if_neg (fun h => by omega)]
/-- a range, or any -/
def rg8 (T : TT) (p : Int) : Int × Int := if tO T p = 8 then (0, tE T p) else rng T p
theorem rg8_s (T : TT) (p : Int) : (tO T p = 8 ∧ (rg8 T p).1 = 0 ∧ (rg8 T p).2 = tE T p) ∨ (tO T p ≠ 8 ∧ (rg8 T p).1 = (rng T p).1 ∧ (rg8 T p).2 = (rng T p).2) := by
  unfold rg8
  by_cases h : tO T p = 8
  · rw [if_pos h]; exact Or.inl ⟨h, rfl, rfl⟩
  · rw [if_neg h]; exact Or.inr ⟨h, rfl, rfl⟩
theorem rg8_ge {T : TT} {p : Int} (h : (rg8 T p).1 = 0) : p ≤ (rg8 T p).2 := by
  have hs := rg8_s T p
  have hr := rng_s T p
  have hn := num_s T 0 19 p
  have hn2 := num_s T (tV T p) 19 (tE T (tE T p))
  have h1 := tE_b (T := T) (p := p)
  have h2 := tE_b (T := T) (p := tE T p)
  have h3 := tE_b (T := T) (p := tE T (tE T p))
  have h4 := tO_r T p
  have h5 := tO_r T (tE T p)
  omega
/-- what an alternative's reading leaves -/
def AC (T : TT) (K : PH) (k p r : Int) (P P1 : PH) : Prop := (r = 1 ∧ P1 110 3 = P 110 3 ∧ P1 110 4 = P 110 4 ∧ ∃ q : Int, p ≤ q ∧ XS T q P1 ∧ ∀ (s : SK) (x : Int × Int), Runs T K 1 s k q x → Runs T K 0 s k p x) ∨ (r = 0 ∧ P1 110 3 ≠ 0 ∧ ∀ s : SK, Runs T K 0 s k p (P1 110 3, P1 110 4))
/-- what a pattern's reading leaves -/
def AP (T : TT) (K : PH) (k p r : Int) (P P1 : PH) : Prop := (r = 1 ∧ P1 110 3 = P 110 3 ∧ P1 110 4 = P 110 4 ∧ ∃ q : Int, p ≤ q ∧ tO T q ≠ 9 ∧ XS T q P1 ∧ ∀ (s : SK) (x : Int × Int), Runs T K 1 s k q x → Runs T K 0 s k p x) ∨ (r = 0 ∧ P1 110 3 ≠ 0 ∧ ∀ s : SK, Runs T K 0 s k p (P1 110 3, P1 110 4))
section ACS
variable {T : TT} {K : PH} {k p r c q f : Int} {P P1 : PH}
theorem AC.range (hk : k = -1) (h : (r = 1 ∧ (rg8 T p).1 = 0 ∧ P1 110 3 = P 110 3 ∧ P1 110 4 = P 110 4) ∨ (r = 0 ∧ (rg8 T p).1 ≠ 0 ∧ P1 110 3 = (rg8 T p).1 ∧ P1 110 4 = (rg8 T p).2)) (hs : (rg8 T p).1 = 0 → XS T (rg8 T p).2 P1) : AC T K k p r P P1 := by
  have hg := rg8_s T p
  rcases h with ⟨h1, h2, h3, h4⟩ | ⟨h1, h2, h3, h4⟩
  · refine Or.inl ⟨h1, h3, h4, (rg8 T p).2, rg8_ge h2, hs h2, fun s x hx => ?_⟩
    rcases hg with ⟨g1, g2, g3⟩ | ⟨g1, g2, g3⟩
    · rw [g3] at hx; exact Runs.any g1 hx
    · rw [g3] at hx; exact Runs.range g1 hk (by omega) hx
  · refine Or.inr ⟨h1, by omega, fun s => ?_⟩
    rcases hg with ⟨g1, g2, g3⟩ | ⟨g1, g2, g3⟩
    · omega
    · rw [pair_eq (h3.trans g2) (h4.trans g3)]
      exact Runs.rangeF g1 hk (by omega)
theorem AC.any (ho : tO T p = 8) (h3 : P1 110 3 = P 110 3) (h4 : P1 110 4 = P 110 4) (hs : XS T (tE T p) P1) : AC T K k p 1 P P1 := by
  have h1 := tE_b (T := T) (p := p)
  have h5 := tO_r T p
  exact Or.inl ⟨rfl, h3, h4, tE T p, by omega, hs, fun s x hx => Runs.any ho hx⟩
theorem AC.caseF (ho : tO T p ≠ 8) (hk : k ≠ -1) (h0 : (cas T K k p).1 ≠ 0) (h3 : P1 110 3 = (cas T K k p).1) (h4 : P1 110 4 = (cas T K k p).2) : AC T K k p 0 P P1 := by
  refine Or.inr ⟨rfl, by omega, fun s => ?_⟩
  rw [pair_eq h3 h4]
  exact Runs.caseF ho hk h0
theorem AC.case0 (ho : tO T p ≠ 8) (hk : k ≠ -1) (h0 : (cas T K k p).1 = 0) (h6 : K 6 (cNm K (tV T p)) = 0) (h3 : P1 110 3 = P 110 3) (h4 : P1 110 4 = P 110 4) (hs : XS T (tE T p) P1) : AC T K k p 1 P P1 := by
  have h1 := tE_b (T := T) (p := p)
  have hc := cas_s T K k p
  exact Or.inl ⟨rfl, h3, h4, tE T p, by omega, hs, fun s x hx => Runs.case0 ho hk h0 h6 hx⟩
theorem AC.intoF (ho : tO T p ≠ 8) (hk : k ≠ -1) (h0 : (cas T K k p).1 = 0) (h6 : K 6 (cNm K (tV T p)) ≠ 0) (hn : (sgn T 40 (tE T p)).1 ≠ 0) (h3 : P1 110 3 = (sgn T 40 (tE T p)).1) (h4 : P1 110 4 = (sgn T 40 (tE T p)).2) : AC T K k p 0 P P1 := by
  refine Or.inr ⟨rfl, by omega, fun s => ?_⟩
  rw [pair_eq h3 h4]
  exact Runs.intoF ho hk h0 h6 hn
/-- a field's fault -/
theorem AC.inF {k1 q1 : Int} (hr : ∀ (s : SK) (x : Int × Int), Runs T K 0 ((c, f, k) :: s) k1 q1 x → Runs T K 0 s k p x) (h0 : P1 110 3 ≠ 0) (h : ∀ s : SK, Runs T K 0 s k1 q1 (P1 110 3, P1 110 4)) : AC T K k p 0 P P1 := Or.inr ⟨rfl, h0, fun s => hr s _ (h _)⟩
theorem AC.commaF {k1 : Int} (hC : ∀ (s : SK) (x : Int × Int), Runs T K 1 ((c, f, k) :: s) k1 q x → Runs T K 0 s k p x) (ho : tO T q ≠ 9) (hf : f + 1 < K 6 c) (hn : (sgn T 44 q).1 ≠ 0) (h3 : P1 110 3 = (sgn T 44 q).1) (h4 : P1 110 4 = (sgn T 44 q).2) : AC T K k p 0 P P1 := by
  refine Or.inr ⟨rfl, by omega, fun s => ?_⟩
  rw [pair_eq h3 h4]
  exact hC s _ (Runs.commaF ho hf hn)
theorem AC.close {k1 : Int} (hC : ∀ (s : SK) (x : Int × Int), Runs T K 1 ((c, f, k) :: s) k1 q x → Runs T K 0 s k p x) (hp : p ≤ q) (ho : tO T q ≠ 9) (hf : ¬ f + 1 < K 6 c) (h : (r = 1 ∧ (sgn T 41 q).1 = 0 ∧ P1 110 3 = P 110 3 ∧ P1 110 4 = P 110 4) ∨ (r = 0 ∧ (sgn T 41 q).1 ≠ 0 ∧ P1 110 3 = (sgn T 41 q).1 ∧ P1 110 4 = (sgn T 41 q).2)) (hs : (sgn T 41 q).1 = 0 → XS T (sgn T 41 q).2 P1) : AC T K k p r P P1 := by
  have hg := sgn_s T 41 q
  have ht := tE_b (T := T) (p := q)
  rcases h with ⟨h1, h2, h3, h4⟩ | ⟨h1, h2, h3, h4⟩
  · refine Or.inl ⟨h1, h3, h4, (sgn T 41 q).2, by omega, hs h2, fun s x hx => ?_⟩
    rw [show (sgn T 41 q).2 = tE T q by omega] at hx
    exact hC s x (Runs.close ho hf h2 hx)
  · refine Or.inr ⟨h1, by omega, fun s => ?_⟩
    rw [pair_eq h3 h4]
    exact hC s _ (Runs.closeF ho hf h2)
end ACS
/-- columns' kinds are kinds -/
def AV (K M : PH) : Prop := 0 ≤ M 0 0 ∧ M 0 0 ≤ 4 ∧ 0 ≤ M 0 2 ∧ M 0 2 ≤ 12 ∧ ∀ c : Int, 0 ≤ c → c < M 0 0 → -1 ≤ M 1 c ∧ M 1 c < K 0 0
theorem AV.zero : AV K0 M0 := ⟨by decide, by decide, by decide, by decide, fun c h0 h1 => by exfalso; have h1 : c < 0 := h1; omega⟩
theorem col_v {T : TT} {K : PH} (h : AW K) : ∀ (r : Nat) (M : PH) (i p : Int), M 0 0 + r = 4 → AV K M → AV K (col T K r M i p).2.2 := by
  intro r
  induction r with
  | zero =>
    intro M i p hr hv
    exact hv
  | succ r ih =>
    intro M i p hr hv
    by_cases e : kGo T K (-1) (M 0 0) 4 0 i 20000 p = 0
    · rw [col_go e]
      refine ih _ _ _ (by rw [mCol_0.1]; omega) ?_
      have hb := kHe_b (T := T) h p
      obtain ⟨v1, v2, v3, v4, v5⟩ := hv
      refine ⟨by rw [mCol_0.1]; omega, by rw [mCol_0.1]; omega, by rw [mCol_0.2.2.1]; exact v3, by rw [mCol_0.2.2.1]; exact v4, fun c c0 c1 => ?_⟩
      rw [mCol_0.1] at c1
      rw [mCol_1]
      by_cases z : c = M 0 0
      · rw [if_pos z]; exact hb
      · rw [if_neg z]; exact v5 c c0 (by omega)
    · by_cases e1 : kGo T K (-1) (M 0 0) 4 0 i 20000 p = 1
      · rw [col_end e1]; exact hv
      · rw [col_bad e1 e]; exact hv
theorem AV.st {T : TT} {K M : PH} {p : Int} (hw : AW K) (h : AV K M) (hs : (sSt T K M p).1 = 0) : AV (kSt T K p) (mSt T K M p) := by
  have hk : kSt T K p 0 0 = if tO T p = 0 then K 0 0 + 1 else K 0 0 := by
    unfold kSt
    by_cases h0 : tO T p = 0
    · rw [if_pos h0, if_pos h0, kNew_0.1]
    · rw [if_neg h0, if_neg h0]
      by_cases h1 : tO T p = 1
      · rw [if_pos h1]; unfold kCo; rw [cNew_0.1]
      · rw [if_neg h1]
  obtain ⟨v1, v2, v3, v4, v5⟩ := h
  have hkw := hw.1
  unfold sSt at hs
  unfold mSt
  by_cases h2 : tO T p = 2
  · rw [if_pos h2]
    rw [if_neg (by omega), if_neg (by omega), if_pos h2] at hs
    have hm := sMa_s T K M p
    have hs : (sMa T K M p).1 = 0 := hs
    have e := sMa_M (T := T) (K := K) (M := M) (p := p) (by omega) (by omega)
    have hc := col_v (T := T) hw 4 M 1 (tE T p) (by omega) ⟨v1, v2, v3, v4, v5⟩
    rw [← e] at hc
    obtain ⟨w1, w2, w3, w4, w5⟩ := hc
    refine ⟨w1, w2, w3, w4, fun c c0 c1 => ?_⟩
    rw [hk, if_neg (by omega)]
    exact w5 c c0 c1
  · rw [if_neg h2]
    have key : ∀ c : Int, 0 ≤ c → c < M 0 0 → -1 ≤ M 1 c ∧ M 1 c < kSt T K p 0 0 := by
      intro c c0 c1
      have := v5 c c0 c1
      rw [hk]
      split <;> omega
    by_cases h3 : tO T p = 3
    · rw [if_pos h3]
      rw [if_neg (by omega), if_neg (by omega), if_neg (by omega), if_pos h3] at hs
      have ha := sAr_s T K M p
      unfold mAr
      refine ⟨by rw [aNew_0.1]; exact v1, by rw [aNew_0.1]; exact v2, by rw [aNew_0.2.1]; omega, by rw [aNew_0.2.1]; omega, fun c c0 c1 => ?_⟩
      rw [aNew_0.1] at c1
      rw [aNew_1]
      exact key c c0 c1
    · rw [if_neg h3]
      by_cases h5 : tO T p = 5
      · rw [if_pos h5]
        refine ⟨by rw [up_k (by decide)]; exact v1, by rw [up_k (by decide)]; exact v2, by rw [up_k (by decide)]; exact v3, by rw [up_k (by decide)]; exact v4, fun c c0 c1 => ?_⟩
        rw [up_k (by decide)] at c1
        rw [up_row (by decide)]
        exact key c c0 c1
      · rw [if_neg h5]
        by_cases h6 : tO T p = 6
        · rw [if_pos h6]
          refine ⟨by rw [up_k (by decide)]; exact v1, by rw [up_k (by decide)]; exact v2, by rw [up_k (by decide)]; exact v3, by rw [up_k (by decide)]; exact v4, fun c c0 c1 => ?_⟩
          rw [up_k (by decide)] at c1
          rw [up_row (by decide)]
          exact key c c0 c1
        · rw [if_neg h6]
          exact ⟨v1, v2, v3, v4, key⟩
theorem AC.tr {T : TT} {K : PH} {k p r : Int} {P P0 P1 : PH} (h : AC T K k p r P0 P1) (h3 : P0 110 3 = P 110 3) (h4 : P0 110 4 = P 110 4) : AC T K k p r P P1 := by
  rcases h with ⟨a, b, c, d⟩ | h
  · exact Or.inl ⟨a, b.trans h3, c.trans h4, d⟩
  · exact Or.inr h
theorem AP.tr {T : TT} {K : PH} {k p r : Int} {P P0 P1 : PH} (h : AP T K k p r P0 P1) (h3 : P0 110 3 = P 110 3) (h4 : P0 110 4 = P 110 4) : AP T K k p r P P1 := by
  rcases h with ⟨a, b, c, d⟩ | h
  · exact Or.inl ⟨a, b.trans h3, c.trans h4, d⟩
  · exact Or.inr h
theorem arl_x {T : TT} {K M : PH} {r : Nat} {c q q1 : Int} (hq : (c ≤ 0 ∧ q1 = q) ∨ (0 < c ∧ (sgn T 44 q).1 = 0 ∧ q1 = tE T q)) : arl T K M (r + 1) c q = if (pat T K (M 1 c) q1).1 ≠ 0 then pat T K (M 1 c) q1 else arl T K M r (c + 1) (pat T K (M 1 c) q1).2 := by
  rcases hq with ⟨h, rfl⟩ | ⟨h, h2, rfl⟩
  · exact arl_p0 h
  · exact arl_p1 h h2
theorem ARf {T : TT} {K M : PH} {r : Nat} {c q q1 f pl : Int} {X : Int × Int} (hX : X = arl T K M (r + 1) c q) (hq : (c ≤ 0 ∧ q1 = q) ∨ (0 < c ∧ (sgn T 44 q).1 = 0 ∧ q1 = tE T q)) (hp : pat T K (M 1 c) q1 = (f, pl)) (hf : f ≠ 0) : X.1 = f ∧ X.2 = pl := by
  rw [hX, arl_x hq, hp, if_pos hf]
  exact ⟨rfl, rfl⟩
theorem ARok {T : TT} {K M : PH} {r : Nat} {c q q1 q2 : Int} {X : Int × Int} (hX : X = arl T K M (r + 1) c q) (hq : (c ≤ 0 ∧ q1 = q) ∨ (0 < c ∧ (sgn T 44 q).1 = 0 ∧ q1 = tE T q)) (hp : pat T K (M 1 c) q1 = (0, q2)) : X = arl T K M r (c + 1) q2 := by
  rw [hX, arl_x hq, hp, if_neg (fun h => h rfl)]
end
section
/-! The tape on both sides: bytes behind one another. -/
def tadd (T : TT) (c : Int) : TT := (fun i => if i = T.2 then c else T.1 i, T.2 + 1)
def tput (T : TT) (a : Int) : Nat → TT
  | 0 => T
  | k + 1 => tadd (tput T a k) (iand (ishr a (24 - 8 * (k : Int))) 255)
def tfive (T : TT) (a b c d e : Int) : TT := tput (tput (tput (tput (tput T a 4) b 4) c 4) d 4) e 4
theorem tadd_2 (T : TT) (c : Int) : (tadd T c).2 = T.2 + 1 := rfl
/-- the reference's tape -/
def CM (T : TT) (P : PH) : Prop := P 0 1 = T.2 ∧ ∀ i : Int, 0 ≤ i → i < T.2 → P 1 i = T.1 i
theorem CM.fr {T : TT} {P P1 : PH} {F : FS} (h : CM T P) (hf : FrM F P P1) (hd : disF F ([1], [1]) = true) : CM T P1 := by
  unfold CM at h ⊢
  rw [disF_k hd hf (k := 1) (by decide), disF_o hd hf (o := 1) (by decide) rfl]
  exact h
theorem CM.add {T : TT} {P P1 : PH} {c : Int} (h : CM T P) (h1 : P1 0 1 = P 0 1 + 1) (s1 : P1 1 (P 0 1) = c) (q1 : ∀ j : Int, j ≠ P 0 1 → P1 1 j = P 1 j) : CM (tadd T c) P1 := by
  refine ⟨by rw [tadd_2, h1, h.1], fun i i0 i1 => ?_⟩
  rw [tadd_2] at i1
  show _ = if i = T.2 then c else T.1 i
  by_cases e : i = T.2
  · rw [if_pos e, e, ← h.1, s1]
  · rw [if_neg e, q1 i (by rw [h.1]; exact e)]
    exact h.2 i i0 (by omega)
theorem CM.cut {T : TT} {P P1 : PH} {n : Int} (h : CM T P) (hn : n ≤ T.2) (h1 : P1 0 1 = n) (q1 : ∀ j : Int, P1 1 j = P 1 j) : CM (T.1, n) P1 := ⟨h1, fun i i0 i1 => by rw [q1]; exact h.2 i i0 (by have i1 : i < n := i1; omega)⟩
theorem CM.nil {P : PH} (h : P 0 1 = 0) : CM (fun _ => 0, 0) P := ⟨h, fun i i0 i1 => by exfalso; have i1 : i < 0 := i1; omega⟩
/-- the class's tape -/
def CX (T : TT) (P : PH) : Prop := P 1 1 = T.2 ∧ ∀ i : Int, 0 ≤ i → i < T.2 → P 2 i = T.1 i
theorem CX.fr {T : TT} {P P1 : PH} {F : FSX} (h : CX T P) (hf : FrX F P P1) (hd : disX F ([(1, 1)], [2]) = true) : CX T P1 := by
  refine ⟨by rw [disX_f hd hf (o := 1) (k := 1) (j := 1) ⟨by decide, rfl⟩ (by decide)]; exact h.1, fun i i0 i1 => ?_⟩
  rw [disX_a hd hf (o := 2) (k := 2) ⟨by decide, rfl⟩ (by decide)]
  exact h.2 i i0 i1
theorem CX.add {T : TT} {P P1 : PH} {c : Int} (h : CX T P) (h1 : P1 1 1 = P 1 1 + 1) (s1 : P1 2 (P 1 1) = c) (q1 : ∀ j : Int, j ≠ P 1 1 → P1 2 j = P 2 j) : CX (tadd T c) P1 := by
  refine ⟨by rw [tadd_2, h1, h.1], fun i i0 i1 => ?_⟩
  rw [tadd_2] at i1
  show _ = if i = T.2 then c else T.1 i
  by_cases e : i = T.2
  · rw [if_pos e, e, ← h.1, s1]
  · rw [if_neg e, q1 i (by rw [h.1]; exact e)]
    exact h.2 i i0 (by omega)
theorem CX.cut {T : TT} {P P1 : PH} {n : Int} (h : CX T P) (hn : n ≤ T.2) (h1 : P1 1 1 = n) (q1 : ∀ j : Int, P1 2 j = P 2 j) : CX (T.1, n) P1 := ⟨h1, fun i i0 i1 => by rw [q1]; exact h.2 i i0 (by have i1 : i < n := i1; omega)⟩
theorem CX.nil {P : PH} (h : P 1 1 = 0) : CX (fun _ => 0, 0) P := ⟨h, fun i i0 i1 => by exfalso; have i1 : i < 0 := i1; omega⟩
theorem ishr_0 {x : Int} (h : IR x) : ishr x 0 = x := by
  have := ishr_c 0 (by decide) h
  rw [show ((0 : Nat) : Int) = 0 from rfl, show ((2 ^ 0 : Nat) : Int) = 1 from rfl, Int.ediv_one] at this
  exact this
/-- four bytes, one behind the other -/
theorem tput_4 {T : TT} {a : Int} (h : IR a) : tput T a 4 = tadd (tadd (tadd (tadd T (iand (ishr a 24) 255)) (iand (ishr a 16) 255)) (iand (ishr a 8) 255)) (iand a 255) := by
  have e : tput T a 4 = tadd (tadd (tadd (tadd T (iand (ishr a 24) 255)) (iand (ishr a 16) 255)) (iand (ishr a 8) 255)) (iand (ishr a 0) 255) := rfl
  rw [e, ishr_0 h]
def ff (T : TT) (a b c d e : Int) : TT := if 1580 < T.2 then T else tfive T a b c d e
def fe (T : TT) (n : Int) : TT := if 0 ≤ n ∧ n ≤ T.2 then (T.1, n) else T
end
section
/-! The reference's token ahead: what its loop holds, as words of one piece. -/
def RX (m : Int) (T : TT) (a : Int) : Int := if m = 6 then rE bL T a else rE bN T a
def CC (m c : Int) : Prop := (m = 6 → 97 ≤ c ∧ c ≤ 122) ∧ (m = 4 → 48 ≤ c ∧ c ≤ 57)
theorem RX_ge (m : Int) (T : TT) (a : Int) : a ≤ RX m T a := by
  unfold RX
  split
  · exact rE_ge bL T a
  · exact rE_ge bN T a
theorem RX_go {m : Int} {T : TT} {l : Int} (hm : m = 6 ∨ m = 4) (hl : l < T.2) (hc : CC m (T.1 l)) : RX m T l = RX m T (l + 1) := by
  unfold RX
  rcases hm with e | e
  · rw [if_pos e, if_pos e]; exact rE_go hl (bL_t.mpr (hc.1 e))
  · rw [if_neg (by omega), if_neg (by omega)]; exact rE_go hl (bN_t.mpr (hc.2 e))
theorem RX_st {m : Int} {T : TT} {l : Int} (h : T.2 ≤ l ∨ (m = 6 ∧ (T.1 l < 97 ∨ 122 < T.1 l)) ∨ (m = 4 ∧ (T.1 l < 48 ∨ 57 < T.1 l))) : RX m T l = l := by
  unfold RX
  split
  · refine rE_st (fun z => ?_)
    have := bL_t.mp z.2
    omega
  · refine rE_st (fun z => ?_)
    have := bN_t.mp z.2
    omega
/-- the run so far: it ends where the whole ends -/
def RN (m : Int) (T : TT) (a l : Int) : Prop := RX m T a = RX m T l ∧ l ≤ RX m T a
theorem RN.start {m : Int} {T : TT} {a l : Int} (h : l = a) : RN m T a l := by
  subst h
  exact ⟨rfl, RX_ge _ _ _⟩
theorem RN.go {m : Int} {T : TT} {a l : Int} (h : RN m T a l) (hm : m = 6 ∨ m = 4) (hl : l < T.2) (hc : CC m (T.1 l)) : RN m T a (l + 1) := by
  have e := RX_go hm hl hc
  have g := RX_ge m T (l + 1)
  have h1 := h.1
  exact ⟨by omega, by omega⟩
theorem RN.stop {m : Int} {T : TT} {a l : Int} (h : RN m T a l) (hs : T.2 ≤ l ∨ (m = 6 ∧ (T.1 l < 97 ∨ 122 < T.1 l)) ∨ (m = 4 ∧ (T.1 l < 48 ∨ 57 < T.1 l))) : RX m T a = l := h.1.trans (RX_st hs)
theorem RN.l {T : TT} {a l : Int} (h : RN 6 T a l) (hb : a ≤ l) : ∀ i : Nat, a + i < l → 1 ≤ tL T a i ∧ tL T a i ≤ 26 := run_l (T := T) (a := a) (b := l) h.1 hb h.2
theorem RN.d {T : TT} {a l : Int} (h : RN 4 T a l) (hb : a ≤ l) : ∀ i : Nat, a + i < l → 48 ≤ T.1 (a + i) ∧ T.1 (a + i) ≤ 57 := run_d (T := T) (a := a) (b := l) hb h.2
/-- word and value of the run so far -/
def WV (m w v : Int) (T : TT) (a n : Int) : Prop := (m = 6 → n ≤ 6 → w = e56 (tL T a) n.toNat) ∧ (m = 4 → n ≤ 4 → v = e10 (tD T a) n.toNat)
theorem WV.start {m : Int} {T : TT} {a : Int} : WV m 0 0 T a 0 := ⟨fun _ _ => rfl, fun _ _ => rfl⟩
theorem WV.w {w v : Int} {T : TT} {a n l c x : Int} (h : WV 6 w v T a n) (hr : RN 6 T a l) (hn : 0 ≤ n ∧ n ≤ 5) (hl : l = a + n) (hc : c = T.1 l) (hcc : 97 ≤ T.1 l ∧ T.1 l ≤ 122) (hx : x = llor (llshl w 8) c) : WV 6 x v T a (n + 1) := by
  refine ⟨fun _ _ => ?_, fun e => absurd e (by decide)⟩
  rw [hx, show (n + 1).toNat = n.toNat + 1 by omega]
  exact e56_one (h.1 rfl (by omega)) (by omega) (fun i hi => hr.l (by omega) i (by omega)) (by rw [show a + ((n.toNat : Nat) : Int) = l by omega]; exact hc) (by omega)
theorem WV.vb {w v : Int} {T : TT} {a n l : Int} (h : WV 4 w v T a n) (hr : RN 4 T a l) (hn : 0 ≤ n ∧ n ≤ 3) (hl : l = a + n) : 0 ≤ v ∧ v ≤ 999 := by
  have q := e10_b (T := T) (a := a) n.toNat (by omega) (fun i hi => hr.d (by omega) i (by omega))
  have e := h.2 rfl (by omega)
  omega
theorem WV.v {w v : Int} {T : TT} {a n l c x : Int} (h : WV 4 w v T a n) (hn : 0 ≤ n ∧ n ≤ 3) (hl : l = a + n) (hc : c = T.1 l) (hx : x = v * 10 + (c - 48)) : WV 4 w x T a (n + 1) := by
  refine ⟨fun e => absurd e (by decide), fun _ _ => ?_⟩
  have e := h.2 rfl (by omega)
  rw [hx, show (n + 1).toNat = n.toNat + 1 by omega]
  show _ = e10 (tD T a) n.toNat * 10 + (T.1 (a + ((n.toNat : Nat) : Int)) - 48)
  rw [show a + ((n.toNat : Nat) : Int) = l by omega, ← hc, ← e]
theorem WV.big {m w1 v1 : Int} {T : TT} {a n : Int} (hm : m = 6 ∨ m = 4) (hn : m ≤ n) : WV m w1 v1 T a (n + 1) := ⟨fun e h => by omega, fun e h => by omega⟩
/-- word done, value not yet -/
def W2 (m w v : Int) (T : TT) (a n : Int) : Prop := (m = 6 → WV 6 w v T a (n + 1)) ∧ (m = 4 → WV 4 w v T a n)
theorem W2.six {w v : Int} {T : TT} {a n : Int} (h : WV 6 w v T a (n + 1)) : W2 6 w v T a n := ⟨fun _ => h, fun e => absurd e (by decide)⟩
theorem W2.four {w v : Int} {T : TT} {a n : Int} (h : WV 4 w v T a n) : W2 4 w v T a n := ⟨fun e => absurd e (by decide), fun _ => h⟩
/-- where a fault of the token itself is, n bytes of it read -/
def lx (T : TT) (p n m : Int) : Int := if tJn T p = 1 then tA T p else if n ≤ m then -1 else tA T p + m
theorem lx_hit {T : TT} {p n m : Int} (h : lx T p n m = -1) (hn : n = m) (h0 : 0 ≤ tA T p) : lx T p (n + 1) m = tA T p + m := by
  unfold lx at h ⊢
  by_cases j : tJn T p = 1
  · rw [if_pos j] at h; omega
  · rw [if_neg j, if_neg (by omega)]
theorem lx_no {T : TT} {p n m : Int} (h : n ≠ m ∨ lx T p n m ≠ -1) : lx T p (n + 1) m = lx T p n m := by
  unfold lx at h ⊢
  by_cases j : tJn T p = 1
  · rw [if_pos j, if_pos j]
  · rw [if_neg j] at h
    rw [if_neg j, if_neg j]
    by_cases e : n + 1 ≤ m
    · rw [if_pos e, if_pos (by omega)]
    · rw [if_neg e]
      by_cases e2 : n ≤ m
      · rw [if_pos e2] at h
        omega
      · rw [if_neg e2]
/-- the same ahead of the loop -/
def L0 (T : TT) (p l2 l3 x : Int) : Prop := (l2 = 0 ∧ l3 = 0 → x = -1) ∧ (l2 ≠ 0 ∨ l3 ≠ 0 → ∀ m : Int, 0 ≤ m → x = lx T p 0 m)
theorem L0.sign {T : TT} {p l2 l3 x : Int} (h : l2 = 0 ∧ l3 = 0) (hx : x = -1) : L0 T p l2 l3 x := ⟨fun _ => hx, fun z => by omega⟩
theorem L0.j {T : TT} {p l2 l3 x : Int} (h : l2 ≠ 0 ∨ l3 ≠ 0) (hj : tJ T p = true) (hx : x = tA T p) : L0 T p l2 l3 x := ⟨fun z => by omega, fun _ m _ => by unfold lx; rw [if_pos (tJn_1 hj)]; exact hx⟩
theorem L0.n {T : TT} {p l2 l3 x : Int} (h : l2 ≠ 0 ∨ l3 ≠ 0) (hj : tJ T p = false) (hx : x = -1) : L0 T p l2 l3 x := ⟨fun z => by omega, fun _ m hm => by unfold lx; rw [if_neg (by rw [tJn_0 hj]; decide), if_pos hm]; exact hx⟩
theorem lx_s (T : TT) (p n m : Int) : (tJn T p = 1 ∧ lx T p n m = tA T p) ∨ (tJn T p = 0 ∧ ((n ≤ m ∧ lx T p n m = -1) ∨ (m < n ∧ lx T p n m = tA T p + m))) := by
  unfold lx
  rcases (show tJn T p = 1 ∨ tJn T p = 0 by unfold tJn; split; exact Or.inl rfl; exact Or.inr rfl) with j | j
  · rw [if_pos j]; exact Or.inl ⟨j, rfl⟩
  · rw [if_neg (by omega)]
    by_cases e : n ≤ m
    · rw [if_pos e]; exact Or.inr ⟨j, Or.inl ⟨e, rfl⟩⟩
    · rw [if_neg e]; exact Or.inr ⟨j, Or.inr ⟨by omega, rfl⟩⟩
theorem MS.wor2 {T : TT} {p n l : Int} {P : PH} (hp : 0 ≤ p ∧ p ≤ T.2) (h4 : P 0 4 = tA T p) (hn : tA T p < T.2) (hl : 97 ≤ T.1 (tA T p) ∧ T.1 (tA T p) ≤ 122) (h3 : P 0 3 = 1) (h5 : P 0 5 = l) (hr : RX 6 T (tA T p) = l) (hln : l = tA T p + n) (hx : P 0 12 = lx T p n 6) (hw : WV 6 (P 0 7) (P 0 6) T (tA T p) n) : MS T p P := by
  have e : rE bL T (tA T p) = l := by rw [← hr]; unfold RX; rw [if_pos rfl]
  have hs := lx_s T p n 6
  refine MS.wor hp h4 hn hl h3 (by omega) (by omega) (fun h => ?_)
  rw [hw.1 rfl (by omega), show (rE bL T (tA T p) - tA T p).toNat = n.toNat by omega]
theorem MS.nu2 {T : TT} {p n l : Int} {P : PH} (hp : 0 ≤ p ∧ p ≤ T.2) (h4 : P 0 4 = tA T p) (hn : tA T p < T.2) (hl : 48 ≤ T.1 (tA T p) ∧ T.1 (tA T p) ≤ 57) (h3 : P 0 3 = 2) (h5 : P 0 5 = l) (hr : RX 4 T (tA T p) = l) (hln : l = tA T p + n) (hx : P 0 12 = lx T p n 4) (hw : WV 4 (P 0 7) (P 0 6) T (tA T p) n) : MS T p P := by
  have e : rE bN T (tA T p) = l := by rw [← hr]; unfold RX; rw [if_neg (by decide)]
  have hs := lx_s T p n 4
  refine MS.nu hp h4 hn hl h3 (by omega) (by omega) (fun h => ?_)
  rw [hw.2 rfl (by omega), show (rE bN T (tA T p) - tA T p).toNat = n.toNat by omega]
theorem RX_pos {m : Int} {T : TT} {a : Int} (hm : m = 6 ∨ m = 4) (hl : a < T.2) (hc : CC m (T.1 a)) : a + 1 ≤ RX m T a := by
  rw [RX_go hm hl hc]
  exact RX_ge m T (a + 1)
end
section
/-! Where there is no fault its place is none. -/
def FP (P : PH) : Prop := P 0 8 ≤ 0 → P 0 9 = -1
theorem FP.fr {P P1 : PH} {F : FS} (h : FP P) (hf : FrM F P P1) (hd : disF F ([8, 9], []) = true) : FP P1 := by
  unfold FP at h ⊢
  rw [disF_k hd hf (k := 8) (by decide), disF_k hd hf (k := 9) (by decide)]
  exact h
/-! A field, a column: what is told of it, one lemma a way. -/
section KG
variable {T : TT} {K : PH} {but n many of' its most p : Int}
theorem kGo_1 (h : tK T p ≠ 1 ∨ (tO T p ≠ -1 ∧ tO T p ≠ 7)) : kGo T K but n many of' its most p = 1 := by
  unfold kGo
  rw [if_neg (by omega)]
theorem kGo_6 (hw : tK T p = 1 ∧ (tO T p = -1 ∨ tO T p = 7)) (h : many ≤ n) : kGo T K but n many of' its most p = 6 := by
  unfold kGo
  rw [if_pos hw, if_pos h]
theorem kGo_3 (hw : tK T p = 1 ∧ (tO T p = -1 ∨ tO T p = 7)) (hn : n < many) (h : tO T p = -1 ∧ (kHe T K p = -1 ∨ kHe T K p = but ∨ K 3 (kHe T K p) ≤ 0)) : kGo T K but n many of' its most p = 3 := by
  unfold kGo
  rw [if_pos hw, if_neg (by omega), if_pos ⟨by omega, h.2⟩]
theorem kGo_4 (hw : tK T p = 1 ∧ (tO T p = -1 ∨ tO T p = 7)) (hn : n < many) (hk : tO T p = 7 ∨ (kHe T K p ≠ -1 ∧ kHe T K p ≠ but ∧ 1 ≤ K 3 (kHe T K p))) (h : most < of' + its * sz K (kHe T K p)) : kGo T K but n many of' its most p = 4 := by
  unfold kGo
  rw [if_pos hw, if_neg (by omega), if_neg (fun z => by omega), if_pos h]
theorem kGo_0 (hw : tK T p = 1 ∧ (tO T p = -1 ∨ tO T p = 7)) (hn : n < many) (hk : tO T p = 7 ∨ (kHe T K p ≠ -1 ∧ kHe T K p ≠ but ∧ 1 ≤ K 3 (kHe T K p))) (h : of' + its * sz K (kHe T K p) ≤ most) : kGo T K but n many of' its most p = 0 := by
  unfold kGo
  rw [if_pos hw, if_neg (by omega), if_neg (fun z => by omega), if_neg (by omega)]
theorem szk_b (h : AW K) (hk : tO T p = 7 ∨ (kHe T K p ≠ -1 ∧ kHe T K p ≠ but ∧ 1 ≤ K 3 (kHe T K p))) : 1 ≤ sz K (kHe T K p) ∧ sz K (kHe T K p) ≤ 2006 := by
  have hb := kHe_b (T := T) h p
  rcases sz_s K (kHe T K p) with q | q
  · omega
  · have q2 := h.2.1 (kHe T K p) (by omega) hb.2
    have q3 := kHe_s T K p
    omega
end KG
end
section
/-! Which table an object is part of; what a method leaves of the other table. -/
def tbX (x : Nat) : Nat := if 70 ≤ x ∧ x ≤ 89 then 70 else if 90 ≤ x ∧ x ≤ 109 then 90 else 0
def KT (t : Nat) (P P1 : PH) : Prop := ∀ x : Nat, x < 154 → tbX x ≠ 0 → tbX x ≠ t → ∀ j : Int, P1 x j = P x j
theorem KT.rf {t : Nat} {P : PH} : KT t P P := fun _ _ _ _ _ => rfl
theorem KT.w {t : Nat} {P P1 : PH} {x : Nat} {j z : Int} (h : KT t P P1) (hx : tbX x = t ∨ tbX x = 0) : KT t P (up P1 x j z) := fun y h1 h2 h3 k => by
  have hne : y ≠ x := fun e => by
    subst e
    rcases hx with q | q
    · exact h3 q
    · exact h2 q
  rw [up_o hne]
  exact h y h1 h2 h3 k
theorem KT.t {t : Nat} {P P1 P2 : PH} (h : KT t P P1) (h2 : KT t P1 P2) : KT t P P2 := fun x a b c j => (h2 x a b c j).trans (h x a b c j)
theorem KT.e {t t1 : Nat} {P P1 : PH} (h : KT t P P1) (e : t = t1) : KT t1 P P1 := by
  subst e
  exact h
def nT (F : FSX) : Bool := F.1.all (fun q => decide (q.1 < 28) || decide (44 < q.1)) && F.2.all (fun k => decide (k < 28) || decide (44 < k))
theorem tb_kd : ∀ x : Nat, x < 154 → tbX x ≠ 0 → 28 ≤ kdX x ∧ kdX x ≤ 44 := by decide +kernel
theorem nT_in {F : FSX} (h : nT F = true) {k : Nat} (hk : 28 ≤ k ∧ k ≤ 44) (j : Int) : inF F k j = false := by
  unfold nT at h
  rw [Bool.and_eq_true] at h
  unfold inF
  rw [Bool.or_eq_false_iff]
  refine ⟨?_, ?_⟩
  · cases e : F.2.contains k with
    | false => rfl
    | true =>
      exfalso
      have q := List.all_eq_true.mp h.2 k (List.contains_iff_mem.mp e)
      rw [Bool.or_eq_true, decide_eq_true_iff, decide_eq_true_iff] at q
      omega
  · cases e : F.1.any fun q => q.1 == k && q.2 == j with
    | false => rfl
    | true =>
      exfalso
      obtain ⟨q, hq, he⟩ := List.any_eq_true.mp e
      have w := List.all_eq_true.mp h.1 q hq
      rw [Bool.or_eq_true, decide_eq_true_iff, decide_eq_true_iff] at w
      rw [Bool.and_eq_true, beq_iff_eq] at he
      omega
theorem KT.fr {t : Nat} {P P1 P2 : PH} {F : FSX} (h : KT t P P1) (hf : FrX F P1 P2) (hd : nT F = true) : KT t P P2 := fun x a b c j => (hf x j a (nT_in hd (tb_kd x a b) j)).trans (h x a b c j)
theorem tb_cr : ∀ x : Nat, x < 154 → ∀ j : Nat, j < 16 → tbX (crX x j) = tbX x ∨ tbX (crX x j) = 0 := by decide +kernel
theorem TB.c {t x j : Nat} (h : tbX x = t ∨ tbX x = 0) (hx : x < 154) (hj : j < 16) : tbX (crX x j) = t ∨ tbX (crX x j) = 0 := by
  rcases tb_cr x hx j hj with q | q
  · rw [q]; exact h
  · exact Or.inr q
theorem tb28_0 {o : Nat} (h : kx o 28) : tbX (crX o 0) = tbX o := (show ∀ o : Nat, o < 154 → kdX o = 28 → tbX (crX o 0) = tbX o by decide +kernel) o h.1 h.2
theorem tb28 {o : Nat} (h : kx o 28) : tbX o = o ∧ o ≠ 0 := (show ∀ o : Nat, o < 154 → kdX o = 28 → tbX o = o ∧ o ≠ 0 by decide +kernel) o h.1 h.2
/-! What a method leaves of the reference's other bank. -/
def sbM : Nat → Int
  | 2 => 1
  | 3 => 4
  | 4 => 4
  | 5 => 1
  | 6 => 24
  | 7 => 24
  | 8 => 48
  | 9 => 24
  | 10 => 24
  | 11 => 1
  | 12 => 4
  | 13 => 1
  | 14 => 12
  | 15 => 1
  | 16 => 1
  | 17 => 48
  | 18 => 48
  | 19 => 2800
  | 20 => 2800
  | 21 => 2800
  | 22 => 4
  | 23 => 24
  | _ => 0
def KB (b : Int) (P P1 : PH) : Prop := ∀ (o : Nat) (j : Int), sbM o * (1 - b) ≤ j → j < sbM o * (2 - b) → P1 o j = P o j
theorem KB.rf {b : Int} {P : PH} : KB b P P := fun _ _ _ _ => rfl
theorem KB.w {b : Int} {P P1 : PH} {o : Nat} {x z s : Int} (h : KB b P P1) (hs : sbM o = s) (hx : x < s * (1 - b) ∨ s * (2 - b) ≤ x) : KB b P (up P1 o x z) := fun o1 j h1 h2 => by
  by_cases e : o1 = o
  · subst e
    rw [hs] at h1 h2
    rw [up_k (by omega)]
    exact h o1 j (by rw [hs]; exact h1) (by rw [hs]; exact h2)
  · rw [up_o e]
    exact h o1 j h1 h2
theorem KB.t {b b1 : Int} {P P1 P2 : PH} (h : KB b P P1) (h2 : KB b1 P1 P2) (e : b1 = b) : KB b P P2 := by
  subst e
  exact fun o j a c => (h2 o j a c).trans (h o j a c)
def nB (F : FS) : Bool := F.2.all (fun o => decide (sbM o = 0))
theorem KB.fr {b : Int} {P P1 P2 : PH} {F : FS} (h : KB b P P1) (hf : FrM F P1 P2) (hd : nB F = true) : KB b P P2 := fun o j a c => by
  have h0 : sbM o ≠ 0 := fun e => by
    rw [e, Int.zero_mul] at a c
    omega
  have ho : (o == 0) = false := by
    cases e : o == 0 with
    | false => rfl
    | true =>
      rw [beq_iff_eq] at e
      rw [e] at h0
      exact absurd rfl h0
  have hc : F.2.contains o = false := by
    cases e : F.2.contains o with
    | false => rfl
    | true =>
      have q := List.all_eq_true.mp hd o (List.contains_iff_mem.mp e)
      rw [decide_eq_true_iff] at q
      exact absurd q h0
  exact (congrFun (hf.2 o ho hc) j).trans (h o j a c)
end
section
/-! The tables as they stand between calls, on both sides. -/
def MKb (b : Int) (K P : PH) : Prop := P 2 b = K 0 0 ∧ P 5 b = K 0 1 ∧
  (∀ k : Int, 0 ≤ k → k < K 0 0 → NW (K 1 k) (P 22 (4 * b + k)) ∧ P 3 (4 * b + k) = K 2 k ∧ P 4 (4 * b + k) = K 3 k) ∧
  ∀ c : Int, 0 ≤ c → c < K 0 1 → NW (K 4 c) (P 23 (24 * b + c)) ∧ P 6 (24 * b + c) = K 5 c ∧ P 7 (24 * b + c) = K 6 c ∧ (1 ≤ K 6 c → K4 (P 8 (2 * (24 * b + c))) (K 7 c)) ∧ (2 ≤ K 6 c → K4 (P 8 (2 * (24 * b + c) + 1)) (K 8 c)) ∧ P 9 (24 * b + c) = K 10 c
def MMb (b : Int) (M P : PH) : Prop := P 11 b = M 0 0 ∧ P 13 b = M 0 2 ∧ P 15 b = M 0 3 ∧ P 16 b = M 0 4 ∧
  (∀ c : Int, 0 ≤ c → c < M 0 0 → K4 (P 12 (4 * b + c)) (M 1 c)) ∧ ∀ a : Int, 0 ≤ a → a < M 0 2 → P 14 (12 * b + a) = M 2 a
theorem MKb.kb {b b1 : Int} {K P P1 : PH} (h : MKb b K P) (ha : AW K) (hk : KB b1 P P1) (hb : b = 1 - b1) : MKb b K P1 := by
  have a0 := ha.1
  obtain ⟨h1, h2, h3, h4⟩ := h
  refine ⟨?_, ?_, fun k k0 k1 => ?_, fun c c0 c1 => ?_⟩
  · rw [hk 2 b (by show 1 * (1 - b1) ≤ b; omega) (by show b < 1 * (2 - b1); omega)]; exact h1
  · rw [hk 5 b (by show 1 * (1 - b1) ≤ b; omega) (by show b < 1 * (2 - b1); omega)]; exact h2
  · rw [hk 22 (4 * b + k) (by show 4 * (1 - b1) ≤ _; omega) (by show _ < 4 * (2 - b1); omega), hk 3 (4 * b + k) (by show 4 * (1 - b1) ≤ _; omega) (by show _ < 4 * (2 - b1); omega), hk 4 (4 * b + k) (by show 4 * (1 - b1) ≤ _; omega) (by show _ < 4 * (2 - b1); omega)]
    exact h3 k k0 k1
  · rw [hk 23 (24 * b + c) (by show 24 * (1 - b1) ≤ _; omega) (by show _ < 24 * (2 - b1); omega), hk 6 (24 * b + c) (by show 24 * (1 - b1) ≤ _; omega) (by show _ < 24 * (2 - b1); omega), hk 7 (24 * b + c) (by show 24 * (1 - b1) ≤ _; omega) (by show _ < 24 * (2 - b1); omega),
      hk 8 (2 * (24 * b + c)) (by show 48 * (1 - b1) ≤ _; omega) (by show _ < 48 * (2 - b1); omega), hk 8 (2 * (24 * b + c) + 1) (by show 48 * (1 - b1) ≤ _; omega) (by show _ < 48 * (2 - b1); omega), hk 9 (24 * b + c) (by show 24 * (1 - b1) ≤ _; omega) (by show _ < 24 * (2 - b1); omega)]
    exact h4 c c0 c1
theorem MMb.kb {b b1 : Int} {K M P P1 : PH} (h : MMb b M P) (ha : AV K M) (hk : KB b1 P P1) (hb : b = 1 - b1) : MMb b M P1 := by
  obtain ⟨v1, v2, v3, v4, v5⟩ := ha
  obtain ⟨h1, h2, h3, h4, h5, h6⟩ := h
  refine ⟨?_, ?_, ?_, ?_, fun c c0 c1 => ?_, fun a a0 a1 => ?_⟩
  · rw [hk 11 b (by show 1 * (1 - b1) ≤ b; omega) (by show b < 1 * (2 - b1); omega)]; exact h1
  · rw [hk 13 b (by show 1 * (1 - b1) ≤ b; omega) (by show b < 1 * (2 - b1); omega)]; exact h2
  · rw [hk 15 b (by show 1 * (1 - b1) ≤ b; omega) (by show b < 1 * (2 - b1); omega)]; exact h3
  · rw [hk 16 b (by show 1 * (1 - b1) ≤ b; omega) (by show b < 1 * (2 - b1); omega)]; exact h4
  · rw [hk 12 (4 * b + c) (by show 4 * (1 - b1) ≤ _; omega) (by show _ < 4 * (2 - b1); omega)]; exact h5 c c0 c1
  · rw [hk 14 (12 * b + a) (by show 12 * (1 - b1) ≤ _; omega) (by show _ < 12 * (2 - b1); omega)]; exact h6 a a0 a1
/-- the reference's tables, in its bank -/
def MKB (K P : PH) : Prop := MKb (P 0 13) K P
def MMB (M P : PH) : Prop := MMb (P 0 13) M P
def MH (M P : PH) : Prop := (P 0 44 = 0 ∧ M 0 0 = 0) ∨ (P 0 44 = 1 ∧ 1 ≤ M 0 0)
theorem MKB.fr {K P P1 : PH} {F : FS} (h : MKB K P) (hf : FrM F P P1) (hd : disF F ([13], [2, 3, 4, 5, 6, 7, 8, 9, 22, 23]) = true) : MKB K P1 := by
  unfold MKB MKb at h ⊢
  rw [disF_k hd hf (k := 13) (by decide), disF_o hd hf (o := 2) (by decide) rfl, disF_o hd hf (o := 3) (by decide) rfl, disF_o hd hf (o := 4) (by decide) rfl, disF_o hd hf (o := 5) (by decide) rfl, disF_o hd hf (o := 6) (by decide) rfl, disF_o hd hf (o := 7) (by decide) rfl, disF_o hd hf (o := 8) (by decide) rfl, disF_o hd hf (o := 9) (by decide) rfl, disF_o hd hf (o := 22) (by decide) rfl, disF_o hd hf (o := 23) (by decide) rfl]
  exact h
theorem MMB.fr {M P P1 : PH} {F : FS} (h : MMB M P) (hf : FrM F P P1) (hd : disF F ([13], [11, 12, 13, 14, 15, 16]) = true) : MMB M P1 := by
  unfold MMB MMb at h ⊢
  rw [disF_k hd hf (k := 13) (by decide), disF_o hd hf (o := 11) (by decide) rfl, disF_o hd hf (o := 12) (by decide) rfl, disF_o hd hf (o := 13) (by decide) rfl, disF_o hd hf (o := 14) (by decide) rfl, disF_o hd hf (o := 15) (by decide) rfl, disF_o hd hf (o := 16) (by decide) rfl]
  exact h
theorem MH.fr {M P P1 : PH} {F : FS} (h : MH M P) (hf : FrM F P P1) (hd : disF F ([44], []) = true) : MH M P1 := by
  unfold MH at h ⊢
  rw [disF_k hd hf (k := 44) (by decide)]
  exact h
theorem MK.B {K P : PH} (h : MK K P) (e : P 0 13 = P 0 37) : MKB K P := by
  unfold MKB
  rw [e]
  exact h
theorem MM.B {M P : PH} (h : MM M P) (e : P 0 13 = P 0 37) : MMB M P := by
  unfold MMB
  rw [e]
  exact h
theorem MKB.k {K P : PH} (h : MKB K P) {k : Int} (h0 : 0 ≤ k) (h1 : k < K 0 0) : NW (K 1 k) (P 22 (4 * P 0 13 + k)) ∧ P 3 (4 * P 0 13 + k) = K 2 k ∧ P 4 (4 * P 0 13 + k) = K 3 k := h.2.2.1 k h0 h1
theorem MKB.c {K P : PH} (h : MKB K P) {c : Int} (h0 : 0 ≤ c) (h1 : c < K 0 1) : NW (K 4 c) (P 23 (24 * P 0 13 + c)) := (h.2.2.2 c h0 h1).1
theorem MKB.b {K P : PH} (h : MKB K P) : P 2 (P 0 13) = K 0 0 ∧ P 5 (P 0 13) = K 0 1 := ⟨h.1, h.2.1⟩
theorem MMB.b {M P : PH} (h : MMB M P) : P 11 (P 0 13) = M 0 0 ∧ P 13 (P 0 13) = M 0 2 ∧ P 15 (P 0 13) = M 0 3 ∧ P 16 (P 0 13) = M 0 4 := ⟨h.1, h.2.1, h.2.2.1, h.2.2.2.1⟩
/-- the class's table now -/
def XTB (K M P : PH) : Prop := XK K (crX (P 0 10).toNat 0) P ∧ XM M (P 0 10).toNat P
theorem XTB.fr {K M P P1 : PH} {F : FSX} (h : XTB K M P) (hf : FrX F P P1) (hd : disX F ([(0, 10), (28, 6), (28, 7), (28, 8), (28, 9), (28, 10), (29, 9), (29, 10)], [30, 31, 32, 33, 34, 35, 36, 37, 38, 39, 42]) = true) : XTB K M P1 := by
  have e : P1 0 10 = P 0 10 := disX_f hd hf (o := 0) (k := 0) (j := 10) ⟨by decide, rfl⟩ (by decide)
  obtain ⟨⟨hk, h1, h2, h3, h4⟩, hk2, g1, g2, g3, g4, g5, g6, g7⟩ := h
  unfold XTB
  rw [e]
  refine ⟨⟨hk, by rw [disX_f hd hf (j := 9) hk (by decide)]; exact h1, by rw [disX_f hd hf (j := 10) hk (by decide)]; exact h2, fun k k0 k1 => ?_, fun c c0 c1 => ?_⟩, ⟨hk2, by rw [disX_f hd hf (j := 6) hk2 (by decide)]; exact g1, by rw [disX_f hd hf (j := 7) hk2 (by decide)]; exact g2, by rw [disX_f hd hf (j := 8) hk2 (by decide)]; exact g3, by rw [disX_f hd hf (j := 9) hk2 (by decide)]; exact g4, by rw [disX_f hd hf (j := 10) hk2 (by decide)]; exact g5, fun c c0 c1 => ?_, fun a a0 a1 => ?_⟩⟩
  · rw [disX_a hd hf (ck_29_0 hk) (by decide), disX_a hd hf (ck_29_1 hk) (by decide), disX_a hd hf (ck_29_2 hk) (by decide), disX_a hd hf (ck_29_3 hk) (by decide)]
    exact h3 k k0 k1
  · rw [disX_a hd hf (ck_29_4 hk) (by decide), disX_a hd hf (ck_29_5 hk) (by decide), disX_a hd hf (ck_29_6 hk) (by decide), disX_a hd hf (ck_29_7 hk) (by decide), disX_a hd hf (ck_29_8 hk) (by decide)]
    exact h4 c c0 c1
  · rw [disX_a hd hf (ck_28_1 hk2) (by decide)]
    exact g6 c c0 c1
  · rw [disX_a hd hf (ck_28_4 hk2) (by decide)]
    exact g7 a a0 a1
/-- the other table's change leaves this one -/
theorem KT.xk {t o : Nat} {K P P1 : PH} (h : KT t P P1) (ho : kx o 28) (hn : o ≠ t) (hk : XK K (crX o 0) P) : XK K (crX o 0) P1 := by
  have ht := tb28 ho
  have h0 := tb28_0 ho
  rw [ht.1] at h0
  have hc : ∀ j : Nat, j < 9 → tbX (crX (crX o 0) j) = o := (show ∀ o : Nat, o < 154 → kdX o = 28 → ∀ j : Nat, j < 9 → tbX (crX (crX o 0) j) = o by decide +kernel) o ho.1 ho.2
  have hl : ∀ j : Nat, j < 9 → crX (crX o 0) j < 154 := (show ∀ o : Nat, o < 154 → kdX o = 28 → ∀ j : Nat, j < 9 → crX (crX o 0) j < 154 by decide +kernel) o ho.1 ho.2
  have ha : ∀ (f : Nat), f < 9 → ∀ j : Int, P1 (crX (crX o 0) f) j = P (crX (crX o 0) f) j := fun f hf j => h _ (hl f hf) (by rw [hc f hf]; exact ht.2) (by rw [hc f hf]; exact hn) j
  have hb : ∀ j : Int, P1 (crX o 0) j = P (crX o 0) j := fun j => h _ hk.1.1 (by rw [h0]; exact ht.2) (by rw [h0]; exact hn) j
  obtain ⟨hk0, h1, h2, h3, h4⟩ := hk
  refine ⟨hk0, by rw [hb]; exact h1, by rw [hb]; exact h2, fun k k0 k1 => ?_, fun c c0 c1 => ?_⟩
  · rw [ha 0 (by decide), ha 1 (by decide), ha 2 (by decide), ha 3 (by decide)]
    exact h3 k k0 k1
  · rw [ha 4 (by decide), ha 5 (by decide), ha 6 (by decide), ha 7 (by decide), ha 8 (by decide)]
    exact h4 c c0 c1
theorem KT.xm {t o : Nat} {M P P1 : PH} (h : KT t P P1) (ho : kx o 28) (hn : o ≠ t) (hk : XM M o P) : XM M o P1 := by
  have ht := tb28 ho
  have hc : tbX (crX o 1) = o ∧ tbX (crX o 4) = o ∧ crX o 1 < 154 ∧ crX o 4 < 154 := (show ∀ o : Nat, o < 154 → kdX o = 28 → tbX (crX o 1) = o ∧ tbX (crX o 4) = o ∧ crX o 1 < 154 ∧ crX o 4 < 154 by decide +kernel) o ho.1 ho.2
  have hb : ∀ j : Int, P1 o j = P o j := fun j => h _ ho.1 (by rw [ht.1]; exact ht.2) (by rw [ht.1]; exact hn) j
  have h1' : ∀ j : Int, P1 (crX o 1) j = P (crX o 1) j := fun j => h _ hc.2.2.1 (by rw [hc.1]; exact ht.2) (by rw [hc.1]; exact hn) j
  have h4' : ∀ j : Int, P1 (crX o 4) j = P (crX o 4) j := fun j => h _ hc.2.2.2 (by rw [hc.2.1]; exact ht.2) (by rw [hc.2.1]; exact hn) j
  obtain ⟨hk2, g1, g2, g3, g4, g5, g6, g7⟩ := hk
  exact ⟨hk2, by rw [hb]; exact g1, by rw [hb]; exact g2, by rw [hb]; exact g3, by rw [hb]; exact g4, by rw [hb]; exact g5, fun c c0 c1 => by rw [h1']; exact g6 c c0 c1, fun a a0 a1 => by rw [h4']; exact g7 a a0 a1⟩
/-- the tables behind a match's text: those told, or those that were -/
noncomputable def kmR (T : TT) (K : PH) : PH := if (mlR T).1 = 0 then (mlR T).2.2.1 else K
noncomputable def mmR (T : TT) (M : PH) : PH := if (mlR T).1 = 0 then (mlR T).2.2.2 else M
theorem kmR_0 {T : TT} {K : PH} (h : (mlR T).1 = 0) : kmR T K = (mlR T).2.2.1 := by unfold kmR; rw [if_pos h]
theorem kmR_1 {T : TT} {K : PH} (h : (mlR T).1 ≠ 0) : kmR T K = K := by unfold kmR; rw [if_neg h]
theorem mmR_0 {T : TT} {M : PH} (h : (mlR T).1 = 0) : mmR T M = (mlR T).2.2.2 := by unfold mmR; rw [if_pos h]
theorem mmR_1 {T : TT} {M : PH} (h : (mlR T).1 ≠ 0) : mmR T M = M := by unfold mmR; rw [if_neg h]
theorem mlo_w {T : TT} : ∀ (r : Nat) (n : Int) (K M : PH) (p : Int), AW K → AV K M → (mlo T r n K M p).1 = 0 → AW (mlo T r n K M p).2.2.1 ∧ AV (mlo T r n K M p).2.2.1 (mlo T r n K M p).2.2.2 ∧ 0 < (mlo T r n K M p).2.2.2 0 0 := by
  intro r
  induction r with
  | zero =>
    intro n K M p hw hv h0
    by_cases e : tK T p = 0
    · rw [mlo_end e] at h0 ⊢
      refine ⟨hw, hv, ?_⟩
      by_cases z : M 0 0 ≤ 0
      · have h0 : (if M 0 0 ≤ 0 then (1 : Int) else 0) = 0 := h0
        rw [if_pos z] at h0
        omega
      · show 0 < M 0 0
        omega
    · rw [mlo_much e] at h0
      exact absurd h0 (show (6 : Int) ≠ 0 by decide)
  | succ r ih =>
    intro n K M p hw hv h0
    by_cases e : tK T p = 0
    · rw [mlo_end e] at h0 ⊢
      refine ⟨hw, hv, ?_⟩
      by_cases z : M 0 0 ≤ 0
      · have h0 : (if M 0 0 ≤ 0 then (1 : Int) else 0) = 0 := h0
        rw [if_pos z] at h0
        omega
      · show 0 < M 0 0
        omega
    · by_cases h1 : (sSt T K M p).1 = 0
      · by_cases h2 : (sgn T 59 (sSt T K M p).2).1 = 0
        · rw [mlo_go e h1 h2] at h0 ⊢
          exact ih _ _ _ _ (hw.st h1) (hv.st hw h1) h0
        · rw [mlo_eF e h1 h2] at h0
          exact absurd h0 h2
      · rw [mlo_sF e h1] at h0
        exact absurd h0 h1
theorem mlR_w {T : TT} (h : (mlR T).1 = 0) : AW (mlR T).2.2.1 ∧ AV (mlR T).2.2.1 (mlR T).2.2.2 ∧ 0 < (mlR T).2.2.2 0 0 := mlo_w 60 0 K0 M0 0 AW.zero AV.zero h
end
section
/-! Letters of names; how many values a kind has: what is answered. -/
def vls (K M : PH) (x : Int) : Int := if 0 < M 0 0 ∧ -1 ≤ x ∧ x < K 0 0 then sz K x else -1
theorem vls_s (K M : PH) (x : Int) : (0 < M 0 0 ∧ -1 ≤ x ∧ x < K 0 0 ∧ vls K M x = sz K x) ∨ ((M 0 0 ≤ 0 ∨ x < -1 ∨ K 0 0 ≤ x) ∧ vls K M x = -1) := by
  unfold vls
  by_cases h : 0 < M 0 0 ∧ -1 ≤ x ∧ x < K 0 0
  · rw [if_pos h]; exact Or.inl ⟨h.1, h.2.1, h.2.2, rfl⟩
  · rw [if_neg h]; exact Or.inr ⟨by omega, rfl⟩
def lr (v : Int) : Nat → Int
  | 0 => v
  | n + 1 => lr v n / 27
/-- letter k of a name by 27 -/
def lt (v k : Int) : Int := lr v (5 - k).toNat % 27
theorem lr_b {v : Int} (h : 0 ≤ v) : ∀ n : Nat, 0 ≤ lr v n ∧ lr v n ≤ v := by
  intro n
  induction n with
  | zero => exact ⟨h, Int.le_refl _⟩
  | succ n ih =>
    show 0 ≤ lr v n / 27 ∧ lr v n / 27 ≤ v
    omega
theorem e27_dn {h : Nat → Int} {n : Nat} (hb : ∀ i, i < n + 1 → 0 ≤ h i ∧ h i ≤ 26) : e27 h (n + 1) / 27 = e27 h n := by
  have b := hb n (Nat.lt_succ_self n)
  show (e27 h n * 27 + h n) / 27 = e27 h n
  omega
theorem lr_e27 {h : Nat → Int} (hb : ∀ i, i < 6 → 0 ≤ h i ∧ h i ≤ 26) : ∀ j : Nat, j ≤ 6 → lr (e27 h 6) j = e27 h (6 - j) := by
  intro j
  induction j with
  | zero => intro _; rfl
  | succ j ih =>
    intro hj
    show lr (e27 h 6) j / 27 = _
    rw [ih (by omega), show 6 - j = (6 - (j + 1)) + 1 by omega]
    exact e27_dn (fun i hi => hb i (by omega))
theorem lt_g {g : Nat → Int} {L : Nat} (hL : L ≤ 6) (hg : ∀ i, i < L → 1 ≤ g i ∧ g i ≤ 26) {k : Int} (hk : 0 ≤ k ∧ k ≤ 5) : (k < (L : Int) ∧ lt (e27 g L * p27 (6 - L)) k = g k.toNat) ∨ ((L : Int) ≤ k ∧ lt (e27 g L * p27 (6 - L)) k = 0) := by
  have e1 : e27 (tPad g L) 6 = e27 g L * p27 (6 - L) := by rw [← e27_pad g L (6 - L), show L + (6 - L) = 6 by omega]
  have pg : ∀ i, i < 6 → 0 ≤ tPad g L i ∧ tPad g L i ≤ 26 := by
    intro i _
    unfold tPad
    by_cases q : i < L
    · rw [if_pos q]; have := hg i q; omega
    · rw [if_neg q]; omega
  have e2 : lt (e27 g L * p27 (6 - L)) k = tPad g L k.toNat := by
    unfold lt
    rw [← e1, lr_e27 pg (5 - k).toNat (by omega), show 6 - (5 - k).toNat = k.toNat + 1 by omega]
    show (e27 (tPad g L) k.toNat * 27 + tPad g L k.toNat) % 27 = _
    have b := pg k.toNat (by omega)
    omega
  rw [e2]
  unfold tPad
  by_cases q : k.toNat < L
  · rw [if_pos q]; exact Or.inl ⟨by omega, rfl⟩
  · rw [if_neg q]; exact Or.inr ⟨by omega, rfl⟩
theorem e56_dn {g : Nat → Int} {n : Nat} (hb : 1 ≤ g n ∧ g n ≤ 26) : e56 g (n + 1) / 256 = e56 g n ∧ e56 g (n + 1) % 256 = 96 + g n := by
  have e : e56 g (n + 1) = e56 g n * 256 + (96 + g n) := rfl
  rw [e]
  omega
theorem l64_smod8 {j : Nat} (hj : j ≤ 6) : ((((Int32.ofInt (((8 * j : Nat)) : Int)).toInt64 &&& 63).toBitVec.smod 64)).toNat = 8 * j := by
  have : ∀ j : Nat, j < 7 → ((((Int32.ofInt (((8 * j : Nat)) : Int)).toInt64 &&& 63).toBitVec.smod 64)).toNat = 8 * j := by decide
  exact this j (by omega)
theorem llshr_8 (j : Nat) (hj : j ≤ 6) {x : Int} (h : LR x) : llshr x ((8 * j : Nat) : Int) = x / ((2 ^ (8 * j) : Nat) : Int) := by
  unfold llshr
  have e0 : ∀ y : Int64, y.toInt = y.toBitVec.toInt := fun _ => rfl
  rw [e0, Int64.toBitVec_shiftRight, BitVec.toInt_sshiftRight', l64_smod8 hj]
  have h1 : (Int64.ofInt x).toBitVec.toInt = x := oL h
  rw [h1, Int.shiftRight_eq_div_pow]
theorem e56_sh {g : Nat → Int} {L : Nat} (hg : ∀ i, i < L → 1 ≤ g i ∧ g i ≤ 26) : ∀ j : Nat, j ≤ L → e56 g L / ((2 ^ (8 * j) : Nat) : Int) = e56 g (L - j) := by
  intro j
  induction j with
  | zero => intro _; show e56 g L / 1 = e56 g L; exact Int.ediv_one _
  | succ j ih =>
    intro hj
    have e := ih (by omega)
    have hp : ((2 ^ (8 * (j + 1)) : Nat) : Int) = ((2 ^ (8 * j) : Nat) : Int) * 256 := by
      rw [show 8 * (j + 1) = 8 * j + 8 by omega, Nat.pow_add, Int.natCast_mul]
      rfl
    rw [hp, ← Int.ediv_ediv_of_nonneg (Int.natCast_nonneg _), e, show L - j = (L - (j + 1)) + 1 by omega]
    exact (e56_dn (hg _ (by omega))).1
theorem lland_255 {x : Int} (hx : 0 ≤ x ∧ x ≤ 9223372036854775807) : lland x 255 = x % 256 := by
  have e4 : ((x.toNat : Nat) : Int) = x := Int.toNat_of_nonneg hx.1
  unfold lland
  rw [l64_bv, Int64.toBitVec_and]
  have e1 := bv64_of (z := x) hx
  have e2 := bv64_of (z := 255) ⟨by decide, by decide⟩
  have hv : ((Int64.ofInt x).toBitVec &&& (Int64.ofInt 255).toBitVec).toNat = x.toNat % 256 := by
    rw [BitVec.toNat_and, e1, e2]
    exact Nat.and_two_pow_sub_one_eq_mod x.toNat 8
  rw [BitVec.toInt_eq_toNat_cond, hv, if_pos (by omega)]
  omega
/-- a letter of a kind's name (0), of a constructor's (1) -/
def ltr (K : PH) (s x k : Int) : Int := if 0 ≤ k ∧ k ≤ 5 ∧ ((s = 0 ∧ 0 ≤ x ∧ x < K 0 0) ∨ (s = 1 ∧ 0 ≤ x ∧ x < K 0 1)) then lt (if s = 0 then K 1 x else K 4 x) k else -1
theorem ltr_s (K : PH) (s x k : Int) : (0 ≤ k ∧ k ≤ 5 ∧ s = 0 ∧ 0 ≤ x ∧ x < K 0 0 ∧ ltr K s x k = lt (K 1 x) k) ∨ (0 ≤ k ∧ k ≤ 5 ∧ s = 1 ∧ 0 ≤ x ∧ x < K 0 1 ∧ ltr K s x k = lt (K 4 x) k) ∨ ((k < 0 ∨ 5 < k ∨ ((s ≠ 0 ∨ x < 0 ∨ K 0 0 ≤ x) ∧ (s ≠ 1 ∨ x < 0 ∨ K 0 1 ≤ x))) ∧ ltr K s x k = -1) := by
  unfold ltr
  by_cases h : 0 ≤ k ∧ k ≤ 5 ∧ ((s = 0 ∧ 0 ≤ x ∧ x < K 0 0) ∨ (s = 1 ∧ 0 ≤ x ∧ x < K 0 1))
  · rw [if_pos h]
    by_cases h2 : s = 0
    · rw [if_pos h2]; exact Or.inl ⟨h.1, h.2.1, h2, by omega, by omega, rfl⟩
    · rw [if_neg h2]; exact Or.inr (Or.inl ⟨h.1, h.2.1, by omega, by omega, by omega, rfl⟩)
  · rw [if_neg h]; exact Or.inr (Or.inr ⟨by omega, rfl⟩)
/-- the names told are words -/
def AN (K : PH) : Prop := (∀ k : Int, 0 ≤ k → k < K 0 0 → 0 ≤ K 1 k) ∧ ∀ c : Int, 0 ≤ c → c < K 0 1 → 0 ≤ K 4 c
theorem MKB.an {K P : PH} (h : MKB K P) : AN K := ⟨fun _ k0 k1 => (h.k k0 k1).1.b.1, fun _ c0 c1 => (h.c c0 c1).b.1⟩
end
