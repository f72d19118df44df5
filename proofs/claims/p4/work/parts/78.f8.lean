/-! Arms, statements: lemmas for the reference's loops. -/
theorem MM.arm2 {M P P1 : PH} {g : Int} (h : MM M P) (e37 : P1 0 37 = P 0 37) (e13 : P1 13 (P 0 37) = P 13 (P 0 37) + 1) (s14 : P1 14 (12 * P 0 37 + P 13 (P 0 37)) = g) (q14 : ∀ j : Int, j ≠ 12 * P 0 37 + P 13 (P 0 37) → P1 14 j = P 14 j) (q11 : ∀ j, P1 11 j = P 11 j) (q12 : ∀ j, P1 12 j = P 12 j) (q15 : ∀ j, P1 15 j = P 15 j) (q16 : ∀ j, P1 16 j = P 16 j) : MM (aNew M g) P1 := by
  obtain ⟨h1, h2, h3, h4, h5, h6⟩ := h
  unfold MM
  rw [aNew_0.1, aNew_0.2.1, aNew_0.2.2.1, aNew_0.2.2.2, aNew_1, e37, e13, q11, q15, q16]
  refine ⟨h1, by omega, h3, h4, fun c c0 c1 => by rw [q12]; exact h5 c c0 c1, fun a a0 a1 => ?_⟩
  rw [aNew_2]
  by_cases e : a = M 0 2
  · rw [if_pos e, e, ← h2, s14]
  · rw [if_neg e, q14 _ (by omega)]
    exact h6 a a0 (by omega)
theorem arl_end {T : TT} {K M : PH} {c p : Int} : arl T K M 0 c p = (0, p) := rfl
theorem arl_bad {T : TT} {K M : PH} {r : Nat} {c p : Int} (hc : 0 < c) (h : tK T p = 4) : arl T K M r c p = if r = 0 then (0, p) else (1, tS T p) := by
  cases r with
  | zero => rfl
  | succ r =>
    rw [if_neg (by omega), arl_sF hc (by rw [sgn_4 h]; show (1 : Int) ≠ 0; decide), sgn_4 h]
/-- a column's pattern more -/
theorem ARn {T : TT} {K M : PH} {r : Nat} {c q q1 : Int} {X : Int × Int} {P : PH} (hX : X = arl T K M (r + 1) c q) (h0 : 0 ≤ c) (hq : (c ≤ 0 ∧ q1 = q) ∨ (0 < c ∧ (sgn T 44 q).1 = 0 ∧ q1 = tE T q)) (hp : REn T (pat T K (M 1 c) q1) P) (h8 : 0 ≤ P 0 8) (hs : P 0 8 = 0 → MS T (pat T K (M 1 c) q1).2 P) :
    ∃ q2 : Int, (P 0 8 ≤ 0 → X = arl T K M r (c + 1) q2 ∧ MS T q2 P) ∧ (0 < P 0 8 → REn T X P) := by
  have e : arl T K M (r + 1) c q = if (pat T K (M 1 c) q1).1 ≠ 0 then pat T K (M 1 c) q1 else arl T K M r (c + 1) (pat T K (M 1 c) q1).2 := by
    rcases hq with ⟨h, rfl⟩ | ⟨h, h2, rfl⟩
    · exact arl_p0 h
    · exact arl_p1 h h2
  rw [e] at hX
  rcases hp with ⟨h1, h2⟩ | ⟨h1, h2, h3, h4⟩
  · by_cases z : (pat T K (M 1 c) q1).1 = 0
    · rw [if_neg (by omega)] at hX
      exact ⟨(pat T K (M 1 c) q1).2, fun _ => ⟨hX, hs (by omega)⟩, fun h => by omega⟩
    · rw [if_pos z] at hX
      rw [hX]
      exact ⟨0, fun h => by omega, fun _ => Or.inl ⟨h1, h2⟩⟩
  · rw [if_neg (by omega), arl_bad (by omega) h2] at hX
    refine ⟨0, fun h => by omega, fun _ => ?_⟩
    rw [hX]
    by_cases z : r = 0
    · rw [if_pos z]
      exact Or.inr ⟨rfl, h2, h3, h4⟩
    · rw [if_neg z]
      exact Or.inl ⟨h3, Or.inr h4⟩
theorem ARs {T : TT} {K M : PH} {r : Nat} {c q : Int} {X : Int × Int} {P : PH} (hX : X = arl T K M (r + 1) c q) (hc : 0 < c) (h0 : 0 < P 0 8) (h1 : P 0 8 = (sgn T 44 q).1) (h2 : P 0 9 = (sgn T 44 q).2) :
    ∃ q2 : Int, (P 0 8 ≤ 0 → X = arl T K M r (c + 1) q2 ∧ MS T q2 P) ∧ (0 < P 0 8 → REn T X P) := by
  rw [arl_sF hc (by omega)] at hX
  refine ⟨0, fun h => by omega, fun _ => ?_⟩
  rw [hX]
  exact Or.inl ⟨h1, Or.inr h2⟩
theorem tA_E {T : TT} {p : Int} : (tA T p < T.2 ∧ tK T p ≠ 0) ∨ (T.2 ≤ tA T p ∧ tK T p = 0) := by
  rcases Int.lt_or_le (tA T p) T.2 with h | h
  · refine Or.inl ⟨h, fun e => ?_⟩
    unfold tK at e
    rw [if_neg (by omega)] at e
    repeat' split at e
    all_goals omega
  · exact Or.inr ⟨h, tK_0 h⟩
theorem fld_le {T : TT} {K : PH} (h : AW K) (v : Int) (hv : (fre T K v).1 = 0) : tK T v = 1 := by
  rcases fre_s T K v with q | q | q <;> omega
theorem AW.st {T : TT} {K M : PH} {p : Int} (h : AW K) (hs : (sSt T K M p).1 = 0) : AW (kSt T K p) := by
  unfold kSt
  unfold sSt at hs
  by_cases h0 : tO T p = 0
  · rw [if_pos h0] at hs ⊢
    have hk := sKi_s T K M p
    exact h.kind (by omega)
  · rw [if_neg h0] at hs ⊢
    by_cases h1 : tO T p = 1
    · rw [if_pos h1] at hs ⊢
      have hc := sCo_s T K M p
      have hf := fre_s T K (tE T p)
      have e : (fre T K (tE T p)).1 = 0 := by omega
      have e2 : (fre T K (tE T p)).2 = tE T (tE T p) := by omega
      rw [e2] at hc
      have hx : (fldX T K (tE T (tE T p))).1 = 0 := by omega
      have hw := fldX_w h (by omega) (tE T (tE T p)) hx
      unfold kCo
      exact h.con (by omega) (by omega) ⟨hw.1, hw.2.1⟩ hw.2.2.1 hw.2.2.2.1 hw.2.2.2.2.1 hw.2.2.2.2.2
    · rw [if_neg h1]
      exact h
/-- the statements so far -/
theorem mlo_n {T : TT} {n : Int} {K M : PH} {q : Int} (h0 : 0 ≤ n) (hn : n < 60) (h : tK T q ≠ 0) :
    ((sSt T K M q).1 ≠ 0 → mlo T (60 - n).toNat n K M q = ((sSt T K M q).1, (sSt T K M q).2, K, M)) ∧
    ((sSt T K M q).1 = 0 → (sgn T 59 (sSt T K M q).2).1 ≠ 0 → mlo T (60 - n).toNat n K M q = ((sgn T 59 (sSt T K M q).2).1, (sgn T 59 (sSt T K M q).2).2, K, M)) ∧
    ((sSt T K M q).1 = 0 → (sgn T 59 (sSt T K M q).2).1 = 0 → mlo T (60 - n).toNat n K M q = mlo T (60 - (n + 1)).toNat (n + 1) (kSt T K q) (mSt T K M q) (sgn T 59 (sSt T K M q).2).2) := by
  rw [show (60 - n).toNat = (60 - (n + 1)).toNat + 1 by omega]
  refine ⟨fun h1 => mlo_sF h h1, fun h1 h2 => mlo_eF h h1 h2, fun h1 h2 => ?_⟩
  rw [mlo_go h h1 h2]
  have := sgn_s T 59 (sSt T K M q).2
  rw [show (sgn T 59 (sSt T K M q).2).2 = tE T (sSt T K M q).2 by omega]
theorem ML.fault {T : TT} {n : Int} {K M : PH} {q f pl : Int} (h0 : 0 ≤ n) (hn : n < 60) (hk : tK T q ≠ 0) (hR : mlR T = mlo T (60 - n).toNat n K M q)
    (h : ((sSt T K M q).1 ≠ 0 ∧ f = (sSt T K M q).1 ∧ pl = (sSt T K M q).2) ∨ ((sSt T K M q).1 = 0 ∧ (sgn T 59 (sSt T K M q).2).1 ≠ 0 ∧ f = (sgn T 59 (sSt T K M q).2).1 ∧ pl = (sgn T 59 (sSt T K M q).2).2) ∨
      ((sSt T K M q).1 = 0 ∧ (sgn T 59 (sSt T K M q).2).1 = 0 ∧ n + 1 = 60 ∧ tA T (tE T (sSt T K M q).2) < T.2 ∧ f = 6 ∧ pl = tA T (tE T (sSt T K M q).2))) : (mlR T).1 = f ∧ (mlR T).2.1 = pl := by
  obtain ⟨m1, m2, m3⟩ := mlo_n (T := T) (K := K) (M := M) h0 hn hk
  rcases h with ⟨a, b, c⟩ | ⟨a, a2, b, c⟩ | ⟨a, a2, a3, a4, b, c⟩
  · rw [hR, m1 a]; exact ⟨b.symm, c.symm⟩
  · rw [hR, m2 a a2]; exact ⟨b.symm, c.symm⟩
  · have hs := sgn_s T 59 (sSt T K M q).2
    have hte := tA_E (T := T) (p := tE T (sSt T K M q).2)
    rw [hR, m3 a a2, show (60 - (n + 1)).toNat = 0 by omega, show (sgn T 59 (sSt T K M q).2).2 = tE T (sSt T K M q).2 by omega, mlo_much (by omega)]
    exact ⟨b.symm, c.symm⟩
theorem ML.go {T : TT} {n : Int} {K M : PH} {q : Int} (h0 : 0 ≤ n) (hn : n < 60) (hk : tK T q ≠ 0) (hR : mlR T = mlo T (60 - n).toNat n K M q) (h1 : (sSt T K M q).1 = 0) (h2 : (sgn T 59 (sSt T K M q).2).1 = 0) : mlR T = mlo T (60 - (n + 1)).toNat (n + 1) (kSt T K q) (mSt T K M q) (sgn T 59 (sSt T K M q).2).2 := hR.trans ((mlo_n h0 hn hk).2.2 h1 h2)
theorem ML.fin {T : TT} {n : Int} {K M : PH} {q : Int} (hk : tK T q = 0) (hR : mlR T = mlo T (60 - n).toNat n K M q) : (M 0 0 ≤ 0 ∧ (mlR T).1 = 1 ∧ (mlR T).2.1 = tA T q) ∨ (0 < M 0 0 ∧ (mlR T).1 = 0 ∧ (mlR T).2.1 = n) := by
  rw [hR, mlo_end hk]
  by_cases h : M 0 0 ≤ 0
  · left
    exact ⟨h, by show (if M 0 0 ≤ 0 then (1 : Int) else 0) = 1; rw [if_pos h], by show (if M 0 0 ≤ 0 then tA T q else n) = _; rw [if_pos h]⟩
  · right
    exact ⟨by omega, by show (if M 0 0 ≤ 0 then (1 : Int) else 0) = 0; rw [if_neg h], by show (if M 0 0 ≤ 0 then tA T q else n) = _; rw [if_neg h]⟩
theorem ML.tab {T : TT} {n : Int} {K M : PH} {q : Int} (hk : tK T q = 0) (hR : mlR T = mlo T (60 - n).toNat n K M q) : (mlR T).2.2.1 = K ∧ (mlR T).2.2.2 = M := by
  rw [hR, mlo_end hk]
  exact ⟨rfl, rfl⟩
theorem MK.zero {P : PH} {b : Int} (e37 : P 0 37 = b) (e2 : P 2 b = 0) (e5 : P 5 b = 0) : MK K0 P := by
  unfold MK
  rw [e37, e2, e5]
  exact ⟨rfl, rfl, fun k h0 h1 => by exfalso; have h1 : k < 0 := h1; omega, fun k h0 h1 => by exfalso; have h1 : k < 0 := h1; omega⟩
theorem MM.zero {P : PH} {b : Int} (e37 : P 0 37 = b) (e11 : P 11 b = 0) (e13 : P 13 b = 0) (e15 : P 15 b = 0) (e16 : P 16 b = 300) : MM M0 P := by
  unfold MM
  rw [e37, e11, e13, e15, e16]
  exact ⟨rfl, rfl, rfl, rfl, fun k h0 h1 => by exfalso; have h1 : k < 0 := h1; omega, fun k h0 h1 => by exfalso; have h1 : k < 0 := h1; omega⟩
/-- a statement and what ends it: round the loop, or a fault -/
theorem ML.cases {T : TT} {S : Int × Int} {s8 s9 h8 h9 n : Int} (hs : (s8 = S.1 ∧ (S.1 = 0 ∨ s9 = S.2)) ∨ (S.1 = 0 ∧ tK T S.2 = 4 ∧ s8 = 1 ∧ s9 = tS T S.2))
    (hf : (0 < s8 ∧ h8 = s8 ∧ h9 = s9) ∨ (s8 ≤ 0 ∧ (sgn T 59 S.2).1 = 0 ∧ n = 60 ∧ tA T (tE T S.2) < T.2 ∧ h8 = 6 ∧ h9 = tA T (tE T S.2)) ∨ (s8 ≤ 0 ∧ ((sgn T 59 S.2).1 ≠ 0 ∨ n ≠ 60 ∨ T.2 ≤ tA T (tE T S.2)) ∧ h8 = (sgn T 59 S.2).1 ∧ ((sgn T 59 S.2).1 = 0 ∨ h9 = (sgn T 59 S.2).2))) (h0 : 0 ≤ s8) :
    (h8 = 0 ∧ S.1 = 0 ∧ (sgn T 59 S.2).1 = 0 ∧ (n ≠ 60 ∨ T.2 ≤ tA T (tE T S.2))) ∨ (0 < h8 ∧ ((S.1 ≠ 0 ∧ h8 = S.1 ∧ h9 = S.2) ∨ (S.1 = 0 ∧ (sgn T 59 S.2).1 ≠ 0 ∧ h8 = (sgn T 59 S.2).1 ∧ h9 = (sgn T 59 S.2).2) ∨ (S.1 = 0 ∧ (sgn T 59 S.2).1 = 0 ∧ n = 60 ∧ tA T (tE T S.2) < T.2 ∧ h8 = 6 ∧ h9 = tA T (tE T S.2)))) := by
  rcases hs with ⟨a1, a2⟩ | ⟨a1, a2, a3, a4⟩
  · rcases hf with ⟨b1, b2, b3⟩ | ⟨b1, b2, b3, b4, b5, b6⟩ | ⟨b1, b2, b3, b4⟩
    · exact Or.inr ⟨by omega, Or.inl ⟨by omega, by omega, by omega⟩⟩
    · exact Or.inr ⟨by omega, Or.inr (Or.inr ⟨by omega, b2, b3, b4, b5, b6⟩)⟩
    · have hg := sgn_s T 59 S.2
      by_cases e : (sgn T 59 S.2).1 = 0
      · exact Or.inl ⟨by omega, by omega, e, by omega⟩
      · exact Or.inr ⟨by omega, Or.inr (Or.inl ⟨by omega, e, b3, by omega⟩)⟩
  · rcases hf with ⟨b1, b2, b3⟩ | ⟨b1, b2⟩ | ⟨b1, b2⟩
    · have hg : sgn T 59 S.2 = (1, tS T S.2) := sgn_4 a2
      have hg1 : (sgn T 59 S.2).1 = 1 ∧ (sgn T 59 S.2).2 = tS T S.2 := by rw [hg]; exact ⟨rfl, rfl⟩
      exact Or.inr ⟨by omega, Or.inr (Or.inl ⟨a1, by omega, by omega, by omega⟩)⟩
    · exfalso; omega
    · exfalso; omega
