/-! Patterns: a small machine over a stack of (constructor, field, kind). -/
/-- a range of numbers -/
def rng (T : TT) (p : Int) : Int × Int := if (num T 0 19 p).1 = 0 then (if tO T (tE T p) = 10 then num T (tV T p) 19 (tE T (tE T p)) else (0, tE T p)) else num T 0 19 p
theorem rng_s (T : TT) (p : Int) : ((num T 0 19 p).1 ≠ 0 ∧ (rng T p).1 = (num T 0 19 p).1 ∧ (rng T p).2 = (num T 0 19 p).2) ∨ ((num T 0 19 p).1 = 0 ∧ tO T (tE T p) ≠ 10 ∧ (rng T p).1 = 0 ∧ (rng T p).2 = tE T p) ∨ ((num T 0 19 p).1 = 0 ∧ tO T (tE T p) = 10 ∧ (rng T p).1 = (num T (tV T p) 19 (tE T (tE T p))).1 ∧ (rng T p).2 = (num T (tV T p) 19 (tE T (tE T p))).2) := by
  unfold rng
  by_cases h : (num T 0 19 p).1 = 0
  · rw [if_pos h]
    by_cases h2 : tO T (tE T p) = 10
    · rw [if_pos h2]; exact Or.inr (Or.inr ⟨h, h2, rfl, rfl⟩)
    · rw [if_neg h2]; exact Or.inr (Or.inl ⟨h, h2, rfl, rfl⟩)
  · rw [if_neg h]; exact Or.inl ⟨h, rfl, rfl⟩
/-- a constructor's name -/
def cas (T : TT) (K : PH) (k p : Int) : Int × Int := if tK T p = 1 ∧ tO T p = -1 then (if cNm K (tV T p) ≠ -1 ∧ K 5 (cNm K (tV T p)) = k then (0, tE T p) else (3, tA T p)) else (1, fh T p)
theorem cas_s (T : TT) (K : PH) (k p : Int) : (tK T p = 1 ∧ tO T p = -1 ∧ cNm K (tV T p) ≠ -1 ∧ K 5 (cNm K (tV T p)) = k ∧ (cas T K k p).1 = 0 ∧ (cas T K k p).2 = tE T p) ∨ (tK T p = 1 ∧ tO T p = -1 ∧ (cNm K (tV T p) = -1 ∨ K 5 (cNm K (tV T p)) ≠ k) ∧ (cas T K k p).1 = 3 ∧ (cas T K k p).2 = tA T p) ∨ ((tK T p ≠ 1 ∨ tO T p ≠ -1) ∧ (cas T K k p).1 = 1 ∧ (cas T K k p).2 = fh T p) := by
  unfold cas
  by_cases h : tK T p = 1 ∧ tO T p = -1
  · rw [if_pos h]
    by_cases h2 : cNm K (tV T p) ≠ -1 ∧ K 5 (cNm K (tV T p)) = k
    · rw [if_pos h2]; exact Or.inl ⟨h.1, h.2, h2.1, h2.2, rfl, rfl⟩
    · rw [if_neg h2]; exact Or.inr (Or.inl ⟨h.1, h.2, by omega, rfl, rfl⟩)
  · rw [if_neg h]; exact Or.inr (Or.inr ⟨by omega, rfl, rfl⟩)
abbrev SK : Type := List (Int × Int × Int)
def prun (T : TT) (K : PH) : Nat → Int → SK → Int → Int → Option (Int × Int)
  | 0, _, _, _, _ => none
  | n + 1, m, s, k, p =>
    if m = 0 then
      (if tO T p = 8 then prun T K n 1 s k (tE T p)
      else if k = -1 then (if (rng T p).1 = 0 then prun T K n 1 s k (rng T p).2 else some (rng T p))
      else if (cas T K k p).1 = 0 then
        (if K 6 (cNm K (tV T p)) = 0 then prun T K n 1 s k (tE T p)
        else if (sgn T 40 (tE T p)).1 = 0 then prun T K n 0 ((cNm K (tV T p), 0, k) :: s) (K 7 (cNm K (tV T p))) (tE T (tE T p))
        else some (sgn T 40 (tE T p)))
      else some (cas T K k p))
    else if tO T p = 9 then prun T K n 0 s k (tE T p)
    else match s with
      | [] => some (0, p)
      | (c, f, k1) :: s1 =>
        if f + 1 < K 6 c then (if (sgn T 44 p).1 = 0 then prun T K n 0 ((c, f + 1, k1) :: s1) (K 8 c) (tE T p) else some (sgn T 44 p))
        else if (sgn T 41 p).1 = 0 then prun T K n 1 s1 k1 (tE T p) else some (sgn T 41 p)
def Runs (T : TT) (K : PH) (m : Int) (s : SK) (k p : Int) (x : Int × Int) : Prop := ∃ n, prun T K n m s k p = some x
theorem prun_eq (T : TT) (K : PH) (n : Nat) (m : Int) (s : SK) (k p : Int) : prun T K (n + 1) m s k p = (if m = 0 then
      (if tO T p = 8 then prun T K n 1 s k (tE T p)
      else if k = -1 then (if (rng T p).1 = 0 then prun T K n 1 s k (rng T p).2 else some (rng T p))
      else if (cas T K k p).1 = 0 then
        (if K 6 (cNm K (tV T p)) = 0 then prun T K n 1 s k (tE T p)
        else if (sgn T 40 (tE T p)).1 = 0 then prun T K n 0 ((cNm K (tV T p), 0, k) :: s) (K 7 (cNm K (tV T p))) (tE T (tE T p))
        else some (sgn T 40 (tE T p)))
      else some (cas T K k p))
    else if tO T p = 9 then prun T K n 0 s k (tE T p)
    else match s with
      | [] => some (0, p)
      | (c, f, k1) :: s1 =>
        if f + 1 < K 6 c then (if (sgn T 44 p).1 = 0 then prun T K n 0 ((c, f + 1, k1) :: s1) (K 8 c) (tE T p) else some (sgn T 44 p))
        else if (sgn T 41 p).1 = 0 then prun T K n 1 s1 k1 (tE T p) else some (sgn T 41 p)) := by cases s <;> rfl
theorem prun_up (T : TT) (K : PH) (x : Int × Int) : ∀ (n : Nat) (m : Int) (s : SK) (k p : Int), prun T K n m s k p = some x → prun T K (n + 1) m s k p = some x := by
  intro n
  induction n with
  | zero => intro m s k p h; cases h
  | succ n ih =>
    intro m s k p h
    rw [prun_eq] at h ⊢
    by_cases h1 : m = 0
    · rw [if_pos h1] at h ⊢
      by_cases h2 : tO T p = 8
      · rw [if_pos h2] at h ⊢; exact ih _ _ _ _ h
      · rw [if_neg h2] at h ⊢
        by_cases h3 : k = -1
        · rw [if_pos h3] at h ⊢
          by_cases h4 : (rng T p).1 = 0
          · rw [if_pos h4] at h ⊢; exact ih _ _ _ _ h
          · rw [if_neg h4] at h ⊢; exact h
        · rw [if_neg h3] at h ⊢
          by_cases h4 : (cas T K k p).1 = 0
          · rw [if_pos h4] at h ⊢
            by_cases h5 : K 6 (cNm K (tV T p)) = 0
            · rw [if_pos h5] at h ⊢; exact ih _ _ _ _ h
            · rw [if_neg h5] at h ⊢
              by_cases h6 : (sgn T 40 (tE T p)).1 = 0
              · rw [if_pos h6] at h ⊢; exact ih _ _ _ _ h
              · rw [if_neg h6] at h ⊢; exact h
          · rw [if_neg h4] at h ⊢; exact h
    · rw [if_neg h1] at h ⊢
      by_cases h2 : tO T p = 9
      · rw [if_pos h2] at h ⊢; exact ih _ _ _ _ h
      · rw [if_neg h2] at h ⊢
        cases s with
        | nil => exact h
        | cons c s1 =>
          obtain ⟨c, f, k1⟩ := c
          have h : (if f + 1 < K 6 c then (if (sgn T 44 p).1 = 0 then prun T K n 0 ((c, f + 1, k1) :: s1) (K 8 c) (tE T p) else some (sgn T 44 p)) else if (sgn T 41 p).1 = 0 then prun T K n 1 s1 k1 (tE T p) else some (sgn T 41 p)) = some x := h
          show (if f + 1 < K 6 c then (if (sgn T 44 p).1 = 0 then prun T K (n + 1) 0 ((c, f + 1, k1) :: s1) (K 8 c) (tE T p) else some (sgn T 44 p)) else if (sgn T 41 p).1 = 0 then prun T K (n + 1) 1 s1 k1 (tE T p) else some (sgn T 41 p)) = some x
          by_cases h3 : f + 1 < K 6 c
          · rw [if_pos h3] at h ⊢
            by_cases h4 : (sgn T 44 p).1 = 0
            · rw [if_pos h4] at h ⊢; exact ih _ _ _ _ h
            · rw [if_neg h4] at h ⊢; exact h
          · rw [if_neg h3] at h ⊢
            by_cases h4 : (sgn T 41 p).1 = 0
            · rw [if_pos h4] at h ⊢; exact ih _ _ _ _ h
            · rw [if_neg h4] at h ⊢; exact h
theorem prun_le {T : TT} {K : PH} {x : Int × Int} {n : Nat} {m : Int} {s : SK} {k p : Int} (h : prun T K n m s k p = some x) : ∀ j : Nat, prun T K (n + j) m s k p = some x := by
  intro j
  induction j with
  | zero => exact h
  | succ j ih => exact prun_up T K x (n + j) m s k p ih
theorem Runs.fn {T : TT} {K : PH} {m : Int} {s : SK} {k p : Int} {x y : Int × Int} (h : Runs T K m s k p x) (h2 : Runs T K m s k p y) : x = y := by
  obtain ⟨n, hn⟩ := h
  obtain ⟨j, hj⟩ := h2
  have e1 := prun_le hn j
  have e2 := prun_le hj n
  rw [Nat.add_comm] at e2
  rw [e1] at e2
  exact Option.some.inj e2
section RN
variable {T : TT} {K : PH} {s : SK} {k p : Int} {x : Int × Int}
theorem Runs.any (h : tO T p = 8) (hr : Runs T K 1 s k (tE T p) x) : Runs T K 0 s k p x := by
  obtain ⟨n, hn⟩ := hr
  refine ⟨n + 1, ?_⟩
  show (if (0 : Int) = 0 then _ else _) = _
  rw [if_pos rfl, if_pos h]
  exact hn
theorem Runs.range (h : tO T p ≠ 8) (hk : k = -1) (hg : (rng T p).1 = 0) (hr : Runs T K 1 s k (rng T p).2 x) : Runs T K 0 s k p x := by
  obtain ⟨n, hn⟩ := hr
  refine ⟨n + 1, ?_⟩
  show (if (0 : Int) = 0 then _ else _) = _
  rw [if_pos rfl, if_neg h, if_pos hk, if_pos hg]
  exact hn
theorem Runs.rangeF (h : tO T p ≠ 8) (hk : k = -1) (hg : (rng T p).1 ≠ 0) : Runs T K 0 s k p (rng T p) := by
  refine ⟨1, ?_⟩
  show (if (0 : Int) = 0 then _ else _) = _
  rw [if_pos rfl, if_neg h, if_pos hk, if_neg hg]
theorem Runs.caseF (h : tO T p ≠ 8) (hk : k ≠ -1) (hg : (cas T K k p).1 ≠ 0) : Runs T K 0 s k p (cas T K k p) := by
  refine ⟨1, ?_⟩
  show (if (0 : Int) = 0 then _ else _) = _
  rw [if_pos rfl, if_neg h, if_neg hk, if_neg hg]
theorem Runs.case0 (h : tO T p ≠ 8) (hk : k ≠ -1) (hg : (cas T K k p).1 = 0) (h6 : K 6 (cNm K (tV T p)) = 0) (hr : Runs T K 1 s k (tE T p) x) : Runs T K 0 s k p x := by
  obtain ⟨n, hn⟩ := hr
  refine ⟨n + 1, ?_⟩
  show (if (0 : Int) = 0 then _ else _) = _
  rw [if_pos rfl, if_neg h, if_neg hk, if_pos hg, if_pos h6]
  exact hn
theorem Runs.intoF (h : tO T p ≠ 8) (hk : k ≠ -1) (hg : (cas T K k p).1 = 0) (h6 : K 6 (cNm K (tV T p)) ≠ 0) (hs : (sgn T 40 (tE T p)).1 ≠ 0) : Runs T K 0 s k p (sgn T 40 (tE T p)) := by
  refine ⟨1, ?_⟩
  show (if (0 : Int) = 0 then _ else _) = _
  rw [if_pos rfl, if_neg h, if_neg hk, if_pos hg, if_neg h6, if_neg hs]
theorem Runs.into (h : tO T p ≠ 8) (hk : k ≠ -1) (hg : (cas T K k p).1 = 0) (h6 : K 6 (cNm K (tV T p)) ≠ 0) (hs : (sgn T 40 (tE T p)).1 = 0) (hr : Runs T K 0 ((cNm K (tV T p), 0, k) :: s) (K 7 (cNm K (tV T p))) (tE T (tE T p)) x) : Runs T K 0 s k p x := by
  obtain ⟨n, hn⟩ := hr
  refine ⟨n + 1, ?_⟩
  show (if (0 : Int) = 0 then _ else _) = _
  rw [if_pos rfl, if_neg h, if_neg hk, if_pos hg, if_neg h6, if_pos hs]
  exact hn
theorem Runs.or (h : tO T p = 9) (hr : Runs T K 0 s k (tE T p) x) : Runs T K 1 s k p x := by
  obtain ⟨n, hn⟩ := hr
  refine ⟨n + 1, ?_⟩
  show (if (1 : Int) = 0 then _ else _) = _
  rw [if_neg (by decide), if_pos h]
  exact hn
theorem Runs.done (h : tO T p ≠ 9) : Runs T K 1 [] k p (0, p) := by
  refine ⟨1, ?_⟩
  show (if (1 : Int) = 0 then _ else _) = _
  rw [if_neg (by decide), if_neg h]
theorem Runs.commaF {c f k1 : Int} (h : tO T p ≠ 9) (hf : f + 1 < K 6 c) (hs : (sgn T 44 p).1 ≠ 0) : Runs T K 1 ((c, f, k1) :: s) k p (sgn T 44 p) := by
  refine ⟨1, ?_⟩
  show (if (1 : Int) = 0 then _ else _) = _
  rw [if_neg (by decide), if_neg h]
  show (if f + 1 < K 6 c then _ else _) = _
  rw [if_pos hf, if_neg hs]
theorem Runs.comma {c f k1 : Int} (h : tO T p ≠ 9) (hf : f + 1 < K 6 c) (hs : (sgn T 44 p).1 = 0) (hr : Runs T K 0 ((c, f + 1, k1) :: s) (K 8 c) (tE T p) x) : Runs T K 1 ((c, f, k1) :: s) k p x := by
  obtain ⟨n, hn⟩ := hr
  refine ⟨n + 1, ?_⟩
  show (if (1 : Int) = 0 then _ else _) = _
  rw [if_neg (by decide), if_neg h]
  show (if f + 1 < K 6 c then _ else _) = _
  rw [if_pos hf, if_pos hs]
  exact hn
theorem Runs.closeF {c f k1 : Int} (h : tO T p ≠ 9) (hf : ¬ f + 1 < K 6 c) (hs : (sgn T 41 p).1 ≠ 0) : Runs T K 1 ((c, f, k1) :: s) k p (sgn T 41 p) := by
  refine ⟨1, ?_⟩
  show (if (1 : Int) = 0 then _ else _) = _
  rw [if_neg (by decide), if_neg h]
  show (if f + 1 < K 6 c then _ else _) = _
  rw [if_neg hf, if_neg hs]
theorem Runs.close {c f k1 : Int} (h : tO T p ≠ 9) (hf : ¬ f + 1 < K 6 c) (hs : (sgn T 41 p).1 = 0) (hr : Runs T K 1 s k1 (tE T p) x) : Runs T K 1 ((c, f, k1) :: s) k p x := by
  obtain ⟨n, hn⟩ := hr
  refine ⟨n + 1, ?_⟩
  show (if (1 : Int) = 0 then _ else _) = _
  rw [if_neg (by decide), if_neg h]
  show (if f + 1 < K 6 c then _ else _) = _
  rw [if_neg hf, if_pos hs]
  exact hn
end RN
/-- a pattern -/
noncomputable def pat (T : TT) (K : PH) (k p : Int) : Int × Int := Classical.epsilon fun x => Runs T K 0 [] k p x
theorem Runs.pat {T : TT} {K : PH} {k p : Int} {x : Int × Int} (h : Runs T K 0 [] k p x) : pat T K k p = x := (Classical.epsilon_spec (p := fun x => Runs T K 0 [] k p x) ⟨x, h⟩).fn h
/-! arms, rule, budget -/
noncomputable def arl (T : TT) (K M : PH) : Nat → Int → Int → Int × Int
  | 0, _, p => (0, p)
  | r + 1, c, p =>
    if 0 < c ∧ (sgn T 44 p).1 ≠ 0 then sgn T 44 p
    else if (pat T K (M 1 c) (if 0 < c then tE T p else p)).1 ≠ 0 then pat T K (M 1 c) (if 0 < c then tE T p else p)
    else arl T K M r (c + 1) (pat T K (M 1 c) (if 0 < c then tE T p else p)).2
theorem arl_sF {T : TT} {K M : PH} {r : Nat} {c p : Int} (h : 0 < c) (hs : (sgn T 44 p).1 ≠ 0) : arl T K M (r + 1) c p = sgn T 44 p := by
  show (if 0 < c ∧ (sgn T 44 p).1 ≠ 0 then _ else _) = _
  rw [if_pos ⟨h, hs⟩]
theorem arl_p0 {T : TT} {K M : PH} {r : Nat} {c p : Int} (h : c ≤ 0) : arl T K M (r + 1) c p = if (pat T K (M 1 c) p).1 ≠ 0 then pat T K (M 1 c) p else arl T K M r (c + 1) (pat T K (M 1 c) p).2 := by
  show (if 0 < c ∧ (sgn T 44 p).1 ≠ 0 then _ else _) = _
  rw [if_neg (fun q => by omega), if_neg (show ¬ 0 < c by omega)]
theorem arl_p1 {T : TT} {K M : PH} {r : Nat} {c p : Int} (h : 0 < c) (hs : (sgn T 44 p).1 = 0) : arl T K M (r + 1) c p = if (pat T K (M 1 c) (tE T p)).1 ≠ 0 then pat T K (M 1 c) (tE T p) else arl T K M r (c + 1) (pat T K (M 1 c) (tE T p)).2 := by
  show (if 0 < c ∧ (sgn T 44 p).1 ≠ 0 then _ else _) = _
  rw [if_neg (fun q => q.2 hs), if_pos h]
noncomputable def arX1 (T : TT) (K M : PH) (p : Int) : Int × Int := arl T K M (M 0 0).toNat 0 (tE T p)
noncomputable def sAr (T : TT) (K M : PH) (p : Int) : Int × Int := if M 0 0 ≤ 0 then (1, tA T p) else if 12 ≤ M 0 2 then (6, tA T p) else if (arX1 T K M p).1 ≠ 0 then arX1 T K M p else if tO T (arX1 T K M p).2 = 4 then num T 0 7 (tE T (arX1 T K M p).2) else (0, (arX1 T K M p).2)
theorem sAr_s (T : TT) (K M : PH) (p : Int) : (M 0 0 ≤ 0 ∧ (sAr T K M p).1 = 1 ∧ (sAr T K M p).2 = tA T p) ∨ (0 < M 0 0 ∧ 12 ≤ M 0 2 ∧ (sAr T K M p).1 = 6 ∧ (sAr T K M p).2 = tA T p) ∨ (0 < M 0 0 ∧ M 0 2 ≤ 11 ∧ (arX1 T K M p).1 ≠ 0 ∧ (sAr T K M p).1 = (arX1 T K M p).1 ∧ (sAr T K M p).2 = (arX1 T K M p).2) ∨
    (0 < M 0 0 ∧ M 0 2 ≤ 11 ∧ (arX1 T K M p).1 = 0 ∧ tO T (arX1 T K M p).2 = 4 ∧ (sAr T K M p).1 = (num T 0 7 (tE T (arX1 T K M p).2)).1 ∧ (sAr T K M p).2 = (num T 0 7 (tE T (arX1 T K M p).2)).2) ∨ (0 < M 0 0 ∧ M 0 2 ≤ 11 ∧ (arX1 T K M p).1 = 0 ∧ tO T (arX1 T K M p).2 ≠ 4 ∧ (sAr T K M p).1 = 0 ∧ (sAr T K M p).2 = (arX1 T K M p).2) := by
  unfold sAr
  by_cases h : M 0 0 ≤ 0
  · rw [if_pos h]; exact Or.inl ⟨h, rfl, rfl⟩
  · rw [if_neg h]
    by_cases h2 : 12 ≤ M 0 2
    · rw [if_pos h2]; exact Or.inr (Or.inl ⟨by omega, h2, rfl, rfl⟩)
    · rw [if_neg h2]
      by_cases h3 : (arX1 T K M p).1 ≠ 0
      · rw [if_pos h3]; exact Or.inr (Or.inr (Or.inl ⟨by omega, by omega, h3, rfl, rfl⟩))
      · rw [if_neg h3]
        by_cases h4 : tO T (arX1 T K M p).2 = 4
        · rw [if_pos h4]; exact Or.inr (Or.inr (Or.inr (Or.inl ⟨by omega, by omega, by omega, h4, rfl, rfl⟩)))
        · rw [if_neg h4]; exact Or.inr (Or.inr (Or.inr (Or.inr ⟨by omega, by omega, by omega, h4, rfl, rfl⟩)))
def aNew (M : PH) (g : Int) : PH := up (up M 2 (M 0 2) g) 0 2 (M 0 2 + 1)
noncomputable def mAr (T : TT) (K M : PH) (p : Int) : PH := aNew M (if tO T (arX1 T K M p).2 = 4 then tV T (tE T (arX1 T K M p).2) else -1)
/-- a statement -/
noncomputable def sSt (T : TT) (K M : PH) (p : Int) : Int × Int :=
  if tO T p = 0 then sKi T K M p else if tO T p = 1 then sCo T K M p else if tO T p = 2 then ((sMa T K M p).1, (sMa T K M p).2.1) else if tO T p = 3 then sAr T K M p
  else if tO T p = 5 then num T 0 3 (tE T p) else if tO T p = 6 then num T 1 999 (tE T p) else (1, fh T p)
def kSt (T : TT) (K : PH) (p : Int) : PH := if tO T p = 0 then kNew K (tV T (tE T p)) else if tO T p = 1 then kCo T K p else K
noncomputable def mSt (T : TT) (K M : PH) (p : Int) : PH := if tO T p = 2 then (sMa T K M p).2.2 else if tO T p = 3 then mAr T K M p else if tO T p = 5 then up M 0 3 (tV T (tE T p)) else if tO T p = 6 then up M 0 4 (tV T (tE T p)) else M
/-- the statements: fault, place or how many, the tables -/
noncomputable def mlo (T : TT) : Nat → Int → PH → PH → Int → Int × Int × PH × PH
  | 0, n, K, M, p => if tK T p = 0 then (if M 0 0 ≤ 0 then 1 else 0, if M 0 0 ≤ 0 then tA T p else n, K, M) else (6, tA T p, K, M)
  | r + 1, n, K, M, p => if tK T p = 0 then (if M 0 0 ≤ 0 then 1 else 0, if M 0 0 ≤ 0 then tA T p else n, K, M)
    else if (sSt T K M p).1 ≠ 0 then ((sSt T K M p).1, (sSt T K M p).2, K, M)
    else if (sgn T 59 (sSt T K M p).2).1 ≠ 0 then ((sgn T 59 (sSt T K M p).2).1, (sgn T 59 (sSt T K M p).2).2, K, M)
    else mlo T r (n + 1) (kSt T K p) (mSt T K M p) (tE T (sSt T K M p).2)
theorem mlo_end {T : TT} {r : Nat} {n : Int} {K M : PH} {p : Int} (h : tK T p = 0) : mlo T r n K M p = (if M 0 0 ≤ 0 then 1 else 0, if M 0 0 ≤ 0 then tA T p else n, K, M) := by
  cases r with
  | zero => show (if tK T p = 0 then _ else _) = _; rw [if_pos h]
  | succ r => show (if tK T p = 0 then _ else _) = _; rw [if_pos h]
theorem mlo_much {T : TT} {n : Int} {K M : PH} {p : Int} (h : tK T p ≠ 0) : mlo T 0 n K M p = (6, tA T p, K, M) := by
  show (if tK T p = 0 then _ else _) = _
  rw [if_neg h]
theorem mlo_sF {T : TT} {r : Nat} {n : Int} {K M : PH} {p : Int} (h : tK T p ≠ 0) (h1 : (sSt T K M p).1 ≠ 0) : mlo T (r + 1) n K M p = ((sSt T K M p).1, (sSt T K M p).2, K, M) := by
  show (if tK T p = 0 then _ else _) = _
  rw [if_neg h, if_pos h1]
theorem mlo_eF {T : TT} {r : Nat} {n : Int} {K M : PH} {p : Int} (h : tK T p ≠ 0) (h1 : (sSt T K M p).1 = 0) (h2 : (sgn T 59 (sSt T K M p).2).1 ≠ 0) : mlo T (r + 1) n K M p = ((sgn T 59 (sSt T K M p).2).1, (sgn T 59 (sSt T K M p).2).2, K, M) := by
  show (if tK T p = 0 then _ else _) = _
  rw [if_neg h, if_neg (by omega), if_pos h2]
theorem mlo_go {T : TT} {r : Nat} {n : Int} {K M : PH} {p : Int} (h : tK T p ≠ 0) (h1 : (sSt T K M p).1 = 0) (h2 : (sgn T 59 (sSt T K M p).2).1 = 0) : mlo T (r + 1) n K M p = mlo T r (n + 1) (kSt T K p) (mSt T K M p) (tE T (sSt T K M p).2) := by
  show (if tK T p = 0 then _ else _) = _
  rw [if_neg h, if_neg (by omega), if_neg (by omega)]
def K0 : PH := fun _ _ => 0
def M0 : PH := up (fun _ _ => 0) 0 4 300
/-- a match's text -/
noncomputable def mlR (T : TT) : Int × Int × PH × PH := mlo T 60 0 K0 M0 0
