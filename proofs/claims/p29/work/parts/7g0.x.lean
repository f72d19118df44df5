section
/-! The text: a function and a length; runs of bytes of one sort; tokens by the place where the one ahead ends. -/
abbrev TT : Type := (Int → Int) × Int
def bL (c : Int) : Bool := decide (97 ≤ c ∧ c ≤ 122)
def bN (c : Int) : Bool := decide (48 ≤ c ∧ c ≤ 57)
def bW (c : Int) : Bool := decide (c = 32 ∨ c = 10)
theorem bL_t {c : Int} : bL c = true ↔ 97 ≤ c ∧ c ≤ 122 := by unfold bL; exact decide_eq_true_iff
theorem bN_t {c : Int} : bN c = true ↔ 48 ≤ c ∧ c ≤ 57 := by unfold bN; exact decide_eq_true_iff
theorem bW_t {c : Int} : bW c = true ↔ c = 32 ∨ c = 10 := by unfold bW; exact decide_eq_true_iff
def rEf (f : Int → Bool) (T : TT) : Nat → Int → Int
  | 0, p => p
  | k + 1, p => if p < T.2 ∧ f (T.1 p) = true then rEf f T k (p + 1) else p
/-- where a run from p on ends -/
def rE (f : Int → Bool) (T : TT) (p : Int) : Int := rEf f T (T.2 - p).toNat p
theorem rE_go {f : Int → Bool} {T : TT} {p : Int} (h : p < T.2) (hf : f (T.1 p) = true) : rE f T p = rE f T (p + 1) := by
  unfold rE
  have e : (T.2 - p).toNat = (T.2 - (p + 1)).toNat + 1 := by omega
  rw [e]
  show (if p < T.2 ∧ f (T.1 p) = true then _ else _) = _
  rw [if_pos ⟨h, hf⟩]
theorem rE_st {f : Int → Bool} {T : TT} {p : Int} (h : ¬ (p < T.2 ∧ f (T.1 p) = true)) : rE f T p = p := by
  unfold rE
  cases e : (T.2 - p).toNat with
  | zero => rfl
  | succ k =>
    show (if p < T.2 ∧ f (T.1 p) = true then _ else _) = _
    rw [if_neg h]
theorem rE_pr (f : Int → Bool) (T : TT) : ∀ (k : Nat) (p : Int), (T.2 - p).toNat ≤ k → p ≤ rE f T p ∧ (rE f T p ≤ T.2 ∨ rE f T p = p) ∧ (∀ i, p ≤ i → i < rE f T p → i < T.2 ∧ f (T.1 i) = true) ∧ ¬ (rE f T p < T.2 ∧ f (T.1 (rE f T p)) = true) := by
  intro k
  induction k with
  | zero =>
    intro p hp
    have e : rE f T p = p := rE_st (by omega)
    rw [e]
    exact ⟨Int.le_refl _, Or.inr rfl, fun i h1 h2 => by omega, by omega⟩
  | succ k ih =>
    intro p hp
    by_cases h : p < T.2 ∧ f (T.1 p) = true
    · have e : rE f T p = rE f T (p + 1) := rE_go h.1 h.2
      rw [e]
      obtain ⟨h1, h2, h3, h4⟩ := ih (p + 1) (by omega)
      refine ⟨by omega, ?_, fun i i1 i2 => ?_, h4⟩
      · rcases h2 with h2 | h2
        · exact Or.inl h2
        · exact Or.inl (by omega)
      · by_cases e2 : i = p
        · rw [e2]; exact h
        · exact h3 i (by omega) i2
    · have e : rE f T p = p := rE_st h
      rw [e]
      exact ⟨Int.le_refl _, Or.inr rfl, fun i h1 h2 => by omega, h⟩
theorem rE_ge (f : Int → Bool) (T : TT) (p : Int) : p ≤ rE f T p := (rE_pr f T _ p (Nat.le_refl _)).1
theorem rE_le {f : Int → Bool} {T : TT} {p : Int} (h : p ≤ T.2) : rE f T p ≤ T.2 := by
  rcases (rE_pr f T _ p (Nat.le_refl _)).2.1 with h1 | h1 <;> omega
theorem rE_in {f : Int → Bool} {T : TT} {p i : Int} (h1 : p ≤ i) (h2 : i < rE f T p) : i < T.2 ∧ f (T.1 i) = true := (rE_pr f T _ p (Nat.le_refl _)).2.2.1 i h1 h2
theorem rE_end (f : Int → Bool) (T : TT) (p : Int) : ¬ (rE f T p < T.2 ∧ f (T.1 (rE f T p)) = true) := (rE_pr f T _ p (Nat.le_refl _)).2.2.2
theorem rE_mid {f : Int → Bool} {T : TT} {p : Int} : ∀ (k : Nat), p + k ≤ rE f T p → rE f T (p + k) = rE f T p := by
  intro k
  induction k with
  | zero => intro _; simp
  | succ k ih =>
    intro h
    have e := ih (by omega)
    have hk := rE_in (f := f) (T := T) (p := p) (i := p + k) (by omega) (by omega)
    rw [← e, rE_go hk.1 hk.2]
    congr 1
    omega
/-! words and numbers -/
def e27 (g : Nat → Int) : Nat → Int
  | 0 => 0
  | k + 1 => e27 g k * 27 + g k
def e56 (g : Nat → Int) : Nat → Int
  | 0 => 0
  | k + 1 => e56 g k * 256 + (96 + g k)
def e10 (g : Nat → Int) : Nat → Int
  | 0 => 0
  | k + 1 => e10 g k * 10 + (g k - 48)
def tL (T : TT) (a : Int) : Nat → Int := fun i => T.1 (a + i) - 96
def tD (T : TT) (a : Int) : Nat → Int := fun i => T.1 (a + i)
def p27 : Nat → Int
  | 0 => 1
  | k + 1 => p27 k * 27
theorem e27_b {g : Nat → Int} : ∀ (k : Nat), k ≤ 6 → (∀ i, i < k → 0 ≤ g i ∧ g i ≤ 26) → 0 ≤ e27 g k ∧ e27 g k < p27 k := by
  intro k
  induction k with
  | zero => intro _ _; exact ⟨Int.le_refl _, show (0 : Int) < 1 by decide⟩
  | succ k ih =>
    intro hk h
    have h1 := ih (by omega) (fun i hi => h i (by omega))
    have h2 := h k (by omega)
    show 0 ≤ e27 g k * 27 + g k ∧ e27 g k * 27 + g k < p27 k * 27
    omega
theorem e56_b {g : Nat → Int} : ∀ (k : Nat), (∀ i, i < k → 1 ≤ g i ∧ g i ≤ 26) → 0 ≤ e56 g k ∧ (0 < k → 97 ≤ e56 g k) := by
  intro k
  induction k with
  | zero => intro _; exact ⟨Int.le_refl _, fun h => absurd h (Nat.not_lt_zero _)⟩
  | succ k ih =>
    intro h
    have h1 := ih (fun i hi => h i (by omega))
    have h2 := h k (by omega)
    show 0 ≤ e56 g k * 256 + (96 + g k) ∧ (0 < k + 1 → 97 ≤ e56 g k * 256 + (96 + g k))
    omega
theorem e56_inj {g h : Nat → Int} : ∀ (k j : Nat), (∀ i, i < k → 1 ≤ g i ∧ g i ≤ 26) → (∀ i, i < j → 1 ≤ h i ∧ h i ≤ 26) → e56 g k = e56 h j → k = j ∧ ∀ i, i < k → g i = h i := by
  intro k
  induction k with
  | zero =>
    intro j hg hh e
    cases j with
    | zero => exact ⟨rfl, fun i hi => absurd hi (Nat.not_lt_zero _)⟩
    | succ j =>
      have h1 := (e56_b (j + 1) hh).2 (Nat.succ_pos _)
      have h0 : e56 g 0 = 0 := rfl
      omega
  | succ k ih =>
    intro j hg hh e
    cases j with
    | zero =>
      have h1 := (e56_b (k + 1) hg).2 (Nat.succ_pos _)
      have h0 : e56 h 0 = 0 := rfl
      omega
    | succ j =>
      have e1 : e56 g k * 256 + (96 + g k) = e56 h j * 256 + (96 + h j) := e
      have b1 := hg k (by omega)
      have b2 := hh j (by omega)
      have e2 : g k = h j ∧ e56 g k = e56 h j := by omega
      obtain ⟨e3, e4⟩ := ih j (fun i hi => hg i (by omega)) (fun i hi => hh i (by omega)) e2.2
      subst e3
      refine ⟨rfl, fun i hi => ?_⟩
      by_cases h9 : i = k
      · rw [h9]; exact e2.1
      · exact e4 i (by omega)
theorem e27_inj {g h : Nat → Int} : ∀ (k : Nat), (∀ i, i < k → 0 ≤ g i ∧ g i ≤ 26) → (∀ i, i < k → 0 ≤ h i ∧ h i ≤ 26) → e27 g k = e27 h k → ∀ i, i < k → g i = h i := by
  intro k
  induction k with
  | zero => intro _ _ _ i hi; exact absurd hi (Nat.not_lt_zero _)
  | succ k ih =>
    intro hg hh e i hi
    have e1 : e27 g k * 27 + g k = e27 h k * 27 + h k := e
    have b1 := hg k (by omega)
    have b2 := hh k (by omega)
    have e2 : g k = h k ∧ e27 g k = e27 h k := by omega
    by_cases h9 : i = k
    · rw [h9]; exact e2.1
    · exact ih (fun i hi => hg i (by omega)) (fun i hi => hh i (by omega)) e2.2 i (by omega)
theorem e27_cg {g h : Nat → Int} : ∀ (k : Nat), (∀ i, i < k → g i = h i) → e27 g k = e27 h k := by
  intro k
  induction k with
  | zero => intro _; rfl
  | succ k ih =>
    intro e
    show e27 g k * 27 + g k = e27 h k * 27 + h k
    rw [ih (fun i hi => e i (by omega)), e k (by omega)]
theorem e56_cg {g h : Nat → Int} : ∀ (k : Nat), (∀ i, i < k → g i = h i) → e56 g k = e56 h k := by
  intro k
  induction k with
  | zero => intro _; rfl
  | succ k ih =>
    intro e
    show e56 g k * 256 + (96 + g k) = e56 h k * 256 + (96 + h k)
    rw [ih (fun i hi => e i (by omega)), e k (by omega)]
def tPad (g : Nat → Int) (L : Nat) : Nat → Int := fun i => if i < L then g i else 0
theorem e27_pad (g : Nat → Int) (L : Nat) : ∀ j : Nat, e27 (tPad g L) (L + j) = e27 g L * p27 j := by
  intro j
  induction j with
  | zero =>
    show e27 (tPad g L) L = e27 g L * 1
    rw [Int.mul_one]
    exact e27_cg L (fun i hi => by unfold tPad; rw [if_pos hi])
  | succ j ih =>
    show e27 (tPad g L) (L + j) * 27 + tPad g L (L + j) = e27 g L * (p27 j * 27)
    rw [ih, show tPad g L (L + j) = 0 by unfold tPad; rw [if_neg (by omega)], ← Int.mul_assoc]
    omega
/-- a name: by 27 (six letters, 0 behind it) and by 256 -/
def NW (v w : Int) : Prop := ∃ (g : Nat → Int) (L : Nat), 1 ≤ L ∧ L ≤ 6 ∧ (∀ i, i < L → 1 ≤ g i ∧ g i ≤ 26) ∧ v = e27 g L * p27 (6 - L) ∧ w = e56 g L
theorem NW.inj {v w v1 w1 : Int} (h : NW v w) (h1 : NW v1 w1) : v = v1 ↔ w = w1 := by
  obtain ⟨g, L, a1, a2, a3, a4, a5⟩ := h
  obtain ⟨g1, L1, b1, b2, b3, b4, b5⟩ := h1
  have pg : ∀ i, i < 6 → 0 ≤ tPad g L i ∧ tPad g L i ≤ 26 := by
    intro i _
    unfold tPad
    by_cases q : i < L
    · rw [if_pos q]; have := a3 i q; omega
    · rw [if_neg q]; omega
  have pg1 : ∀ i, i < 6 → 0 ≤ tPad g1 L1 i ∧ tPad g1 L1 i ≤ 26 := by
    intro i _
    unfold tPad
    by_cases q : i < L1
    · rw [if_pos q]; have := b3 i q; omega
    · rw [if_neg q]; omega
  have e1 : e27 (tPad g L) 6 = v := by rw [a4, ← e27_pad g L (6 - L), show L + (6 - L) = 6 by omega]
  have e2 : e27 (tPad g1 L1) 6 = v1 := by rw [b4, ← e27_pad g1 L1 (6 - L1), show L1 + (6 - L1) = 6 by omega]
  constructor
  · intro e
    have hq := e27_inj 6 pg pg1 (by rw [e1, e2, e])
    have hL : L = L1 := by
      rcases Nat.lt_trichotomy L L1 with q | q | q
      · have := hq L (by omega)
        unfold tPad at this
        rw [if_neg (by omega), if_pos q] at this
        have := b3 L q
        omega
      · exact q
      · have := hq L1 (by omega)
        unfold tPad at this
        rw [if_pos q, if_neg (by omega)] at this
        have := a3 L1 q
        omega
    subst hL
    rw [a5, b5]
    refine e56_cg L (fun i hi => ?_)
    have := hq i (by omega)
    unfold tPad at this
    rw [if_pos hi, if_pos hi] at this
    exact this
  · intro e
    obtain ⟨q1, q2⟩ := e56_inj L L1 a3 b3 (by rw [← a5, ← b5, e])
    subst q1
    rw [a4, b4, e27_cg L q2]
theorem NW.b {v w : Int} (h : NW v w) : 0 ≤ v ∧ v ≤ 387420488 := by
  obtain ⟨g, L, a1, a2, a3, a4, a5⟩ := h
  have pg : ∀ i, i < 6 → 0 ≤ tPad g L i ∧ tPad g L i ≤ 26 := by
    intro i _
    unfold tPad
    by_cases q : i < L
    · rw [if_pos q]; have := a3 i q; omega
    · rw [if_neg q]; omega
  have e1 : e27 (tPad g L) 6 = v := by rw [a4, ← e27_pad g L (6 - L), show L + (6 - L) = 6 by omega]
  have := e27_b 6 (Nat.le_refl _) pg
  rw [e1, show p27 6 = 387420489 by decide] at this
  omega
theorem NW.lit (l : List Int) (h1 : 1 ≤ l.length ∧ l.length ≤ 6) (h2 : ∀ x ∈ l, 1 ≤ x ∧ x ≤ 26) : NW (e27 (fun i => l.getD i 0) l.length * p27 (6 - l.length)) (e56 (fun i => l.getD i 0) l.length) :=
  ⟨fun i => l.getD i 0, l.length, h1.1, h1.2, fun i hi => by
    have e : l.getD i 0 = l[i] := by simp [List.getD, List.getElem?_eq_getElem hi]
    show 1 ≤ l.getD i 0 ∧ l.getD i 0 ≤ 26
    rw [e]
    exact h2 _ (List.getElem_mem hi), rfl, rfl⟩
/-- the own words: kind con match arm when rule budget num any or to -/
def oWL : List (List Int) := [[11, 9, 14, 4], [3, 15, 14], [13, 1, 20, 3, 8], [1, 18, 13], [23, 8, 5, 14], [18, 21, 12, 5], [2, 21, 4, 7, 5, 20], [14, 21, 13], [1, 14, 25], [15, 18], [20, 15]]
def o27 (k : Nat) : Int := e27 (fun i => (oWL.getD k []).getD i 0) (oWL.getD k []).length * p27 (6 - (oWL.getD k []).length)
def o56 (k : Nat) : Int := e56 (fun i => (oWL.getD k []).getD i 0) (oWL.getD k []).length
theorem NW.own (k : Nat) (hk : k < 11) : NW (o27 k) (o56 k) := by
  refine NW.lit (oWL.getD k []) ?_ ?_
  · exact (show ∀ k : Nat, k < 11 → 1 ≤ (oWL.getD k []).length ∧ (oWL.getD k []).length ≤ 6 by decide) k hk
  · exact (show ∀ k : Nat, k < 11 → ∀ x ∈ oWL.getD k [], 1 ≤ x ∧ x ≤ 26 by decide) k hk
def oWF (v : Int) : Nat → Int
  | 0 => -1
  | k + 1 => if o27 k = v then k else oWF v k
/-- which own word a name is by 27; none: -1 -/
def oWI (v : Int) : Int := oWF v 11
/-! tokens: 0 the end, 1 a word, 2 a number, 3 a sign, 4 what can't be anywhere -/
def tA (T : TT) (p : Int) : Int := rE bW T p
def tJ (T : TT) (p : Int) : Bool := decide (tA T p = p ∧ 0 < p) && (bL (T.1 (p - 1)) || bN (T.1 (p - 1)))
def tK (T : TT) (p : Int) : Int :=
  if T.2 ≤ tA T p then 0
  else if bL (T.1 (tA T p)) = false ∧ bN (T.1 (tA T p)) = false then 3
  else if tJ T p = true then 4
  else if bL (T.1 (tA T p)) = true then (if rE bL T (tA T p) - tA T p ≤ 6 then 1 else 4)
  else if rE bN T (tA T p) - tA T p ≤ 4 then 2 else 4
def tS (T : TT) (p : Int) : Int :=
  if tJ T p = true then tA T p else if bL (T.1 (tA T p)) = true then tA T p + 6 else tA T p + 4
def tE (T : TT) (p : Int) : Int :=
  if tK T p = 3 then tA T p + 1 else if tK T p = 1 then rE bL T (tA T p) else if tK T p = 2 then rE bN T (tA T p) else tA T p
def tN (T : TT) (p : Int) : Nat := (rE bL T (tA T p) - tA T p).toNat
def tM (T : TT) (p : Int) : Nat := (rE bN T (tA T p) - tA T p).toNat
def tV (T : TT) (p : Int) : Int :=
  if tK T p = 3 then T.1 (tA T p) else if tK T p = 1 then e27 (tL T (tA T p)) (tN T p) * p27 (6 - tN T p) else if tK T p = 2 then e10 (tD T (tA T p)) (tM T p) else 0
def tW (T : TT) (p : Int) : Int := e56 (tL T (tA T p)) (tN T p)
def tO (T : TT) (p : Int) : Int := if tK T p = 1 then oWI (tV T p) else -1
theorem tK_b (T : TT) (p : Int) : 0 ≤ tK T p ∧ tK T p ≤ 4 := by
  unfold tK
  repeat' split
  all_goals omega
theorem tA_ge (T : TT) (p : Int) : p ≤ tA T p := rE_ge _ _ _
theorem tA_le {T : TT} {p : Int} (h : p ≤ T.2) : tA T p ≤ T.2 := rE_le h
theorem tK_pos {T : TT} {p : Int} (h : tK T p ≠ 0) : tA T p < T.2 := by
  rcases Int.lt_or_le (tA T p) T.2 with h1 | h1
  · exact h1
  · exfalso; apply h; unfold tK; rw [if_pos h1]
theorem tK1 {T : TT} {p : Int} (h : tK T p = 1) : bL (T.1 (tA T p)) = true ∧ 1 ≤ tN T p ∧ tN T p ≤ 6 ∧ rE bL T (tA T p) = tA T p + tN T p ∧ tE T p = tA T p + tN T p ∧ tJ T p = false := by
  have hn := tK_pos (T := T) (p := p) (by omega)
  have h0 := h
  unfold tK at h
  rw [if_neg (by omega)] at h
  by_cases hs : bL (T.1 (tA T p)) = false ∧ bN (T.1 (tA T p)) = false
  · rw [if_pos hs] at h; omega
  · rw [if_neg hs] at h
    by_cases ha : tJ T p = true
    · rw [if_pos ha] at h; omega
    · rw [if_neg ha] at h
      by_cases hl : bL (T.1 (tA T p)) = true
      · rw [if_pos hl] at h
        by_cases h6 : rE bL T (tA T p) - tA T p ≤ 6
        · have hg : rE bL T (tA T p) = rE bL T (tA T p + 1) := rE_go hn hl
          have hge := rE_ge bL T (tA T p + 1)
          have hw : (tN T p : Int) = rE bL T (tA T p) - tA T p := by unfold tN; omega
          refine ⟨hl, by omega, by omega, by omega, ?_, by simpa using ha⟩
          unfold tE
          rw [if_neg (by omega), if_pos h0]
          omega
        · rw [if_neg h6] at h; omega
      · rw [if_neg hl] at h
        split at h <;> omega
theorem tK2 {T : TT} {p : Int} (h : tK T p = 2) : bL (T.1 (tA T p)) = false ∧ bN (T.1 (tA T p)) = true ∧ 1 ≤ tM T p ∧ tM T p ≤ 4 ∧ rE bN T (tA T p) = tA T p + tM T p ∧ tE T p = tA T p + tM T p ∧ tJ T p = false := by
  have hn := tK_pos (T := T) (p := p) (by omega)
  have h0 := h
  unfold tK at h
  rw [if_neg (by omega)] at h
  by_cases hs : bL (T.1 (tA T p)) = false ∧ bN (T.1 (tA T p)) = false
  · rw [if_pos hs] at h; omega
  · rw [if_neg hs] at h
    by_cases ha : tJ T p = true
    · rw [if_pos ha] at h; omega
    · rw [if_neg ha] at h
      by_cases hl : bL (T.1 (tA T p)) = true
      · rw [if_pos hl] at h
        split at h <;> omega
      · rw [if_neg hl] at h
        by_cases h6 : rE bN T (tA T p) - tA T p ≤ 4
        · have hl1 : bL (T.1 (tA T p)) = false := by simpa using hl
          have hN : bN (T.1 (tA T p)) = true := by
            cases hb : bN (T.1 (tA T p)) with
            | true => rfl
            | false => exact absurd ⟨hl1, hb⟩ hs
          have hg : rE bN T (tA T p) = rE bN T (tA T p + 1) := rE_go hn hN
          have hge := rE_ge bN T (tA T p + 1)
          have hw : (tM T p : Int) = rE bN T (tA T p) - tA T p := by unfold tM; omega
          refine ⟨hl1, hN, by omega, by omega, by omega, ?_, by simpa using ha⟩
          unfold tE
          rw [if_neg (by omega), if_neg (by omega), if_pos h0]
          omega
        · rw [if_neg h6] at h; omega
theorem tK3 {T : TT} {p : Int} (h : tK T p = 3) : bL (T.1 (tA T p)) = false ∧ bN (T.1 (tA T p)) = false ∧ tE T p = tA T p + 1 ∧ tV T p = T.1 (tA T p) := by
  have hn := tK_pos (T := T) (p := p) (by omega)
  have h0 := h
  unfold tK at h
  rw [if_neg (by omega)] at h
  by_cases hs : bL (T.1 (tA T p)) = false ∧ bN (T.1 (tA T p)) = false
  · refine ⟨hs.1, hs.2, ?_, ?_⟩
    · unfold tE; rw [if_pos h0]
    · unfold tV; rw [if_pos h0]
  · rw [if_neg hs] at h
    repeat' split at h
    all_goals omega
/-- behind a token -/
theorem tE_b {T : TT} {p : Int} (h : 1 ≤ tK T p ∧ tK T p ≤ 3) : p + 1 ≤ tE T p ∧ tA T p + 1 ≤ tE T p ∧ tE T p ≤ T.2 := by
  have hn := tK_pos (T := T) (p := p) (by omega)
  have hg := tA_ge T p
  rcases (show tK T p = 1 ∨ tK T p = 2 ∨ tK T p = 3 by omega) with h1 | h1 | h1
  · have := tK1 h1
    have hl := rE_le (f := bL) (T := T) (p := tA T p) (by omega)
    omega
  · have := tK2 h1
    have hl := rE_le (f := bN) (T := T) (p := tA T p) (by omega)
    omega
  · have := tK3 h1
    omega
/-- what stands just ahead of the place behind a token -/
theorem tE_c {T : TT} {p : Int} (h : 1 ≤ tK T p ∧ tK T p ≤ 3) : (bL (T.1 (tE T p - 1)) || bN (T.1 (tE T p - 1))) = decide (tK T p ≠ 3) := by
  have hg := tA_ge T p
  rcases (show tK T p = 1 ∨ tK T p = 2 ∨ tK T p = 3 by omega) with h1 | h1 | h1
  · have hw := tK1 h1
    have hi := rE_in (f := bL) (T := T) (p := tA T p) (i := tE T p - 1) (by omega) (by omega)
    rw [hi.2, h1]
    rfl
  · have hw := tK2 h1
    have hi := rE_in (f := bN) (T := T) (p := tA T p) (i := tE T p - 1) (by omega) (by omega)
    rw [hi.2, h1]
    simp
  · have hw := tK3 h1
    rw [show tE T p - 1 = tA T p by omega, hw.1, hw.2.1, h1]
    rfl
theorem NW.tok {T : TT} {p : Int} (h : tK T p = 1) : NW (tV T p) (tW T p) := by
  have hw := tK1 h
  refine ⟨tL T (tA T p), tN T p, hw.2.1, hw.2.2.1, fun i hi => ?_, ?_, rfl⟩
  · have hq := rE_in (f := bL) (T := T) (p := tA T p) (i := tA T p + i) (by omega) (by omega)
    have := bL_t.mp hq.2
    unfold tL
    omega
  · unfold tV
    rw [if_neg (by omega), if_pos h]
end
section
/-! Own words; what a reader of the text answers: a fault's kind (0: none) with the place where it goes on, or the fault's place. -/
theorem oWF_r (v : Int) : ∀ n : Nat, -1 ≤ oWF v n ∧ oWF v n < (n : Int) := by
  intro n
  induction n with
  | zero => exact ⟨Int.le_refl _, show (-1 : Int) < 0 by decide⟩
  | succ n ih =>
    show -1 ≤ (if o27 n = v then (n : Int) else oWF v n) ∧ (if o27 n = v then (n : Int) else oWF v n) < ((n + 1 : Nat) : Int)
    split <;> omega
theorem oWF_v (v : Int) : ∀ (n k : Nat), oWF v n = (k : Int) → o27 k = v := by
  intro n
  induction n with
  | zero => intro k h; exfalso; have h : (-1 : Int) = (k : Int) := h; omega
  | succ n ih =>
    intro k h
    have h : (if o27 n = v then (n : Int) else oWF v n) = (k : Int) := h
    by_cases e : o27 n = v
    · rw [if_pos e] at h
      rw [← show n = k by omega]
      exact e
    · rw [if_neg e] at h
      exact ih k h
theorem oWF_n (v : Int) : ∀ (n : Nat), oWF v n = -1 → ∀ k : Nat, k < n → o27 k ≠ v := by
  intro n
  induction n with
  | zero => intro _ k hk; exact absurd hk (Nat.not_lt_zero _)
  | succ n ih =>
    intro h k hk
    have h : (if o27 n = v then (n : Int) else oWF v n) = -1 := h
    by_cases e : o27 n = v
    · rw [if_pos e] at h; omega
    · rw [if_neg e] at h
      by_cases e2 : k = n
      · rw [e2]; exact e
      · exact ih h k (by omega)
theorem o27_inj : ∀ i : Nat, i < 11 → ∀ j : Nat, j < 11 → o27 i = o27 j → i = j := by decide +kernel
theorem oWI_is {v : Int} {k : Nat} (hk : k < 11) : oWI v = (k : Int) ↔ v = o27 k := by
  constructor
  · intro h; exact (oWF_v v 11 k h).symm
  · intro h
    have hr := oWF_r v 11
    rcases (show oWF v 11 = -1 ∨ 0 ≤ oWF v 11 by omega) with h1 | h1
    · exact absurd h.symm (oWF_n v 11 h1 k hk)
    · have e : oWF v 11 = ((oWF v 11).toNat : Int) := (Int.toNat_of_nonneg h1).symm
      have h2 := oWF_v v 11 _ e
      have h3 := o27_inj (oWF v 11).toNat (by omega) k hk (by rw [h2, h])
      show oWF v 11 = _
      omega
theorem tO_r (T : TT) (p : Int) : -1 ≤ tO T p ∧ tO T p ≤ 10 ∧ (tO T p = -1 ∨ tK T p = 1) := by
  unfold tO
  have hr := oWF_r (tV T p) 11
  by_cases h : tK T p = 1
  · rw [if_pos h]
    unfold oWI
    exact ⟨by omega, by omega, Or.inr h⟩
  · rw [if_neg h]
    exact ⟨Int.le_refl _, by omega, Or.inl rfl⟩
theorem own_is {T : TT} {p : Int} (k : Nat) (hk : k < 11) (w : Int) (hw : o56 k = w) : (tK T p = 1 ∧ tW T p = w) ↔ tO T p = (k : Int) := by
  subst hw
  constructor
  · intro h
    unfold tO
    rw [if_pos h.1]
    exact (oWI_is hk).mpr (((NW.tok h.1).inj (NW.own k hk)).mpr h.2)
  · intro h
    have h1 : tK T p = 1 := by
      rcases (tO_r T p).2.2 with q | q
      · omega
      · exact q
    refine ⟨h1, ((NW.tok h1).inj (NW.own k hk)).mp ?_⟩
    unfold tO at h
    rw [if_pos h1] at h
    exact (oWI_is hk).mp h
def oWS (w : Int) : Prop := ∃ k : Nat, k < 11 ∧ w = o56 k
theorem own_any {T : TT} {p : Int} (h : tK T p = 1) : oWS (tW T p) ↔ tO T p ≠ -1 := by
  have hr := tO_r T p
  constructor
  · intro ⟨k, hk, e⟩ q
    have := (own_is (T := T) (p := p) k hk _ rfl).mp ⟨h, e⟩
    omega
  · intro q
    refine ⟨(tO T p).toNat, by omega, ?_⟩
    exact ((own_is (T := T) (p := p) (tO T p).toNat (by omega) _ rfl).mpr (by omega)).2
theorem oWS_t {w : Int} (h : w = 1802071652 ∨ w = 6516590 ∨ w = 469786452840 ∨ w = 6386285 ∨ w = 2003330414 ∨ w = 1920298085 ∨ w = 108256335193460 ∨ w = 7239021 ∨ w = 6385273 ∨ w = 28530 ∨ w = 29807) : oWS w := by
  rcases h with h | h | h | h | h | h | h | h | h | h | h
  · exact ⟨0, by decide, h.trans (by decide +kernel)⟩
  · exact ⟨1, by decide, h.trans (by decide +kernel)⟩
  · exact ⟨2, by decide, h.trans (by decide +kernel)⟩
  · exact ⟨3, by decide, h.trans (by decide +kernel)⟩
  · exact ⟨4, by decide, h.trans (by decide +kernel)⟩
  · exact ⟨5, by decide, h.trans (by decide +kernel)⟩
  · exact ⟨6, by decide, h.trans (by decide +kernel)⟩
  · exact ⟨7, by decide, h.trans (by decide +kernel)⟩
  · exact ⟨8, by decide, h.trans (by decide +kernel)⟩
  · exact ⟨9, by decide, h.trans (by decide +kernel)⟩
  · exact ⟨10, by decide, h.trans (by decide +kernel)⟩
theorem o56_v : o56 0 = 1802071652 ∧ o56 1 = 6516590 ∧ o56 2 = 469786452840 ∧ o56 3 = 6386285 ∧ o56 4 = 2003330414 ∧ o56 5 = 1920298085 ∧ o56 6 = 108256335193460 ∧ o56 7 = 7239021 ∧ o56 8 = 6385273 ∧ o56 9 = 28530 ∧ o56 10 = 29807 := by decide +kernel
theorem oWS_f {w : Int} (h : w ≠ 1802071652 ∧ w ≠ 6516590 ∧ w ≠ 469786452840 ∧ w ≠ 6386285 ∧ w ≠ 2003330414 ∧ w ≠ 1920298085 ∧ w ≠ 108256335193460 ∧ w ≠ 7239021 ∧ w ≠ 6385273 ∧ w ≠ 28530 ∧ w ≠ 29807) : ¬ oWS w := by
  intro ⟨k, hk, e⟩
  have hv := o56_v
  rcases (show k = 0 ∨ k = 1 ∨ k = 2 ∨ k = 3 ∨ k = 4 ∨ k = 5 ∨ k = 6 ∨ k = 7 ∨ k = 8 ∨ k = 9 ∨ k = 10 by omega) with q | q | q | q | q | q | q | q | q | q | q <;> (rw [q] at e; omega)
/-- where a fault of a token itself is told -/
def fh (T : TT) (p : Int) : Int := if tK T p = 4 then tS T p else tA T p
theorem fh_s (T : TT) (p : Int) : (tK T p = 4 ∧ fh T p = tS T p) ∨ (tK T p ≠ 4 ∧ fh T p = tA T p) := by
  unfold fh
  by_cases h : tK T p = 4
  · rw [if_pos h]; exact Or.inl ⟨h, rfl⟩
  · rw [if_neg h]; exact Or.inr ⟨h, rfl⟩
/-- a sign -/
def sgn (T : TT) (c p : Int) : Int × Int := if tK T p = 3 ∧ tV T p = c then (0, tE T p) else (1, fh T p)
theorem sgn_s (T : TT) (c p : Int) : (tK T p = 3 ∧ tV T p = c ∧ (sgn T c p).1 = 0 ∧ (sgn T c p).2 = tE T p) ∨ ((tK T p ≠ 3 ∨ tV T p ≠ c) ∧ (sgn T c p).1 = 1 ∧ (sgn T c p).2 = fh T p) := by
  unfold sgn
  by_cases h : tK T p = 3 ∧ tV T p = c
  · rw [if_pos h]; exact Or.inl ⟨h.1, h.2, rfl, rfl⟩
  · rw [if_neg h]; exact Or.inr ⟨by omega, rfl, rfl⟩
/-- a number between two -/
def num (T : TT) (lo hi p : Int) : Int × Int := if tK T p = 2 then (if lo ≤ tV T p ∧ tV T p ≤ hi then (0, tE T p) else (4, tA T p)) else (1, fh T p)
theorem num_s (T : TT) (lo hi p : Int) : (tK T p = 2 ∧ lo ≤ tV T p ∧ tV T p ≤ hi ∧ (num T lo hi p).1 = 0 ∧ (num T lo hi p).2 = tE T p) ∨ (tK T p = 2 ∧ (tV T p < lo ∨ hi < tV T p) ∧ (num T lo hi p).1 = 4 ∧ (num T lo hi p).2 = tA T p) ∨ (tK T p ≠ 2 ∧ (num T lo hi p).1 = 1 ∧ (num T lo hi p).2 = fh T p) := by
  unfold num
  by_cases h : tK T p = 2
  · rw [if_pos h]
    by_cases h2 : lo ≤ tV T p ∧ tV T p ≤ hi
    · rw [if_pos h2]; exact Or.inl ⟨h, h2.1, h2.2, rfl, rfl⟩
    · rw [if_neg h2]; exact Or.inr (Or.inl ⟨h, by omega, rfl, rfl⟩)
  · rw [if_neg h]; exact Or.inr (Or.inr ⟨h, rfl, rfl⟩)
/-- the first place of a value in a row -/
def fxi (g : Int → Int) (v : Int) : Nat → Int
  | 0 => -1
  | n + 1 => if fxi g v n ≠ -1 then fxi g v n else if g n = v then n else -1
theorem fxi_b (g : Int → Int) (v : Int) : ∀ n : Nat, -1 ≤ fxi g v n ∧ fxi g v n < n ∧ (fxi g v n = -1 ∨ g (fxi g v n) = v) := by
  intro n
  induction n with
  | zero => exact ⟨Int.le_refl _, by show (-1 : Int) < 0; omega, Or.inl rfl⟩
  | succ n ih =>
    show -1 ≤ (if fxi g v n ≠ -1 then fxi g v n else if g n = v then (n : Int) else -1) ∧ (if fxi g v n ≠ -1 then fxi g v n else if g n = v then (n : Int) else -1) < ((n + 1 : Nat) : Int) ∧ ((if fxi g v n ≠ -1 then fxi g v n else if g n = v then (n : Int) else -1) = -1 ∨ g (if fxi g v n ≠ -1 then fxi g v n else if g n = v then (n : Int) else -1) = v)
    by_cases h : fxi g v n ≠ -1
    · rw [if_pos h]
      exact ⟨ih.1, by omega, ih.2.2⟩
    · rw [if_neg h]
      by_cases h2 : g n = v
      · rw [if_pos h2]; exact ⟨by omega, by omega, Or.inr h2⟩
      · rw [if_neg h2]; exact ⟨Int.le_refl _, by omega, Or.inl rfl⟩
theorem fxi_none {g : Int → Int} {v : Int} : ∀ n : Nat, (∀ i : Int, 0 ≤ i → i < n → g i ≠ v) → fxi g v n = -1 := by
  intro n
  induction n with
  | zero => intro _; rfl
  | succ n ih =>
    intro h
    show (if fxi g v n ≠ -1 then fxi g v n else if g n = v then (n : Int) else -1) = -1
    rw [if_neg (fun q => q (ih (fun i h1 h2 => h i h1 (by omega)))), if_neg (h n (by omega) (by omega))]
theorem fxi_some {g : Int → Int} {v r : Int} (h0 : 0 ≤ r) (hr : g r = v) (hf : ∀ i : Int, 0 ≤ i → i < r → g i ≠ v) : ∀ n : Nat, r < n → fxi g v n = r := by
  intro n
  induction n with
  | zero => intro h; exfalso; have h : r < 0 := h; omega
  | succ n ih =>
    intro h
    show (if fxi g v n ≠ -1 then fxi g v n else if g n = v then (n : Int) else -1) = r
    by_cases e : r < n
    · rw [ih e, if_pos (by omega)]
    · have e : r = n := by omega
      rw [if_neg (fun q => q (fxi_none n (fun i h1 h2 => hf i h1 (by omega)))), if_pos (by rw [← e]; exact hr)]
      exact e.symm
theorem fxi_cg {g h : Int → Int} {v w : Int} : ∀ n : Nat, (∀ i : Int, 0 ≤ i → i < n → (g i = v ↔ h i = w)) → fxi g v n = fxi h w n := by
  intro n
  induction n with
  | zero => intro _; rfl
  | succ n ih =>
    intro e
    show (if fxi g v n ≠ -1 then fxi g v n else if g n = v then (n : Int) else -1) = (if fxi h w n ≠ -1 then fxi h w n else if h n = w then (n : Int) else -1)
    rw [ih (fun i h1 h2 => e i h1 (by omega))]
    by_cases q : g n = v
    · rw [if_pos q, if_pos ((e n (by omega) (by omega)).mp q)]
    · rw [if_neg q, if_neg (fun z => q ((e n (by omega) (by omega)).mpr z))]
/-! The tables told: K (kinds): 0 [kinds, cons], 1 names, 2 values, 3 constructors, 9 the first one; of constructors 4 names, 5 kind, 6 how many fields, 7 and 8 their kinds (-1: num), 10 the first value. M (the match): 0 [columns, rows, arms, rule, budget], 1 kinds of columns, 2 guards. -/
def kNm (K : PH) (v : Int) : Int := fxi (K 1) v (K 0 0).toNat
def cNm (K : PH) (v : Int) : Int := fxi (K 4) v (K 0 1).toNat
/-- a new name -/
def fre (T : TT) (K : PH) (p : Int) : Int × Int := if tK T p = 1 ∧ tO T p = -1 then (if kNm K (tV T p) = -1 ∧ cNm K (tV T p) = -1 then (0, tE T p) else (2, tA T p)) else (1, fh T p)
theorem fre_s (T : TT) (K : PH) (p : Int) : (tK T p = 1 ∧ tO T p = -1 ∧ kNm K (tV T p) = -1 ∧ cNm K (tV T p) = -1 ∧ (fre T K p).1 = 0 ∧ (fre T K p).2 = tE T p) ∨ (tK T p = 1 ∧ tO T p = -1 ∧ (kNm K (tV T p) ≠ -1 ∨ cNm K (tV T p) ≠ -1) ∧ (fre T K p).1 = 2 ∧ (fre T K p).2 = tA T p) ∨ ((tK T p ≠ 1 ∨ tO T p ≠ -1) ∧ (fre T K p).1 = 1 ∧ (fre T K p).2 = fh T p) := by
  unfold fre
  by_cases h : tK T p = 1 ∧ tO T p = -1
  · rw [if_pos h]
    by_cases h2 : kNm K (tV T p) = -1 ∧ cNm K (tV T p) = -1
    · rw [if_pos h2]; exact Or.inl ⟨h.1, h.2, h2.1, h2.2, rfl, rfl⟩
    · rw [if_neg h2]; exact Or.inr (Or.inl ⟨h.1, h.2, by omega, rfl, rfl⟩)
  · rw [if_neg h]; exact Or.inr (Or.inr ⟨by omega, rfl, rfl⟩)
def kNew (K : PH) (v : Int) : PH := up (up (up (up (up K 1 (K 0 0) v) 2 (K 0 0) 0) 3 (K 0 0) 0) 9 (K 0 0) (K 0 1)) 0 0 (K 0 0 + 1)
/-- kind NAME -/
def sKi (T : TT) (K M : PH) (p : Int) : Int × Int := if 0 < M 0 0 then (1, tA T p) else if 4 ≤ K 0 0 then (6, tA T p) else fre T K (tE T p)
theorem sKi_s (T : TT) (K M : PH) (p : Int) : (0 < M 0 0 ∧ (sKi T K M p).1 = 1 ∧ (sKi T K M p).2 = tA T p) ∨ (M 0 0 ≤ 0 ∧ 4 ≤ K 0 0 ∧ (sKi T K M p).1 = 6 ∧ (sKi T K M p).2 = tA T p) ∨ (M 0 0 ≤ 0 ∧ K 0 0 ≤ 3 ∧ (sKi T K M p).1 = (fre T K (tE T p)).1 ∧ (sKi T K M p).2 = (fre T K (tE T p)).2) := by
  unfold sKi
  by_cases h : 0 < M 0 0
  · rw [if_pos h]; exact Or.inl ⟨h, rfl, rfl⟩
  · rw [if_neg h]
    by_cases h2 : 4 ≤ K 0 0
    · rw [if_pos h2]; exact Or.inr (Or.inl ⟨by omega, h2, rfl, rfl⟩)
    · rw [if_neg h2]; exact Or.inr (Or.inr ⟨by omega, by omega, rfl, rfl⟩)
/-- the kind that a word names: num -1 -/
def kHe (T : TT) (K : PH) (p : Int) : Int := if tO T p = 7 then -1 else kNm K (tV T p)
theorem kHe_s (T : TT) (K : PH) (p : Int) : (tO T p = 7 ∧ kHe T K p = -1) ∨ (tO T p ≠ 7 ∧ kHe T K p = kNm K (tV T p)) := by
  unfold kHe
  by_cases h : tO T p = 7
  · rw [if_pos h]; exact Or.inl ⟨h, rfl⟩
  · rw [if_neg h]; exact Or.inr ⟨h, rfl⟩
def sz (K : PH) (k : Int) : Int := if k = -1 then 20 else K 2 k
theorem sz_s (K : PH) (k : Int) : (k = -1 ∧ sz K k = 20) ∨ (k ≠ -1 ∧ sz K k = K 2 k) := by
  unfold sz
  by_cases h : k = -1
  · rw [if_pos h]; exact Or.inl ⟨h, rfl⟩
  · rw [if_neg h]; exact Or.inr ⟨h, rfl⟩
/-- a field: 0 it stands here and is good, 1 no word of a kind, else the fault -/
def kGo (T : TT) (K : PH) (but n many of its most p : Int) : Int :=
  if tK T p = 1 ∧ (tO T p = -1 ∨ tO T p = 7) then
    (if many ≤ n then 6 else if tO T p ≠ 7 ∧ (kHe T K p = -1 ∨ kHe T K p = but ∨ K 3 (kHe T K p) ≤ 0) then 3 else if most < of + its * sz K (kHe T K p) then 4 else 0) else 1
theorem kGo_s (T : TT) (K : PH) (but n many of its most p : Int) :
    ((tK T p ≠ 1 ∨ (tO T p ≠ -1 ∧ tO T p ≠ 7)) ∧ kGo T K but n many of its most p = 1) ∨
    (tK T p = 1 ∧ (tO T p = -1 ∨ tO T p = 7) ∧ many ≤ n ∧ kGo T K but n many of its most p = 6) ∨
    (tK T p = 1 ∧ tO T p = -1 ∧ n < many ∧ (kHe T K p = -1 ∨ kHe T K p = but ∨ K 3 (kHe T K p) ≤ 0) ∧ kGo T K but n many of its most p = 3) ∨
    (tK T p = 1 ∧ (tO T p = -1 ∨ tO T p = 7) ∧ n < many ∧ (tO T p = 7 ∨ (kHe T K p ≠ -1 ∧ kHe T K p ≠ but ∧ 1 ≤ K 3 (kHe T K p))) ∧ most < of + its * sz K (kHe T K p) ∧ kGo T K but n many of its most p = 4) ∨
    (tK T p = 1 ∧ (tO T p = -1 ∨ tO T p = 7) ∧ n < many ∧ (tO T p = 7 ∨ (kHe T K p ≠ -1 ∧ kHe T K p ≠ but ∧ 1 ≤ K 3 (kHe T K p))) ∧ of + its * sz K (kHe T K p) ≤ most ∧ kGo T K but n many of its most p = 0) := by
  unfold kGo
  by_cases h : tK T p = 1 ∧ (tO T p = -1 ∨ tO T p = 7)
  · rw [if_pos h]
    by_cases h2 : many ≤ n
    · rw [if_pos h2]; exact Or.inr (Or.inl ⟨h.1, h.2, h2, rfl⟩)
    · rw [if_neg h2]
      by_cases h3 : tO T p ≠ 7 ∧ (kHe T K p = -1 ∨ kHe T K p = but ∨ K 3 (kHe T K p) ≤ 0)
      · rw [if_pos h3]; exact Or.inr (Or.inr (Or.inl ⟨h.1, by omega, by omega, h3.2, rfl⟩))
      · rw [if_neg h3]
        by_cases h4 : most < of + its * sz K (kHe T K p)
        · rw [if_pos h4]; exact Or.inr (Or.inr (Or.inr (Or.inl ⟨h.1, h.2, by omega, by omega, h4, rfl⟩)))
        · rw [if_neg h4]; exact Or.inr (Or.inr (Or.inr (Or.inr ⟨h.1, h.2, by omega, by omega, by omega, rfl⟩)))
  · rw [if_neg h]; exact Or.inl ⟨by omega, rfl⟩
/-- the fields of a constructor: fault, place, how many, kinds, values -/
def fld (T : TT) (K : PH) : Nat → Int → Int → Int → Int → Int → Int × Int × Int × Int × Int × Int
  | 0, n, a, b, i, p => (if kGo T K (K 0 0 - 1) n 2 (K 2 (K 0 0 - 1)) i 2000 p = 1 then 0 else kGo T K (K 0 0 - 1) n 2 (K 2 (K 0 0 - 1)) i 2000 p, if kGo T K (K 0 0 - 1) n 2 (K 2 (K 0 0 - 1)) i 2000 p = 1 then p else tA T p, n, a, b, i)
  | r + 1, n, a, b, i, p =>
    if kGo T K (K 0 0 - 1) n 2 (K 2 (K 0 0 - 1)) i 2000 p = 0 then fld T K r (n + 1) (if n = 0 then kHe T K p else a) (if n = 0 then b else kHe T K p) (i * sz K (kHe T K p)) (tE T p)
    else (if kGo T K (K 0 0 - 1) n 2 (K 2 (K 0 0 - 1)) i 2000 p = 1 then 0 else kGo T K (K 0 0 - 1) n 2 (K 2 (K 0 0 - 1)) i 2000 p, if kGo T K (K 0 0 - 1) n 2 (K 2 (K 0 0 - 1)) i 2000 p = 1 then p else tA T p, n, a, b, i)
theorem fld_end {T : TT} {K : PH} {r : Nat} {n a b i p : Int} (h : kGo T K (K 0 0 - 1) n 2 (K 2 (K 0 0 - 1)) i 2000 p = 1) : fld T K r n a b i p = (0, p, n, a, b, i) := by
  cases r with
  | zero => show (_, _, n, a, b, i) = _; rw [if_pos h, if_pos h]
  | succ r => show (if _ then _ else (_, _, n, a, b, i)) = _; rw [if_neg (by omega), if_pos h, if_pos h]
theorem fld_bad {T : TT} {K : PH} {r : Nat} {n a b i p : Int} (h : kGo T K (K 0 0 - 1) n 2 (K 2 (K 0 0 - 1)) i 2000 p ≠ 1) (h0 : kGo T K (K 0 0 - 1) n 2 (K 2 (K 0 0 - 1)) i 2000 p ≠ 0) : fld T K r n a b i p = (kGo T K (K 0 0 - 1) n 2 (K 2 (K 0 0 - 1)) i 2000 p, tA T p, n, a, b, i) := by
  cases r with
  | zero => show (_, _, n, a, b, i) = _; rw [if_neg h, if_neg h]
  | succ r => show (if _ then _ else (_, _, n, a, b, i)) = _; rw [if_neg h0, if_neg h, if_neg h]
theorem fld_go {T : TT} {K : PH} {r : Nat} {n a b i p : Int} (h0 : kGo T K (K 0 0 - 1) n 2 (K 2 (K 0 0 - 1)) i 2000 p = 0) : fld T K (r + 1) n a b i p = fld T K r (n + 1) (if n = 0 then kHe T K p else a) (if n = 0 then b else kHe T K p) (i * sz K (kHe T K p)) (tE T p) := by
  show (if _ then _ else _) = _
  rw [if_pos h0]
def fldX (T : TT) (K : PH) (p : Int) : Int × Int × Int × Int × Int × Int := fld T K 2 0 (-1) (-1) 1 p
def cNew (K : PH) (v n a b i : Int) : PH :=
  up (up (up (up (up (up (up (up (up K 4 (K 0 1) v) 5 (K 0 1) (K 0 0 - 1)) 6 (K 0 1) n) 7 (K 0 1) a) 8 (K 0 1) b) 10 (K 0 1) (K 2 (K 0 0 - 1))) 2 (K 0 0 - 1) (K 2 (K 0 0 - 1) + i)) 3 (K 0 0 - 1) (K 3 (K 0 0 - 1) + 1)) 0 1 (K 0 1 + 1)
/-- con NAME fields -/
def sCo (T : TT) (K M : PH) (p : Int) : Int × Int := if 0 < M 0 0 ∨ K 0 0 ≤ 0 then (1, tA T p) else if 6 ≤ K 3 (K 0 0 - 1) then (6, tA T p) else if (fre T K (tE T p)).1 = 0 then ((fldX T K (fre T K (tE T p)).2).1, (fldX T K (fre T K (tE T p)).2).2.1) else fre T K (tE T p)
theorem sCo_s (T : TT) (K M : PH) (p : Int) : ((0 < M 0 0 ∨ K 0 0 ≤ 0) ∧ (sCo T K M p).1 = 1 ∧ (sCo T K M p).2 = tA T p) ∨ (M 0 0 ≤ 0 ∧ 1 ≤ K 0 0 ∧ 6 ≤ K 3 (K 0 0 - 1) ∧ (sCo T K M p).1 = 6 ∧ (sCo T K M p).2 = tA T p) ∨ (M 0 0 ≤ 0 ∧ 1 ≤ K 0 0 ∧ K 3 (K 0 0 - 1) ≤ 5 ∧ (fre T K (tE T p)).1 ≠ 0 ∧ (sCo T K M p).1 = (fre T K (tE T p)).1 ∧ (sCo T K M p).2 = (fre T K (tE T p)).2) ∨ (M 0 0 ≤ 0 ∧ 1 ≤ K 0 0 ∧ K 3 (K 0 0 - 1) ≤ 5 ∧ (fre T K (tE T p)).1 = 0 ∧ (sCo T K M p).1 = (fldX T K (fre T K (tE T p)).2).1 ∧ (sCo T K M p).2 = (fldX T K (fre T K (tE T p)).2).2.1) := by
  unfold sCo
  by_cases h : 0 < M 0 0 ∨ K 0 0 ≤ 0
  · rw [if_pos h]; exact Or.inl ⟨h, rfl, rfl⟩
  · rw [if_neg h]
    by_cases h2 : 6 ≤ K 3 (K 0 0 - 1)
    · rw [if_pos h2]; exact Or.inr (Or.inl ⟨by omega, by omega, h2, rfl, rfl⟩)
    · rw [if_neg h2]
      by_cases h3 : (fre T K (tE T p)).1 = 0
      · rw [if_pos h3]; exact Or.inr (Or.inr (Or.inr ⟨by omega, by omega, by omega, h3, rfl, rfl⟩))
      · rw [if_neg h3]; exact Or.inr (Or.inr (Or.inl ⟨by omega, by omega, by omega, h3, rfl, rfl⟩))
def kCo (T : TT) (K : PH) (p : Int) : PH := cNew K (tV T (tE T p)) (fldX T K (tE T (tE T p))).2.2.1 (fldX T K (tE T (tE T p))).2.2.2.1 (fldX T K (tE T (tE T p))).2.2.2.2.1 (fldX T K (tE T (tE T p))).2.2.2.2.2
/-- columns: fault, place, the match -/
def mCol (M : PH) (k rows : Int) : PH := up (up (up M 1 (M 0 0) k) 0 0 (M 0 0 + 1)) 0 1 rows
def col (T : TT) (K : PH) : Nat → PH → Int → Int → Int × Int × PH
  | 0, M, i, p => (if kGo T K (-1) (M 0 0) 4 0 i 20000 p = 1 then 0 else kGo T K (-1) (M 0 0) 4 0 i 20000 p, if kGo T K (-1) (M 0 0) 4 0 i 20000 p = 1 then p else tA T p, M)
  | r + 1, M, i, p =>
    if kGo T K (-1) (M 0 0) 4 0 i 20000 p = 0 then col T K r (mCol M (kHe T K p) (i * sz K (kHe T K p))) (i * sz K (kHe T K p)) (tE T p)
    else (if kGo T K (-1) (M 0 0) 4 0 i 20000 p = 1 then 0 else kGo T K (-1) (M 0 0) 4 0 i 20000 p, if kGo T K (-1) (M 0 0) 4 0 i 20000 p = 1 then p else tA T p, M)
theorem col_end {T : TT} {K : PH} {r : Nat} {M : PH} {i p : Int} (h : kGo T K (-1) (M 0 0) 4 0 i 20000 p = 1) : col T K r M i p = (0, p, M) := by
  cases r with
  | zero => show (_, _, M) = _; rw [if_pos h, if_pos h]
  | succ r => show (if _ then _ else (_, _, M)) = _; rw [if_neg (by omega), if_pos h, if_pos h]
theorem col_bad {T : TT} {K : PH} {r : Nat} {M : PH} {i p : Int} (h : kGo T K (-1) (M 0 0) 4 0 i 20000 p ≠ 1) (h0 : kGo T K (-1) (M 0 0) 4 0 i 20000 p ≠ 0) : col T K r M i p = (kGo T K (-1) (M 0 0) 4 0 i 20000 p, tA T p, M) := by
  cases r with
  | zero => show (_, _, M) = _; rw [if_neg h, if_neg h]
  | succ r => show (if _ then _ else (_, _, M)) = _; rw [if_neg h0, if_neg h, if_neg h]
theorem col_go {T : TT} {K : PH} {r : Nat} {M : PH} {i p : Int} (h0 : kGo T K (-1) (M 0 0) 4 0 i 20000 p = 0) : col T K (r + 1) M i p = col T K r (mCol M (kHe T K p) (i * sz K (kHe T K p))) (i * sz K (kHe T K p)) (tE T p) := by
  show (if _ then _ else _) = _
  rw [if_pos h0]
/-- match KIND .. -/
def sMa (T : TT) (K M : PH) (p : Int) : Int × Int × PH := if 0 < M 0 0 then (6, tA T p, M) else if tK T (tE T p) = 1 ∧ (tO T (tE T p) = -1 ∨ tO T (tE T p) = 7) then col T K 4 M 1 (tE T p) else (1, fh T (tE T p), M)
theorem sMa_s (T : TT) (K M : PH) (p : Int) : (0 < M 0 0 ∧ (sMa T K M p).1 = 6 ∧ (sMa T K M p).2.1 = tA T p) ∨ (M 0 0 ≤ 0 ∧ (tK T (tE T p) ≠ 1 ∨ (tO T (tE T p) ≠ -1 ∧ tO T (tE T p) ≠ 7)) ∧ (sMa T K M p).1 = 1 ∧ (sMa T K M p).2.1 = fh T (tE T p)) ∨ (M 0 0 ≤ 0 ∧ tK T (tE T p) = 1 ∧ (tO T (tE T p) = -1 ∨ tO T (tE T p) = 7) ∧ (sMa T K M p).1 = (col T K 4 M 1 (tE T p)).1 ∧ (sMa T K M p).2.1 = (col T K 4 M 1 (tE T p)).2.1) := by
  unfold sMa
  by_cases h : 0 < M 0 0
  · rw [if_pos h]; exact Or.inl ⟨h, rfl, rfl⟩
  · rw [if_neg h]
    by_cases h2 : tK T (tE T p) = 1 ∧ (tO T (tE T p) = -1 ∨ tO T (tE T p) = 7)
    · rw [if_pos h2]; exact Or.inr (Or.inr ⟨by omega, h2.1, h2.2, rfl, rfl⟩)
    · rw [if_neg h2]; exact Or.inr (Or.inl ⟨by omega, by omega, rfl, rfl⟩)
theorem sMa_M {T : TT} {K M : PH} {p : Int} (h : M 0 0 ≤ 0) (h2 : tK T (tE T p) = 1 ∧ (tO T (tE T p) = -1 ∨ tO T (tE T p) = 7)) : sMa T K M p = col T K 4 M 1 (tE T p) := by
  unfold sMa
  rw [if_neg (by omega), if_pos h2]
/-- how many values a constructor has -/
def cpr (K : PH) (c : Int) : Int := if K 6 c = 0 then 1 else if K 6 c = 1 then sz K (K 7 c) else sz K (K 7 c) * sz K (K 8 c)
end
section
/-! Patterns: a small machine over a stack of (constructor, field, kind). -/
/-- a range of numbers -/
def rng (T : TT) (p : Int) : Int × Int := if (num T 0 19 p).1 = 0 then (if tO T (tE T p) = 10 then num T (tV T p) 19 (tE T (tE T p)) else (0, tE T p)) else num T 0 19 p
theorem rng_s (T : TT) (p : Int) : ((num T 0 19 p).1 ≠ 0 ∧ (rng T p).1 = (num T 0 19 p).1 ∧ (rng T p).2 = (num T 0 19 p).2) ∨ ((num T 0 19 p).1 = 0 ∧ tO T (tE T p) ≠ 10 ∧ (rng T p).1 = 0 ∧ (rng T p).2 = tE T p) ∨ ((num T 0 19 p).1 = 0 ∧ tO T (tE T p) = 10 ∧ (rng T p).1 = (num T (tV T p) 19 (tE T (tE T p))).1 ∧ (rng T p).2 = (num T (tV T p) 19 (tE T (tE T p))).2) := by
  unfold rng
  by_cases h : (num T 0 19 p).1 = 0
  · rw [if_pos h]
    by_cases h2 : tO T (tE T p) = 10
    · rw [if_pos h2]; exact Or.inr (Or.inr ⟨h, h2, rfl, rfl⟩)
    · rw [if_neg h2]; exact Or.inr (Or.inl ⟨h, h2, rfl, rfl⟩)
  · rw [if_neg h]; exact Or.inl ⟨h, rfl, rfl⟩
/-- a constructor's name -/
def cas (T : TT) (K : PH) (k p : Int) : Int × Int := if tK T p = 1 ∧ tO T p = -1 then (if cNm K (tV T p) ≠ -1 ∧ K 5 (cNm K (tV T p)) = k then (0, tE T p) else (3, tA T p)) else (1, fh T p)
theorem cas_s (T : TT) (K : PH) (k p : Int) : (tK T p = 1 ∧ tO T p = -1 ∧ cNm K (tV T p) ≠ -1 ∧ K 5 (cNm K (tV T p)) = k ∧ (cas T K k p).1 = 0 ∧ (cas T K k p).2 = tE T p) ∨ (tK T p = 1 ∧ tO T p = -1 ∧ (cNm K (tV T p) = -1 ∨ K 5 (cNm K (tV T p)) ≠ k) ∧ (cas T K k p).1 = 3 ∧ (cas T K k p).2 = tA T p) ∨ ((tK T p ≠ 1 ∨ tO T p ≠ -1) ∧ (cas T K k p).1 = 1 ∧ (cas T K k p).2 = fh T p) := by
  unfold cas
  by_cases h : tK T p = 1 ∧ tO T p = -1
  · rw [if_pos h]
    by_cases h2 : cNm K (tV T p) ≠ -1 ∧ K 5 (cNm K (tV T p)) = k
    · rw [if_pos h2]; exact Or.inl ⟨h.1, h.2, h2.1, h2.2, rfl, rfl⟩
    · rw [if_neg h2]; exact Or.inr (Or.inl ⟨h.1, h.2, by omega, rfl, rfl⟩)
  · rw [if_neg h]; exact Or.inr (Or.inr ⟨by omega, rfl, rfl⟩)
/-- a step of a pattern's meaning, and the codes behind one another, the latest first -/
abbrev OP : Type := Int × Int × Int
/-- frames, whether there are alternatives so far, the codes so far -/
abbrev SK : Type := List (Int × Int × Int × Int) × Int × List OP
def em (s : SK) (x : OP) : SK := (s.1, s.2.1, x :: s.2.2)
def adL (s : SK) (L : List OP) : SK := (s.1, s.2.1, L ++ s.2.2)
def orE (a : Int) (E : List OP) : List OP := if 0 < a then (6, 0, 0) :: E else E
def alE (s : SK) : SK := (s.1, 1, orE s.2.1 s.2.2)
/-- a field of a constructor begins -/
def fbS (s : SK) (c f k : Int) : SK := ((c, f, k, s.2.1) :: s.1, 0, (3, c, f) :: s.2.2)
def poS (s : SK) (a : Int) (s1 : List (Int × Int × Int × Int)) : SK := (s1, a, (5, 0, 0) :: (4, 0, 0) :: (alE s).2.2)
/-- the upper end of a range -/
def hiV (T : TT) (p : Int) : Int := if tO T (tE T p) = 10 then tV T (tE T (tE T p)) else tV T p
abbrev XR : Type := Int × Int × List OP
def fx (x : Int × Int) : XR := (x.1, x.2, [])
def prun (T : TT) (K : PH) : Nat → Int → SK → Int → Int → Option XR
  | 0, _, _, _, _ => none
  | n + 1, m, s, k, p => (if m = 0 then
      (if tO T p = 8 then prun T K n 1 (em s (0, 0, 0)) k (tE T p)
      else if k = -1 then (if (rng T p).1 = 0 then prun T K n 1 (em s (1, tV T p, hiV T p)) k (rng T p).2 else some (fx (rng T p)))
      else if (cas T K k p).1 = 0 then
        (if K 6 (cNm K (tV T p)) = 0 then prun T K n 1 (em s (2, cNm K (tV T p), 0)) k (tE T p)
        else if (sgn T 40 (tE T p)).1 = 0 then prun T K n 0 (fbS (em s (2, cNm K (tV T p), 0)) (cNm K (tV T p)) 0 k) (K 7 (cNm K (tV T p))) (tE T (tE T p))
        else some (fx (sgn T 40 (tE T p))))
      else some (fx (cas T K k p)))
    else if tO T p = 9 then prun T K n 0 (alE s) k (tE T p)
    else match s.1 with
      | [] => some (0, p, (alE s).2.2)
      | (c, f, k1, a1) :: s1 =>
        if f + 1 < K 6 c then (if (sgn T 44 p).1 = 0 then prun T K n 0 (fbS (poS s a1 s1) c (f + 1) k1) (K 8 c) (tE T p) else some (fx (sgn T 44 p)))
        else if (sgn T 41 p).1 = 0 then prun T K n 1 (poS s a1 s1) k1 (tE T p) else some (fx (sgn T 41 p)))
def Runs (T : TT) (K : PH) (m : Int) (s : SK) (k p : Int) (x : XR) : Prop := ∃ n, prun T K n m s k p = some x
theorem prun_eq (T : TT) (K : PH) (n : Nat) (m : Int) (s : SK) (k p : Int) : prun T K (n + 1) m s k p = (if m = 0 then
      (if tO T p = 8 then prun T K n 1 (em s (0, 0, 0)) k (tE T p)
      else if k = -1 then (if (rng T p).1 = 0 then prun T K n 1 (em s (1, tV T p, hiV T p)) k (rng T p).2 else some (fx (rng T p)))
      else if (cas T K k p).1 = 0 then
        (if K 6 (cNm K (tV T p)) = 0 then prun T K n 1 (em s (2, cNm K (tV T p), 0)) k (tE T p)
        else if (sgn T 40 (tE T p)).1 = 0 then prun T K n 0 (fbS (em s (2, cNm K (tV T p), 0)) (cNm K (tV T p)) 0 k) (K 7 (cNm K (tV T p))) (tE T (tE T p))
        else some (fx (sgn T 40 (tE T p))))
      else some (fx (cas T K k p)))
    else if tO T p = 9 then prun T K n 0 (alE s) k (tE T p)
    else match s.1 with
      | [] => some (0, p, (alE s).2.2)
      | (c, f, k1, a1) :: s1 =>
        if f + 1 < K 6 c then (if (sgn T 44 p).1 = 0 then prun T K n 0 (fbS (poS s a1 s1) c (f + 1) k1) (K 8 c) (tE T p) else some (fx (sgn T 44 p)))
        else if (sgn T 41 p).1 = 0 then prun T K n 1 (poS s a1 s1) k1 (tE T p) else some (fx (sgn T 41 p))) := rfl
theorem prun_up (T : TT) (K : PH) (x : XR) : ∀ (n : Nat) (m : Int) (s : SK) (k p : Int), prun T K n m s k p = some x → prun T K (n + 1) m s k p = some x := by
  intro n
  induction n with
  | zero => intro m s k p h; cases h
  | succ n ih =>
    intro m s k p h
    rw [prun_eq] at h ⊢
    by_cases h1 : m = 0
    · rw [if_pos h1] at h ⊢
      by_cases h2 : tO T p = 8
      · rw [if_pos h2] at h ⊢; exact ih _ _ _ _ h
      · rw [if_neg h2] at h ⊢
        by_cases h3 : k = -1
        · rw [if_pos h3] at h ⊢
          by_cases h4 : (rng T p).1 = 0
          · rw [if_pos h4] at h ⊢; exact ih _ _ _ _ h
          · rw [if_neg h4] at h ⊢; exact h
        · rw [if_neg h3] at h ⊢
          by_cases h4 : (cas T K k p).1 = 0
          · rw [if_pos h4] at h ⊢
            by_cases h5 : K 6 (cNm K (tV T p)) = 0
            · rw [if_pos h5] at h ⊢; exact ih _ _ _ _ h
            · rw [if_neg h5] at h ⊢
              by_cases h6 : (sgn T 40 (tE T p)).1 = 0
              · rw [if_pos h6] at h ⊢; exact ih _ _ _ _ h
              · rw [if_neg h6] at h ⊢; exact h
          · rw [if_neg h4] at h ⊢; exact h
    · rw [if_neg h1] at h ⊢
      by_cases h2 : tO T p = 9
      · rw [if_pos h2] at h ⊢; exact ih _ _ _ _ h
      · rw [if_neg h2] at h ⊢
        obtain ⟨s0, sa, se⟩ := s
        cases s0 with
        | nil => exact h
        | cons c s1 =>
          obtain ⟨c, f, k1, a1⟩ := c
          have h : (if f + 1 < K 6 c then (if (sgn T 44 p).1 = 0 then prun T K n 0 (fbS (poS ((c, f, k1, a1) :: s1, sa, se) a1 s1) c (f + 1) k1) (K 8 c) (tE T p) else some (fx (sgn T 44 p))) else if (sgn T 41 p).1 = 0 then prun T K n 1 (poS ((c, f, k1, a1) :: s1, sa, se) a1 s1) k1 (tE T p) else some (fx (sgn T 41 p))) = some x := h
          show (if f + 1 < K 6 c then (if (sgn T 44 p).1 = 0 then prun T K (n + 1) 0 (fbS (poS ((c, f, k1, a1) :: s1, sa, se) a1 s1) c (f + 1) k1) (K 8 c) (tE T p) else some (fx (sgn T 44 p))) else if (sgn T 41 p).1 = 0 then prun T K (n + 1) 1 (poS ((c, f, k1, a1) :: s1, sa, se) a1 s1) k1 (tE T p) else some (fx (sgn T 41 p))) = some x
          by_cases h3 : f + 1 < K 6 c
          · rw [if_pos h3] at h ⊢
            by_cases h4 : (sgn T 44 p).1 = 0
            · rw [if_pos h4] at h ⊢; exact ih _ _ _ _ h
            · rw [if_neg h4] at h ⊢; exact h
          · rw [if_neg h3] at h ⊢
            by_cases h4 : (sgn T 41 p).1 = 0
            · rw [if_pos h4] at h ⊢; exact ih _ _ _ _ h
            · rw [if_neg h4] at h ⊢; exact h
theorem prun_le {T : TT} {K : PH} {x : XR} {n : Nat} {m : Int} {s : SK} {k p : Int} (h : prun T K n m s k p = some x) : ∀ j : Nat, prun T K (n + j) m s k p = some x := by
  intro j
  induction j with
  | zero => exact h
  | succ j ih => exact prun_up T K x (n + j) m s k p ih
theorem Runs.fn {T : TT} {K : PH} {m : Int} {s : SK} {k p : Int} {x y : XR} (h : Runs T K m s k p x) (h2 : Runs T K m s k p y) : x = y := by
  obtain ⟨n, hn⟩ := h
  obtain ⟨j, hj⟩ := h2
  have e1 := prun_le hn j
  have e2 := prun_le hj n
  rw [Nat.add_comm] at e2
  rw [e1] at e2
  exact Option.some.inj e2
section RN
variable {T : TT} {K : PH} {s : SK} {k p : Int} {x : XR}
theorem Runs.any (h : tO T p = 8) (hr : Runs T K 1 (em s (0, 0, 0)) k (tE T p) x) : Runs T K 0 s k p x := by
  obtain ⟨n, hn⟩ := hr
  refine ⟨n + 1, ?_⟩
  rw [prun_eq, if_pos rfl, if_pos h]
  exact hn
theorem Runs.range (h : tO T p ≠ 8) (hk : k = -1) (hg : (rng T p).1 = 0) (hr : Runs T K 1 (em s (1, tV T p, hiV T p)) k (rng T p).2 x) : Runs T K 0 s k p x := by
  obtain ⟨n, hn⟩ := hr
  refine ⟨n + 1, ?_⟩
  rw [prun_eq, if_pos rfl, if_neg h, if_pos hk, if_pos hg]
  exact hn
theorem Runs.rangeF (h : tO T p ≠ 8) (hk : k = -1) (hg : (rng T p).1 ≠ 0) : Runs T K 0 s k p (fx (rng T p)) := by
  refine ⟨1, ?_⟩
  rw [prun_eq, if_pos rfl, if_neg h, if_pos hk, if_neg hg]
theorem Runs.caseF (h : tO T p ≠ 8) (hk : k ≠ -1) (hg : (cas T K k p).1 ≠ 0) : Runs T K 0 s k p (fx (cas T K k p)) := by
  refine ⟨1, ?_⟩
  rw [prun_eq, if_pos rfl, if_neg h, if_neg hk, if_neg hg]
theorem Runs.case0 (h : tO T p ≠ 8) (hk : k ≠ -1) (hg : (cas T K k p).1 = 0) (h6 : K 6 (cNm K (tV T p)) = 0) (hr : Runs T K 1 (em s (2, cNm K (tV T p), 0)) k (tE T p) x) : Runs T K 0 s k p x := by
  obtain ⟨n, hn⟩ := hr
  refine ⟨n + 1, ?_⟩
  rw [prun_eq, if_pos rfl, if_neg h, if_neg hk, if_pos hg, if_pos h6]
  exact hn
theorem Runs.intoF (h : tO T p ≠ 8) (hk : k ≠ -1) (hg : (cas T K k p).1 = 0) (h6 : K 6 (cNm K (tV T p)) ≠ 0) (hs : (sgn T 40 (tE T p)).1 ≠ 0) : Runs T K 0 s k p (fx (sgn T 40 (tE T p))) := by
  refine ⟨1, ?_⟩
  rw [prun_eq, if_pos rfl, if_neg h, if_neg hk, if_pos hg, if_neg h6, if_neg hs]
theorem Runs.into (h : tO T p ≠ 8) (hk : k ≠ -1) (hg : (cas T K k p).1 = 0) (h6 : K 6 (cNm K (tV T p)) ≠ 0) (hs : (sgn T 40 (tE T p)).1 = 0) (hr : Runs T K 0 (fbS (em s (2, cNm K (tV T p), 0)) (cNm K (tV T p)) 0 k) (K 7 (cNm K (tV T p))) (tE T (tE T p)) x) : Runs T K 0 s k p x := by
  obtain ⟨n, hn⟩ := hr
  refine ⟨n + 1, ?_⟩
  rw [prun_eq, if_pos rfl, if_neg h, if_neg hk, if_pos hg, if_neg h6, if_pos hs]
  exact hn
theorem Runs.or (h : tO T p = 9) (hr : Runs T K 0 (alE s) k (tE T p) x) : Runs T K 1 s k p x := by
  obtain ⟨n, hn⟩ := hr
  refine ⟨n + 1, ?_⟩
  rw [prun_eq, if_neg (by decide), if_pos h]
  exact hn
theorem Runs.done (h : tO T p ≠ 9) (h0 : s.1 = []) : Runs T K 1 s k p (0, p, (alE s).2.2) := by
  refine ⟨1, ?_⟩
  rw [prun_eq, if_neg (by decide), if_neg h, h0]
theorem Runs.commaF {c f k1 a1 : Int} {s1 : List (Int × Int × Int × Int)} (e : s.1 = (c, f, k1, a1) :: s1) (h : tO T p ≠ 9) (hf : f + 1 < K 6 c) (hs : (sgn T 44 p).1 ≠ 0) : Runs T K 1 s k p (fx (sgn T 44 p)) := by
  refine ⟨1, ?_⟩
  rw [prun_eq, if_neg (by decide), if_neg h, e]
  show (if f + 1 < K 6 c then _ else _) = _
  rw [if_pos hf, if_neg hs]
theorem Runs.comma {c f k1 a1 : Int} {s1 : List (Int × Int × Int × Int)} (e : s.1 = (c, f, k1, a1) :: s1) (h : tO T p ≠ 9) (hf : f + 1 < K 6 c) (hs : (sgn T 44 p).1 = 0) (hr : Runs T K 0 (fbS (poS s a1 s1) c (f + 1) k1) (K 8 c) (tE T p) x) : Runs T K 1 s k p x := by
  obtain ⟨n, hn⟩ := hr
  refine ⟨n + 1, ?_⟩
  rw [prun_eq, if_neg (by decide), if_neg h, e]
  show (if f + 1 < K 6 c then _ else _) = _
  rw [if_pos hf, if_pos hs]
  exact hn
theorem Runs.closeF {c f k1 a1 : Int} {s1 : List (Int × Int × Int × Int)} (e : s.1 = (c, f, k1, a1) :: s1) (h : tO T p ≠ 9) (hf : ¬ f + 1 < K 6 c) (hs : (sgn T 41 p).1 ≠ 0) : Runs T K 1 s k p (fx (sgn T 41 p)) := by
  refine ⟨1, ?_⟩
  rw [prun_eq, if_neg (by decide), if_neg h, e]
  show (if f + 1 < K 6 c then _ else _) = _
  rw [if_neg hf, if_neg hs]
theorem Runs.close {c f k1 a1 : Int} {s1 : List (Int × Int × Int × Int)} (e : s.1 = (c, f, k1, a1) :: s1) (h : tO T p ≠ 9) (hf : ¬ f + 1 < K 6 c) (hs : (sgn T 41 p).1 = 0) (hr : Runs T K 1 (poS s a1 s1) k1 (tE T p) x) : Runs T K 1 s k p x := by
  obtain ⟨n, hn⟩ := hr
  refine ⟨n + 1, ?_⟩
  rw [prun_eq, if_neg (by decide), if_neg h, e]
  show (if f + 1 < K 6 c then _ else _) = _
  rw [if_neg hf, if_pos hs]
  exact hn
end RN
def s0 : SK := ([], 0, [])
/-- a pattern: fault, place, codes -/
noncomputable def paX (T : TT) (K : PH) (k p : Int) : XR := Classical.epsilon fun x => Runs T K 0 s0 k p x
noncomputable def pat (T : TT) (K : PH) (k p : Int) : Int × Int := ((paX T K k p).1, (paX T K k p).2.1)
noncomputable def cds (T : TT) (K : PH) (k p : Int) : List OP := (paX T K k p).2.2
theorem Runs.paX {T : TT} {K : PH} {k p : Int} {x : XR} (h : Runs T K 0 s0 k p x) : paX T K k p = x := (Classical.epsilon_spec (p := fun x => Runs T K 0 s0 k p x) ⟨x, h⟩).fn h
theorem Runs.paT {T : TT} {K : PH} {k p : Int} {x : XR} (h : Runs T K 0 s0 k p x) : pat T K k p = (x.1, x.2.1) := by unfold pat; rw [h.paX]
theorem Runs.cdS {T : TT} {K : PH} {k p : Int} {x : XR} (h : Runs T K 0 s0 k p x) : cds T K k p = x.2.2 := by unfold cds; rw [h.paX]
/-! arms, rule, budget -/
noncomputable def arl (T : TT) (K M : PH) : Nat → Int → Int → Int × Int
  | 0, _, p => (0, p)
  | r + 1, c, p =>
    if 0 < c ∧ (sgn T 44 p).1 ≠ 0 then sgn T 44 p
    else if (pat T K (M 1 c) (if 0 < c then tE T p else p)).1 ≠ 0 then pat T K (M 1 c) (if 0 < c then tE T p else p)
    else arl T K M r (c + 1) (pat T K (M 1 c) (if 0 < c then tE T p else p)).2
theorem arl_sF {T : TT} {K M : PH} {r : Nat} {c p : Int} (h : 0 < c) (hs : (sgn T 44 p).1 ≠ 0) : arl T K M (r + 1) c p = sgn T 44 p := by
  show (if 0 < c ∧ (sgn T 44 p).1 ≠ 0 then _ else _) = _
  rw [if_pos ⟨h, hs⟩]
theorem arl_p0 {T : TT} {K M : PH} {r : Nat} {c p : Int} (h : c ≤ 0) : arl T K M (r + 1) c p = if (pat T K (M 1 c) p).1 ≠ 0 then pat T K (M 1 c) p else arl T K M r (c + 1) (pat T K (M 1 c) p).2 := by
  show (if 0 < c ∧ (sgn T 44 p).1 ≠ 0 then _ else _) = _
  rw [if_neg (fun q => by omega), if_neg (show ¬ 0 < c by omega)]
theorem arl_p1 {T : TT} {K M : PH} {r : Nat} {c p : Int} (h : 0 < c) (hs : (sgn T 44 p).1 = 0) : arl T K M (r + 1) c p = if (pat T K (M 1 c) (tE T p)).1 ≠ 0 then pat T K (M 1 c) (tE T p) else arl T K M r (c + 1) (pat T K (M 1 c) (tE T p)).2 := by
  show (if 0 < c ∧ (sgn T 44 p).1 ≠ 0 then _ else _) = _
  rw [if_neg (fun q => q.2 hs), if_pos h]
noncomputable def arX1 (T : TT) (K M : PH) (p : Int) : Int × Int := arl T K M (M 0 0).toNat 0 (tE T p)
noncomputable def sAr (T : TT) (K M : PH) (p : Int) : Int × Int := if M 0 0 ≤ 0 then (1, tA T p) else if 12 ≤ M 0 2 then (6, tA T p) else if (arX1 T K M p).1 ≠ 0 then arX1 T K M p else if tO T (arX1 T K M p).2 = 4 then num T 0 7 (tE T (arX1 T K M p).2) else (0, (arX1 T K M p).2)
theorem sAr_s (T : TT) (K M : PH) (p : Int) : (M 0 0 ≤ 0 ∧ (sAr T K M p).1 = 1 ∧ (sAr T K M p).2 = tA T p) ∨ (0 < M 0 0 ∧ 12 ≤ M 0 2 ∧ (sAr T K M p).1 = 6 ∧ (sAr T K M p).2 = tA T p) ∨ (0 < M 0 0 ∧ M 0 2 ≤ 11 ∧ (arX1 T K M p).1 ≠ 0 ∧ (sAr T K M p).1 = (arX1 T K M p).1 ∧ (sAr T K M p).2 = (arX1 T K M p).2) ∨
    (0 < M 0 0 ∧ M 0 2 ≤ 11 ∧ (arX1 T K M p).1 = 0 ∧ tO T (arX1 T K M p).2 = 4 ∧ (sAr T K M p).1 = (num T 0 7 (tE T (arX1 T K M p).2)).1 ∧ (sAr T K M p).2 = (num T 0 7 (tE T (arX1 T K M p).2)).2) ∨ (0 < M 0 0 ∧ M 0 2 ≤ 11 ∧ (arX1 T K M p).1 = 0 ∧ tO T (arX1 T K M p).2 ≠ 4 ∧ (sAr T K M p).1 = 0 ∧ (sAr T K M p).2 = (arX1 T K M p).2) := by
  unfold sAr
  by_cases h : M 0 0 ≤ 0
  · rw [if_pos h]; exact Or.inl ⟨h, rfl, rfl⟩
  · rw [if_neg h]
    by_cases h2 : 12 ≤ M 0 2
    · rw [if_pos h2]; exact Or.inr (Or.inl ⟨by omega, h2, rfl, rfl⟩)
    · rw [if_neg h2]
      by_cases h3 : (arX1 T K M p).1 ≠ 0
      · rw [if_pos h3]; exact Or.inr (Or.inr (Or.inl ⟨by omega, by omega, h3, rfl, rfl⟩))
      · rw [if_neg h3]
        by_cases h4 : tO T (arX1 T K M p).2 = 4
        · rw [if_pos h4]; exact Or.inr (Or.inr (Or.inr (Or.inl ⟨by omega, by omega, by omega, h4, rfl, rfl⟩)))
        · rw [if_neg h4]; exact Or.inr (Or.inr (Or.inr (Or.inr ⟨by omega, by omega, by omega, h4, rfl, rfl⟩)))
def aNew (M : PH) (g : Int) : PH := up (up M 2 (M 0 2) g) 0 2 (M 0 2 + 1)
noncomputable def mAr (T : TT) (K M : PH) (p : Int) : PH := aNew M (if tO T (arX1 T K M p).2 = 4 then tV T (tE T (arX1 T K M p).2) else -1)
/-- a statement -/
noncomputable def sSt (T : TT) (K M : PH) (p : Int) : Int × Int :=
  if tO T p = 0 then sKi T K M p else if tO T p = 1 then sCo T K M p else if tO T p = 2 then ((sMa T K M p).1, (sMa T K M p).2.1) else if tO T p = 3 then sAr T K M p
  else if tO T p = 5 then num T 0 3 (tE T p) else if tO T p = 6 then num T 1 999 (tE T p) else (1, fh T p)
def kSt (T : TT) (K : PH) (p : Int) : PH := if tO T p = 0 then kNew K (tV T (tE T p)) else if tO T p = 1 then kCo T K p else K
noncomputable def mSt (T : TT) (K M : PH) (p : Int) : PH := if tO T p = 2 then (sMa T K M p).2.2 else if tO T p = 3 then mAr T K M p else if tO T p = 5 then up M 0 3 (tV T (tE T p)) else if tO T p = 6 then up M 0 4 (tV T (tE T p)) else M
/-- the statements: fault, place or how many, the tables -/
noncomputable def mlo (T : TT) : Nat → Int → PH → PH → Int → Int × Int × PH × PH
  | 0, n, K, M, p => if tK T p = 0 then (if M 0 0 ≤ 0 then 1 else 0, if M 0 0 ≤ 0 then tA T p else n, K, M) else (6, tA T p, K, M)
  | r + 1, n, K, M, p => if tK T p = 0 then (if M 0 0 ≤ 0 then 1 else 0, if M 0 0 ≤ 0 then tA T p else n, K, M)
    else if (sSt T K M p).1 ≠ 0 then ((sSt T K M p).1, (sSt T K M p).2, K, M)
    else if (sgn T 59 (sSt T K M p).2).1 ≠ 0 then ((sgn T 59 (sSt T K M p).2).1, (sgn T 59 (sSt T K M p).2).2, K, M)
    else mlo T r (n + 1) (kSt T K p) (mSt T K M p) (tE T (sSt T K M p).2)
theorem mlo_end {T : TT} {r : Nat} {n : Int} {K M : PH} {p : Int} (h : tK T p = 0) : mlo T r n K M p = (if M 0 0 ≤ 0 then 1 else 0, if M 0 0 ≤ 0 then tA T p else n, K, M) := by
  cases r with
  | zero => show (if tK T p = 0 then _ else _) = _; rw [if_pos h]
  | succ r => show (if tK T p = 0 then _ else _) = _; rw [if_pos h]
theorem mlo_much {T : TT} {n : Int} {K M : PH} {p : Int} (h : tK T p ≠ 0) : mlo T 0 n K M p = (6, tA T p, K, M) := by
  show (if tK T p = 0 then _ else _) = _
  rw [if_neg h]
theorem mlo_sF {T : TT} {r : Nat} {n : Int} {K M : PH} {p : Int} (h : tK T p ≠ 0) (h1 : (sSt T K M p).1 ≠ 0) : mlo T (r + 1) n K M p = ((sSt T K M p).1, (sSt T K M p).2, K, M) := by
  show (if tK T p = 0 then _ else _) = _
  rw [if_neg h, if_pos h1]
theorem mlo_eF {T : TT} {r : Nat} {n : Int} {K M : PH} {p : Int} (h : tK T p ≠ 0) (h1 : (sSt T K M p).1 = 0) (h2 : (sgn T 59 (sSt T K M p).2).1 ≠ 0) : mlo T (r + 1) n K M p = ((sgn T 59 (sSt T K M p).2).1, (sgn T 59 (sSt T K M p).2).2, K, M) := by
  show (if tK T p = 0 then _ else _) = _
  rw [if_neg h, if_neg (by omega), if_pos h2]
theorem mlo_go {T : TT} {r : Nat} {n : Int} {K M : PH} {p : Int} (h : tK T p ≠ 0) (h1 : (sSt T K M p).1 = 0) (h2 : (sgn T 59 (sSt T K M p).2).1 = 0) : mlo T (r + 1) n K M p = mlo T r (n + 1) (kSt T K p) (mSt T K M p) (tE T (sSt T K M p).2) := by
  show (if tK T p = 0 then _ else _) = _
  rw [if_neg h, if_neg (by omega), if_neg (by omega)]
def K0 : PH := fun _ _ => 0
def M0 : PH := up (fun _ _ => 0) 0 4 300
/-- a match's text -/
noncomputable def mlR (T : TT) : Int × Int × PH × PH := mlo T 60 0 K0 M0 0
end
section
/-! What codes mean: the truths and the values gone into, the latest first. -/
def b1 (p : Prop) [Decidable p] : Int := if p then 1 else 0
theorem b1_1 {p : Prop} [Decidable p] (h : p) : b1 p = 1 := if_pos h
theorem b1_0 {p : Prop} [Decidable p] (h : ¬ p) : b1 p = 0 := if_neg h
theorem b1_s (p : Prop) [Decidable p] : (p ∧ b1 p = 1) ∨ (¬ p ∧ b1 p = 0) := by
  by_cases h : p
  · exact Or.inl ⟨h, b1_1 h⟩
  · exact Or.inr ⟨h, b1_0 h⟩
abbrev inR (K : PH) (c v : Int) : Prop := K 10 c ≤ v ∧ v < K 10 c + cpr K c
/-- the value of a field of a value; -1 when that is of another constructor -/
def fdV (K : PH) (v c f : Int) : Int := if inR K c v then (if K 6 c = 1 then v - K 10 c else if f = 0 then (v - K 10 c) / sz K (K 8 c) else (v - K 10 c) % sz K (K 8 c)) else -1
abbrev ES : Type := List Int × List Int
def oSt (K : PH) (x : OP) (e : ES) : ES :=
  if x.1 = 0 then (1 :: e.1, e.2)
  else if x.1 = 1 then (b1 (x.2.1 ≤ e.2.headD 0 ∧ e.2.headD 0 ≤ x.2.2) :: e.1, e.2)
  else if x.1 = 2 then (b1 (inR K x.2.1 (e.2.headD 0)) :: e.1, e.2)
  else if x.1 = 3 then (e.1, fdV K (e.2.headD 0) x.2.1 x.2.2 :: e.2)
  else if x.1 = 4 then (e.1, e.2.tail)
  else if x.1 = 5 then (b1 (e.1.tail.headD 0 = 1 ∧ e.1.headD 0 = 1) :: e.1.tail.tail, e.2)
  else (b1 (e.1.tail.headD 0 = 1 ∨ e.1.headD 0 = 1) :: e.1.tail.tail, e.2)
section OS
variable {K : PH} {a b c f x y v : Int} {t g : List Int}
theorem oSt_0 : oSt K (0, a, b) (t, g) = (1 :: t, g) := rfl
theorem oSt_1 : oSt K (1, a, b) (t, v :: g) = (b1 (a ≤ v ∧ v ≤ b) :: t, v :: g) := rfl
theorem oSt_2 : oSt K (2, c, b) (t, v :: g) = (b1 (inR K c v) :: t, v :: g) := rfl
theorem oSt_3 : oSt K (3, c, f) (t, v :: g) = (t, fdV K v c f :: v :: g) := rfl
theorem oSt_4 : oSt K (4, a, b) (t, v :: g) = (t, g) := rfl
theorem oSt_5 : oSt K (5, a, b) (x :: y :: t, g) = (b1 (y = 1 ∧ x = 1) :: t, g) := rfl
theorem oSt_6 : oSt K (6, a, b) (x :: y :: t, g) = (b1 (y = 1 ∨ x = 1) :: t, g) := rfl
end OS
def evs (K : PH) : List OP → ES → ES
  | [], e => e
  | x :: L, e => oSt K x (evs K L e)
theorem evs_app {K : PH} {E : List OP} {e : ES} : ∀ L : List OP, evs K (L ++ E) e = evs K L (evs K E e) := by
  intro L
  induction L with
  | nil => rfl
  | cons x L ih =>
    show oSt K x (evs K (L ++ E) e) = oSt K x (evs K L (evs K E e))
    rw [ih]
/-- whether a value fits codes -/
def tv (K : PH) (L : List OP) (v : Int) : Int := (evs K L ([], [v])).1.getLastD 0
/-- codes that put the truth d of the value on top -/
def SC (K : PH) (L : List OP) (d : Int → Int) : Prop := ∀ (t g : List Int) (v : Int), evs K L (t, v :: g) = (d v :: t, v :: g)
theorem SC.tvE {K : PH} {L : List OP} {d : Int → Int} (h : SC K L d) (v : Int) : tv K L v = d v := by
  unfold tv
  rw [h [] [] v]
  rfl
section SCS
variable {K : PH} {L L1 L2 A : List OP} {d d1 d2 da : Int → Int} {a b c f : Int}
theorem SC.any : SC K [(0, 0, 0)] (fun _ => 1) := fun _ _ _ => rfl
theorem SC.rng : SC K [(1, a, b)] (fun v => b1 (a ≤ v ∧ v ≤ b)) := fun _ _ _ => rfl
theorem SC.con : SC K [(2, c, 0)] (fun v => b1 (inR K c v)) := fun _ _ _ => rfl
theorem SC.or (h1 : SC K L1 d1) (h2 : SC K L2 d2) : SC K ((6, 0, 0) :: (L2 ++ L1)) (fun v => b1 (d1 v = 1 ∨ d2 v = 1)) := by
  intro t g v
  show oSt K (6, 0, 0) (evs K (L2 ++ L1) (t, v :: g)) = _
  rw [evs_app, h1 t g v, h2 (d1 v :: t) g v, oSt_6]
/-- a field more -/
theorem SC.fld (h : SC K L d) (ha : SC K A da) : SC K ((5, 0, 0) :: (4, 0, 0) :: (L ++ (3, c, f) :: A)) (fun v => b1 (da v = 1 ∧ d (fdV K v c f) = 1)) := by
  intro t g v
  show oSt K (5, 0, 0) (oSt K (4, 0, 0) (evs K (L ++ (3, c, f) :: A) (t, v :: g))) = _
  rw [evs_app]
  show oSt K (5, 0, 0) (oSt K (4, 0, 0) (evs K L (oSt K (3, c, f) (evs K A (t, v :: g))))) = _
  rw [ha t g v, oSt_3, h (da v :: t) (v :: g) (fdV K v c f), oSt_4, oSt_5]
/-- the alternatives so far, one more -/
theorem SC.orE1 (h2 : SC K L2 d2) : SC K (orE 0 L2) d2 := h2
theorem SC.orE2 (h1 : SC K L1 d1) (h2 : SC K L2 d2) : SC K (orE 1 (L2 ++ L1)) (fun v => b1 (d1 v = 1 ∨ d2 v = 1)) := SC.or h1 h2
end SCS
/-- the arms that a value fits -/
def msk (K : PH) (F : Int → Int → List OP) (c v : Int) : Nat → Int
  | 0 => 0
  | n + 1 => msk K F c v n + (if tv K (F n c) v = 1 then 2 ^ n else 0)
theorem msk_r {K : PH} {F : Int → Int → List OP} {c v : Int} : ∀ n : Nat, 0 ≤ msk K F c v n ∧ msk K F c v n < 2 ^ n := by
  intro n
  induction n with
  | zero => exact ⟨Int.le_refl 0, show (0 : Int) < 2 ^ 0 by decide⟩
  | succ n ih =>
    have e : msk K F c v (n + 1) = msk K F c v n + (if tv K (F n c) v = 1 then 2 ^ n else 0) := rfl
    have e2 : (2 : Int) ^ (n + 1) = 2 ^ n * 2 := rfl
    rw [e, e2]
    by_cases h : tv K (F n c) v = 1
    · rw [if_pos h]; omega
    · rw [if_neg h]; omega
/-- an arm's bit -/
theorem msk_b {K : PH} {F : Int → Int → List OP} {c v : Int} {a : Nat} : ∀ n : Nat, a < n → msk K F c v n / 2 ^ a % 2 = if tv K (F a c) v = 1 then 1 else 0 := by
  intro n
  induction n with
  | zero => intro h; omega
  | succ n ih =>
    intro h
    have e : msk K F c v (n + 1) = msk K F c v n + (if tv K (F n c) v = 1 then 2 ^ n else 0) := rfl
    have hr := msk_r (K := K) (F := F) (c := c) (v := v) n
    have hp : (0 : Int) < 2 ^ a := Int.pow_pos (by decide)
    rw [e]
    by_cases ea : a = n
    · subst ea
      by_cases ht : tv K (F a c) v = 1
      · rw [if_pos ht, if_pos ht, Int.add_ediv_of_dvd_right (Int.dvd_refl _), Int.ediv_self (by omega), Int.ediv_eq_zero_of_lt hr.1 hr.2]
        rfl
      · rw [if_neg ht, if_neg ht, Int.add_zero, Int.ediv_eq_zero_of_lt hr.1 hr.2]
        rfl
    · have hlt : a < n := by omega
      rw [← ih hlt]
      by_cases ht : tv K (F n c) v = 1
      · rw [if_pos ht]
        obtain ⟨m, rfl⟩ : ∃ m : Nat, n = a + 1 + m := ⟨n - (a + 1), by omega⟩
        have e3 : (2 : Int) ^ (a + 1 + m) = 2 ^ a * (2 * 2 ^ m) := by rw [Int.pow_add, Int.pow_add, Int.mul_assoc]; rfl
        rw [e3, Int.add_mul_ediv_left _ _ (by omega)]
        omega
      · rw [if_neg ht, Int.add_zero]
theorem msk_up {K : PH} {F : Int → Int → List OP} {c v : Int} (n : Nat) : msk K F c v (n + 1) = msk K F c v n + (if tv K (F n c) v = 1 then 2 ^ n else 0) := rfl
theorem msk_cg {K : PH} {F G : Int → Int → List OP} {c v : Int} : ∀ n : Nat, (∀ a : Nat, a < n → F a c = G a c) → msk K F c v n = msk K G c v n := by
  intro n
  induction n with
  | zero => intro _; rfl
  | succ n ih =>
    intro h
    rw [msk_up, msk_up, ih (fun a ha => h a (by omega)), h n (by omega)]
/-- the codes of an arm's patterns, by column -/
noncomputable def arF (T : TT) (K M : PH) : Nat → Int → Int → Int → List OP
  | 0, _, _, _ => []
  | r + 1, c, p, j => if j = c then cds T K (M 1 c) (if 0 < c then tE T p else p) else arF T K M r (c + 1) (pat T K (M 1 c) (if 0 < c then tE T p else p)).2 j
theorem arF_go {T : TT} {K M : PH} {r : Nat} {c q q1 : Int} (hq : (c ≤ 0 ∧ q1 = q) ∨ (0 < c ∧ q1 = tE T q)) : arF T K M (r + 1) c q c = cds T K (M 1 c) q1 ∧ ∀ j : Int, c < j → arF T K M (r + 1) c q j = arF T K M r (c + 1) (pat T K (M 1 c) q1).2 j := by
  have e : (if 0 < c then tE T q else q) = q1 := by
    rcases hq with ⟨h, rfl⟩ | ⟨h, rfl⟩
    · rw [if_neg (by omega)]
    · rw [if_pos h]
  refine ⟨?_, fun j hj => ?_⟩
  · show (if c = c then cds T K (M 1 c) (if 0 < c then tE T q else q) else _) = _
    rw [if_pos rfl, e]
  · show (if j = c then _ else arF T K M r (c + 1) (pat T K (M 1 c) (if 0 < c then tE T q else q)).2 j) = _
    rw [if_neg (by omega), e]
/-- an arm's codes -/
noncomputable def arC (T : TT) (K M : PH) (p c : Int) : List OP := arF T K M (M 0 0).toNat 0 (tE T p) c
abbrev FT : Type := Int → Int → List OP
noncomputable def fAr (T : TT) (K M : PH) (F : FT) (p : Int) : FT := fun a c => if a = M 0 2 then arC T K M p c else F a c
noncomputable def fSt (T : TT) (K M : PH) (F : FT) (p : Int) : FT := if tO T p = 3 then fAr T K M F p else F
/-- the codes of a whole match -/
noncomputable def mlF (T : TT) : Nat → PH → PH → FT → Int → FT
  | 0, _, _, F, _ => F
  | r + 1, K, M, F, p => if tK T p = 0 then F else if (sSt T K M p).1 ≠ 0 then F else if (sgn T 59 (sSt T K M p).2).1 ≠ 0 then F else mlF T r (kSt T K p) (mSt T K M p) (fSt T K M F p) (tE T (sSt T K M p).2)
def FZ0 : FT := fun _ _ => []
noncomputable def mlRF (T : TT) : FT := mlF T 60 K0 M0 FZ0 0
theorem mlF_go {T : TT} {n : Int} {K M : PH} {F : FT} {q : Int} (h0 : 0 ≤ n) (hn : n < 60) (hk : tK T q ≠ 0) (h1 : (sSt T K M q).1 = 0) (h2 : (sgn T 59 (sSt T K M q).2).1 = 0) (hR : mlRF T = mlF T (60 - n).toNat K M F q) : mlRF T = mlF T (60 - (n + 1)).toNat (kSt T K q) (mSt T K M q) (fSt T K M F q) (sgn T 59 (sSt T K M q).2).2 := by
  rw [hR, show (60 - n).toNat = (60 - (n + 1)).toNat + 1 by omega]
  have hs := sgn_s T 59 (sSt T K M q).2
  show (if tK T q = 0 then _ else _) = _
  rw [if_neg hk, if_neg (by omega), if_neg (by omega), show (sgn T 59 (sSt T K M q).2).2 = tE T (sSt T K M q).2 by omega]
theorem mlF_end {T : TT} {r : Nat} {K M : PH} {F : FT} {q : Int} (hk : tK T q = 0) : mlF T r K M F q = F := by
  cases r with
  | zero => rfl
  | succ r => show (if tK T q = 0 then _ else _) = _; rw [if_pos hk]
end
section
/-! The reference's picture of a text, of the token ahead, of the tables told. -/
theorem disF_k {F s : FS} {P P1 : PH} (hd : disF F s = true) (hf : FrM F P P1) {k : Int} (hk : k ∈ s.1) : P1 0 k = P 0 k := by
  unfold disF at hd
  rw [Bool.and_eq_true] at hd
  refine hf.1 k ?_
  have := List.all_eq_true.mp hd.1 k hk
  simpa using this
theorem disF_o {F s : FS} {P P1 : PH} (hd : disF F s = true) (hf : FrM F P P1) {o : Nat} (ho : o ∈ s.2) (h0 : (o == 0) = false) : P1 o = P o := by
  unfold disF at hd
  rw [Bool.and_eq_true] at hd
  refine hf.2 o h0 ?_
  have := List.all_eq_true.mp hd.2 o ho
  simpa using this
/-- a predicate that holds where a number is 0 -/
def CP (f : Int) (p : PH → Prop) (P : PH) : Prop := f = 0 → p P
/-- the text -/
def MT (T : TT) (P : PH) : Prop := P 0 2 = T.2 ∧ ∀ i : Int, 0 ≤ i → i < T.2 → P 1 i = T.1 i
theorem MT.fr {T : TT} {P P1 : PH} {F : FS} (h : MT T P) (hf : FrM F P P1) (hd : disF F ([2], [1]) = true) : MT T P1 := by
  unfold MT at h ⊢
  rw [disF_k hd hf (k := 2) (by decide), disF_o hd hf (o := 1) (by decide) rfl]
  exact h
/-- the token ahead, behind place p -/
def MS (T : TT) (p : Int) (P : PH) : Prop := P 0 4 = tA T p ∧ 0 ≤ p ∧ p ≤ T.2 ∧ (tK T p = 4 → P 0 12 = tS T p ∧ P 0 12 ≠ -1 ∧ P 0 3 ≠ 0) ∧ (tK T p ≠ 4 → P 0 12 = -1 ∧ P 0 3 = tK T p ∧ P 0 5 = tE T p) ∧ (tK T p = 2 ∨ tK T p = 3 → P 0 6 = tV T p) ∧ (tK T p = 1 → P 0 7 = tW T p)
theorem MS.fr {T : TT} {p : Int} {P P1 : PH} {F : FS} (h : MS T p P) (hf : FrM F P P1) (hd : disF F ([3, 4, 5, 6, 7, 12], []) = true) : MS T p P1 := by
  unfold MS at h ⊢
  rw [disF_k hd hf (k := 3) (by decide), disF_k hd hf (k := 4) (by decide), disF_k hd hf (k := 5) (by decide), disF_k hd hf (k := 6) (by decide), disF_k hd hf (k := 7) (by decide), disF_k hd hf (k := 12) (by decide)]
  exact h
theorem MS.at {T : TT} {p : Int} {P : PH} (h : MS T p P) : P 0 4 = tA T p ∧ 0 ≤ p ∧ p ≤ T.2 := ⟨h.1, h.2.1, h.2.2.1⟩
theorem MS.bad {T : TT} {p : Int} {P : PH} (h : MS T p P) : (tK T p = 4 ∧ P 0 12 = tS T p ∧ P 0 12 ≠ -1) ∨ (tK T p ≠ 4 ∧ P 0 12 = -1) := by
  by_cases h4 : tK T p = 4
  · exact Or.inl ⟨h4, (h.2.2.2.1 h4).1, (h.2.2.2.1 h4).2.1⟩
  · exact Or.inr ⟨h4, (h.2.2.2.2.1 h4).1⟩
theorem MS.tok {T : TT} {p : Int} {P : PH} (h : MS T p P) (h4 : tK T p ≠ 4) : P 0 3 = tK T p ∧ P 0 5 = tE T p := (h.2.2.2.2.1 h4).2
theorem MS.sg {T : TT} {p : Int} {P : PH} (h : MS T p P) : (P 0 3 = 0 ∧ tK T p = 0) ∨ (P 0 3 ≠ 0 ∧ tK T p ≠ 0) := by
  by_cases h4 : tK T p = 4
  · exact Or.inr ⟨(h.2.2.2.1 h4).2.2, by omega⟩
  · have := (h.2.2.2.2.1 h4).2.1
    omega
theorem MS.val {T : TT} {p : Int} {P : PH} (h : MS T p P) (h4 : tK T p = 2 ∨ tK T p = 3) : P 0 6 = tV T p := h.2.2.2.2.2.1 h4
theorem MS.word {T : TT} {p : Int} {P : PH} (h : MS T p P) (h4 : tK T p = 1) : P 0 7 = tW T p := h.2.2.2.2.2.2 h4
/-- a kind there (4: num) and here (-1: num) -/
def K4 (x y : Int) : Prop := (x = 4 ∧ y = -1) ∨ (0 ≤ x ∧ x ≤ 3 ∧ y = x)
/-- kinds and constructors, in the bank that is told -/
def MK (K P : PH) : Prop := P 2 (P 0 37) = K 0 0 ∧ P 5 (P 0 37) = K 0 1 ∧
  (∀ k : Int, 0 ≤ k → k < K 0 0 → NW (K 1 k) (P 22 (4 * P 0 37 + k)) ∧ P 3 (4 * P 0 37 + k) = K 2 k ∧ P 4 (4 * P 0 37 + k) = K 3 k) ∧
  ∀ c : Int, 0 ≤ c → c < K 0 1 → NW (K 4 c) (P 23 (24 * P 0 37 + c)) ∧ P 6 (24 * P 0 37 + c) = K 5 c ∧ P 7 (24 * P 0 37 + c) = K 6 c ∧ (1 ≤ K 6 c → K4 (P 8 (2 * (24 * P 0 37 + c))) (K 7 c)) ∧ (2 ≤ K 6 c → K4 (P 8 (2 * (24 * P 0 37 + c) + 1)) (K 8 c)) ∧ P 9 (24 * P 0 37 + c) = K 10 c
theorem MK.fr {K P P1 : PH} {F : FS} (h : MK K P) (hf : FrM F P P1) (hd : disF F ([37], [2, 3, 4, 5, 6, 7, 8, 9, 22, 23]) = true) : MK K P1 := by
  unfold MK at h ⊢
  rw [disF_k hd hf (k := 37) (by decide), disF_o hd hf (o := 2) (by decide) rfl, disF_o hd hf (o := 3) (by decide) rfl, disF_o hd hf (o := 4) (by decide) rfl, disF_o hd hf (o := 5) (by decide) rfl, disF_o hd hf (o := 6) (by decide) rfl, disF_o hd hf (o := 7) (by decide) rfl, disF_o hd hf (o := 8) (by decide) rfl, disF_o hd hf (o := 9) (by decide) rfl, disF_o hd hf (o := 22) (by decide) rfl, disF_o hd hf (o := 23) (by decide) rfl]
  exact h
/-- columns, arms, rule, budget -/
def MM (M P : PH) : Prop := P 11 (P 0 37) = M 0 0 ∧ P 13 (P 0 37) = M 0 2 ∧ P 15 (P 0 37) = M 0 3 ∧ P 16 (P 0 37) = M 0 4 ∧
  (∀ c : Int, 0 ≤ c → c < M 0 0 → K4 (P 12 (4 * P 0 37 + c)) (M 1 c)) ∧ ∀ a : Int, 0 ≤ a → a < M 0 2 → P 14 (12 * P 0 37 + a) = M 2 a
theorem MM.fr {M P P1 : PH} {F : FS} (h : MM M P) (hf : FrM F P P1) (hd : disF F ([37], [11, 12, 13, 14, 15, 16]) = true) : MM M P1 := by
  unfold MM at h ⊢
  rw [disF_k hd hf (k := 37) (by decide), disF_o hd hf (o := 11) (by decide) rfl, disF_o hd hf (o := 12) (by decide) rfl, disF_o hd hf (o := 13) (by decide) rfl, disF_o hd hf (o := 14) (by decide) rfl, disF_o hd hf (o := 15) (by decide) rfl, disF_o hd hf (o := 16) (by decide) rfl]
  exact h
/-- columns are told or not -/
def MTl (M P : PH) : Prop := (P 0 38 = 0 ∧ M 0 0 = 0) ∨ (P 0 38 = 1 ∧ 1 ≤ M 0 0)
theorem MTl.fr {M P P1 : PH} {F : FS} (h : MTl M P) (hf : FrM F P P1) (hd : disF F ([38], []) = true) : MTl M P1 := by
  unfold MTl at h ⊢
  rw [disF_k hd hf (k := 38) (by decide)]
  exact h
/-! What is well formed: kinds. -/
def AW (K : PH) : Prop := (0 ≤ K 0 0 ∧ K 0 0 ≤ 4 ∧ 0 ≤ K 0 1 ∧ K 0 1 ≤ 6 * K 0 0) ∧
  (∀ k : Int, 0 ≤ k → k < K 0 0 → 0 ≤ K 3 k ∧ K 3 k ≤ 6 ∧ 0 ≤ K 9 k ∧ K 9 k ≤ 6 * k ∧ K 9 k + K 3 k ≤ K 0 1 ∧ (k = K 0 0 - 1 → K 9 k + K 3 k = K 0 1) ∧ ((K 3 k = 0 ∧ K 2 k = 0) ∨ (1 ≤ K 3 k ∧ 1 ≤ K 2 k)) ∧ K 2 k ≤ 2000 + K 3 k) ∧
  (∀ c : Int, 0 ≤ c → c < K 0 1 → 0 ≤ K 5 c ∧ K 5 c < K 0 0 ∧ 0 ≤ K 6 c ∧ K 6 c ≤ 2 ∧ -1 ≤ K 7 c ∧ K 7 c < K 5 c ∧ -1 ≤ K 8 c ∧ K 8 c < K 5 c) ∧
  ∀ c k : Int, 0 ≤ c → c < K 0 1 → 0 ≤ k → k < K 0 0 → (K 5 c = k ↔ K 9 k ≤ c ∧ c < K 9 k + K 3 k)
theorem kNm_b {K : PH} (h : AW K) (v : Int) : -1 ≤ kNm K v ∧ kNm K v < K 0 0 := by
  have := fxi_b (K 1) v (K 0 0).toNat
  have := h.1
  unfold kNm
  omega
theorem cNm_b {K : PH} (h : AW K) (v : Int) : -1 ≤ cNm K v ∧ cNm K v < K 0 1 := by
  have := fxi_b (K 4) v (K 0 1).toNat
  have := h.1
  unfold cNm
  omega
theorem kHe_b {T : TT} {K : PH} (h : AW K) (p : Int) : -1 ≤ kHe T K p ∧ kHe T K p < K 0 0 := by
  have := kNm_b h (tV T p)
  have h0 := h.1
  rcases kHe_s T K p with q | q <;> omega
theorem AW.zero : AW K0 := by
  unfold AW K0
  refine ⟨by decide, fun k h1 h2 => ?_, fun c h1 h2 => ?_, fun c k h1 h2 => ?_⟩
  · exfalso; have h2 : k < 0 := h2; omega
  · exfalso; have h2 : c < 0 := h2; omega
  · exfalso; have h2 : c < 0 := h2; omega
end
section
/-! A kind, a constructor, a column, an arm more: what is told, well-formedness, the reference's picture. -/
theorem kNew_0 {K : PH} {v : Int} : kNew K v 0 0 = K 0 0 + 1 ∧ kNew K v 0 1 = K 0 1 := ⟨by simp [kNew, up], by simp [kNew, up]⟩
theorem kNew_1 {K : PH} {v : Int} (k : Int) : kNew K v 1 k = if k = K 0 0 then v else K 1 k := by simp [kNew, up]
theorem kNew_2 {K : PH} {v : Int} (k : Int) : kNew K v 2 k = if k = K 0 0 then 0 else K 2 k := by simp [kNew, up]
theorem kNew_3 {K : PH} {v : Int} (k : Int) : kNew K v 3 k = if k = K 0 0 then 0 else K 3 k := by simp [kNew, up]
theorem kNew_9 {K : PH} {v : Int} (k : Int) : kNew K v 9 k = if k = K 0 0 then K 0 1 else K 9 k := by simp [kNew, up]
theorem kNew_c {K : PH} {v : Int} {o : Nat} (h0 : o ≠ 0) (h1 : o ≠ 1) (h2 : o ≠ 2) (h3 : o ≠ 3) (h9 : o ≠ 9) : kNew K v o = K o := by funext j; simp [kNew, up, h0, h1, h2, h3, h9]
section CN0
variable {K : PH} {v n a b i : Int}
theorem cNew_0 : cNew K v n a b i 0 0 = K 0 0 ∧ cNew K v n a b i 0 1 = K 0 1 + 1 := ⟨by simp [cNew, up], by simp [cNew, up]⟩
theorem cNew_2 (k : Int) : cNew K v n a b i 2 k = if k = K 0 0 - 1 then K 2 (K 0 0 - 1) + i else K 2 k := by simp [cNew, up]
theorem cNew_3 (k : Int) : cNew K v n a b i 3 k = if k = K 0 0 - 1 then K 3 (K 0 0 - 1) + 1 else K 3 k := by simp [cNew, up]
theorem cNew_4 (k : Int) : cNew K v n a b i 4 k = if k = K 0 1 then v else K 4 k := by simp [cNew, up]
theorem cNew_5 (k : Int) : cNew K v n a b i 5 k = if k = K 0 1 then K 0 0 - 1 else K 5 k := by simp [cNew, up]
theorem cNew_6 (k : Int) : cNew K v n a b i 6 k = if k = K 0 1 then n else K 6 k := by simp [cNew, up]
theorem cNew_7 (k : Int) : cNew K v n a b i 7 k = if k = K 0 1 then a else K 7 k := by simp [cNew, up]
theorem cNew_8 (k : Int) : cNew K v n a b i 8 k = if k = K 0 1 then b else K 8 k := by simp [cNew, up]
theorem cNew_10 (k : Int) : cNew K v n a b i 10 k = if k = K 0 1 then K 2 (K 0 0 - 1) else K 10 k := by simp [cNew, up]
theorem cNew_c {o : Nat} (h0 : o = 1 ∨ o = 9) : cNew K v n a b i o = K o := by
  funext j
  rcases h0 with h | h <;> subst h <;> simp [cNew, up]
end CN0
theorem AW.kind {K : PH} {v : Int} (h : AW K) (h3 : K 0 0 ≤ 3) : AW (kNew K v) := by
  obtain ⟨a0, a1, a2, a3⟩ := h
  refine ⟨?_, fun k k0 k1 => ?_, fun c c0 c1 => ?_, fun c k c0 c1 k0 k1 => ?_⟩
  · rw [kNew_0.1, kNew_0.2]
    omega
  · rw [kNew_0.1] at k1 ⊢
    rw [kNew_0.2, kNew_2, kNew_3, kNew_9]
    by_cases e : k = K 0 0
    · rw [if_pos e, if_pos e, if_pos e]
      omega
    · rw [if_neg e, if_neg e, if_neg e]
      have := a1 k k0 (by omega)
      omega
  · rw [kNew_0.2] at c1
    rw [kNew_0.1, kNew_c (o := 5) (by decide) (by decide) (by decide) (by decide) (by decide), kNew_c (o := 6) (by decide) (by decide) (by decide) (by decide) (by decide), kNew_c (o := 7) (by decide) (by decide) (by decide) (by decide) (by decide), kNew_c (o := 8) (by decide) (by decide) (by decide) (by decide) (by decide)]
    have := a2 c c0 c1
    omega
  · rw [kNew_0.2] at c1
    rw [kNew_0.1] at k1
    rw [kNew_c (o := 5) (by decide) (by decide) (by decide) (by decide) (by decide), kNew_9, kNew_3]
    have h5 := a2 c c0 c1
    by_cases e : k = K 0 0
    · rw [if_pos e, if_pos e]
      omega
    · rw [if_neg e, if_neg e]
      exact a3 c k c0 c1 k0 (by omega)
theorem AW.con {K : PH} {v n a b i : Int} (h : AW K) (hk : 1 ≤ K 0 0) (h5 : K 3 (K 0 0 - 1) ≤ 5) (hn : 0 ≤ n ∧ n ≤ 2) (ha : -1 ≤ a ∧ a < K 0 0 - 1) (hb : -1 ≤ b ∧ b < K 0 0 - 1) (hi : 1 ≤ i) (hv : i = 1 ∨ K 2 (K 0 0 - 1) + i ≤ 2000) : AW (cNew K v n a b i) := by
  obtain ⟨a0, a1, a2, a3⟩ := h
  have hL := a1 (K 0 0 - 1) (by omega) (by omega)
  have hL6 := hL.2.2.2.2.2.1 rfl
  refine ⟨?_, fun k k0 k1 => ?_, fun c c0 c1 => ?_, fun c k c0 c1 k0 k1 => ?_⟩
  · rw [cNew_0.1, cNew_0.2]
    omega
  · rw [cNew_0.1] at k1 ⊢
    rw [cNew_0.2, cNew_2, cNew_3, cNew_c (o := 9) (Or.inr rfl)]
    have := a1 k k0 k1
    by_cases e : k = K 0 0 - 1
    · rw [if_pos e, if_pos e]
      rw [e] at this ⊢
      omega
    · rw [if_neg e, if_neg e]
      omega
  · rw [cNew_0.2] at c1
    rw [cNew_0.1, cNew_5, cNew_6, cNew_7, cNew_8]
    by_cases e : c = K 0 1
    · rw [if_pos e, if_pos e, if_pos e, if_pos e]
      omega
    · rw [if_neg e, if_neg e, if_neg e, if_neg e]
      exact a2 c c0 (by omega)
  · rw [cNew_0.2] at c1
    rw [cNew_0.1] at k1
    rw [cNew_5, cNew_3, cNew_c (o := 9) (Or.inr rfl)]
    have hk2 := a1 k k0 k1
    by_cases e : c = K 0 1
    · rw [if_pos e]
      by_cases e2 : k = K 0 0 - 1
      · rw [if_pos e2, e2]
        omega
      · rw [if_neg e2]
        omega
    · rw [if_neg e]
      have h3 := a3 c k c0 (by omega) k0 k1
      by_cases e2 : k = K 0 0 - 1
      · rw [if_pos e2, h3]
        rw [e2]
        omega
      · rw [if_neg e2]
        exact h3
theorem fld_w {T : TT} {K : PH} (h : AW K) (hk : 1 ≤ K 0 0) : ∀ (r : Nat) (n a b i p : Int), n + r = 2 → 0 ≤ n → (-1 ≤ a ∧ a < K 0 0 - 1) → (-1 ≤ b ∧ b < K 0 0 - 1) → 1 ≤ i → (i = 1 ∨ K 2 (K 0 0 - 1) + i ≤ 2000) → (fld T K r n a b i p).1 = 0 →
    n ≤ (fld T K r n a b i p).2.2.1 ∧ (fld T K r n a b i p).2.2.1 ≤ 2 ∧ (-1 ≤ (fld T K r n a b i p).2.2.2.1 ∧ (fld T K r n a b i p).2.2.2.1 < K 0 0 - 1) ∧ (-1 ≤ (fld T K r n a b i p).2.2.2.2.1 ∧ (fld T K r n a b i p).2.2.2.2.1 < K 0 0 - 1) ∧ 1 ≤ (fld T K r n a b i p).2.2.2.2.2 ∧ ((fld T K r n a b i p).2.2.2.2.2 = 1 ∨ K 2 (K 0 0 - 1) + (fld T K r n a b i p).2.2.2.2.2 ≤ 2000) := by
  intro r
  induction r with
  | zero =>
    intro n a b i p hr hn ha hb hi hv h0
    rcases (show kGo T K (K 0 0 - 1) n 2 (K 2 (K 0 0 - 1)) i 2000 p = 1 ∨ kGo T K (K 0 0 - 1) n 2 (K 2 (K 0 0 - 1)) i 2000 p ≠ 1 by omega) with e | e
    · rw [fld_end e]
      exact ⟨Int.le_refl _, by show n ≤ 2; omega, ha, hb, hi, hv⟩
    · have hs := kGo_s T K (K 0 0 - 1) n 2 (K 2 (K 0 0 - 1)) i 2000 p
      rw [fld_bad e (by omega)] at h0
      exfalso
      have h0 : kGo T K (K 0 0 - 1) n 2 (K 2 (K 0 0 - 1)) i 2000 p = 0 := h0
      omega
  | succ r ih =>
    intro n a b i p hr hn ha hb hi hv h0
    rcases (show kGo T K (K 0 0 - 1) n 2 (K 2 (K 0 0 - 1)) i 2000 p = 1 ∨ kGo T K (K 0 0 - 1) n 2 (K 2 (K 0 0 - 1)) i 2000 p = 0 ∨ (kGo T K (K 0 0 - 1) n 2 (K 2 (K 0 0 - 1)) i 2000 p ≠ 1 ∧ kGo T K (K 0 0 - 1) n 2 (K 2 (K 0 0 - 1)) i 2000 p ≠ 0) by omega) with e | e | e
    · rw [fld_end e]
      exact ⟨Int.le_refl _, by show n ≤ 2; omega, ha, hb, hi, hv⟩
    · rw [fld_go e] at h0 ⊢
      have hs := kGo_s T K (K 0 0 - 1) n 2 (K 2 (K 0 0 - 1)) i 2000 p
      have hs := ((hs.resolve_left (by omega)).resolve_left (by omega)).resolve_left (by omega)
      have hs := hs.resolve_left (by omega)
      obtain ⟨s1, s2, s3, s4, s5, s6⟩ := hs
      have hb0 := kHe_b (T := T) h p
      have hh := kHe_s T K p
      have hkl : -1 ≤ kHe T K p ∧ kHe T K p < K 0 0 - 1 := by omega
      have hz : 1 ≤ sz K (kHe T K p) := by
        rcases sz_s K (kHe T K p) with q | q
        · omega
        · have := h.2.1 (kHe T K p) (by omega) (by omega)
          omega
      have hp : 1 ≤ i * sz K (kHe T K p) := Int.mul_pos (by omega) (by omega)
      have key := ih (n + 1) (if n = 0 then kHe T K p else a) (if n = 0 then b else kHe T K p) (i * sz K (kHe T K p)) (tE T p) (by omega) (by omega) (by split <;> omega) (by split <;> omega) hp (Or.inr (by omega)) h0
      exact ⟨by omega, key.2⟩
    · rw [fld_bad e.1 e.2] at h0
      exact absurd h0 e.2
theorem fldX_w {T : TT} {K : PH} (h : AW K) (hk : 1 ≤ K 0 0) (p : Int) (h0 : (fldX T K p).1 = 0) : 0 ≤ (fldX T K p).2.2.1 ∧ (fldX T K p).2.2.1 ≤ 2 ∧ (-1 ≤ (fldX T K p).2.2.2.1 ∧ (fldX T K p).2.2.2.1 < K 0 0 - 1) ∧ (-1 ≤ (fldX T K p).2.2.2.2.1 ∧ (fldX T K p).2.2.2.2.1 < K 0 0 - 1) ∧ 1 ≤ (fldX T K p).2.2.2.2.2 ∧ ((fldX T K p).2.2.2.2.2 = 1 ∨ K 2 (K 0 0 - 1) + (fldX T K p).2.2.2.2.2 ≤ 2000) := by
  unfold fldX at h0 ⊢
  exact fld_w h hk 2 0 (-1) (-1) 1 p (by decide) (by decide) (by omega) (by omega) (by decide) (Or.inl rfl) h0
end
section
/-! The reference's tables: what writes do. -/
theorem MK.b {K P : PH} (h : MK K P) : P 2 (P 0 37) = K 0 0 ∧ P 5 (P 0 37) = K 0 1 := ⟨h.1, h.2.1⟩
theorem MK.k {K P : PH} (h : MK K P) {k : Int} (h0 : 0 ≤ k) (h1 : k < K 0 0) : NW (K 1 k) (P 22 (4 * P 0 37 + k)) ∧ P 3 (4 * P 0 37 + k) = K 2 k ∧ P 4 (4 * P 0 37 + k) = K 3 k := h.2.2.1 k h0 h1
theorem MK.c {K P : PH} (h : MK K P) {c : Int} (h0 : 0 ≤ c) (h1 : c < K 0 1) : NW (K 4 c) (P 23 (24 * P 0 37 + c)) ∧ P 6 (24 * P 0 37 + c) = K 5 c ∧ P 7 (24 * P 0 37 + c) = K 6 c ∧ (1 ≤ K 6 c → K4 (P 8 (2 * (24 * P 0 37 + c))) (K 7 c)) ∧ (2 ≤ K 6 c → K4 (P 8 (2 * (24 * P 0 37 + c) + 1)) (K 8 c)) ∧ P 9 (24 * P 0 37 + c) = K 10 c := h.2.2.2 c h0 h1
/-- the first kind of a name -/
theorem MK.kn {K P : PH} (h : MK K P) (ha : AW K) {v w : Int} (hw : NW v w) : fxi (fun i => P 22 (4 * P 0 37 + i)) w (P 2 (P 0 37)).toNat = kNm K v := by
  unfold kNm
  rw [h.1]
  refine fxi_cg _ (fun i h0 h1 => ?_)
  have := ha.1
  exact ((h.k (k := i) h0 (by omega)).1.inj hw).symm
theorem MK.cn {K P : PH} (h : MK K P) (ha : AW K) {v w : Int} (hw : NW v w) : fxi (fun i => P 23 (24 * P 0 37 + i)) w (P 5 (P 0 37)).toNat = cNm K v := by
  unfold cNm
  rw [h.2.1]
  refine fxi_cg _ (fun i h0 h1 => ?_)
  have := ha.1
  exact ((h.c (c := i) h0 (by omega)).1.inj hw).symm
theorem MK.kind {K P P1 : PH} {v w i : Int} (h : MK K P) (ha : AW K) (hw : NW v w) (hi : i = 4 * P 0 37 + P 2 (P 0 37)) (e37 : P1 0 37 = P 0 37) (e2 : P1 2 (P 0 37) = P 2 (P 0 37) + 1) (e5 : P1 5 (P 0 37) = P 5 (P 0 37))
    (s22 : P1 22 i = w) (q22 : ∀ j : Int, j ≠ i → P1 22 j = P 22 j) (s3 : P1 3 i = 0) (q3 : ∀ j : Int, j ≠ i → P1 3 j = P 3 j) (s4 : P1 4 i = 0) (q4 : ∀ j : Int, j ≠ i → P1 4 j = P 4 j)
    (q6 : ∀ j, P1 6 j = P 6 j) (q7 : ∀ j, P1 7 j = P 7 j) (q8 : ∀ j, P1 8 j = P 8 j) (q9 : ∀ j, P1 9 j = P 9 j) (q23 : ∀ j, P1 23 j = P 23 j) : MK (kNew K v) P1 := by
  have h2 := h.1
  unfold MK
  rw [kNew_0.1, kNew_0.2, e37, e2, e5]
  refine ⟨by omega, h.2.1, fun k k0 k1 => ?_, fun c c0 c1 => ?_⟩
  · rw [kNew_1, kNew_2, kNew_3]
    by_cases e : k = K 0 0
    · have e9 : 4 * P 0 37 + k = i := by omega
      rw [if_pos e, if_pos e, if_pos e, e9, s22, s3, s4]
      exact ⟨hw, rfl, rfl⟩
    · have e9 : 4 * P 0 37 + k ≠ i := by omega
      rw [if_neg e, if_neg e, if_neg e, q22 _ e9, q3 _ e9, q4 _ e9]
      exact h.k k0 (by omega)
  · rw [kNew_c (o := 4) (by decide) (by decide) (by decide) (by decide) (by decide), kNew_c (o := 5) (by decide) (by decide) (by decide) (by decide) (by decide), kNew_c (o := 6) (by decide) (by decide) (by decide) (by decide) (by decide), kNew_c (o := 7) (by decide) (by decide) (by decide) (by decide) (by decide), kNew_c (o := 8) (by decide) (by decide) (by decide) (by decide) (by decide), kNew_c (o := 10) (by decide) (by decide) (by decide) (by decide) (by decide), q6, q7, q8, q8, q9, q23]
    exact h.c c0 c1
/-- writes behind what is told -/
theorem MK.un {K P P1 : PH} {i : Int} (h : MK K P) (hi : i = 24 * P 0 37 + P 5 (P 0 37)) (e37 : P1 0 37 = P 0 37) (q2 : ∀ j, P1 2 j = P 2 j) (q3 : ∀ j, P1 3 j = P 3 j) (q4 : ∀ j, P1 4 j = P 4 j) (q5 : ∀ j, P1 5 j = P 5 j) (q22 : ∀ j, P1 22 j = P 22 j)
    (q6 : ∀ j : Int, j ≠ i → P1 6 j = P 6 j) (q7 : ∀ j : Int, j ≠ i → P1 7 j = P 7 j) (q8 : ∀ j : Int, j < 2 * i → P1 8 j = P 8 j) (q9 : ∀ j : Int, j ≠ i → P1 9 j = P 9 j) (q23 : ∀ j : Int, j ≠ i → P1 23 j = P 23 j) : MK K P1 := by
  have h5 := h.2.1
  unfold MK
  rw [e37, q2, q5]
  refine ⟨h.1, h.2.1, fun k k0 k1 => ?_, fun c c0 c1 => ?_⟩
  · rw [q22, q3, q4]
    exact h.k k0 k1
  · have e9 : 24 * P 0 37 + c ≠ i := by omega
    rw [q6 _ e9, q7 _ e9, q8 _ (by omega), q8 _ (by omega), q9 _ e9, q23 _ e9]
    exact h.c c0 c1
/-- the constructor that is being told -/
def MN (L v n a b i f : Int) (P : PH) : Prop := NW v (P 23 (24 * P 0 37 + P 5 (P 0 37))) ∧ P 6 (24 * P 0 37 + P 5 (P 0 37)) = L ∧ P 7 (24 * P 0 37 + P 5 (P 0 37)) = n ∧ (1 ≤ n → K4 (P 8 (2 * (24 * P 0 37 + P 5 (P 0 37)))) a) ∧ (2 ≤ n → K4 (P 8 (2 * (24 * P 0 37 + P 5 (P 0 37)) + 1)) b) ∧ P 9 (24 * P 0 37 + P 5 (P 0 37)) = f ∧ P 10 (24 * P 0 37 + P 5 (P 0 37)) = i
theorem MN.fr {L v n a b i f : Int} {P P1 : PH} {F : FS} (h : MN L v n a b i f P) (hf : FrM F P P1) (hd : disF F ([37], [5, 6, 7, 8, 9, 10, 23]) = true) : MN L v n a b i f P1 := by
  unfold MN at h ⊢
  rw [disF_k hd hf (k := 37) (by decide), disF_o hd hf (o := 5) (by decide) rfl, disF_o hd hf (o := 6) (by decide) rfl, disF_o hd hf (o := 7) (by decide) rfl, disF_o hd hf (o := 8) (by decide) rfl, disF_o hd hf (o := 9) (by decide) rfl, disF_o hd hf (o := 10) (by decide) rfl, disF_o hd hf (o := 23) (by decide) rfl]
  exact h
theorem MN.new {L v w f c b e : Int} {P : PH} (hw : NW v w) (e37 : P 0 37 = b) (e5 : P 5 b = e) (hc : c = 24 * b + e) (s23 : P 23 c = w) (s6 : P 6 c = L) (s7 : P 7 c = 0) (s9 : P 9 c = f) (s10 : P 10 c = 1) : MN L v 0 (-1) (-1) 1 f P := by
  subst hc
  unfold MN
  rw [e37, e5, s23]
  exact ⟨hw, s6, s7, fun h => absurd h (by decide), fun h => absurd h (by decide), s9, s10⟩
theorem MN.field {L v n a b i f k z i2 : Int} {P P1 : PH} (h : MN L v n a b i f P) (hn : 0 ≤ n ∧ n ≤ 1) (e37 : P1 0 37 = P 0 37) (e5 : P1 5 (P 0 37) = P 5 (P 0 37)) (hk : K4 z k)
    (s8 : P1 8 (2 * (24 * P 0 37 + P 5 (P 0 37)) + n) = z) (q8 : ∀ j : Int, j ≠ 2 * (24 * P 0 37 + P 5 (P 0 37)) + n → P1 8 j = P 8 j) (s7 : P1 7 (24 * P 0 37 + P 5 (P 0 37)) = n + 1) (s10 : P1 10 (24 * P 0 37 + P 5 (P 0 37)) = i2)
    (q6 : ∀ j, P1 6 j = P 6 j) (q9 : ∀ j, P1 9 j = P 9 j) (q23 : ∀ j, P1 23 j = P 23 j) : MN L v (n + 1) (if n = 0 then k else a) (if n = 0 then b else k) i2 f P1 := by
  unfold MN at h ⊢
  rw [e37, e5, q6, q9, q23, s7, s10]
  obtain ⟨h1, h2, h3, h4, h5, h6, h7⟩ := h
  refine ⟨h1, h2, rfl, fun _ => ?_, fun hn2 => ?_, h6, rfl⟩
  · by_cases e : n = 0
    · rw [if_pos e]
      rw [e, Int.add_zero] at s8
      rw [s8]
      exact hk
    · rw [if_neg e, q8 _ (by omega)]
      exact h4 (by omega)
  · have e : n = 1 := by omega
    rw [e] at s8
    rw [if_neg (by omega), s8]
    exact hk
theorem MK.con {K P P1 : PH} {v n a b i : Int} (h : MK K P) (hm : MN (K 0 0 - 1) v n a b i (K 2 (K 0 0 - 1)) P) (hk : 1 ≤ K 0 0) (e37 : P1 0 37 = P 0 37) (e5 : P1 5 (P 0 37) = P 5 (P 0 37) + 1)
    (s3 : P1 3 (4 * P 0 37 + (K 0 0 - 1)) = P 3 (4 * P 0 37 + (K 0 0 - 1)) + i) (q3 : ∀ j : Int, j ≠ 4 * P 0 37 + (K 0 0 - 1) → P1 3 j = P 3 j) (s4 : P1 4 (4 * P 0 37 + (K 0 0 - 1)) = P 4 (4 * P 0 37 + (K 0 0 - 1)) + 1) (q4 : ∀ j : Int, j ≠ 4 * P 0 37 + (K 0 0 - 1) → P1 4 j = P 4 j)
    (q2 : ∀ j, P1 2 j = P 2 j) (q6 : ∀ j, P1 6 j = P 6 j) (q7 : ∀ j, P1 7 j = P 7 j) (q8 : ∀ j, P1 8 j = P 8 j) (q9 : ∀ j, P1 9 j = P 9 j) (q22 : ∀ j, P1 22 j = P 22 j) (q23 : ∀ j, P1 23 j = P 23 j) : MK (cNew K v n a b i) P1 := by
  have h5 := h.2.1
  have hl := h.k (k := K 0 0 - 1) (by omega) (by omega)
  unfold MK
  rw [cNew_0.1, cNew_0.2, cNew_c (o := 1) (Or.inl rfl), e37, q2, e5]
  refine ⟨h.1, by omega, fun k k0 k1 => ?_, fun c c0 c1 => ?_⟩
  · rw [q22, cNew_2, cNew_3]
    by_cases e : k = K 0 0 - 1
    · rw [if_pos e, if_pos e, e, s3, s4, hl.2.1, hl.2.2]
      exact ⟨hl.1, rfl, rfl⟩
    · rw [if_neg e, if_neg e, q3 _ (by omega), q4 _ (by omega)]
      exact h.k k0 k1
  · rw [q6, q7, q8, q8, q9, q23, cNew_4, cNew_5, cNew_6, cNew_7, cNew_8, cNew_10]
    by_cases e : c = K 0 1
    · rw [if_pos e, if_pos e, if_pos e, if_pos e, if_pos e, if_pos e, show 24 * P 0 37 + c = 24 * P 0 37 + P 5 (P 0 37) by omega]
      exact ⟨hm.1, hm.2.1, hm.2.2.1, hm.2.2.2.1, hm.2.2.2.2.1, hm.2.2.2.2.2.1⟩
    · rw [if_neg e, if_neg e, if_neg e, if_neg e, if_neg e, if_neg e]
      exact h.c c0 (by omega)
theorem MM.b {M P : PH} (h : MM M P) : P 11 (P 0 37) = M 0 0 ∧ P 13 (P 0 37) = M 0 2 ∧ P 15 (P 0 37) = M 0 3 ∧ P 16 (P 0 37) = M 0 4 := ⟨h.1, h.2.1, h.2.2.1, h.2.2.2.1⟩
theorem mCol_0 {M : PH} {k r : Int} : mCol M k r 0 0 = M 0 0 + 1 ∧ mCol M k r 0 1 = r ∧ mCol M k r 0 2 = M 0 2 ∧ mCol M k r 0 3 = M 0 3 ∧ mCol M k r 0 4 = M 0 4 := ⟨by simp [mCol, up], by simp [mCol, up], by simp [mCol, up], by simp [mCol, up], by simp [mCol, up]⟩
theorem mCol_1 {M : PH} {k r : Int} (c : Int) : mCol M k r 1 c = if c = M 0 0 then k else M 1 c := by simp [mCol, up]
theorem mCol_2 {M : PH} {k r : Int} : mCol M k r 2 = M 2 := by funext j; simp [mCol, up]
theorem MM.col {M P P1 : PH} {k z r : Int} (h : MM M P) (hk : K4 z k) (e37 : P1 0 37 = P 0 37) (e11 : P1 11 (P 0 37) = P 11 (P 0 37) + 1) (s12 : P1 12 (4 * P 0 37 + P 11 (P 0 37)) = z) (q12 : ∀ j : Int, j ≠ 4 * P 0 37 + P 11 (P 0 37) → P1 12 j = P 12 j)
    (q13 : ∀ j, P1 13 j = P 13 j) (q14 : ∀ j, P1 14 j = P 14 j) (q15 : ∀ j, P1 15 j = P 15 j) (q16 : ∀ j, P1 16 j = P 16 j) : MM (mCol M k r) P1 := by
  obtain ⟨h1, h2, h3, h4, h5, h6⟩ := h
  unfold MM
  rw [mCol_0.1, mCol_0.2.2.1, mCol_0.2.2.2.1, mCol_0.2.2.2.2, mCol_2, e37, e11, q13, q15, q16]
  refine ⟨by omega, h2, h3, h4, fun c c0 c1 => ?_, fun a a0 a1 => ?_⟩
  · rw [mCol_1]
    by_cases e : c = M 0 0
    · rw [if_pos e, e, ← h1, s12]
      exact hk
    · rw [if_neg e, q12 _ (by omega)]
      exact h5 c c0 (by omega)
  · rw [q14]
    exact h6 a a0 a1
theorem MM.un {M P P1 : PH} (h : MM M P) (e37 : P1 0 37 = P 0 37) (q14 : ∀ j : Int, j ≠ 12 * P 0 37 + P 13 (P 0 37) → P1 14 j = P 14 j) (q11 : ∀ j, P1 11 j = P 11 j) (q12 : ∀ j, P1 12 j = P 12 j) (q13 : ∀ j, P1 13 j = P 13 j) (q15 : ∀ j, P1 15 j = P 15 j) (q16 : ∀ j, P1 16 j = P 16 j) : MM M P1 := by
  obtain ⟨h1, h2, h3, h4, h5, h6⟩ := h
  unfold MM
  rw [e37, q11, q13, q15, q16]
  exact ⟨h1, h2, h3, h4, fun c c0 c1 => by rw [q12]; exact h5 c c0 c1, fun a a0 a1 => by rw [q14 _ (by omega)]; exact h6 a a0 a1⟩
theorem aNew_0 {M : PH} {g : Int} : aNew M g 0 0 = M 0 0 ∧ aNew M g 0 2 = M 0 2 + 1 ∧ aNew M g 0 3 = M 0 3 ∧ aNew M g 0 4 = M 0 4 := ⟨by simp [aNew, up], by simp [aNew, up], by simp [aNew, up], by simp [aNew, up]⟩
theorem aNew_2 {M : PH} {g : Int} (a : Int) : aNew M g 2 a = if a = M 0 2 then g else M 2 a := by simp [aNew, up]
theorem aNew_1 {M : PH} {g : Int} : aNew M g 1 = M 1 := by funext j; simp [aNew, up]
theorem MM.arm {M P P1 : PH} {g : Int} (h : MM M P) (hg : P 14 (12 * P 0 37 + P 13 (P 0 37)) = g) (e37 : P1 0 37 = P 0 37) (e13 : P1 13 (P 0 37) = P 13 (P 0 37) + 1) (q14 : ∀ j, P1 14 j = P 14 j) (q11 : ∀ j, P1 11 j = P 11 j) (q12 : ∀ j, P1 12 j = P 12 j) (q15 : ∀ j, P1 15 j = P 15 j) (q16 : ∀ j, P1 16 j = P 16 j) : MM (aNew M g) P1 := by
  obtain ⟨h1, h2, h3, h4, h5, h6⟩ := h
  unfold MM
  rw [aNew_0.1, aNew_0.2.1, aNew_0.2.2.1, aNew_0.2.2.2, aNew_1, e37, e13, q11, q15, q16]
  refine ⟨h1, by omega, h3, h4, fun c c0 c1 => by rw [q12]; exact h5 c c0 c1, fun a a0 a1 => ?_⟩
  rw [aNew_2, q14]
  by_cases e : a = M 0 2
  · rw [if_pos e, e, ← h2, hg]
  · rw [if_neg e]
    exact h6 a a0 (by omega)
theorem MM.rule {M P P1 : PH} {g : Int} (h : MM M P) (e37 : P1 0 37 = P 0 37) (e15 : P1 15 (P 0 37) = g) (q14 : ∀ j, P1 14 j = P 14 j) (q11 : ∀ j, P1 11 j = P 11 j) (q12 : ∀ j, P1 12 j = P 12 j) (q13 : ∀ j, P1 13 j = P 13 j) (q16 : ∀ j, P1 16 j = P 16 j) : MM (up M 0 3 g) P1 := by
  obtain ⟨h1, h2, h3, h4, h5, h6⟩ := h
  unfold MM
  rw [up_k (by decide), up_k (by decide), up_same, up_k (by decide), up_row (o1 := 1) (by decide), up_row (o1 := 2) (by decide), e37, q11, q13, q16]
  exact ⟨h1, h2, e15, h4, fun c c0 c1 => by rw [q12]; exact h5 c c0 c1, fun a a0 a1 => by rw [q14]; exact h6 a a0 a1⟩
theorem MM.budget {M P P1 : PH} {g : Int} (h : MM M P) (e37 : P1 0 37 = P 0 37) (e16 : P1 16 (P 0 37) = g) (q14 : ∀ j, P1 14 j = P 14 j) (q11 : ∀ j, P1 11 j = P 11 j) (q12 : ∀ j, P1 12 j = P 12 j) (q13 : ∀ j, P1 13 j = P 13 j) (q15 : ∀ j, P1 15 j = P 15 j) : MM (up M 0 4 g) P1 := by
  obtain ⟨h1, h2, h3, h4, h5, h6⟩ := h
  unfold MM
  rw [up_k (by decide), up_k (by decide), up_k (by decide), up_same, up_row (o1 := 1) (by decide), up_row (o1 := 2) (by decide), e37, q11, q13, q15]
  exact ⟨h1, h2, h3, e16, fun c c0 c1 => by rw [q12]; exact h5 c c0 c1, fun a a0 a1 => by rw [q14]; exact h6 a a0 a1⟩
end
section
/-! Longs: a byte more. The reference's token ahead, made. -/
theorem l64_bv (x : Int64) : x.toInt = x.toBitVec.toInt := rfl
theorem llshl8 {x : Int} (h : LR (x * 256)) : llshl x 8 = x * 256 := by
  have e : Int64.ofInt x <<< ((Int32.ofInt (8 : Int)).toInt64 &&& 63) = Int64.ofInt (x * 256) := by
    apply Int64.toBitVec.inj
    rw [Int64.toBitVec_shiftLeft, BitVec.shiftLeft_eq', show ((((Int32.ofInt (8 : Int)).toInt64 &&& 63).toBitVec.smod 64)).toNat = 8 from l64_smod (c := 8) (by decide)]
    have h1 : (Int64.ofInt x).toBitVec = BitVec.ofInt 64 x := rfl
    have h2 : (Int64.ofInt (x * 256)).toBitVec = BitVec.ofInt 64 (x * 256) := rfl
    rw [h1, h2, BitVec.shiftLeft_eq_mul_twoPow, BitVec.ofInt_mul]
    rfl
  unfold llshl
  rw [e, oL h]
theorem bv64_of {z : Int} (h : 0 ≤ z ∧ z ≤ 9223372036854775807) : (Int64.ofInt z).toBitVec.toNat = z.toNat := by
  have h1 : (Int64.ofInt z).toBitVec = BitVec.ofInt 64 z := rfl
  rw [h1, BitVec.toNat_ofInt]
  omega
theorem llor8 {x c : Int} (hx : 0 ≤ x ∧ x ≤ 36028797018963967) (hc : 0 ≤ c ∧ c < 256) : llor (x * 256) c = x * 256 + c := by
  have e4 : ((x.toNat : Nat) : Int) = x := Int.toNat_of_nonneg hx.1
  have e3 : ((c.toNat : Nat) : Int) = c := Int.toNat_of_nonneg hc.1
  unfold llor
  rw [l64_bv, Int64.toBitVec_or]
  have e1 := bv64_of (z := x * 256) ⟨by omega, by omega⟩
  have e2 := bv64_of (z := c) ⟨hc.1, by omega⟩
  have hv : ((Int64.ofInt (x * 256)).toBitVec ||| (Int64.ofInt c).toBitVec).toNat = x.toNat * 2 ^ 8 + c.toNat := by
    rw [BitVec.toNat_or, e1, e2, show (x * 256).toNat = x.toNat * 2 ^ 8 by omega, ← Nat.shiftLeft_eq, Nat.shiftLeft_add_eq_or_of_lt (by omega)]
  rw [BitVec.toInt_eq_toNat_cond, hv, if_pos (by omega)]
  omega
def p256 : Nat → Int
  | 0 => 1
  | k + 1 => p256 k * 256
theorem e56_lt {g : Nat → Int} : ∀ (k : Nat), (∀ i, i < k → 1 ≤ g i ∧ g i ≤ 26) → e56 g k < p256 k := by
  intro k
  induction k with
  | zero => intro _; show (0 : Int) < 1; omega
  | succ k ih =>
    intro h
    have h1 := ih (fun i hi => h i (by omega))
    have h2 := h k (by omega)
    show e56 g k * 256 + (96 + g k) < p256 k * 256
    omega
theorem e56_r {g : Nat → Int} {k : Nat} (hk : k ≤ 6) (h : ∀ i, i < k → 1 ≤ g i ∧ g i ≤ 26) : 0 ≤ e56 g k ∧ e56 g k < 281474976710656 := by
  have h0 := e56_b k h
  have h1 := e56_lt k h
  have h2 : ∀ k : Nat, k < 7 → p256 k ≤ 281474976710656 := by decide
  have := h2 k (by omega)
  omega
/-- a letter more -/
theorem e56_one {T : TT} {a w c : Int} {n : Nat} (h : w = e56 (tL T a) n) (hn : n ≤ 5) (hl : ∀ i, i < n → 1 ≤ tL T a i ∧ tL T a i ≤ 26) (hc : c = T.1 (a + n)) (hr : 97 ≤ c ∧ c ≤ 122) : llor (llshl w 8) c = e56 (tL T a) (n + 1) := by
  have hb := e56_r (by omega) hl
  rw [← h] at hb
  rw [llshl8 ⟨by omega, by omega⟩, llor8 ⟨by omega, by omega⟩ ⟨by omega, by omega⟩]
  show w * 256 + c = e56 (tL T a) n * 256 + (96 + (T.1 (a + n) - 96))
  rw [← h, ← hc]
  omega
theorem e10_b {T : TT} {a : Int} : ∀ (n : Nat), n ≤ 4 → (∀ i : Nat, i < n → 48 ≤ T.1 (a + i) ∧ T.1 (a + i) ≤ 57) → 0 ≤ e10 (tD T a) n ∧ e10 (tD T a) n ≤ 9999 ∧ (n ≤ 3 → e10 (tD T a) n ≤ 999) ∧ (n ≤ 2 → e10 (tD T a) n ≤ 99) ∧ (n ≤ 1 → e10 (tD T a) n ≤ 9) ∧ (n = 0 → e10 (tD T a) n = 0) := by
  intro n
  induction n with
  | zero => intro _ _; exact ⟨Int.le_refl _, by show (0 : Int) ≤ 9999; omega, fun _ => by show (0 : Int) ≤ 999; omega, fun _ => by show (0 : Int) ≤ 99; omega, fun _ => by show (0 : Int) ≤ 9; omega, fun _ => rfl⟩
  | succ n ih =>
    intro hn h
    have h1 := ih (by omega) (fun i hi => h i (by omega))
    have h2 := h n (by omega)
    have e : e10 (tD T a) (n + 1) = e10 (tD T a) n * 10 + (T.1 (a + n) - 48) := rfl
    rw [e]
    omega
theorem tE_0 {T : TT} {p : Int} (h : tK T p = 0) : tE T p = tA T p := by
  unfold tE
  rw [if_neg (by omega), if_neg (by omega), if_neg (by omega)]
/-- the kind of a token, by what stands there -/
theorem tK_0 {T : TT} {p : Int} (h : T.2 ≤ tA T p) : tK T p = 0 := by unfold tK; rw [if_pos h]
theorem tK_3 {T : TT} {p : Int} (h : tA T p < T.2) (hl : bL (T.1 (tA T p)) = false) (hn : bN (T.1 (tA T p)) = false) : tK T p = 3 := by
  unfold tK
  rw [if_neg (by omega), if_pos ⟨hl, hn⟩]
theorem tK_j {T : TT} {p : Int} (h : tA T p < T.2) (hl : bL (T.1 (tA T p)) = true ∨ bN (T.1 (tA T p)) = true) (hj : tJ T p = true) : tK T p = 4 := by
  unfold tK
  rw [if_neg (by omega), if_neg (fun q => by rcases hl with z | z <;> (rw [z] at q; simp at q)), if_pos hj]
theorem tK_w {T : TT} {p : Int} (h : tA T p < T.2) (hl : bL (T.1 (tA T p)) = true) (hj : tJ T p = false) : tK T p = if rE bL T (tA T p) - tA T p ≤ 6 then 1 else 4 := by
  unfold tK
  rw [if_neg (by omega), if_neg (fun q => by rw [hl] at q; simp at q), if_neg (by rw [hj]; simp), if_pos hl]
theorem tK_n {T : TT} {p : Int} (h : tA T p < T.2) (hl : bL (T.1 (tA T p)) = false) (hn : bN (T.1 (tA T p)) = true) (hj : tJ T p = false) : tK T p = if rE bN T (tA T p) - tA T p ≤ 4 then 2 else 4 := by
  unfold tK
  rw [if_neg (by omega), if_neg (fun q => by rw [hn] at q; simp at q), if_neg (by rw [hj]; simp), if_neg (by rw [hl]; simp)]
theorem bL_f {c : Int} (h : c < 97 ∨ 122 < c) : bL c = false := by
  cases e : bL c with
  | false => rfl
  | true => have := bL_t.mp e; omega
theorem bN_f {c : Int} (h : c < 48 ∨ 57 < c) : bN c = false := by
  cases e : bN c with
  | false => rfl
  | true => have := bN_t.mp e; omega
/-- a letter or a digit just ahead of the token: as the reference looks -/
theorem tJ_t {T : TT} {p : Int} (h0 : 0 ≤ p) (h : 0 < tA T p ∧ ((97 ≤ T.1 (tA T p - 1) ∧ T.1 (tA T p - 1) ≤ 122) ∨ (48 ≤ T.1 (tA T p - 1) ∧ T.1 (tA T p - 1) ≤ 57))) : tJ T p = true := by
  have e : tA T p = p := by
    have hg := tA_ge T p
    rcases (show tA T p = p ∨ p < tA T p by omega) with q | q
    · exact q
    · exfalso
      have hi := rE_in (f := bW) (T := T) (p := p) (i := tA T p - 1) (by omega) (by show _ < tA T p; omega)
      have := bW_t.mp hi.2
      omega
  unfold tJ
  rw [Bool.and_eq_true, Bool.or_eq_true, decide_eq_true_iff]
  rw [e] at h
  refine ⟨⟨e, by omega⟩, ?_⟩
  rcases h.2 with q | q
  · exact Or.inl (bL_t.mpr q)
  · exact Or.inr (bN_t.mpr q)
theorem tJ_f {T : TT} {p : Int} (h : tA T p ≤ 0 ∨ ((T.1 (tA T p - 1) < 97 ∨ 122 < T.1 (tA T p - 1)) ∧ (T.1 (tA T p - 1) < 48 ∨ 57 < T.1 (tA T p - 1)))) : tJ T p = false := by
  cases e : tJ T p with
  | false => rfl
  | true =>
    exfalso
    unfold tJ at e
    rw [Bool.and_eq_true, Bool.or_eq_true, decide_eq_true_iff] at e
    obtain ⟨⟨e1, e2⟩, e3⟩ := e
    rw [e1] at h
    rcases h with h | h
    · omega
    · rcases e3 with q | q
      · have := bL_t.mp q; omega
      · have := bN_t.mp q; omega
/-- as a number -/
def tJn (T : TT) (p : Int) : Int := if tJ T p = true then 1 else 0
theorem tJn_1 {T : TT} {p : Int} (h : tJ T p = true) : tJn T p = 1 := by unfold tJn; rw [if_pos h]
theorem tJn_0 {T : TT} {p : Int} (h : tJ T p = false) : tJn T p = 0 := by unfold tJn; rw [if_neg (by rw [h]; simp)]
theorem tJn_t {T : TT} {p : Int} (h : tJn T p = 1) : tJ T p = true := by
  cases e : tJ T p with
  | true => rfl
  | false => rw [tJn_0 e] at h; omega
theorem tJn_f {T : TT} {p : Int} (h : tJn T p = 0) : tJ T p = false := by
  cases e : tJ T p with
  | false => rfl
  | true => rw [tJn_1 e] at h; omega
theorem MS.end {T : TT} {p : Int} {P : PH} (hp : 0 ≤ p ∧ p ≤ T.2) (h4 : P 0 4 = tA T p) (hn : T.2 ≤ tA T p) (h3 : P 0 3 = 0) (h12 : P 0 12 = -1) (h5 : P 0 5 = tA T p) : MS T p P := by
  have hk := tK_0 hn
  refine ⟨h4, hp.1, hp.2, fun q => by omega, fun _ => ⟨h12, by omega, by rw [tE_0 hk]; exact h5⟩, fun q => by omega, fun q => by omega⟩
theorem MS.sig {T : TT} {p : Int} {P : PH} (hp : 0 ≤ p ∧ p ≤ T.2) (h4 : P 0 4 = tA T p) (hn : tA T p < T.2) (hl : T.1 (tA T p) < 97 ∨ 122 < T.1 (tA T p)) (hd : T.1 (tA T p) < 48 ∨ 57 < T.1 (tA T p)) (h3 : P 0 3 = 3) (h12 : P 0 12 = -1) (h5 : P 0 5 = tA T p + 1) (h6 : P 0 6 = T.1 (tA T p)) : MS T p P := by
  have hk := tK_3 hn (bL_f hl) (bN_f hd)
  have h9 := tK3 hk
  refine ⟨h4, hp.1, hp.2, fun q => by omega, fun _ => ⟨h12, by omega, by omega⟩, fun _ => by rw [h9.2.2.2]; exact h6, fun q => by omega⟩
theorem MS.wor {T : TT} {p : Int} {P : PH} (hp : 0 ≤ p ∧ p ≤ T.2) (h4 : P 0 4 = tA T p) (hn : tA T p < T.2) (hl : 97 ≤ T.1 (tA T p) ∧ T.1 (tA T p) ≤ 122) (h3 : P 0 3 = 1) (h5 : P 0 5 = rE bL T (tA T p))
    (hx : (tJn T p = 1 ∧ P 0 12 = tA T p) ∨ (tJn T p = 0 ∧ ((rE bL T (tA T p) - tA T p ≤ 6 ∧ P 0 12 = -1) ∨ (6 < rE bL T (tA T p) - tA T p ∧ P 0 12 = tA T p + 6)))) (hw : rE bL T (tA T p) - tA T p ≤ 6 → P 0 7 = e56 (tL T (tA T p)) (rE bL T (tA T p) - tA T p).toNat) : MS T p P := by
  have hl1 := bL_t.mpr hl
  have hg := tA_ge T p
  rcases hx with ⟨hj, h12⟩ | ⟨hj, hx⟩
  · have hj := tJn_t hj
    have hk := tK_j hn (Or.inl hl1) hj
    refine ⟨h4, hp.1, hp.2, fun _ => ⟨?_, by omega, by omega⟩, fun q => by omega, fun q => by omega, fun q => by omega⟩
    unfold tS
    rw [if_pos hj]
    exact h12
  · have hj := tJn_f hj
    have hk := tK_w hn hl1 hj
    rcases hx with ⟨hle, h12⟩ | ⟨hle, h12⟩
    · rw [if_pos hle] at hk
      refine ⟨h4, hp.1, hp.2, fun q => by omega, fun _ => ⟨h12, by omega, ?_⟩, fun q => by omega, fun _ => hw hle⟩
      unfold tE
      rw [if_neg (by omega), if_pos hk]
      exact h5
    · rw [if_neg (by omega)] at hk
      refine ⟨h4, hp.1, hp.2, fun _ => ⟨?_, by omega, by omega⟩, fun q => by omega, fun q => by omega, fun q => by omega⟩
      unfold tS
      rw [if_neg (by rw [hj]; simp), if_pos hl1]
      exact h12
theorem MS.nu {T : TT} {p : Int} {P : PH} (hp : 0 ≤ p ∧ p ≤ T.2) (h4 : P 0 4 = tA T p) (hn : tA T p < T.2) (hl : 48 ≤ T.1 (tA T p) ∧ T.1 (tA T p) ≤ 57) (h3 : P 0 3 = 2) (h5 : P 0 5 = rE bN T (tA T p))
    (hx : (tJn T p = 1 ∧ P 0 12 = tA T p) ∨ (tJn T p = 0 ∧ ((rE bN T (tA T p) - tA T p ≤ 4 ∧ P 0 12 = -1) ∨ (4 < rE bN T (tA T p) - tA T p ∧ P 0 12 = tA T p + 4)))) (hw : rE bN T (tA T p) - tA T p ≤ 4 → P 0 6 = e10 (tD T (tA T p)) (rE bN T (tA T p) - tA T p).toNat) : MS T p P := by
  have hl1 := bN_t.mpr hl
  have hl0 : bL (T.1 (tA T p)) = false := bL_f (by omega)
  have hg := tA_ge T p
  rcases hx with ⟨hj, h12⟩ | ⟨hj, hx⟩
  · have hj := tJn_t hj
    have hk := tK_j hn (Or.inr hl1) hj
    refine ⟨h4, hp.1, hp.2, fun _ => ⟨?_, by omega, by omega⟩, fun q => by omega, fun q => by omega, fun q => by omega⟩
    unfold tS
    rw [if_pos hj]
    exact h12
  · have hj := tJn_f hj
    have hk := tK_n hn hl0 hl1 hj
    rcases hx with ⟨hle, h12⟩ | ⟨hle, h12⟩
    · rw [if_pos hle] at hk
      refine ⟨h4, hp.1, hp.2, fun q => by omega, fun _ => ⟨h12, by omega, ?_⟩, fun _ => ?_, fun q => by omega⟩
      · unfold tE
        rw [if_neg (by omega), if_neg (by omega), if_pos hk]
        exact h5
      · unfold tV
        rw [if_neg (by omega), if_neg (by omega), if_pos hk]
        exact hw hle
    · rw [if_neg (by omega)] at hk
      refine ⟨h4, hp.1, hp.2, fun _ => ⟨?_, by omega, by omega⟩, fun q => by omega, fun q => by omega, fun q => by omega⟩
      unfold tS
      rw [if_neg (by rw [hj]; simp), if_neg (by rw [hl0]; simp)]
      exact h12
/-- what the run so far holds -/
theorem run_l {T : TT} {a b : Int} (h : rE bL T a = rE bL T b) (hb : a ≤ b) (hg : b ≤ rE bL T a) : ∀ i : Nat, a + i < b → 1 ≤ tL T a i ∧ tL T a i ≤ 26 := by
  intro i hi
  have := bL_t.mp (rE_in (f := bL) (T := T) (p := a) (i := a + i) (by omega) (by omega)).2
  unfold tL
  omega
theorem run_d {T : TT} {a b : Int} (hb : a ≤ b) (hg : b ≤ rE bN T a) : ∀ i : Nat, a + i < b → 48 ≤ T.1 (a + i) ∧ T.1 (a + i) ≤ 57 := by
  intro i hi
  exact bN_t.mp (rE_in (f := bN) (T := T) (p := a) (i := a + i) (by omega) (by omega)).2
theorem own_r {T : TT} {p r w : Int} (hg : (r = 1 ∧ oWS w) ∨ (r = 0 ∧ ¬ oWS w)) (hw : tK T p = 1 → w = tW T p) (h1 : tK T p = 1) : (r = 1 ∧ tO T p ≠ -1) ∨ (r = 0 ∧ tO T p = -1) := by
  have ha := own_any h1
  rw [hw h1] at hg
  rcases hg with ⟨e, q⟩ | ⟨e, q⟩
  · exact Or.inl ⟨e, ha.mp q⟩
  · by_cases z : tO T p = -1
    · exact Or.inr ⟨e, z⟩
    · exact absurd (ha.mpr z) q
end
