/-! The text: a function and a length; runs of bytes of one sort; tokens by the place where the one ahead ends. -/
abbrev TT : Type := (Int → Int) × Int
def bL (c : Int) : Bool := decide (97 ≤ c ∧ c ≤ 122)
def bN (c : Int) : Bool := decide (48 ≤ c ∧ c ≤ 57)
def bW (c : Int) : Bool := decide (c = 32 ∨ c = 10)
theorem bL_t {c : Int} : bL c = true ↔ 97 ≤ c ∧ c ≤ 122 := by unfold bL; exact decide_eq_true_iff
theorem bN_t {c : Int} : bN c = true ↔ 48 ≤ c ∧ c ≤ 57 := by unfold bN; exact decide_eq_true_iff
theorem bW_t {c : Int} : bW c = true ↔ c = 32 ∨ c = 10 := by unfold bW; exact decide_eq_true_iff
def rEf (f : Int → Bool) (T : TT) : Nat → Int → Int
  | 0, p => p
  | k + 1, p => if p < T.2 ∧ f (T.1 p) = true then rEf f T k (p + 1) else p
/-- where a run from p on ends -/
def rE (f : Int → Bool) (T : TT) (p : Int) : Int := rEf f T (T.2 - p).toNat p
theorem rE_go {f : Int → Bool} {T : TT} {p : Int} (h : p < T.2) (hf : f (T.1 p) = true) : rE f T p = rE f T (p + 1) := by
  unfold rE
  have e : (T.2 - p).toNat = (T.2 - (p + 1)).toNat + 1 := by omega
  rw [e]
  show (if p < T.2 ∧ f (T.1 p) = true then _ else _) = _
  rw [if_pos ⟨h, hf⟩]
theorem rE_st {f : Int → Bool} {T : TT} {p : Int} (h : ¬ (p < T.2 ∧ f (T.1 p) = true)) : rE f T p = p := by
  unfold rE
  cases e : (T.2 - p).toNat with
  | zero => rfl
  | succ k =>
    show (if p < T.2 ∧ f (T.1 p) = true then _ else _) = _
    rw [if_neg h]
theorem rE_pr (f : Int → Bool) (T : TT) : ∀ (k : Nat) (p : Int), (T.2 - p).toNat ≤ k → p ≤ rE f T p ∧ (rE f T p ≤ T.2 ∨ rE f T p = p) ∧ (∀ i, p ≤ i → i < rE f T p → i < T.2 ∧ f (T.1 i) = true) ∧ ¬ (rE f T p < T.2 ∧ f (T.1 (rE f T p)) = true) := by
  intro k
  induction k with
  | zero =>
    intro p hp
    have e : rE f T p = p := rE_st (by omega)
    rw [e]
    exact ⟨Int.le_refl _, Or.inr rfl, fun i h1 h2 => by omega, by omega⟩
  | succ k ih =>
    intro p hp
    by_cases h : p < T.2 ∧ f (T.1 p) = true
    · have e : rE f T p = rE f T (p + 1) := rE_go h.1 h.2
      rw [e]
      obtain ⟨h1, h2, h3, h4⟩ := ih (p + 1) (by omega)
      refine ⟨by omega, ?_, fun i i1 i2 => ?_, h4⟩
      · rcases h2 with h2 | h2
        · exact Or.inl h2
        · exact Or.inl (by omega)
      · by_cases e2 : i = p
        · rw [e2]; exact h
        · exact h3 i (by omega) i2
    · have e : rE f T p = p := rE_st h
      rw [e]
      exact ⟨Int.le_refl _, Or.inr rfl, fun i h1 h2 => by omega, h⟩
theorem rE_ge (f : Int → Bool) (T : TT) (p : Int) : p ≤ rE f T p := (rE_pr f T _ p (Nat.le_refl _)).1
theorem rE_le {f : Int → Bool} {T : TT} {p : Int} (h : p ≤ T.2) : rE f T p ≤ T.2 := by
  rcases (rE_pr f T _ p (Nat.le_refl _)).2.1 with h1 | h1 <;> omega
theorem rE_in {f : Int → Bool} {T : TT} {p i : Int} (h1 : p ≤ i) (h2 : i < rE f T p) : i < T.2 ∧ f (T.1 i) = true := (rE_pr f T _ p (Nat.le_refl _)).2.2.1 i h1 h2
theorem rE_end (f : Int → Bool) (T : TT) (p : Int) : ¬ (rE f T p < T.2 ∧ f (T.1 (rE f T p)) = true) := (rE_pr f T _ p (Nat.le_refl _)).2.2.2
theorem rE_mid {f : Int → Bool} {T : TT} {p : Int} : ∀ (k : Nat), p + k ≤ rE f T p → rE f T (p + k) = rE f T p := by
  intro k
  induction k with
  | zero => intro _; simp
  | succ k ih =>
    intro h
    have e := ih (by omega)
    have hk := rE_in (f := f) (T := T) (p := p) (i := p + k) (by omega) (by omega)
    rw [← e, rE_go hk.1 hk.2]
    congr 1
    omega
/-! words and numbers -/
def e27 (g : Nat → Int) : Nat → Int
  | 0 => 0
  | k + 1 => e27 g k * 27 + g k
def e56 (g : Nat → Int) : Nat → Int
  | 0 => 0
  | k + 1 => e56 g k * 256 + (96 + g k)
def e10 (g : Nat → Int) : Nat → Int
  | 0 => 0
  | k + 1 => e10 g k * 10 + (g k - 48)
def tL (T : TT) (a : Int) : Nat → Int := fun i => T.1 (a + i) - 96
def tD (T : TT) (a : Int) : Nat → Int := fun i => T.1 (a + i)
def p27 : Nat → Int
  | 0 => 1
  | k + 1 => p27 k * 27
theorem e27_b {g : Nat → Int} : ∀ (k : Nat), k ≤ 6 → (∀ i, i < k → 0 ≤ g i ∧ g i ≤ 26) → 0 ≤ e27 g k ∧ e27 g k < p27 k := by
  intro k
  induction k with
  | zero => intro _ _; exact ⟨Int.le_refl _, show (0 : Int) < 1 by decide⟩
  | succ k ih =>
    intro hk h
    have h1 := ih (by omega) (fun i hi => h i (by omega))
    have h2 := h k (by omega)
    show 0 ≤ e27 g k * 27 + g k ∧ e27 g k * 27 + g k < p27 k * 27
    omega
theorem e56_b {g : Nat → Int} : ∀ (k : Nat), (∀ i, i < k → 1 ≤ g i ∧ g i ≤ 26) → 0 ≤ e56 g k ∧ (0 < k → 97 ≤ e56 g k) := by
  intro k
  induction k with
  | zero => intro _; exact ⟨Int.le_refl _, fun h => absurd h (Nat.not_lt_zero _)⟩
  | succ k ih =>
    intro h
    have h1 := ih (fun i hi => h i (by omega))
    have h2 := h k (by omega)
    show 0 ≤ e56 g k * 256 + (96 + g k) ∧ (0 < k + 1 → 97 ≤ e56 g k * 256 + (96 + g k))
    omega
theorem e56_inj {g h : Nat → Int} : ∀ (k j : Nat), (∀ i, i < k → 1 ≤ g i ∧ g i ≤ 26) → (∀ i, i < j → 1 ≤ h i ∧ h i ≤ 26) → e56 g k = e56 h j → k = j ∧ ∀ i, i < k → g i = h i := by
  intro k
  induction k with
  | zero =>
    intro j hg hh e
    cases j with
    | zero => exact ⟨rfl, fun i hi => absurd hi (Nat.not_lt_zero _)⟩
    | succ j =>
      have h1 := (e56_b (j + 1) hh).2 (Nat.succ_pos _)
      have h0 : e56 g 0 = 0 := rfl
      omega
  | succ k ih =>
    intro j hg hh e
    cases j with
    | zero =>
      have h1 := (e56_b (k + 1) hg).2 (Nat.succ_pos _)
      have h0 : e56 h 0 = 0 := rfl
      omega
    | succ j =>
      have e1 : e56 g k * 256 + (96 + g k) = e56 h j * 256 + (96 + h j) := e
      have b1 := hg k (by omega)
      have b2 := hh j (by omega)
      have e2 : g k = h j ∧ e56 g k = e56 h j := by omega
      obtain ⟨e3, e4⟩ := ih j (fun i hi => hg i (by omega)) (fun i hi => hh i (by omega)) e2.2
      subst e3
      refine ⟨rfl, fun i hi => ?_⟩
      by_cases h9 : i = k
      · rw [h9]; exact e2.1
      · exact e4 i (by omega)
theorem e27_inj {g h : Nat → Int} : ∀ (k : Nat), (∀ i, i < k → 0 ≤ g i ∧ g i ≤ 26) → (∀ i, i < k → 0 ≤ h i ∧ h i ≤ 26) → e27 g k = e27 h k → ∀ i, i < k → g i = h i := by
  intro k
  induction k with
  | zero => intro _ _ _ i hi; exact absurd hi (Nat.not_lt_zero _)
  | succ k ih =>
    intro hg hh e i hi
    have e1 : e27 g k * 27 + g k = e27 h k * 27 + h k := e
    have b1 := hg k (by omega)
    have b2 := hh k (by omega)
    have e2 : g k = h k ∧ e27 g k = e27 h k := by omega
    by_cases h9 : i = k
    · rw [h9]; exact e2.1
    · exact ih (fun i hi => hg i (by omega)) (fun i hi => hh i (by omega)) e2.2 i (by omega)
theorem e27_cg {g h : Nat → Int} : ∀ (k : Nat), (∀ i, i < k → g i = h i) → e27 g k = e27 h k := by
  intro k
  induction k with
  | zero => intro _; rfl
  | succ k ih =>
    intro e
    show e27 g k * 27 + g k = e27 h k * 27 + h k
    rw [ih (fun i hi => e i (by omega)), e k (by omega)]
theorem e56_cg {g h : Nat → Int} : ∀ (k : Nat), (∀ i, i < k → g i = h i) → e56 g k = e56 h k := by
  intro k
  induction k with
  | zero => intro _; rfl
  | succ k ih =>
    intro e
    show e56 g k * 256 + (96 + g k) = e56 h k * 256 + (96 + h k)
    rw [ih (fun i hi => e i (by omega)), e k (by omega)]
def tPad (g : Nat → Int) (L : Nat) : Nat → Int := fun i => if i < L then g i else 0
theorem e27_pad (g : Nat → Int) (L : Nat) : ∀ j : Nat, e27 (tPad g L) (L + j) = e27 g L * p27 j := by
  intro j
  induction j with
  | zero =>
    show e27 (tPad g L) L = e27 g L * 1
    rw [Int.mul_one]
    exact e27_cg L (fun i hi => by unfold tPad; rw [if_pos hi])
  | succ j ih =>
    show e27 (tPad g L) (L + j) * 27 + tPad g L (L + j) = e27 g L * (p27 j * 27)
    rw [ih, show tPad g L (L + j) = 0 by unfold tPad; rw [if_neg (by omega)], ← Int.mul_assoc]
    omega
/-- a name: by 27 (six letters, 0 behind it) and by 256 -/
def NW (v w : Int) : Prop := ∃ (g : Nat → Int) (L : Nat), 1 ≤ L ∧ L ≤ 6 ∧ (∀ i, i < L → 1 ≤ g i ∧ g i ≤ 26) ∧ v = e27 g L * p27 (6 - L) ∧ w = e56 g L
theorem NW.inj {v w v1 w1 : Int} (h : NW v w) (h1 : NW v1 w1) : v = v1 ↔ w = w1 := by
  obtain ⟨g, L, a1, a2, a3, a4, a5⟩ := h
  obtain ⟨g1, L1, b1, b2, b3, b4, b5⟩ := h1
  have pg : ∀ i, i < 6 → 0 ≤ tPad g L i ∧ tPad g L i ≤ 26 := by
    intro i _
    unfold tPad
    by_cases q : i < L
    · rw [if_pos q]; have := a3 i q; omega
    · rw [if_neg q]; omega
  have pg1 : ∀ i, i < 6 → 0 ≤ tPad g1 L1 i ∧ tPad g1 L1 i ≤ 26 := by
    intro i _
    unfold tPad
    by_cases q : i < L1
    · rw [if_pos q]; have := b3 i q; omega
    · rw [if_neg q]; omega
  have e1 : e27 (tPad g L) 6 = v := by rw [a4, ← e27_pad g L (6 - L), show L + (6 - L) = 6 by omega]
  have e2 : e27 (tPad g1 L1) 6 = v1 := by rw [b4, ← e27_pad g1 L1 (6 - L1), show L1 + (6 - L1) = 6 by omega]
  constructor
  · intro e
    have hq := e27_inj 6 pg pg1 (by rw [e1, e2, e])
    have hL : L = L1 := by
      rcases Nat.lt_trichotomy L L1 with q | q | q
      · have := hq L (by omega)
        unfold tPad at this
        rw [if_neg (by omega), if_pos q] at this
        have := b3 L q
        omega
      · exact q
      · have := hq L1 (by omega)
        unfold tPad at this
        rw [if_pos q, if_neg (by omega)] at this
        have := a3 L1 q
        omega
    subst hL
    rw [a5, b5]
    refine e56_cg L (fun i hi => ?_)
    have := hq i (by omega)
    unfold tPad at this
    rw [if_pos hi, if_pos hi] at this
    exact this
  · intro e
    obtain ⟨q1, q2⟩ := e56_inj L L1 a3 b3 (by rw [← a5, ← b5, e])
    subst q1
    rw [a4, b4, e27_cg L q2]
theorem NW.b {v w : Int} (h : NW v w) : 0 ≤ v ∧ v ≤ 387420488 := by
  obtain ⟨g, L, a1, a2, a3, a4, a5⟩ := h
  have pg : ∀ i, i < 6 → 0 ≤ tPad g L i ∧ tPad g L i ≤ 26 := by
    intro i _
    unfold tPad
    by_cases q : i < L
    · rw [if_pos q]; have := a3 i q; omega
    · rw [if_neg q]; omega
  have e1 : e27 (tPad g L) 6 = v := by rw [a4, ← e27_pad g L (6 - L), show L + (6 - L) = 6 by omega]
  have := e27_b 6 (Nat.le_refl _) pg
  rw [e1, show p27 6 = 387420489 by decide] at this
  omega
theorem NW.lit (l : List Int) (h1 : 1 ≤ l.length ∧ l.length ≤ 6) (h2 : ∀ x ∈ l, 1 ≤ x ∧ x ≤ 26) : NW (e27 (fun i => l.getD i 0) l.length * p27 (6 - l.length)) (e56 (fun i => l.getD i 0) l.length) :=
  ⟨fun i => l.getD i 0, l.length, h1.1, h1.2, fun i hi => by
    have e : l.getD i 0 = l[i] := by simp [List.getD, List.getElem?_eq_getElem hi]
    show 1 ≤ l.getD i 0 ∧ l.getD i 0 ≤ 26
    rw [e]
    exact h2 _ (List.getElem_mem hi), rfl, rfl⟩
/-- the own words: kind con match arm when rule budget num any or to -/
def oWL : List (List Int) := [[11, 9, 14, 4], [3, 15, 14], [13, 1, 20, 3, 8], [1, 18, 13], [23, 8, 5, 14], [18, 21, 12, 5], [2, 21, 4, 7, 5, 20], [14, 21, 13], [1, 14, 25], [15, 18], [20, 15]]
def o27 (k : Nat) : Int := e27 (fun i => (oWL.getD k []).getD i 0) (oWL.getD k []).length * p27 (6 - (oWL.getD k []).length)
def o56 (k : Nat) : Int := e56 (fun i => (oWL.getD k []).getD i 0) (oWL.getD k []).length
theorem NW.own (k : Nat) (hk : k < 11) : NW (o27 k) (o56 k) := by
  refine NW.lit (oWL.getD k []) ?_ ?_
  · exact (show ∀ k : Nat, k < 11 → 1 ≤ (oWL.getD k []).length ∧ (oWL.getD k []).length ≤ 6 by decide) k hk
  · exact (show ∀ k : Nat, k < 11 → ∀ x ∈ oWL.getD k [], 1 ≤ x ∧ x ≤ 26 by decide) k hk
def oWF (v : Int) : Nat → Int
  | 0 => -1
  | k + 1 => if o27 k = v then k else oWF v k
/-- which own word a name is by 27; none: -1 -/
def oWI (v : Int) : Int := oWF v 11
/-! tokens: 0 the end, 1 a word, 2 a number, 3 a sign, 4 what can't be anywhere -/
def tA (T : TT) (p : Int) : Int := rE bW T p
def tJ (T : TT) (p : Int) : Bool := decide (tA T p = p ∧ 0 < p) && (bL (T.1 (p - 1)) || bN (T.1 (p - 1)))
def tK (T : TT) (p : Int) : Int :=
  if T.2 ≤ tA T p then 0
  else if bL (T.1 (tA T p)) = false ∧ bN (T.1 (tA T p)) = false then 3
  else if tJ T p = true then 4
  else if bL (T.1 (tA T p)) = true then (if rE bL T (tA T p) - tA T p ≤ 6 then 1 else 4)
  else if rE bN T (tA T p) - tA T p ≤ 4 then 2 else 4
def tS (T : TT) (p : Int) : Int :=
  if tJ T p = true then tA T p else if bL (T.1 (tA T p)) = true then tA T p + 6 else tA T p + 4
def tE (T : TT) (p : Int) : Int :=
  if tK T p = 3 then tA T p + 1 else if tK T p = 1 then rE bL T (tA T p) else if tK T p = 2 then rE bN T (tA T p) else tA T p
def tN (T : TT) (p : Int) : Nat := (rE bL T (tA T p) - tA T p).toNat
def tM (T : TT) (p : Int) : Nat := (rE bN T (tA T p) - tA T p).toNat
def tV (T : TT) (p : Int) : Int :=
  if tK T p = 3 then T.1 (tA T p) else if tK T p = 1 then e27 (tL T (tA T p)) (tN T p) * p27 (6 - tN T p) else if tK T p = 2 then e10 (tD T (tA T p)) (tM T p) else 0
def tW (T : TT) (p : Int) : Int := e56 (tL T (tA T p)) (tN T p)
def tO (T : TT) (p : Int) : Int := if tK T p = 1 then oWI (tV T p) else -1
theorem tK_b (T : TT) (p : Int) : 0 ≤ tK T p ∧ tK T p ≤ 4 := by
  unfold tK
  repeat' split
  all_goals omega
theorem tA_ge (T : TT) (p : Int) : p ≤ tA T p := rE_ge _ _ _
theorem tA_le {T : TT} {p : Int} (h : p ≤ T.2) : tA T p ≤ T.2 := rE_le h
theorem tK_pos {T : TT} {p : Int} (h : tK T p ≠ 0) : tA T p < T.2 := by
  rcases Int.lt_or_le (tA T p) T.2 with h1 | h1
  · exact h1
  · exfalso; apply h; unfold tK; rw [if_pos h1]
theorem tK1 {T : TT} {p : Int} (h : tK T p = 1) : bL (T.1 (tA T p)) = true ∧ 1 ≤ tN T p ∧ tN T p ≤ 6 ∧ rE bL T (tA T p) = tA T p + tN T p ∧ tE T p = tA T p + tN T p ∧ tJ T p = false := by
  have hn := tK_pos (T := T) (p := p) (by omega)
  have h0 := h
  unfold tK at h
  rw [if_neg (by omega)] at h
  by_cases hs : bL (T.1 (tA T p)) = false ∧ bN (T.1 (tA T p)) = false
  · rw [if_pos hs] at h; omega
  · rw [if_neg hs] at h
    by_cases ha : tJ T p = true
    · rw [if_pos ha] at h; omega
    · rw [if_neg ha] at h
      by_cases hl : bL (T.1 (tA T p)) = true
      · rw [if_pos hl] at h
        by_cases h6 : rE bL T (tA T p) - tA T p ≤ 6
        · have hg : rE bL T (tA T p) = rE bL T (tA T p + 1) := rE_go hn hl
          have hge := rE_ge bL T (tA T p + 1)
          have hw : (tN T p : Int) = rE bL T (tA T p) - tA T p := by unfold tN; omega
          refine ⟨hl, by omega, by omega, by omega, ?_, by simpa using ha⟩
          unfold tE
          rw [if_neg (by omega), if_pos h0]
          omega
        · rw [if_neg h6] at h; omega
      · rw [if_neg hl] at h
        split at h <;> omega
theorem tK2 {T : TT} {p : Int} (h : tK T p = 2) : bL (T.1 (tA T p)) = false ∧ bN (T.1 (tA T p)) = true ∧ 1 ≤ tM T p ∧ tM T p ≤ 4 ∧ rE bN T (tA T p) = tA T p + tM T p ∧ tE T p = tA T p + tM T p ∧ tJ T p = false := by
  have hn := tK_pos (T := T) (p := p) (by omega)
  have h0 := h
  unfold tK at h
  rw [if_neg (by omega)] at h
  by_cases hs : bL (T.1 (tA T p)) = false ∧ bN (T.1 (tA T p)) = false
  · rw [if_pos hs] at h; omega
  · rw [if_neg hs] at h
    by_cases ha : tJ T p = true
    · rw [if_pos ha] at h; omega
    · rw [if_neg ha] at h
      by_cases hl : bL (T.1 (tA T p)) = true
      · rw [if_pos hl] at h
        split at h <;> omega
      · rw [if_neg hl] at h
        by_cases h6 : rE bN T (tA T p) - tA T p ≤ 4
        · have hl1 : bL (T.1 (tA T p)) = false := by simpa using hl
          have hN : bN (T.1 (tA T p)) = true := by
            cases hb : bN (T.1 (tA T p)) with
            | true => rfl
            | false => exact absurd ⟨hl1, hb⟩ hs
          have hg : rE bN T (tA T p) = rE bN T (tA T p + 1) := rE_go hn hN
          have hge := rE_ge bN T (tA T p + 1)
          have hw : (tM T p : Int) = rE bN T (tA T p) - tA T p := by unfold tM; omega
          refine ⟨hl1, hN, by omega, by omega, by omega, ?_, by simpa using ha⟩
          unfold tE
          rw [if_neg (by omega), if_neg (by omega), if_pos h0]
          omega
        · rw [if_neg h6] at h; omega
theorem tK3 {T : TT} {p : Int} (h : tK T p = 3) : bL (T.1 (tA T p)) = false ∧ bN (T.1 (tA T p)) = false ∧ tE T p = tA T p + 1 ∧ tV T p = T.1 (tA T p) := by
  have hn := tK_pos (T := T) (p := p) (by omega)
  have h0 := h
  unfold tK at h
  rw [if_neg (by omega)] at h
  by_cases hs : bL (T.1 (tA T p)) = false ∧ bN (T.1 (tA T p)) = false
  · refine ⟨hs.1, hs.2, ?_, ?_⟩
    · unfold tE; rw [if_pos h0]
    · unfold tV; rw [if_pos h0]
  · rw [if_neg hs] at h
    repeat' split at h
    all_goals omega
/-- behind a token -/
theorem tE_b {T : TT} {p : Int} (h : 1 ≤ tK T p ∧ tK T p ≤ 3) : p + 1 ≤ tE T p ∧ tA T p + 1 ≤ tE T p ∧ tE T p ≤ T.2 := by
  have hn := tK_pos (T := T) (p := p) (by omega)
  have hg := tA_ge T p
  rcases (show tK T p = 1 ∨ tK T p = 2 ∨ tK T p = 3 by omega) with h1 | h1 | h1
  · have := tK1 h1
    have hl := rE_le (f := bL) (T := T) (p := tA T p) (by omega)
    omega
  · have := tK2 h1
    have hl := rE_le (f := bN) (T := T) (p := tA T p) (by omega)
    omega
  · have := tK3 h1
    omega
/-- what stands just ahead of the place behind a token -/
theorem tE_c {T : TT} {p : Int} (h : 1 ≤ tK T p ∧ tK T p ≤ 3) : (bL (T.1 (tE T p - 1)) || bN (T.1 (tE T p - 1))) = decide (tK T p ≠ 3) := by
  have hg := tA_ge T p
  rcases (show tK T p = 1 ∨ tK T p = 2 ∨ tK T p = 3 by omega) with h1 | h1 | h1
  · have hw := tK1 h1
    have hi := rE_in (f := bL) (T := T) (p := tA T p) (i := tE T p - 1) (by omega) (by omega)
    rw [hi.2, h1]
    rfl
  · have hw := tK2 h1
    have hi := rE_in (f := bN) (T := T) (p := tA T p) (i := tE T p - 1) (by omega) (by omega)
    rw [hi.2, h1]
    simp
  · have hw := tK3 h1
    rw [show tE T p - 1 = tA T p by omega, hw.1, hw.2.1, h1]
    rfl
theorem NW.tok {T : TT} {p : Int} (h : tK T p = 1) : NW (tV T p) (tW T p) := by
  have hw := tK1 h
  refine ⟨tL T (tA T p), tN T p, hw.2.1, hw.2.2.1, fun i hi => ?_, ?_, rfl⟩
  · have hq := rE_in (f := bL) (T := T) (p := tA T p) (i := tA T p + i) (by omega) (by omega)
    have := bL_t.mp hq.2
    unfold tL
    omega
  · unfold tV
    rw [if_neg (by omega), if_pos h]
