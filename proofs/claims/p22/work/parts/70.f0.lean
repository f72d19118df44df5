section
section
/-! The text: a function and a length; runs of bytes of one sort; tokens by the place where the one ahead ends. -/
abbrev TT : Type := (Int → Int) × Int
def bL (c : Int) : Bool := decide (97 ≤ c ∧ c ≤ 122)
def bN (c : Int) : Bool := decide (48 ≤ c ∧ c ≤ 57)
def bW (c : Int) : Bool := decide (c = 32 ∨ c = 10)
theorem bL_t {c : Int} : bL c = true ↔ 97 ≤ c ∧ c ≤ 122 := by unfold bL; exact decide_eq_true_iff
theorem bN_t {c : Int} : bN c = true ↔ 48 ≤ c ∧ c ≤ 57 := by unfold bN; exact decide_eq_true_iff
theorem bW_t {c : Int} : bW c = true ↔ c = 32 ∨ c = 10 := by unfold bW; exact decide_eq_true_iff
def rEf (f : Int → Bool) (T : TT) : Nat → Int → Int
  | 0, p => p
  | k + 1, p => if p < T.2 ∧ f (T.1 p) = true then rEf f T k (p + 1) else p
/-- where a run from p on ends -/
def rE (f : Int → Bool) (T : TT) (p : Int) : Int := rEf f T (T.2 - p).toNat p
theorem rE_go {f : Int → Bool} {T : TT} {p : Int} (h : p < T.2) (hf : f (T.1 p) = true) : rE f T p = rE f T (p + 1) := by
  unfold rE
  have e : (T.2 - p).toNat = (T.2 - (p + 1)).toNat + 1 := by omega
  rw [e]
  show (if p < T.2 ∧ f (T.1 p) = true then _ else _) = _
  rw [if_pos ⟨h, hf⟩]
theorem rE_st {f : Int → Bool} {T : TT} {p : Int} (h : ¬ (p < T.2 ∧ f (T.1 p) = true)) : rE f T p = p := by
  unfold rE
  cases e : (T.2 - p).toNat with
  | zero => rfl
  | succ k =>
    show (if p < T.2 ∧ f (T.1 p) = true then _ else _) = _
    rw [if_neg h]
theorem rE_pr (f : Int → Bool) (T : TT) : ∀ (k : Nat) (p : Int), (T.2 - p).toNat ≤ k → p ≤ rE f T p ∧ (rE f T p ≤ T.2 ∨ rE f T p = p) ∧ (∀ i, p ≤ i → i < rE f T p → i < T.2 ∧ f (T.1 i) = true) ∧ ¬ (rE f T p < T.2 ∧ f (T.1 (rE f T p)) = true) := by
  intro k
  induction k with
  | zero =>
    intro p hp
    have e : rE f T p = p := rE_st (by omega)
    rw [e]
    exact ⟨Int.le_refl _, Or.inr rfl, fun i h1 h2 => by omega, by omega⟩
  | succ k ih =>
    intro p hp
    by_cases h : p < T.2 ∧ f (T.1 p) = true
    · have e : rE f T p = rE f T (p + 1) := rE_go h.1 h.2
      rw [e]
      obtain ⟨h1, h2, h3, h4⟩ := ih (p + 1) (by omega)
      refine ⟨by omega, ?_, fun i i1 i2 => ?_, h4⟩
      · rcases h2 with h2 | h2
        · exact Or.inl h2
        · exact Or.inl (by omega)
      · by_cases e2 : i = p
        · rw [e2]; exact h
        · exact h3 i (by omega) i2
    · have e : rE f T p = p := rE_st h
      rw [e]
      exact ⟨Int.le_refl _, Or.inr rfl, fun i h1 h2 => by omega, h⟩
theorem rE_ge (f : Int → Bool) (T : TT) (p : Int) : p ≤ rE f T p := (rE_pr f T _ p (Nat.le_refl _)).1
theorem rE_le {f : Int → Bool} {T : TT} {p : Int} (h : p ≤ T.2) : rE f T p ≤ T.2 := by
  rcases (rE_pr f T _ p (Nat.le_refl _)).2.1 with h1 | h1 <;> omega
theorem rE_in {f : Int → Bool} {T : TT} {p i : Int} (h1 : p ≤ i) (h2 : i < rE f T p) : i < T.2 ∧ f (T.1 i) = true := (rE_pr f T _ p (Nat.le_refl _)).2.2.1 i h1 h2
/-! words and numbers -/
def e27 (g : Nat → Int) : Nat → Int
  | 0 => 0
  | k + 1 => e27 g k * 27 + g k
def e56 (g : Nat → Int) : Nat → Int
  | 0 => 0
  | k + 1 => e56 g k * 256 + (96 + g k)
def e10 (g : Nat → Int) : Nat → Int
  | 0 => 0
  | k + 1 => e10 g k * 10 + (g k - 48)
def tL (T : TT) (a : Int) : Nat → Int := fun i => T.1 (a + i) - 96
def tD (T : TT) (a : Int) : Nat → Int := fun i => T.1 (a + i)
def p27 : Nat → Int
  | 0 => 1
  | k + 1 => p27 k * 27
theorem e27_b {g : Nat → Int} : ∀ (k : Nat), k ≤ 6 → (∀ i, i < k → 0 ≤ g i ∧ g i ≤ 26) → 0 ≤ e27 g k ∧ e27 g k < p27 k := by
  intro k
  induction k with
  | zero => intro _ _; exact ⟨Int.le_refl _, show (0 : Int) < 1 by decide⟩
  | succ k ih =>
    intro hk h
    have h1 := ih (by omega) (fun i hi => h i (by omega))
    have h2 := h k (by omega)
    show 0 ≤ e27 g k * 27 + g k ∧ e27 g k * 27 + g k < p27 k * 27
    omega
theorem e56_b {g : Nat → Int} : ∀ (k : Nat), (∀ i, i < k → 1 ≤ g i ∧ g i ≤ 26) → 0 ≤ e56 g k ∧ (0 < k → 97 ≤ e56 g k) := by
  intro k
  induction k with
  | zero => intro _; exact ⟨Int.le_refl _, fun h => absurd h (Nat.not_lt_zero _)⟩
  | succ k ih =>
    intro h
    have h1 := ih (fun i hi => h i (by omega))
    have h2 := h k (by omega)
    show 0 ≤ e56 g k * 256 + (96 + g k) ∧ (0 < k + 1 → 97 ≤ e56 g k * 256 + (96 + g k))
    omega
theorem e56_inj {g h : Nat → Int} : ∀ (k j : Nat), (∀ i, i < k → 1 ≤ g i ∧ g i ≤ 26) → (∀ i, i < j → 1 ≤ h i ∧ h i ≤ 26) → e56 g k = e56 h j → k = j ∧ ∀ i, i < k → g i = h i := by
  intro k
  induction k with
  | zero =>
    intro j hg hh e
    cases j with
    | zero => exact ⟨rfl, fun i hi => absurd hi (Nat.not_lt_zero _)⟩
    | succ j =>
      have h1 := (e56_b (j + 1) hh).2 (Nat.succ_pos _)
      have h0 : e56 g 0 = 0 := rfl
      omega
  | succ k ih =>
    intro j hg hh e
    cases j with
    | zero =>
      have h1 := (e56_b (k + 1) hg).2 (Nat.succ_pos _)
      have h0 : e56 h 0 = 0 := rfl
      omega
    | succ j =>
      have e1 : e56 g k * 256 + (96 + g k) = e56 h j * 256 + (96 + h j) := e
      have b1 := hg k (by omega)
      have b2 := hh j (by omega)
      have e2 : g k = h j ∧ e56 g k = e56 h j := by omega
      obtain ⟨e3, e4⟩ := ih j (fun i hi => hg i (by omega)) (fun i hi => hh i (by omega)) e2.2
      subst e3
      refine ⟨rfl, fun i hi => ?_⟩
      by_cases h9 : i = k
      · rw [h9]; exact e2.1
      · exact e4 i (by omega)
theorem e27_inj {g h : Nat → Int} : ∀ (k : Nat), (∀ i, i < k → 0 ≤ g i ∧ g i ≤ 26) → (∀ i, i < k → 0 ≤ h i ∧ h i ≤ 26) → e27 g k = e27 h k → ∀ i, i < k → g i = h i := by
  intro k
  induction k with
  | zero => intro _ _ _ i hi; exact absurd hi (Nat.not_lt_zero _)
  | succ k ih =>
    intro hg hh e i hi
    have e1 : e27 g k * 27 + g k = e27 h k * 27 + h k := e
    have b1 := hg k (by omega)
    have b2 := hh k (by omega)
    have e2 : g k = h k ∧ e27 g k = e27 h k := by omega
    by_cases h9 : i = k
    · rw [h9]; exact e2.1
    · exact ih (fun i hi => hg i (by omega)) (fun i hi => hh i (by omega)) e2.2 i (by omega)
theorem e27_cg {g h : Nat → Int} : ∀ (k : Nat), (∀ i, i < k → g i = h i) → e27 g k = e27 h k := by
  intro k
  induction k with
  | zero => intro _; rfl
  | succ k ih =>
    intro e
    show e27 g k * 27 + g k = e27 h k * 27 + h k
    rw [ih (fun i hi => e i (by omega)), e k (by omega)]
theorem e56_cg {g h : Nat → Int} : ∀ (k : Nat), (∀ i, i < k → g i = h i) → e56 g k = e56 h k := by
  intro k
  induction k with
  | zero => intro _; rfl
  | succ k ih =>
    intro e
    show e56 g k * 256 + (96 + g k) = e56 h k * 256 + (96 + h k)
    rw [ih (fun i hi => e i (by omega)), e k (by omega)]
def tPad (g : Nat → Int) (L : Nat) : Nat → Int := fun i => if i < L then g i else 0
theorem e27_pad (g : Nat → Int) (L : Nat) : ∀ j : Nat, e27 (tPad g L) (L + j) = e27 g L * p27 j := by
  intro j
  induction j with
  | zero =>
    show e27 (tPad g L) L = e27 g L * 1
    rw [Int.mul_one]
    exact e27_cg L (fun i hi => by unfold tPad; rw [if_pos hi])
  | succ j ih =>
    show e27 (tPad g L) (L + j) * 27 + tPad g L (L + j) = e27 g L * (p27 j * 27)
    rw [ih, show tPad g L (L + j) = 0 by unfold tPad; rw [if_neg (by omega)], ← Int.mul_assoc]
    omega
/-- a name: by 27 (six letters, 0 behind it) and by 256 -/
def NW (v w : Int) : Prop := ∃ (g : Nat → Int) (L : Nat), 1 ≤ L ∧ L ≤ 6 ∧ (∀ i, i < L → 1 ≤ g i ∧ g i ≤ 26) ∧ v = e27 g L * p27 (6 - L) ∧ w = e56 g L
theorem NW.inj {v w v1 w1 : Int} (h : NW v w) (h1 : NW v1 w1) : v = v1 ↔ w = w1 := by
  obtain ⟨g, L, a1, a2, a3, a4, a5⟩ := h
  obtain ⟨g1, L1, b1, b2, b3, b4, b5⟩ := h1
  have pg : ∀ i, i < 6 → 0 ≤ tPad g L i ∧ tPad g L i ≤ 26 := by
    intro i _
    unfold tPad
    by_cases q : i < L
    · rw [if_pos q]; have := a3 i q; omega
    · rw [if_neg q]; omega
  have pg1 : ∀ i, i < 6 → 0 ≤ tPad g1 L1 i ∧ tPad g1 L1 i ≤ 26 := by
    intro i _
    unfold tPad
    by_cases q : i < L1
    · rw [if_pos q]; have := b3 i q; omega
    · rw [if_neg q]; omega
  have e1 : e27 (tPad g L) 6 = v := by rw [a4, ← e27_pad g L (6 - L), show L + (6 - L) = 6 by omega]
  have e2 : e27 (tPad g1 L1) 6 = v1 := by rw [b4, ← e27_pad g1 L1 (6 - L1), show L1 + (6 - L1) = 6 by omega]
  constructor
  · intro e
    have hq := e27_inj 6 pg pg1 (by rw [e1, e2, e])
    have hL : L = L1 := by
      rcases Nat.lt_trichotomy L L1 with q | q | q
      · have := hq L (by omega)
        unfold tPad at this
        rw [if_neg (by omega), if_pos q] at this
        have := b3 L q
        omega
      · exact q
      · have := hq L1 (by omega)
        unfold tPad at this
        rw [if_pos q, if_neg (by omega)] at this
        have := a3 L1 q
        omega
    subst hL
    rw [a5, b5]
    refine e56_cg L (fun i hi => ?_)
    have := hq i (by omega)
    unfold tPad at this
    rw [if_pos hi, if_pos hi] at this
    exact this
  · intro e
    obtain ⟨q1, q2⟩ := e56_inj L L1 a3 b3 (by rw [← a5, ← b5, e])
    subst q1
    rw [a4, b4, e27_cg L q2]
theorem NW.b {v w : Int} (h : NW v w) : 0 ≤ v ∧ v ≤ 387420488 := by
  obtain ⟨g, L, a1, a2, a3, a4, a5⟩ := h
  have pg : ∀ i, i < 6 → 0 ≤ tPad g L i ∧ tPad g L i ≤ 26 := by
    intro i _
    unfold tPad
    by_cases q : i < L
    · rw [if_pos q]; have := a3 i q; omega
    · rw [if_neg q]; omega
  have e1 : e27 (tPad g L) 6 = v := by rw [a4, ← e27_pad g L (6 - L), show L + (6 - L) = 6 by omega]
  have := e27_b 6 (Nat.le_refl _) pg
  rw [e1, show p27 6 = 387420489 by decide] at this
  omega
theorem NW.lit (l : List Int) (h1 : 1 ≤ l.length ∧ l.length ≤ 6) (h2 : ∀ x ∈ l, 1 ≤ x ∧ x ≤ 26) : NW (e27 (fun i => l.getD i 0) l.length * p27 (6 - l.length)) (e56 (fun i => l.getD i 0) l.length) :=
  ⟨fun i => l.getD i 0, l.length, h1.1, h1.2, fun i hi => by
    have e : l.getD i 0 = l[i] := by simp [List.getD, List.getElem?_eq_getElem hi]
    show 1 ≤ l.getD i 0 ∧ l.getD i 0 ≤ 26
    rw [e]
    exact h2 _ (List.getElem_mem hi), rfl, rfl⟩
/-- the own words: kind con match arm when rule budget num any or to -/
def oWL : List (List Int) := [[11, 9, 14, 4], [3, 15, 14], [13, 1, 20, 3, 8], [1, 18, 13], [23, 8, 5, 14], [18, 21, 12, 5], [2, 21, 4, 7, 5, 20], [14, 21, 13], [1, 14, 25], [15, 18], [20, 15]]
def o27 (k : Nat) : Int := e27 (fun i => (oWL.getD k []).getD i 0) (oWL.getD k []).length * p27 (6 - (oWL.getD k []).length)
def o56 (k : Nat) : Int := e56 (fun i => (oWL.getD k []).getD i 0) (oWL.getD k []).length
theorem NW.own (k : Nat) (hk : k < 11) : NW (o27 k) (o56 k) := by
  refine NW.lit (oWL.getD k []) ?_ ?_
  · exact (show ∀ k : Nat, k < 11 → 1 ≤ (oWL.getD k []).length ∧ (oWL.getD k []).length ≤ 6 by decide) k hk
  · exact (show ∀ k : Nat, k < 11 → ∀ x ∈ oWL.getD k [], 1 ≤ x ∧ x ≤ 26 by decide) k hk
def oWF (v : Int) : Nat → Int
  | 0 => -1
  | k + 1 => if o27 k = v then k else oWF v k
/-- which own word a name is by 27; none: -1 -/
def oWI (v : Int) : Int := oWF v 11
/-! tokens: 0 the end, 1 a word, 2 a number, 3 a sign, 4 what can't be anywhere -/
def tA (T : TT) (p : Int) : Int := rE bW T p
def tJ (T : TT) (p : Int) : Bool := decide (tA T p = p ∧ 0 < p) && (bL (T.1 (p - 1)) || bN (T.1 (p - 1)))
def tK (T : TT) (p : Int) : Int :=
  if T.2 ≤ tA T p then 0
  else if bL (T.1 (tA T p)) = false ∧ bN (T.1 (tA T p)) = false then 3
  else if tJ T p = true then 4
  else if bL (T.1 (tA T p)) = true then (if rE bL T (tA T p) - tA T p ≤ 6 then 1 else 4)
  else if rE bN T (tA T p) - tA T p ≤ 4 then 2 else 4
def tS (T : TT) (p : Int) : Int :=
  if tJ T p = true then tA T p else if bL (T.1 (tA T p)) = true then tA T p + 6 else tA T p + 4
def tE (T : TT) (p : Int) : Int :=
  if tK T p = 3 then tA T p + 1 else if tK T p = 1 then rE bL T (tA T p) else if tK T p = 2 then rE bN T (tA T p) else tA T p
def tN (T : TT) (p : Int) : Nat := (rE bL T (tA T p) - tA T p).toNat
def tM (T : TT) (p : Int) : Nat := (rE bN T (tA T p) - tA T p).toNat
def tV (T : TT) (p : Int) : Int :=
  if tK T p = 3 then T.1 (tA T p) else if tK T p = 1 then e27 (tL T (tA T p)) (tN T p) * p27 (6 - tN T p) else if tK T p = 2 then e10 (tD T (tA T p)) (tM T p) else 0
def tW (T : TT) (p : Int) : Int := e56 (tL T (tA T p)) (tN T p)
def tO (T : TT) (p : Int) : Int := if tK T p = 1 then oWI (tV T p) else -1
theorem tA_ge (T : TT) (p : Int) : p ≤ tA T p := rE_ge _ _ _
theorem tA_le {T : TT} {p : Int} (h : p ≤ T.2) : tA T p ≤ T.2 := rE_le h
theorem tK_pos {T : TT} {p : Int} (h : tK T p ≠ 0) : tA T p < T.2 := by
  rcases Int.lt_or_le (tA T p) T.2 with h1 | h1
  · exact h1
  · exfalso; apply h; unfold tK; rw [if_pos h1]
theorem tK1 {T : TT} {p : Int} (h : tK T p = 1) : bL (T.1 (tA T p)) = true ∧ 1 ≤ tN T p ∧ tN T p ≤ 6 ∧ rE bL T (tA T p) = tA T p + tN T p ∧ tE T p = tA T p + tN T p ∧ tJ T p = false := by
  have hn := tK_pos (T := T) (p := p) (by omega)
  have h0 := h
  unfold tK at h
  rw [if_neg (by omega)] at h
  by_cases hs : bL (T.1 (tA T p)) = false ∧ bN (T.1 (tA T p)) = false
  · rw [if_pos hs] at h; omega
  · rw [if_neg hs] at h
    by_cases ha : tJ T p = true
    · rw [if_pos ha] at h; omega
    · rw [if_neg ha] at h
      by_cases hl : bL (T.1 (tA T p)) = true
      · rw [if_pos hl] at h
        by_cases h6 : rE bL T (tA T p) - tA T p ≤ 6
        · have hg : rE bL T (tA T p) = rE bL T (tA T p + 1) := rE_go hn hl
          have hge := rE_ge bL T (tA T p + 1)
          have hw : (tN T p : Int) = rE bL T (tA T p) - tA T p := by unfold tN; omega
          refine ⟨hl, by omega, by omega, by omega, ?_, by simpa using ha⟩
          unfold tE
          rw [if_neg (by omega), if_pos h0]
          omega
        · rw [if_neg h6] at h; omega
      · rw [if_neg hl] at h
        split at h <;> omega
theorem tK2 {T : TT} {p : Int} (h : tK T p = 2) : bL (T.1 (tA T p)) = false ∧ bN (T.1 (tA T p)) = true ∧ 1 ≤ tM T p ∧ tM T p ≤ 4 ∧ rE bN T (tA T p) = tA T p + tM T p ∧ tE T p = tA T p + tM T p ∧ tJ T p = false := by
  have hn := tK_pos (T := T) (p := p) (by omega)
  have h0 := h
  unfold tK at h
  rw [if_neg (by omega)] at h
  by_cases hs : bL (T.1 (tA T p)) = false ∧ bN (T.1 (tA T p)) = false
  · rw [if_pos hs] at h; omega
  · rw [if_neg hs] at h
    by_cases ha : tJ T p = true
    · rw [if_pos ha] at h; omega
    · rw [if_neg ha] at h
      by_cases hl : bL (T.1 (tA T p)) = true
      · rw [if_pos hl] at h
        split at h <;> omega
      · rw [if_neg hl] at h
        by_cases h6 : rE bN T (tA T p) - tA T p ≤ 4
        · have hl1 : bL (T.1 (tA T p)) = false := by simpa using hl
          have hN : bN (T.1 (tA T p)) = true := by
            cases hb : bN (T.1 (tA T p)) with
            | true => rfl
            | false => exact absurd ⟨hl1, hb⟩ hs
          have hg : rE bN T (tA T p) = rE bN T (tA T p + 1) := rE_go hn hN
          have hge := rE_ge bN T (tA T p + 1)
          have hw : (tM T p : Int) = rE bN T (tA T p) - tA T p := by unfold tM; omega
          refine ⟨hl1, hN, by omega, by omega, by omega, ?_, by simpa using ha⟩
          unfold tE
          rw [if_neg (by omega), if_neg (by omega), if_pos h0]
          omega
        · rw [if_neg h6] at h; omega
theorem tK3 {T : TT} {p : Int} (h : tK T p = 3) : bL (T.1 (tA T p)) = false ∧ bN (T.1 (tA T p)) = false ∧ tE T p = tA T p + 1 ∧ tV T p = T.1 (tA T p) := by
  have hn := tK_pos (T := T) (p := p) (by omega)
  have h0 := h
  unfold tK at h
  rw [if_neg (by omega)] at h
  by_cases hs : bL (T.1 (tA T p)) = false ∧ bN (T.1 (tA T p)) = false
  · refine ⟨hs.1, hs.2, ?_, ?_⟩
    · unfold tE; rw [if_pos h0]
    · unfold tV; rw [if_pos h0]
  · rw [if_neg hs] at h
    repeat' split at h
    all_goals omega
/-- behind a token -/
theorem tE_b {T : TT} {p : Int} (h : 1 ≤ tK T p ∧ tK T p ≤ 3) : p + 1 ≤ tE T p ∧ tA T p + 1 ≤ tE T p ∧ tE T p ≤ T.2 := by
  have hn := tK_pos (T := T) (p := p) (by omega)
  have hg := tA_ge T p
  rcases (show tK T p = 1 ∨ tK T p = 2 ∨ tK T p = 3 by omega) with h1 | h1 | h1
  · have := tK1 h1
    have hl := rE_le (f := bL) (T := T) (p := tA T p) (by omega)
    omega
  · have := tK2 h1
    have hl := rE_le (f := bN) (T := T) (p := tA T p) (by omega)
    omega
  · have := tK3 h1
    omega
/-- what stands just ahead of the place behind a token -/
theorem tE_c {T : TT} {p : Int} (h : 1 ≤ tK T p ∧ tK T p ≤ 3) : (bL (T.1 (tE T p - 1)) || bN (T.1 (tE T p - 1))) = decide (tK T p ≠ 3) := by
  have hg := tA_ge T p
  rcases (show tK T p = 1 ∨ tK T p = 2 ∨ tK T p = 3 by omega) with h1 | h1 | h1
  · have hw := tK1 h1
    have hi := rE_in (f := bL) (T := T) (p := tA T p) (i := tE T p - 1) (by omega) (by omega)
    rw [hi.2, h1]
    rfl
  · have hw := tK2 h1
    have hi := rE_in (f := bN) (T := T) (p := tA T p) (i := tE T p - 1) (by omega) (by omega)
    rw [hi.2, h1]
    simp
  · have hw := tK3 h1
    rw [show tE T p - 1 = tA T p by omega, hw.1, hw.2.1, h1]
    rfl
theorem NW.tok {T : TT} {p : Int} (h : tK T p = 1) : NW (tV T p) (tW T p) := by
  have hw := tK1 h
  refine ⟨tL T (tA T p), tN T p, hw.2.1, hw.2.2.1, fun i hi => ?_, ?_, rfl⟩
  · have hq := rE_in (f := bL) (T := T) (p := tA T p) (i := tA T p + i) (by omega) (by omega)
    have := bL_t.mp hq.2
    unfold tL
    omega
  · unfold tV
    rw [if_neg (by omega), if_pos h]
end
section
/-! Own words; what a reader of the text answers: a fault's kind (0: none) with the place where it goes on, or the fault's place. -/
theorem oWF_r (v : Int) : ∀ n : Nat, -1 ≤ oWF v n ∧ oWF v n < (n : Int) := by
  intro n
  induction n with
  | zero => exact ⟨Int.le_refl _, show (-1 : Int) < 0 by decide⟩
  | succ n ih =>
    show -1 ≤ (if o27 n = v then (n : Int) else oWF v n) ∧ (if o27 n = v then (n : Int) else oWF v n) < ((n + 1 : Nat) : Int)
    split <;> omega
theorem oWF_v (v : Int) : ∀ (n k : Nat), oWF v n = (k : Int) → o27 k = v := by
  intro n
  induction n with
  | zero => intro k h; exfalso; have h : (-1 : Int) = (k : Int) := h; omega
  | succ n ih =>
    intro k h
    have h : (if o27 n = v then (n : Int) else oWF v n) = (k : Int) := h
    by_cases e : o27 n = v
    · rw [if_pos e] at h
      rw [← show n = k by omega]
      exact e
    · rw [if_neg e] at h
      exact ih k h
theorem oWF_n (v : Int) : ∀ (n : Nat), oWF v n = -1 → ∀ k : Nat, k < n → o27 k ≠ v := by
  intro n
  induction n with
  | zero => intro _ k hk; exact absurd hk (Nat.not_lt_zero _)
  | succ n ih =>
    intro h k hk
    have h : (if o27 n = v then (n : Int) else oWF v n) = -1 := h
    by_cases e : o27 n = v
    · rw [if_pos e] at h; omega
    · rw [if_neg e] at h
      by_cases e2 : k = n
      · rw [e2]; exact e
      · exact ih h k (by omega)
theorem o27_inj : ∀ i : Nat, i < 11 → ∀ j : Nat, j < 11 → o27 i = o27 j → i = j := by decide +kernel
theorem oWI_is {v : Int} {k : Nat} (hk : k < 11) : oWI v = (k : Int) ↔ v = o27 k := by
  constructor
  · intro h; exact (oWF_v v 11 k h).symm
  · intro h
    have hr := oWF_r v 11
    rcases (show oWF v 11 = -1 ∨ 0 ≤ oWF v 11 by omega) with h1 | h1
    · exact absurd h.symm (oWF_n v 11 h1 k hk)
    · have e : oWF v 11 = ((oWF v 11).toNat : Int) := (Int.toNat_of_nonneg h1).symm
      have h2 := oWF_v v 11 _ e
      have h3 := o27_inj (oWF v 11).toNat (by omega) k hk (by rw [h2, h])
      show oWF v 11 = _
      omega
theorem tO_r (T : TT) (p : Int) : -1 ≤ tO T p ∧ tO T p ≤ 10 ∧ (tO T p = -1 ∨ tK T p = 1) := by
  unfold tO
  have hr := oWF_r (tV T p) 11
  by_cases h : tK T p = 1
  · rw [if_pos h]
    unfold oWI
    exact ⟨by omega, by omega, Or.inr h⟩
  · rw [if_neg h]
    exact ⟨Int.le_refl _, by omega, Or.inl rfl⟩
theorem own_is {T : TT} {p : Int} (k : Nat) (hk : k < 11) (w : Int) (hw : o56 k = w) : (tK T p = 1 ∧ tW T p = w) ↔ tO T p = (k : Int) := by
  subst hw
  constructor
  · intro h
    unfold tO
    rw [if_pos h.1]
    exact (oWI_is hk).mpr (((NW.tok h.1).inj (NW.own k hk)).mpr h.2)
  · intro h
    have h1 : tK T p = 1 := by
      rcases (tO_r T p).2.2 with q | q
      · omega
      · exact q
    refine ⟨h1, ((NW.tok h1).inj (NW.own k hk)).mp ?_⟩
    unfold tO at h
    rw [if_pos h1] at h
    exact (oWI_is hk).mp h
def oWS (w : Int) : Prop := ∃ k : Nat, k < 11 ∧ w = o56 k
theorem own_any {T : TT} {p : Int} (h : tK T p = 1) : oWS (tW T p) ↔ tO T p ≠ -1 := by
  have hr := tO_r T p
  constructor
  · intro ⟨k, hk, e⟩ q
    have := (own_is (T := T) (p := p) k hk _ rfl).mp ⟨h, e⟩
    omega
  · intro q
    refine ⟨(tO T p).toNat, by omega, ?_⟩
    exact ((own_is (T := T) (p := p) (tO T p).toNat (by omega) _ rfl).mpr (by omega)).2
theorem oWS_t {w : Int} (h : w = 1802071652 ∨ w = 6516590 ∨ w = 469786452840 ∨ w = 6386285 ∨ w = 2003330414 ∨ w = 1920298085 ∨ w = 108256335193460 ∨ w = 7239021 ∨ w = 6385273 ∨ w = 28530 ∨ w = 29807) : oWS w := by
  rcases h with h | h | h | h | h | h | h | h | h | h | h
  · exact ⟨0, by decide, h.trans (by decide +kernel)⟩
  · exact ⟨1, by decide, h.trans (by decide +kernel)⟩
  · exact ⟨2, by decide, h.trans (by decide +kernel)⟩
  · exact ⟨3, by decide, h.trans (by decide +kernel)⟩
  · exact ⟨4, by decide, h.trans (by decide +kernel)⟩
  · exact ⟨5, by decide, h.trans (by decide +kernel)⟩
  · exact ⟨6, by decide, h.trans (by decide +kernel)⟩
  · exact ⟨7, by decide, h.trans (by decide +kernel)⟩
  · exact ⟨8, by decide, h.trans (by decide +kernel)⟩
  · exact ⟨9, by decide, h.trans (by decide +kernel)⟩
  · exact ⟨10, by decide, h.trans (by decide +kernel)⟩
theorem o56_v : o56 0 = 1802071652 ∧ o56 1 = 6516590 ∧ o56 2 = 469786452840 ∧ o56 3 = 6386285 ∧ o56 4 = 2003330414 ∧ o56 5 = 1920298085 ∧ o56 6 = 108256335193460 ∧ o56 7 = 7239021 ∧ o56 8 = 6385273 ∧ o56 9 = 28530 ∧ o56 10 = 29807 := by decide +kernel
theorem oWS_f {w : Int} (h : w ≠ 1802071652 ∧ w ≠ 6516590 ∧ w ≠ 469786452840 ∧ w ≠ 6386285 ∧ w ≠ 2003330414 ∧ w ≠ 1920298085 ∧ w ≠ 108256335193460 ∧ w ≠ 7239021 ∧ w ≠ 6385273 ∧ w ≠ 28530 ∧ w ≠ 29807) : ¬ oWS w := by
  intro ⟨k, hk, e⟩
  have hv := o56_v
  rcases (show k = 0 ∨ k = 1 ∨ k = 2 ∨ k = 3 ∨ k = 4 ∨ k = 5 ∨ k = 6 ∨ k = 7 ∨ k = 8 ∨ k = 9 ∨ k = 10 by omega) with q | q | q | q | q | q | q | q | q | q | q <;> (rw [q] at e; omega)
/-- where a fault of a token itself is told -/
def fh (T : TT) (p : Int) : Int := if tK T p = 4 then tS T p else tA T p
theorem fh_s (T : TT) (p : Int) : (tK T p = 4 ∧ fh T p = tS T p) ∨ (tK T p ≠ 4 ∧ fh T p = tA T p) := by
  unfold fh
  by_cases h : tK T p = 4
  · rw [if_pos h]; exact Or.inl ⟨h, rfl⟩
  · rw [if_neg h]; exact Or.inr ⟨h, rfl⟩
/-- a sign -/
def sgn (T : TT) (c p : Int) : Int × Int := if tK T p = 3 ∧ tV T p = c then (0, tE T p) else (1, fh T p)
theorem sgn_s (T : TT) (c p : Int) : (tK T p = 3 ∧ tV T p = c ∧ (sgn T c p).1 = 0 ∧ (sgn T c p).2 = tE T p) ∨ ((tK T p ≠ 3 ∨ tV T p ≠ c) ∧ (sgn T c p).1 = 1 ∧ (sgn T c p).2 = fh T p) := by
  unfold sgn
  by_cases h : tK T p = 3 ∧ tV T p = c
  · rw [if_pos h]; exact Or.inl ⟨h.1, h.2, rfl, rfl⟩
  · rw [if_neg h]; exact Or.inr ⟨by omega, rfl, rfl⟩
/-- a number between two -/
def num (T : TT) (lo hi p : Int) : Int × Int := if tK T p = 2 then (if lo ≤ tV T p ∧ tV T p ≤ hi then (0, tE T p) else (4, tA T p)) else (1, fh T p)
theorem num_s (T : TT) (lo hi p : Int) : (tK T p = 2 ∧ lo ≤ tV T p ∧ tV T p ≤ hi ∧ (num T lo hi p).1 = 0 ∧ (num T lo hi p).2 = tE T p) ∨ (tK T p = 2 ∧ (tV T p < lo ∨ hi < tV T p) ∧ (num T lo hi p).1 = 4 ∧ (num T lo hi p).2 = tA T p) ∨ (tK T p ≠ 2 ∧ (num T lo hi p).1 = 1 ∧ (num T lo hi p).2 = fh T p) := by
  unfold num
  by_cases h : tK T p = 2
  · rw [if_pos h]
    by_cases h2 : lo ≤ tV T p ∧ tV T p ≤ hi
    · rw [if_pos h2]; exact Or.inl ⟨h, h2.1, h2.2, rfl, rfl⟩
    · rw [if_neg h2]; exact Or.inr (Or.inl ⟨h, by omega, rfl, rfl⟩)
  · rw [if_neg h]; exact Or.inr (Or.inr ⟨h, rfl, rfl⟩)
/-- the first place of a value in a row -/
def fxi (g : Int → Int) (v : Int) : Nat → Int
  | 0 => -1
  | n + 1 => if fxi g v n ≠ -1 then fxi g v n else if g n = v then n else -1
theorem fxi_b (g : Int → Int) (v : Int) : ∀ n : Nat, -1 ≤ fxi g v n ∧ fxi g v n < n ∧ (fxi g v n = -1 ∨ g (fxi g v n) = v) := by
  intro n
  induction n with
  | zero => exact ⟨Int.le_refl _, by show (-1 : Int) < 0; omega, Or.inl rfl⟩
  | succ n ih =>
    show -1 ≤ (if fxi g v n ≠ -1 then fxi g v n else if g n = v then (n : Int) else -1) ∧ (if fxi g v n ≠ -1 then fxi g v n else if g n = v then (n : Int) else -1) < ((n + 1 : Nat) : Int) ∧ ((if fxi g v n ≠ -1 then fxi g v n else if g n = v then (n : Int) else -1) = -1 ∨ g (if fxi g v n ≠ -1 then fxi g v n else if g n = v then (n : Int) else -1) = v)
    by_cases h : fxi g v n ≠ -1
    · rw [if_pos h]
      exact ⟨ih.1, by omega, ih.2.2⟩
    · rw [if_neg h]
      by_cases h2 : g n = v
      · rw [if_pos h2]; exact ⟨by omega, by omega, Or.inr h2⟩
      · rw [if_neg h2]; exact ⟨Int.le_refl _, by omega, Or.inl rfl⟩
theorem fxi_none {g : Int → Int} {v : Int} : ∀ n : Nat, (∀ i : Int, 0 ≤ i → i < n → g i ≠ v) → fxi g v n = -1 := by
  intro n
  induction n with
  | zero => intro _; rfl
  | succ n ih =>
    intro h
    show (if fxi g v n ≠ -1 then fxi g v n else if g n = v then (n : Int) else -1) = -1
    rw [if_neg (fun q => q (ih (fun i h1 h2 => h i h1 (by omega)))), if_neg (h n (by omega) (by omega))]
theorem fxi_some {g : Int → Int} {v r : Int} (h0 : 0 ≤ r) (hr : g r = v) (hf : ∀ i : Int, 0 ≤ i → i < r → g i ≠ v) : ∀ n : Nat, r < n → fxi g v n = r := by
  intro n
  induction n with
  | zero => intro h; exfalso; have h : r < 0 := h; omega
  | succ n ih =>
    intro h
    show (if fxi g v n ≠ -1 then fxi g v n else if g n = v then (n : Int) else -1) = r
    by_cases e : r < n
    · rw [ih e, if_pos (by omega)]
    · have e : r = n := by omega
      rw [if_neg (fun q => q (fxi_none n (fun i h1 h2 => hf i h1 (by omega)))), if_pos (by rw [← e]; exact hr)]
      exact e.symm
theorem fxi_cg {g h : Int → Int} {v w : Int} : ∀ n : Nat, (∀ i : Int, 0 ≤ i → i < n → (g i = v ↔ h i = w)) → fxi g v n = fxi h w n := by
  intro n
  induction n with
  | zero => intro _; rfl
  | succ n ih =>
    intro e
    show (if fxi g v n ≠ -1 then fxi g v n else if g n = v then (n : Int) else -1) = (if fxi h w n ≠ -1 then fxi h w n else if h n = w then (n : Int) else -1)
    rw [ih (fun i h1 h2 => e i h1 (by omega))]
    by_cases q : g n = v
    · rw [if_pos q, if_pos ((e n (by omega) (by omega)).mp q)]
    · rw [if_neg q, if_neg (fun z => q ((e n (by omega) (by omega)).mpr z))]
/-! The tables told: K (kinds): 0 [kinds, cons], 1 names, 2 values, 3 constructors, 9 the first one; of constructors 4 names, 5 kind, 6 how many fields, 7 and 8 their kinds (-1: num), 10 the first value. M (the match): 0 [columns, rows, arms, rule, budget], 1 kinds of columns, 2 guards. -/
def kNm (K : PH) (v : Int) : Int := fxi (K 1) v (K 0 0).toNat
def cNm (K : PH) (v : Int) : Int := fxi (K 4) v (K 0 1).toNat
/-- a new name -/
def fre (T : TT) (K : PH) (p : Int) : Int × Int := if tK T p = 1 ∧ tO T p = -1 then (if kNm K (tV T p) = -1 ∧ cNm K (tV T p) = -1 then (0, tE T p) else (2, tA T p)) else (1, fh T p)
theorem fre_s (T : TT) (K : PH) (p : Int) : (tK T p = 1 ∧ tO T p = -1 ∧ kNm K (tV T p) = -1 ∧ cNm K (tV T p) = -1 ∧ (fre T K p).1 = 0 ∧ (fre T K p).2 = tE T p) ∨ (tK T p = 1 ∧ tO T p = -1 ∧ (kNm K (tV T p) ≠ -1 ∨ cNm K (tV T p) ≠ -1) ∧ (fre T K p).1 = 2 ∧ (fre T K p).2 = tA T p) ∨ ((tK T p ≠ 1 ∨ tO T p ≠ -1) ∧ (fre T K p).1 = 1 ∧ (fre T K p).2 = fh T p) := by
  unfold fre
  by_cases h : tK T p = 1 ∧ tO T p = -1
  · rw [if_pos h]
    by_cases h2 : kNm K (tV T p) = -1 ∧ cNm K (tV T p) = -1
    · rw [if_pos h2]; exact Or.inl ⟨h.1, h.2, h2.1, h2.2, rfl, rfl⟩
    · rw [if_neg h2]; exact Or.inr (Or.inl ⟨h.1, h.2, by omega, rfl, rfl⟩)
  · rw [if_neg h]; exact Or.inr (Or.inr ⟨by omega, rfl, rfl⟩)
def kNew (K : PH) (v : Int) : PH := up (up (up (up (up K 1 (K 0 0) v) 2 (K 0 0) 0) 3 (K 0 0) 0) 9 (K 0 0) (K 0 1)) 0 0 (K 0 0 + 1)
/-- kind NAME -/
def sKi (T : TT) (K M : PH) (p : Int) : Int × Int := if 0 < M 0 0 then (1, tA T p) else if 4 ≤ K 0 0 then (6, tA T p) else fre T K (tE T p)
theorem sKi_s (T : TT) (K M : PH) (p : Int) : (0 < M 0 0 ∧ (sKi T K M p).1 = 1 ∧ (sKi T K M p).2 = tA T p) ∨ (M 0 0 ≤ 0 ∧ 4 ≤ K 0 0 ∧ (sKi T K M p).1 = 6 ∧ (sKi T K M p).2 = tA T p) ∨ (M 0 0 ≤ 0 ∧ K 0 0 ≤ 3 ∧ (sKi T K M p).1 = (fre T K (tE T p)).1 ∧ (sKi T K M p).2 = (fre T K (tE T p)).2) := by
  unfold sKi
  by_cases h : 0 < M 0 0
  · rw [if_pos h]; exact Or.inl ⟨h, rfl, rfl⟩
  · rw [if_neg h]
    by_cases h2 : 4 ≤ K 0 0
    · rw [if_pos h2]; exact Or.inr (Or.inl ⟨by omega, h2, rfl, rfl⟩)
    · rw [if_neg h2]; exact Or.inr (Or.inr ⟨by omega, by omega, rfl, rfl⟩)
/-- the kind that a word names: num -1 -/
def kHe (T : TT) (K : PH) (p : Int) : Int := if tO T p = 7 then -1 else kNm K (tV T p)
theorem kHe_s (T : TT) (K : PH) (p : Int) : (tO T p = 7 ∧ kHe T K p = -1) ∨ (tO T p ≠ 7 ∧ kHe T K p = kNm K (tV T p)) := by
  unfold kHe
  by_cases h : tO T p = 7
  · rw [if_pos h]; exact Or.inl ⟨h, rfl⟩
  · rw [if_neg h]; exact Or.inr ⟨h, rfl⟩
def sz (K : PH) (k : Int) : Int := if k = -1 then 20 else K 2 k
theorem sz_s (K : PH) (k : Int) : (k = -1 ∧ sz K k = 20) ∨ (k ≠ -1 ∧ sz K k = K 2 k) := by
  unfold sz
  by_cases h : k = -1
  · rw [if_pos h]; exact Or.inl ⟨h, rfl⟩
  · rw [if_neg h]; exact Or.inr ⟨h, rfl⟩
/-- a field: 0 it stands here and is good, 1 no word of a kind, else the fault -/
def kGo (T : TT) (K : PH) (but n many of its most p : Int) : Int :=
  if tK T p = 1 ∧ (tO T p = -1 ∨ tO T p = 7) then
    (if many ≤ n then 6 else if tO T p ≠ 7 ∧ (kHe T K p = -1 ∨ kHe T K p = but ∨ K 3 (kHe T K p) ≤ 0) then 3 else if most < of + its * sz K (kHe T K p) then 4 else 0) else 1
theorem kGo_s (T : TT) (K : PH) (but n many of its most p : Int) :
    ((tK T p ≠ 1 ∨ (tO T p ≠ -1 ∧ tO T p ≠ 7)) ∧ kGo T K but n many of its most p = 1) ∨
    (tK T p = 1 ∧ (tO T p = -1 ∨ tO T p = 7) ∧ many ≤ n ∧ kGo T K but n many of its most p = 6) ∨
    (tK T p = 1 ∧ tO T p = -1 ∧ n < many ∧ (kHe T K p = -1 ∨ kHe T K p = but ∨ K 3 (kHe T K p) ≤ 0) ∧ kGo T K but n many of its most p = 3) ∨
    (tK T p = 1 ∧ (tO T p = -1 ∨ tO T p = 7) ∧ n < many ∧ (tO T p = 7 ∨ (kHe T K p ≠ -1 ∧ kHe T K p ≠ but ∧ 1 ≤ K 3 (kHe T K p))) ∧ most < of + its * sz K (kHe T K p) ∧ kGo T K but n many of its most p = 4) ∨
    (tK T p = 1 ∧ (tO T p = -1 ∨ tO T p = 7) ∧ n < many ∧ (tO T p = 7 ∨ (kHe T K p ≠ -1 ∧ kHe T K p ≠ but ∧ 1 ≤ K 3 (kHe T K p))) ∧ of + its * sz K (kHe T K p) ≤ most ∧ kGo T K but n many of its most p = 0) := by
  unfold kGo
  by_cases h : tK T p = 1 ∧ (tO T p = -1 ∨ tO T p = 7)
  · rw [if_pos h]
    by_cases h2 : many ≤ n
    · rw [if_pos h2]; exact Or.inr (Or.inl ⟨h.1, h.2, h2, rfl⟩)
    · rw [if_neg h2]
      by_cases h3 : tO T p ≠ 7 ∧ (kHe T K p = -1 ∨ kHe T K p = but ∨ K 3 (kHe T K p) ≤ 0)
      · rw [if_pos h3]; exact Or.inr (Or.inr (Or.inl ⟨h.1, by omega, by omega, h3.2, rfl⟩))
      · rw [if_neg h3]
        by_cases h4 : most < of + its * sz K (kHe T K p)
        · rw [if_pos h4]; exact Or.inr (Or.inr (Or.inr (Or.inl ⟨h.1, h.2, by omega, by omega, h4, rfl⟩)))
        · rw [if_neg h4]; exact Or.inr (Or.inr (Or.inr (Or.inr ⟨h.1, h.2, by omega, by omega, by omega, rfl⟩)))
  · rw [if_neg h]; exact Or.inl ⟨by omega, rfl⟩
/-- the fields of a constructor: fault, place, how many, kinds, values -/
def fld (T : TT) (K : PH) : Nat → Int → Int → Int → Int → Int → Int × Int × Int × Int × Int × Int
  | 0, n, a, b, i, p => (if kGo T K (K 0 0 - 1) n 2 (K 2 (K 0 0 - 1)) i 2000 p = 1 then 0 else kGo T K (K 0 0 - 1) n 2 (K 2 (K 0 0 - 1)) i 2000 p, if kGo T K (K 0 0 - 1) n 2 (K 2 (K 0 0 - 1)) i 2000 p = 1 then p else tA T p, n, a, b, i)
  | r + 1, n, a, b, i, p =>
    if kGo T K (K 0 0 - 1) n 2 (K 2 (K 0 0 - 1)) i 2000 p = 0 then fld T K r (n + 1) (if n = 0 then kHe T K p else a) (if n = 0 then b else kHe T K p) (i * sz K (kHe T K p)) (tE T p)
    else (if kGo T K (K 0 0 - 1) n 2 (K 2 (K 0 0 - 1)) i 2000 p = 1 then 0 else kGo T K (K 0 0 - 1) n 2 (K 2 (K 0 0 - 1)) i 2000 p, if kGo T K (K 0 0 - 1) n 2 (K 2 (K 0 0 - 1)) i 2000 p = 1 then p else tA T p, n, a, b, i)
theorem fld_end {T : TT} {K : PH} {r : Nat} {n a b i p : Int} (h : kGo T K (K 0 0 - 1) n 2 (K 2 (K 0 0 - 1)) i 2000 p = 1) : fld T K r n a b i p = (0, p, n, a, b, i) := by
  cases r with
  | zero => show (_, _, n, a, b, i) = _; rw [if_pos h, if_pos h]
  | succ r => show (if _ then _ else (_, _, n, a, b, i)) = _; rw [if_neg (by omega), if_pos h, if_pos h]
theorem fld_bad {T : TT} {K : PH} {r : Nat} {n a b i p : Int} (h : kGo T K (K 0 0 - 1) n 2 (K 2 (K 0 0 - 1)) i 2000 p ≠ 1) (h0 : kGo T K (K 0 0 - 1) n 2 (K 2 (K 0 0 - 1)) i 2000 p ≠ 0) : fld T K r n a b i p = (kGo T K (K 0 0 - 1) n 2 (K 2 (K 0 0 - 1)) i 2000 p, tA T p, n, a, b, i) := by
  cases r with
  | zero => show (_, _, n, a, b, i) = _; rw [if_neg h, if_neg h]
  | succ r => show (if _ then _ else (_, _, n, a, b, i)) = _; rw [if_neg h0, if_neg h, if_neg h]
theorem fld_go {T : TT} {K : PH} {r : Nat} {n a b i p : Int} (h0 : kGo T K (K 0 0 - 1) n 2 (K 2 (K 0 0 - 1)) i 2000 p = 0) : fld T K (r + 1) n a b i p = fld T K r (n + 1) (if n = 0 then kHe T K p else a) (if n = 0 then b else kHe T K p) (i * sz K (kHe T K p)) (tE T p) := by
  show (if _ then _ else _) = _
  rw [if_pos h0]
def fldX (T : TT) (K : PH) (p : Int) : Int × Int × Int × Int × Int × Int := fld T K 2 0 (-1) (-1) 1 p
def cNew (K : PH) (v n a b i : Int) : PH :=
  up (up (up (up (up (up (up (up (up K 4 (K 0 1) v) 5 (K 0 1) (K 0 0 - 1)) 6 (K 0 1) n) 7 (K 0 1) a) 8 (K 0 1) b) 10 (K 0 1) (K 2 (K 0 0 - 1))) 2 (K 0 0 - 1) (K 2 (K 0 0 - 1) + i)) 3 (K 0 0 - 1) (K 3 (K 0 0 - 1) + 1)) 0 1 (K 0 1 + 1)
/-- con NAME fields -/
def sCo (T : TT) (K M : PH) (p : Int) : Int × Int := if 0 < M 0 0 ∨ K 0 0 ≤ 0 then (1, tA T p) else if 6 ≤ K 3 (K 0 0 - 1) then (6, tA T p) else if (fre T K (tE T p)).1 = 0 then ((fldX T K (fre T K (tE T p)).2).1, (fldX T K (fre T K (tE T p)).2).2.1) else fre T K (tE T p)
theorem sCo_s (T : TT) (K M : PH) (p : Int) : ((0 < M 0 0 ∨ K 0 0 ≤ 0) ∧ (sCo T K M p).1 = 1 ∧ (sCo T K M p).2 = tA T p) ∨ (M 0 0 ≤ 0 ∧ 1 ≤ K 0 0 ∧ 6 ≤ K 3 (K 0 0 - 1) ∧ (sCo T K M p).1 = 6 ∧ (sCo T K M p).2 = tA T p) ∨ (M 0 0 ≤ 0 ∧ 1 ≤ K 0 0 ∧ K 3 (K 0 0 - 1) ≤ 5 ∧ (fre T K (tE T p)).1 ≠ 0 ∧ (sCo T K M p).1 = (fre T K (tE T p)).1 ∧ (sCo T K M p).2 = (fre T K (tE T p)).2) ∨ (M 0 0 ≤ 0 ∧ 1 ≤ K 0 0 ∧ K 3 (K 0 0 - 1) ≤ 5 ∧ (fre T K (tE T p)).1 = 0 ∧ (sCo T K M p).1 = (fldX T K (fre T K (tE T p)).2).1 ∧ (sCo T K M p).2 = (fldX T K (fre T K (tE T p)).2).2.1) := by
  unfold sCo
  by_cases h : 0 < M 0 0 ∨ K 0 0 ≤ 0
  · rw [if_pos h]; exact Or.inl ⟨h, rfl, rfl⟩
  · rw [if_neg h]
    by_cases h2 : 6 ≤ K 3 (K 0 0 - 1)
    · rw [if_pos h2]; exact Or.inr (Or.inl ⟨by omega, by omega, h2, rfl, rfl⟩)
    · rw [if_neg h2]
      by_cases h3 : (fre T K (tE T p)).1 = 0
      · rw [if_pos h3]; exact Or.inr (Or.inr (Or.inr ⟨by omega, by omega, by omega, h3, rfl, rfl⟩))
      · rw [if_neg h3]; exact Or.inr (Or.inr (Or.inl ⟨by omega, by omega, by omega, h3, rfl, rfl⟩))
def kCo (T : TT) (K : PH) (p : Int) : PH := cNew K (tV T (tE T p)) (fldX T K (tE T (tE T p))).2.2.1 (fldX T K (tE T (tE T p))).2.2.2.1 (fldX T K (tE T (tE T p))).2.2.2.2.1 (fldX T K (tE T (tE T p))).2.2.2.2.2
/-- columns: fault, place, the match -/
def mCol (M : PH) (k rows : Int) : PH := up (up (up M 1 (M 0 0) k) 0 0 (M 0 0 + 1)) 0 1 rows
def col (T : TT) (K : PH) : Nat → PH → Int → Int → Int × Int × PH
  | 0, M, i, p => (if kGo T K (-1) (M 0 0) 4 0 i 20000 p = 1 then 0 else kGo T K (-1) (M 0 0) 4 0 i 20000 p, if kGo T K (-1) (M 0 0) 4 0 i 20000 p = 1 then p else tA T p, M)
  | r + 1, M, i, p =>
    if kGo T K (-1) (M 0 0) 4 0 i 20000 p = 0 then col T K r (mCol M (kHe T K p) (i * sz K (kHe T K p))) (i * sz K (kHe T K p)) (tE T p)
    else (if kGo T K (-1) (M 0 0) 4 0 i 20000 p = 1 then 0 else kGo T K (-1) (M 0 0) 4 0 i 20000 p, if kGo T K (-1) (M 0 0) 4 0 i 20000 p = 1 then p else tA T p, M)
theorem col_end {T : TT} {K : PH} {r : Nat} {M : PH} {i p : Int} (h : kGo T K (-1) (M 0 0) 4 0 i 20000 p = 1) : col T K r M i p = (0, p, M) := by
  cases r with
  | zero => show (_, _, M) = _; rw [if_pos h, if_pos h]
  | succ r => show (if _ then _ else (_, _, M)) = _; rw [if_neg (by omega), if_pos h, if_pos h]
theorem col_bad {T : TT} {K : PH} {r : Nat} {M : PH} {i p : Int} (h : kGo T K (-1) (M 0 0) 4 0 i 20000 p ≠ 1) (h0 : kGo T K (-1) (M 0 0) 4 0 i 20000 p ≠ 0) : col T K r M i p = (kGo T K (-1) (M 0 0) 4 0 i 20000 p, tA T p, M) := by
  cases r with
  | zero => show (_, _, M) = _; rw [if_neg h, if_neg h]
  | succ r => show (if _ then _ else (_, _, M)) = _; rw [if_neg h0, if_neg h, if_neg h]
theorem col_go {T : TT} {K : PH} {r : Nat} {M : PH} {i p : Int} (h0 : kGo T K (-1) (M 0 0) 4 0 i 20000 p = 0) : col T K (r + 1) M i p = col T K r (mCol M (kHe T K p) (i * sz K (kHe T K p))) (i * sz K (kHe T K p)) (tE T p) := by
  show (if _ then _ else _) = _
  rw [if_pos h0]
/-- match KIND .. -/
def sMa (T : TT) (K M : PH) (p : Int) : Int × Int × PH := if 0 < M 0 0 then (6, tA T p, M) else if tK T (tE T p) = 1 ∧ (tO T (tE T p) = -1 ∨ tO T (tE T p) = 7) then col T K 4 M 1 (tE T p) else (1, fh T (tE T p), M)
theorem sMa_s (T : TT) (K M : PH) (p : Int) : (0 < M 0 0 ∧ (sMa T K M p).1 = 6 ∧ (sMa T K M p).2.1 = tA T p) ∨ (M 0 0 ≤ 0 ∧ (tK T (tE T p) ≠ 1 ∨ (tO T (tE T p) ≠ -1 ∧ tO T (tE T p) ≠ 7)) ∧ (sMa T K M p).1 = 1 ∧ (sMa T K M p).2.1 = fh T (tE T p)) ∨ (M 0 0 ≤ 0 ∧ tK T (tE T p) = 1 ∧ (tO T (tE T p) = -1 ∨ tO T (tE T p) = 7) ∧ (sMa T K M p).1 = (col T K 4 M 1 (tE T p)).1 ∧ (sMa T K M p).2.1 = (col T K 4 M 1 (tE T p)).2.1) := by
  unfold sMa
  by_cases h : 0 < M 0 0
  · rw [if_pos h]; exact Or.inl ⟨h, rfl, rfl⟩
  · rw [if_neg h]
    by_cases h2 : tK T (tE T p) = 1 ∧ (tO T (tE T p) = -1 ∨ tO T (tE T p) = 7)
    · rw [if_pos h2]; exact Or.inr (Or.inr ⟨by omega, h2.1, h2.2, rfl, rfl⟩)
    · rw [if_neg h2]; exact Or.inr (Or.inl ⟨by omega, by omega, rfl, rfl⟩)
theorem sMa_M {T : TT} {K M : PH} {p : Int} (h : M 0 0 ≤ 0) (h2 : tK T (tE T p) = 1 ∧ (tO T (tE T p) = -1 ∨ tO T (tE T p) = 7)) : sMa T K M p = col T K 4 M 1 (tE T p) := by
  unfold sMa
  rw [if_neg (by omega), if_pos h2]
end
section
/-! Patterns: a small machine over a stack of (constructor, field, kind). -/
/-- a range of numbers -/
def rng (T : TT) (p : Int) : Int × Int := if (num T 0 19 p).1 = 0 then (if tO T (tE T p) = 10 then num T (tV T p) 19 (tE T (tE T p)) else (0, tE T p)) else num T 0 19 p
theorem rng_s (T : TT) (p : Int) : ((num T 0 19 p).1 ≠ 0 ∧ (rng T p).1 = (num T 0 19 p).1 ∧ (rng T p).2 = (num T 0 19 p).2) ∨ ((num T 0 19 p).1 = 0 ∧ tO T (tE T p) ≠ 10 ∧ (rng T p).1 = 0 ∧ (rng T p).2 = tE T p) ∨ ((num T 0 19 p).1 = 0 ∧ tO T (tE T p) = 10 ∧ (rng T p).1 = (num T (tV T p) 19 (tE T (tE T p))).1 ∧ (rng T p).2 = (num T (tV T p) 19 (tE T (tE T p))).2) := by
  unfold rng
  by_cases h : (num T 0 19 p).1 = 0
  · rw [if_pos h]
    by_cases h2 : tO T (tE T p) = 10
    · rw [if_pos h2]; exact Or.inr (Or.inr ⟨h, h2, rfl, rfl⟩)
    · rw [if_neg h2]; exact Or.inr (Or.inl ⟨h, h2, rfl, rfl⟩)
  · rw [if_neg h]; exact Or.inl ⟨h, rfl, rfl⟩
/-- a constructor's name -/
def cas (T : TT) (K : PH) (k p : Int) : Int × Int := if tK T p = 1 ∧ tO T p = -1 then (if cNm K (tV T p) ≠ -1 ∧ K 5 (cNm K (tV T p)) = k then (0, tE T p) else (3, tA T p)) else (1, fh T p)
theorem cas_s (T : TT) (K : PH) (k p : Int) : (tK T p = 1 ∧ tO T p = -1 ∧ cNm K (tV T p) ≠ -1 ∧ K 5 (cNm K (tV T p)) = k ∧ (cas T K k p).1 = 0 ∧ (cas T K k p).2 = tE T p) ∨ (tK T p = 1 ∧ tO T p = -1 ∧ (cNm K (tV T p) = -1 ∨ K 5 (cNm K (tV T p)) ≠ k) ∧ (cas T K k p).1 = 3 ∧ (cas T K k p).2 = tA T p) ∨ ((tK T p ≠ 1 ∨ tO T p ≠ -1) ∧ (cas T K k p).1 = 1 ∧ (cas T K k p).2 = fh T p) := by
  unfold cas
  by_cases h : tK T p = 1 ∧ tO T p = -1
  · rw [if_pos h]
    by_cases h2 : cNm K (tV T p) ≠ -1 ∧ K 5 (cNm K (tV T p)) = k
    · rw [if_pos h2]; exact Or.inl ⟨h.1, h.2, h2.1, h2.2, rfl, rfl⟩
    · rw [if_neg h2]; exact Or.inr (Or.inl ⟨h.1, h.2, by omega, rfl, rfl⟩)
  · rw [if_neg h]; exact Or.inr (Or.inr ⟨by omega, rfl, rfl⟩)
abbrev SK : Type := List (Int × Int × Int)
def prun (T : TT) (K : PH) : Nat → Int → SK → Int → Int → Option (Int × Int)
  | 0, _, _, _, _ => none
  | n + 1, m, s, k, p =>
    if m = 0 then
      (if tO T p = 8 then prun T K n 1 s k (tE T p)
      else if k = -1 then (if (rng T p).1 = 0 then prun T K n 1 s k (rng T p).2 else some (rng T p))
      else if (cas T K k p).1 = 0 then
        (if K 6 (cNm K (tV T p)) = 0 then prun T K n 1 s k (tE T p)
        else if (sgn T 40 (tE T p)).1 = 0 then prun T K n 0 ((cNm K (tV T p), 0, k) :: s) (K 7 (cNm K (tV T p))) (tE T (tE T p))
        else some (sgn T 40 (tE T p)))
      else some (cas T K k p))
    else if tO T p = 9 then prun T K n 0 s k (tE T p)
    else match s with
      | [] => some (0, p)
      | (c, f, k1) :: s1 =>
        if f + 1 < K 6 c then (if (sgn T 44 p).1 = 0 then prun T K n 0 ((c, f + 1, k1) :: s1) (K 8 c) (tE T p) else some (sgn T 44 p))
        else if (sgn T 41 p).1 = 0 then prun T K n 1 s1 k1 (tE T p) else some (sgn T 41 p)
def Runs (T : TT) (K : PH) (m : Int) (s : SK) (k p : Int) (x : Int × Int) : Prop := ∃ n, prun T K n m s k p = some x
theorem prun_eq (T : TT) (K : PH) (n : Nat) (m : Int) (s : SK) (k p : Int) : prun T K (n + 1) m s k p = (if m = 0 then
      (if tO T p = 8 then prun T K n 1 s k (tE T p)
      else if k = -1 then (if (rng T p).1 = 0 then prun T K n 1 s k (rng T p).2 else some (rng T p))
      else if (cas T K k p).1 = 0 then
        (if K 6 (cNm K (tV T p)) = 0 then prun T K n 1 s k (tE T p)
        else if (sgn T 40 (tE T p)).1 = 0 then prun T K n 0 ((cNm K (tV T p), 0, k) :: s) (K 7 (cNm K (tV T p))) (tE T (tE T p))
        else some (sgn T 40 (tE T p)))
      else some (cas T K k p))
    else if tO T p = 9 then prun T K n 0 s k (tE T p)
    else match s with
      | [] => some (0, p)
      | (c, f, k1) :: s1 =>
        if f + 1 < K 6 c then (if (sgn T 44 p).1 = 0 then prun T K n 0 ((c, f + 1, k1) :: s1) (K 8 c) (tE T p) else some (sgn T 44 p))
        else if (sgn T 41 p).1 = 0 then prun T K n 1 s1 k1 (tE T p) else some (sgn T 41 p)) := by cases s <;> rfl
theorem prun_up (T : TT) (K : PH) (x : Int × Int) : ∀ (n : Nat) (m : Int) (s : SK) (k p : Int), prun T K n m s k p = some x → prun T K (n + 1) m s k p = some x := by
  intro n
  induction n with
  | zero => intro m s k p h; cases h
  | succ n ih =>
    intro m s k p h
    rw [prun_eq] at h ⊢
    by_cases h1 : m = 0
    · rw [if_pos h1] at h ⊢
      by_cases h2 : tO T p = 8
      · rw [if_pos h2] at h ⊢; exact ih _ _ _ _ h
      · rw [if_neg h2] at h ⊢
        by_cases h3 : k = -1
        · rw [if_pos h3] at h ⊢
          by_cases h4 : (rng T p).1 = 0
          · rw [if_pos h4] at h ⊢; exact ih _ _ _ _ h
          · rw [if_neg h4] at h ⊢; exact h
        · rw [if_neg h3] at h ⊢
          by_cases h4 : (cas T K k p).1 = 0
          · rw [if_pos h4] at h ⊢
            by_cases h5 : K 6 (cNm K (tV T p)) = 0
            · rw [if_pos h5] at h ⊢; exact ih _ _ _ _ h
            · rw [if_neg h5] at h ⊢
              by_cases h6 : (sgn T 40 (tE T p)).1 = 0
              · rw [if_pos h6] at h ⊢; exact ih _ _ _ _ h
              · rw [if_neg h6] at h ⊢; exact h
          · rw [if_neg h4] at h ⊢; exact h
    · rw [if_neg h1] at h ⊢
      by_cases h2 : tO T p = 9
      · rw [if_pos h2] at h ⊢; exact ih _ _ _ _ h
      · rw [if_neg h2] at h ⊢
        cases s with
        | nil => exact h
        | cons c s1 =>
          obtain ⟨c, f, k1⟩ := c
          have h : (if f + 1 < K 6 c then (if (sgn T 44 p).1 = 0 then prun T K n 0 ((c, f + 1, k1) :: s1) (K 8 c) (tE T p) else some (sgn T 44 p)) else if (sgn T 41 p).1 = 0 then prun T K n 1 s1 k1 (tE T p) else some (sgn T 41 p)) = some x := h
          show (if f + 1 < K 6 c then (if (sgn T 44 p).1 = 0 then prun T K (n + 1) 0 ((c, f + 1, k1) :: s1) (K 8 c) (tE T p) else some (sgn T 44 p)) else if (sgn T 41 p).1 = 0 then prun T K (n + 1) 1 s1 k1 (tE T p) else some (sgn T 41 p)) = some x
          by_cases h3 : f + 1 < K 6 c
          · rw [if_pos h3] at h ⊢
            by_cases h4 : (sgn T 44 p).1 = 0
            · rw [if_pos h4] at h ⊢; exact ih _ _ _ _ h
            · rw [if_neg h4] at h ⊢; exact h
          · rw [if_neg h3] at h ⊢
            by_cases h4 : (sgn T 41 p).1 = 0
            · rw [if_pos h4] at h ⊢; exact ih _ _ _ _ h
            · rw [if_neg h4] at h ⊢; exact h
theorem prun_le {T : TT} {K : PH} {x : Int × Int} {n : Nat} {m : Int} {s : SK} {k p : Int} (h : prun T K n m s k p = some x) : ∀ j : Nat, prun T K (n + j) m s k p = some x := by
  intro j
  induction j with
  | zero => exact h
  | succ j ih => exact prun_up T K x (n + j) m s k p ih
theorem Runs.fn {T : TT} {K : PH} {m : Int} {s : SK} {k p : Int} {x y : Int × Int} (h : Runs T K m s k p x) (h2 : Runs T K m s k p y) : x = y := by
  obtain ⟨n, hn⟩ := h
  obtain ⟨j, hj⟩ := h2
  have e1 := prun_le hn j
  have e2 := prun_le hj n
  rw [Nat.add_comm] at e2
  rw [e1] at e2
  exact Option.some.inj e2
section RN
variable {T : TT} {K : PH} {s : SK} {k p : Int} {x : Int × Int}
theorem Runs.any (h : tO T p = 8) (hr : Runs T K 1 s k (tE T p) x) : Runs T K 0 s k p x := by
  obtain ⟨n, hn⟩ := hr
  refine ⟨n + 1, ?_⟩
  show (if (0 : Int) = 0 then _ else _) = _
  rw [if_pos rfl, if_pos h]
  exact hn
theorem Runs.range (h : tO T p ≠ 8) (hk : k = -1) (hg : (rng T p).1 = 0) (hr : Runs T K 1 s k (rng T p).2 x) : Runs T K 0 s k p x := by
  obtain ⟨n, hn⟩ := hr
  refine ⟨n + 1, ?_⟩
  show (if (0 : Int) = 0 then _ else _) = _
  rw [if_pos rfl, if_neg h, if_pos hk, if_pos hg]
  exact hn
theorem Runs.rangeF (h : tO T p ≠ 8) (hk : k = -1) (hg : (rng T p).1 ≠ 0) : Runs T K 0 s k p (rng T p) := by
  refine ⟨1, ?_⟩
  show (if (0 : Int) = 0 then _ else _) = _
  rw [if_pos rfl, if_neg h, if_pos hk, if_neg hg]
theorem Runs.caseF (h : tO T p ≠ 8) (hk : k ≠ -1) (hg : (cas T K k p).1 ≠ 0) : Runs T K 0 s k p (cas T K k p) := by
  refine ⟨1, ?_⟩
  show (if (0 : Int) = 0 then _ else _) = _
  rw [if_pos rfl, if_neg h, if_neg hk, if_neg hg]
theorem Runs.case0 (h : tO T p ≠ 8) (hk : k ≠ -1) (hg : (cas T K k p).1 = 0) (h6 : K 6 (cNm K (tV T p)) = 0) (hr : Runs T K 1 s k (tE T p) x) : Runs T K 0 s k p x := by
  obtain ⟨n, hn⟩ := hr
  refine ⟨n + 1, ?_⟩
  show (if (0 : Int) = 0 then _ else _) = _
  rw [if_pos rfl, if_neg h, if_neg hk, if_pos hg, if_pos h6]
  exact hn
theorem Runs.intoF (h : tO T p ≠ 8) (hk : k ≠ -1) (hg : (cas T K k p).1 = 0) (h6 : K 6 (cNm K (tV T p)) ≠ 0) (hs : (sgn T 40 (tE T p)).1 ≠ 0) : Runs T K 0 s k p (sgn T 40 (tE T p)) := by
  refine ⟨1, ?_⟩
  show (if (0 : Int) = 0 then _ else _) = _
  rw [if_pos rfl, if_neg h, if_neg hk, if_pos hg, if_neg h6, if_neg hs]
theorem Runs.into (h : tO T p ≠ 8) (hk : k ≠ -1) (hg : (cas T K k p).1 = 0) (h6 : K 6 (cNm K (tV T p)) ≠ 0) (hs : (sgn T 40 (tE T p)).1 = 0) (hr : Runs T K 0 ((cNm K (tV T p), 0, k) :: s) (K 7 (cNm K (tV T p))) (tE T (tE T p)) x) : Runs T K 0 s k p x := by
  obtain ⟨n, hn⟩ := hr
  refine ⟨n + 1, ?_⟩
  show (if (0 : Int) = 0 then _ else _) = _
  rw [if_pos rfl, if_neg h, if_neg hk, if_pos hg, if_neg h6, if_pos hs]
  exact hn
theorem Runs.or (h : tO T p = 9) (hr : Runs T K 0 s k (tE T p) x) : Runs T K 1 s k p x := by
  obtain ⟨n, hn⟩ := hr
  refine ⟨n + 1, ?_⟩
  show (if (1 : Int) = 0 then _ else _) = _
  rw [if_neg (by decide), if_pos h]
  exact hn
theorem Runs.done (h : tO T p ≠ 9) : Runs T K 1 [] k p (0, p) := by
  refine ⟨1, ?_⟩
  show (if (1 : Int) = 0 then _ else _) = _
  rw [if_neg (by decide), if_neg h]
theorem Runs.commaF {c f k1 : Int} (h : tO T p ≠ 9) (hf : f + 1 < K 6 c) (hs : (sgn T 44 p).1 ≠ 0) : Runs T K 1 ((c, f, k1) :: s) k p (sgn T 44 p) := by
  refine ⟨1, ?_⟩
  show (if (1 : Int) = 0 then _ else _) = _
  rw [if_neg (by decide), if_neg h]
  show (if f + 1 < K 6 c then _ else _) = _
  rw [if_pos hf, if_neg hs]
theorem Runs.comma {c f k1 : Int} (h : tO T p ≠ 9) (hf : f + 1 < K 6 c) (hs : (sgn T 44 p).1 = 0) (hr : Runs T K 0 ((c, f + 1, k1) :: s) (K 8 c) (tE T p) x) : Runs T K 1 ((c, f, k1) :: s) k p x := by
  obtain ⟨n, hn⟩ := hr
  refine ⟨n + 1, ?_⟩
  show (if (1 : Int) = 0 then _ else _) = _
  rw [if_neg (by decide), if_neg h]
  show (if f + 1 < K 6 c then _ else _) = _
  rw [if_pos hf, if_pos hs]
  exact hn
theorem Runs.closeF {c f k1 : Int} (h : tO T p ≠ 9) (hf : ¬ f + 1 < K 6 c) (hs : (sgn T 41 p).1 ≠ 0) : Runs T K 1 ((c, f, k1) :: s) k p (sgn T 41 p) := by
  refine ⟨1, ?_⟩
  show (if (1 : Int) = 0 then _ else _) = _
  rw [if_neg (by decide), if_neg h]
  show (if f + 1 < K 6 c then _ else _) = _
  rw [if_neg hf, if_neg hs]
theorem Runs.close {c f k1 : Int} (h : tO T p ≠ 9) (hf : ¬ f + 1 < K 6 c) (hs : (sgn T 41 p).1 = 0) (hr : Runs T K 1 s k1 (tE T p) x) : Runs T K 1 ((c, f, k1) :: s) k p x := by
  obtain ⟨n, hn⟩ := hr
  refine ⟨n + 1, ?_⟩
  show (if (1 : Int) = 0 then _ else _) = _
  rw [if_neg (by decide), if_neg h]
  show (if f + 1 < K 6 c then _ else _) = _
  rw [if_neg hf, if_pos hs]
  exact hn
end RN
/-- a pattern -/
noncomputable def pat (T : TT) (K : PH) (k p : Int) : Int × Int := Classical.epsilon fun x => Runs T K 0 [] k p x
theorem Runs.pat {T : TT} {K : PH} {k p : Int} {x : Int × Int} (h : Runs T K 0 [] k p x) : pat T K k p = x := (Classical.epsilon_spec (p := fun x => Runs T K 0 [] k p x) ⟨x, h⟩).fn h
/-! arms, rule, budget -/
noncomputable def arl (T : TT) (K M : PH) : Nat → Int → Int → Int × Int
  | 0, _, p => (0, p)
  | r + 1, c, p =>
    if 0 < c ∧ (sgn T 44 p).1 ≠ 0 then sgn T 44 p
    else if (pat T K (M 1 c) (if 0 < c then tE T p else p)).1 ≠ 0 then pat T K (M 1 c) (if 0 < c then tE T p else p)
    else arl T K M r (c + 1) (pat T K (M 1 c) (if 0 < c then tE T p else p)).2
theorem arl_sF {T : TT} {K M : PH} {r : Nat} {c p : Int} (h : 0 < c) (hs : (sgn T 44 p).1 ≠ 0) : arl T K M (r + 1) c p = sgn T 44 p := by
  show (if 0 < c ∧ (sgn T 44 p).1 ≠ 0 then _ else _) = _
  rw [if_pos ⟨h, hs⟩]
theorem arl_p0 {T : TT} {K M : PH} {r : Nat} {c p : Int} (h : c ≤ 0) : arl T K M (r + 1) c p = if (pat T K (M 1 c) p).1 ≠ 0 then pat T K (M 1 c) p else arl T K M r (c + 1) (pat T K (M 1 c) p).2 := by
  show (if 0 < c ∧ (sgn T 44 p).1 ≠ 0 then _ else _) = _
  rw [if_neg (fun q => by omega), if_neg (show ¬ 0 < c by omega)]
theorem arl_p1 {T : TT} {K M : PH} {r : Nat} {c p : Int} (h : 0 < c) (hs : (sgn T 44 p).1 = 0) : arl T K M (r + 1) c p = if (pat T K (M 1 c) (tE T p)).1 ≠ 0 then pat T K (M 1 c) (tE T p) else arl T K M r (c + 1) (pat T K (M 1 c) (tE T p)).2 := by
  show (if 0 < c ∧ (sgn T 44 p).1 ≠ 0 then _ else _) = _
  rw [if_neg (fun q => q.2 hs), if_pos h]
noncomputable def arX1 (T : TT) (K M : PH) (p : Int) : Int × Int := arl T K M (M 0 0).toNat 0 (tE T p)
noncomputable def sAr (T : TT) (K M : PH) (p : Int) : Int × Int := if M 0 0 ≤ 0 then (1, tA T p) else if 12 ≤ M 0 2 then (6, tA T p) else if (arX1 T K M p).1 ≠ 0 then arX1 T K M p else if tO T (arX1 T K M p).2 = 4 then num T 0 7 (tE T (arX1 T K M p).2) else (0, (arX1 T K M p).2)
theorem sAr_s (T : TT) (K M : PH) (p : Int) : (M 0 0 ≤ 0 ∧ (sAr T K M p).1 = 1 ∧ (sAr T K M p).2 = tA T p) ∨ (0 < M 0 0 ∧ 12 ≤ M 0 2 ∧ (sAr T K M p).1 = 6 ∧ (sAr T K M p).2 = tA T p) ∨ (0 < M 0 0 ∧ M 0 2 ≤ 11 ∧ (arX1 T K M p).1 ≠ 0 ∧ (sAr T K M p).1 = (arX1 T K M p).1 ∧ (sAr T K M p).2 = (arX1 T K M p).2) ∨
    (0 < M 0 0 ∧ M 0 2 ≤ 11 ∧ (arX1 T K M p).1 = 0 ∧ tO T (arX1 T K M p).2 = 4 ∧ (sAr T K M p).1 = (num T 0 7 (tE T (arX1 T K M p).2)).1 ∧ (sAr T K M p).2 = (num T 0 7 (tE T (arX1 T K M p).2)).2) ∨ (0 < M 0 0 ∧ M 0 2 ≤ 11 ∧ (arX1 T K M p).1 = 0 ∧ tO T (arX1 T K M p).2 ≠ 4 ∧ (sAr T K M p).1 = 0 ∧ (sAr T K M p).2 = (arX1 T K M p).2) := by
  unfold sAr
  by_cases h : M 0 0 ≤ 0
  · rw [if_pos h]; exact Or.inl ⟨h, rfl, rfl⟩
  · rw [if_neg h]
    by_cases h2 : 12 ≤ M 0 2
    · rw [if_pos h2]; exact Or.inr (Or.inl ⟨by omega, h2, rfl, rfl⟩)
    · rw [if_neg h2]
      by_cases h3 : (arX1 T K M p).1 ≠ 0
      · rw [if_pos h3]; exact Or.inr (Or.inr (Or.inl ⟨by omega, by omega, h3, rfl, rfl⟩))
      · rw [if_neg h3]
        by_cases h4 : tO T (arX1 T K M p).2 = 4
        · rw [if_pos h4]; exact Or.inr (Or.inr (Or.inr (Or.inl ⟨by omega, by omega, by omega, h4, rfl, rfl⟩)))
        · rw [if_neg h4]; exact Or.inr (Or.inr (Or.inr (Or.inr ⟨by omega, by omega, by omega, h4, rfl, rfl⟩)))
def aNew (M : PH) (g : Int) : PH := up (up M 2 (M 0 2) g) 0 2 (M 0 2 + 1)
noncomputable def mAr (T : TT) (K M : PH) (p : Int) : PH := aNew M (if tO T (arX1 T K M p).2 = 4 then tV T (tE T (arX1 T K M p).2) else -1)
/-- a statement -/
noncomputable def sSt (T : TT) (K M : PH) (p : Int) : Int × Int :=
  if tO T p = 0 then sKi T K M p else if tO T p = 1 then sCo T K M p else if tO T p = 2 then ((sMa T K M p).1, (sMa T K M p).2.1) else if tO T p = 3 then sAr T K M p
  else if tO T p = 5 then num T 0 3 (tE T p) else if tO T p = 6 then num T 1 999 (tE T p) else (1, fh T p)
def kSt (T : TT) (K : PH) (p : Int) : PH := if tO T p = 0 then kNew K (tV T (tE T p)) else if tO T p = 1 then kCo T K p else K
noncomputable def mSt (T : TT) (K M : PH) (p : Int) : PH := if tO T p = 2 then (sMa T K M p).2.2 else if tO T p = 3 then mAr T K M p else if tO T p = 5 then up M 0 3 (tV T (tE T p)) else if tO T p = 6 then up M 0 4 (tV T (tE T p)) else M
/-- the statements: fault, place or how many, the tables -/
noncomputable def mlo (T : TT) : Nat → Int → PH → PH → Int → Int × Int × PH × PH
  | 0, n, K, M, p => if tK T p = 0 then (if M 0 0 ≤ 0 then 1 else 0, if M 0 0 ≤ 0 then tA T p else n, K, M) else (6, tA T p, K, M)
  | r + 1, n, K, M, p => if tK T p = 0 then (if M 0 0 ≤ 0 then 1 else 0, if M 0 0 ≤ 0 then tA T p else n, K, M)
    else if (sSt T K M p).1 ≠ 0 then ((sSt T K M p).1, (sSt T K M p).2, K, M)
    else if (sgn T 59 (sSt T K M p).2).1 ≠ 0 then ((sgn T 59 (sSt T K M p).2).1, (sgn T 59 (sSt T K M p).2).2, K, M)
    else mlo T r (n + 1) (kSt T K p) (mSt T K M p) (tE T (sSt T K M p).2)
theorem mlo_end {T : TT} {r : Nat} {n : Int} {K M : PH} {p : Int} (h : tK T p = 0) : mlo T r n K M p = (if M 0 0 ≤ 0 then 1 else 0, if M 0 0 ≤ 0 then tA T p else n, K, M) := by
  cases r with
  | zero => show (if tK T p = 0 then _ else _) = _; rw [if_pos h]
  | succ r => show (if tK T p = 0 then _ else _) = _; rw [if_pos h]
theorem mlo_much {T : TT} {n : Int} {K M : PH} {p : Int} (h : tK T p ≠ 0) : mlo T 0 n K M p = (6, tA T p, K, M) := by
  show (if tK T p = 0 then _ else _) = _
  rw [if_neg h]
theorem mlo_sF {T : TT} {r : Nat} {n : Int} {K M : PH} {p : Int} (h : tK T p ≠ 0) (h1 : (sSt T K M p).1 ≠ 0) : mlo T (r + 1) n K M p = ((sSt T K M p).1, (sSt T K M p).2, K, M) := by
  show (if tK T p = 0 then _ else _) = _
  rw [if_neg h, if_pos h1]
theorem mlo_eF {T : TT} {r : Nat} {n : Int} {K M : PH} {p : Int} (h : tK T p ≠ 0) (h1 : (sSt T K M p).1 = 0) (h2 : (sgn T 59 (sSt T K M p).2).1 ≠ 0) : mlo T (r + 1) n K M p = ((sgn T 59 (sSt T K M p).2).1, (sgn T 59 (sSt T K M p).2).2, K, M) := by
  show (if tK T p = 0 then _ else _) = _
  rw [if_neg h, if_neg (by omega), if_pos h2]
theorem mlo_go {T : TT} {r : Nat} {n : Int} {K M : PH} {p : Int} (h : tK T p ≠ 0) (h1 : (sSt T K M p).1 = 0) (h2 : (sgn T 59 (sSt T K M p).2).1 = 0) : mlo T (r + 1) n K M p = mlo T r (n + 1) (kSt T K p) (mSt T K M p) (tE T (sSt T K M p).2) := by
  show (if tK T p = 0 then _ else _) = _
  rw [if_neg h, if_neg (by omega), if_neg (by omega)]
def K0 : PH := fun _ _ => 0
def M0 : PH := up (fun _ _ => 0) 0 4 300
/-- a match's text -/
noncomputable def mlR (T : TT) : Int × Int × PH × PH := mlo T 60 0 K0 M0 0
end
section
/-! The reference's picture of a text, of the token ahead, of the tables told. -/
theorem disF_k {F s : FS} {P P1 : PH} (hd : disF F s = true) (hf : FrM F P P1) {k : Int} (hk : k ∈ s.1) : P1 0 k = P 0 k := by
  unfold disF at hd
  rw [Bool.and_eq_true] at hd
  refine hf.1 k ?_
  have := List.all_eq_true.mp hd.1 k hk
  simpa using this
theorem disF_o {F s : FS} {P P1 : PH} (hd : disF F s = true) (hf : FrM F P P1) {o : Nat} (ho : o ∈ s.2) (h0 : (o == 0) = false) : P1 o = P o := by
  unfold disF at hd
  rw [Bool.and_eq_true] at hd
  refine hf.2 o h0 ?_
  have := List.all_eq_true.mp hd.2 o ho
  simpa using this
/-- a predicate that holds where a number is 0 -/
def CP (f : Int) (p : PH → Prop) (P : PH) : Prop := f = 0 → p P
/-- the text -/
def MT (T : TT) (P : PH) : Prop := P 0 2 = T.2 ∧ ∀ i : Int, 0 ≤ i → i < T.2 → P 1 i = T.1 i
theorem MT.fr {T : TT} {P P1 : PH} {F : FS} (h : MT T P) (hf : FrM F P P1) (hd : disF F ([2], [1]) = true) : MT T P1 := by
  unfold MT at h ⊢
  rw [disF_k hd hf (k := 2) (by decide), disF_o hd hf (o := 1) (by decide) rfl]
  exact h
/-- the token ahead, behind place p -/
def MS (T : TT) (p : Int) (P : PH) : Prop := P 0 4 = tA T p ∧ 0 ≤ p ∧ p ≤ T.2 ∧ (tK T p = 4 → P 0 12 = tS T p ∧ P 0 12 ≠ -1 ∧ P 0 3 ≠ 0) ∧ (tK T p ≠ 4 → P 0 12 = -1 ∧ P 0 3 = tK T p ∧ P 0 5 = tE T p) ∧ (tK T p = 2 ∨ tK T p = 3 → P 0 6 = tV T p) ∧ (tK T p = 1 → P 0 7 = tW T p)
theorem MS.fr {T : TT} {p : Int} {P P1 : PH} {F : FS} (h : MS T p P) (hf : FrM F P P1) (hd : disF F ([3, 4, 5, 6, 7, 12], []) = true) : MS T p P1 := by
  unfold MS at h ⊢
  rw [disF_k hd hf (k := 3) (by decide), disF_k hd hf (k := 4) (by decide), disF_k hd hf (k := 5) (by decide), disF_k hd hf (k := 6) (by decide), disF_k hd hf (k := 7) (by decide), disF_k hd hf (k := 12) (by decide)]
  exact h
theorem MS.at {T : TT} {p : Int} {P : PH} (h : MS T p P) : P 0 4 = tA T p ∧ 0 ≤ p ∧ p ≤ T.2 := ⟨h.1, h.2.1, h.2.2.1⟩
theorem MS.bad {T : TT} {p : Int} {P : PH} (h : MS T p P) : (tK T p = 4 ∧ P 0 12 = tS T p ∧ P 0 12 ≠ -1) ∨ (tK T p ≠ 4 ∧ P 0 12 = -1) := by
  by_cases h4 : tK T p = 4
  · exact Or.inl ⟨h4, (h.2.2.2.1 h4).1, (h.2.2.2.1 h4).2.1⟩
  · exact Or.inr ⟨h4, (h.2.2.2.2.1 h4).1⟩
theorem MS.tok {T : TT} {p : Int} {P : PH} (h : MS T p P) (h4 : tK T p ≠ 4) : P 0 3 = tK T p ∧ P 0 5 = tE T p := (h.2.2.2.2.1 h4).2
theorem MS.sg {T : TT} {p : Int} {P : PH} (h : MS T p P) : (P 0 3 = 0 ∧ tK T p = 0) ∨ (P 0 3 ≠ 0 ∧ tK T p ≠ 0) := by
  by_cases h4 : tK T p = 4
  · exact Or.inr ⟨(h.2.2.2.1 h4).2.2, by omega⟩
  · have := (h.2.2.2.2.1 h4).2.1
    omega
theorem MS.val {T : TT} {p : Int} {P : PH} (h : MS T p P) (h4 : tK T p = 2 ∨ tK T p = 3) : P 0 6 = tV T p := h.2.2.2.2.2.1 h4
theorem MS.word {T : TT} {p : Int} {P : PH} (h : MS T p P) (h4 : tK T p = 1) : P 0 7 = tW T p := h.2.2.2.2.2.2 h4
/-- a kind there (4: num) and here (-1: num) -/
def K4 (x y : Int) : Prop := (x = 4 ∧ y = -1) ∨ (0 ≤ x ∧ x ≤ 3 ∧ y = x)
/-- kinds and constructors, in the bank that is told -/
def MK (K P : PH) : Prop := P 2 (P 0 37) = K 0 0 ∧ P 5 (P 0 37) = K 0 1 ∧
  (∀ k : Int, 0 ≤ k → k < K 0 0 → NW (K 1 k) (P 22 (4 * P 0 37 + k)) ∧ P 3 (4 * P 0 37 + k) = K 2 k ∧ P 4 (4 * P 0 37 + k) = K 3 k) ∧
  ∀ c : Int, 0 ≤ c → c < K 0 1 → NW (K 4 c) (P 23 (24 * P 0 37 + c)) ∧ P 6 (24 * P 0 37 + c) = K 5 c ∧ P 7 (24 * P 0 37 + c) = K 6 c ∧ (1 ≤ K 6 c → K4 (P 8 (2 * (24 * P 0 37 + c))) (K 7 c)) ∧ (2 ≤ K 6 c → K4 (P 8 (2 * (24 * P 0 37 + c) + 1)) (K 8 c)) ∧ P 9 (24 * P 0 37 + c) = K 10 c
theorem MK.fr {K P P1 : PH} {F : FS} (h : MK K P) (hf : FrM F P P1) (hd : disF F ([37], [2, 3, 4, 5, 6, 7, 8, 9, 22, 23]) = true) : MK K P1 := by
  unfold MK at h ⊢
  rw [disF_k hd hf (k := 37) (by decide), disF_o hd hf (o := 2) (by decide) rfl, disF_o hd hf (o := 3) (by decide) rfl, disF_o hd hf (o := 4) (by decide) rfl, disF_o hd hf (o := 5) (by decide) rfl, disF_o hd hf (o := 6) (by decide) rfl, disF_o hd hf (o := 7) (by decide) rfl, disF_o hd hf (o := 8) (by decide) rfl, disF_o hd hf (o := 9) (by decide) rfl, disF_o hd hf (o := 22) (by decide) rfl, disF_o hd hf (o := 23) (by decide) rfl]
  exact h
/-- columns, arms, rule, budget -/
def MM (M P : PH) : Prop := P 11 (P 0 37) = M 0 0 ∧ P 13 (P 0 37) = M 0 2 ∧ P 15 (P 0 37) = M 0 3 ∧ P 16 (P 0 37) = M 0 4 ∧
  (∀ c : Int, 0 ≤ c → c < M 0 0 → K4 (P 12 (4 * P 0 37 + c)) (M 1 c)) ∧ ∀ a : Int, 0 ≤ a → a < M 0 2 → P 14 (12 * P 0 37 + a) = M 2 a
theorem MM.fr {M P P1 : PH} {F : FS} (h : MM M P) (hf : FrM F P P1) (hd : disF F ([37], [11, 12, 13, 14, 15, 16]) = true) : MM M P1 := by
  unfold MM at h ⊢
  rw [disF_k hd hf (k := 37) (by decide), disF_o hd hf (o := 11) (by decide) rfl, disF_o hd hf (o := 12) (by decide) rfl, disF_o hd hf (o := 13) (by decide) rfl, disF_o hd hf (o := 14) (by decide) rfl, disF_o hd hf (o := 15) (by decide) rfl, disF_o hd hf (o := 16) (by decide) rfl]
  exact h
/-- columns are told or not -/
def MTl (M P : PH) : Prop := (P 0 38 = 0 ∧ M 0 0 = 0) ∨ (P 0 38 = 1 ∧ 1 ≤ M 0 0)
theorem MTl.fr {M P P1 : PH} {F : FS} (h : MTl M P) (hf : FrM F P P1) (hd : disF F ([38], []) = true) : MTl M P1 := by
  unfold MTl at h ⊢
  rw [disF_k hd hf (k := 38) (by decide)]
  exact h
/-! What is well formed: kinds. -/
def AW (K : PH) : Prop := (0 ≤ K 0 0 ∧ K 0 0 ≤ 4 ∧ 0 ≤ K 0 1 ∧ K 0 1 ≤ 6 * K 0 0) ∧
  (∀ k : Int, 0 ≤ k → k < K 0 0 → 0 ≤ K 3 k ∧ K 3 k ≤ 6 ∧ 0 ≤ K 9 k ∧ K 9 k ≤ 6 * k ∧ K 9 k + K 3 k ≤ K 0 1 ∧ (k = K 0 0 - 1 → K 9 k + K 3 k = K 0 1) ∧ ((K 3 k = 0 ∧ K 2 k = 0) ∨ (1 ≤ K 3 k ∧ 1 ≤ K 2 k)) ∧ K 2 k ≤ 2000 + K 3 k) ∧
  (∀ c : Int, 0 ≤ c → c < K 0 1 → 0 ≤ K 5 c ∧ K 5 c < K 0 0 ∧ 0 ≤ K 6 c ∧ K 6 c ≤ 2 ∧ -1 ≤ K 7 c ∧ K 7 c < K 5 c ∧ -1 ≤ K 8 c ∧ K 8 c < K 5 c) ∧
  ∀ c k : Int, 0 ≤ c → c < K 0 1 → 0 ≤ k → k < K 0 0 → (K 5 c = k ↔ K 9 k ≤ c ∧ c < K 9 k + K 3 k)
theorem kNm_b {K : PH} (h : AW K) (v : Int) : -1 ≤ kNm K v ∧ kNm K v < K 0 0 := by
  have := fxi_b (K 1) v (K 0 0).toNat
  have := h.1
  unfold kNm
  omega
theorem cNm_b {K : PH} (h : AW K) (v : Int) : -1 ≤ cNm K v ∧ cNm K v < K 0 1 := by
  have := fxi_b (K 4) v (K 0 1).toNat
  have := h.1
  unfold cNm
  omega
theorem kHe_b {T : TT} {K : PH} (h : AW K) (p : Int) : -1 ≤ kHe T K p ∧ kHe T K p < K 0 0 := by
  have := kNm_b h (tV T p)
  have h0 := h.1
  rcases kHe_s T K p with q | q <;> omega
theorem AW.zero : AW K0 := by
  unfold AW K0
  refine ⟨by decide, fun k h1 h2 => ?_, fun c h1 h2 => ?_, fun c k h1 h2 => ?_⟩
  · exfalso; have h2 : k < 0 := h2; omega
  · exfalso; have h2 : c < 0 := h2; omega
  · exfalso; have h2 : c < 0 := h2; omega
end
section
/-! A kind, a constructor, a column, an arm more: what is told, well-formedness, the reference's picture. -/
theorem kNew_0 {K : PH} {v : Int} : kNew K v 0 0 = K 0 0 + 1 ∧ kNew K v 0 1 = K 0 1 := ⟨by simp [kNew, up], by simp [kNew, up]⟩
theorem kNew_1 {K : PH} {v : Int} (k : Int) : kNew K v 1 k = if k = K 0 0 then v else K 1 k := by simp [kNew, up]
theorem kNew_2 {K : PH} {v : Int} (k : Int) : kNew K v 2 k = if k = K 0 0 then 0 else K 2 k := by simp [kNew, up]
theorem kNew_3 {K : PH} {v : Int} (k : Int) : kNew K v 3 k = if k = K 0 0 then 0 else K 3 k := by simp [kNew, up]
theorem kNew_9 {K : PH} {v : Int} (k : Int) : kNew K v 9 k = if k = K 0 0 then K 0 1 else K 9 k := by simp [kNew, up]
theorem kNew_c {K : PH} {v : Int} {o : Nat} (h0 : o ≠ 0) (h1 : o ≠ 1) (h2 : o ≠ 2) (h3 : o ≠ 3) (h9 : o ≠ 9) : kNew K v o = K o := by funext j; simp [kNew, up, h0, h1, h2, h3, h9]
section CN0
variable {K : PH} {v n a b i : Int}
theorem cNew_0 : cNew K v n a b i 0 0 = K 0 0 ∧ cNew K v n a b i 0 1 = K 0 1 + 1 := ⟨by simp [cNew, up], by simp [cNew, up]⟩
theorem cNew_2 (k : Int) : cNew K v n a b i 2 k = if k = K 0 0 - 1 then K 2 (K 0 0 - 1) + i else K 2 k := by simp [cNew, up]
theorem cNew_3 (k : Int) : cNew K v n a b i 3 k = if k = K 0 0 - 1 then K 3 (K 0 0 - 1) + 1 else K 3 k := by simp [cNew, up]
theorem cNew_4 (k : Int) : cNew K v n a b i 4 k = if k = K 0 1 then v else K 4 k := by simp [cNew, up]
theorem cNew_5 (k : Int) : cNew K v n a b i 5 k = if k = K 0 1 then K 0 0 - 1 else K 5 k := by simp [cNew, up]
theorem cNew_6 (k : Int) : cNew K v n a b i 6 k = if k = K 0 1 then n else K 6 k := by simp [cNew, up]
theorem cNew_7 (k : Int) : cNew K v n a b i 7 k = if k = K 0 1 then a else K 7 k := by simp [cNew, up]
theorem cNew_8 (k : Int) : cNew K v n a b i 8 k = if k = K 0 1 then b else K 8 k := by simp [cNew, up]
theorem cNew_10 (k : Int) : cNew K v n a b i 10 k = if k = K 0 1 then K 2 (K 0 0 - 1) else K 10 k := by simp [cNew, up]
theorem cNew_c {o : Nat} (h0 : o = 1 ∨ o = 9) : cNew K v n a b i o = K o := by
  funext j
  rcases h0 with h | h <;> subst h <;> simp [cNew, up]
end CN0
theorem AW.kind {K : PH} {v : Int} (h : AW K) (h3 : K 0 0 ≤ 3) : AW (kNew K v) := by
  obtain ⟨a0, a1, a2, a3⟩ := h
  refine ⟨?_, fun k k0 k1 => ?_, fun c c0 c1 => ?_, fun c k c0 c1 k0 k1 => ?_⟩
  · rw [kNew_0.1, kNew_0.2]
    omega
  · rw [kNew_0.1] at k1 ⊢
    rw [kNew_0.2, kNew_2, kNew_3, kNew_9]
    by_cases e : k = K 0 0
    · rw [if_pos e, if_pos e, if_pos e]
      omega
    · rw [if_neg e, if_neg e, if_neg e]
      have := a1 k k0 (by omega)
      omega
  · rw [kNew_0.2] at c1
    rw [kNew_0.1, kNew_c (o := 5) (by decide) (by decide) (by decide) (by decide) (by decide), kNew_c (o := 6) (by decide) (by decide) (by decide) (by decide) (by decide), kNew_c (o := 7) (by decide) (by decide) (by decide) (by decide) (by decide), kNew_c (o := 8) (by decide) (by decide) (by decide) (by decide) (by decide)]
    have := a2 c c0 c1
    omega
  · rw [kNew_0.2] at c1
    rw [kNew_0.1] at k1
    rw [kNew_c (o := 5) (by decide) (by decide) (by decide) (by decide) (by decide), kNew_9, kNew_3]
    have h5 := a2 c c0 c1
    by_cases e : k = K 0 0
    · rw [if_pos e, if_pos e]
      omega
    · rw [if_neg e, if_neg e]
      exact a3 c k c0 c1 k0 (by omega)
theorem AW.con {K : PH} {v n a b i : Int} (h : AW K) (hk : 1 ≤ K 0 0) (h5 : K 3 (K 0 0 - 1) ≤ 5) (hn : 0 ≤ n ∧ n ≤ 2) (ha : -1 ≤ a ∧ a < K 0 0 - 1) (hb : -1 ≤ b ∧ b < K 0 0 - 1) (hi : 1 ≤ i) (hv : i = 1 ∨ K 2 (K 0 0 - 1) + i ≤ 2000) : AW (cNew K v n a b i) := by
  obtain ⟨a0, a1, a2, a3⟩ := h
  have hL := a1 (K 0 0 - 1) (by omega) (by omega)
  have hL6 := hL.2.2.2.2.2.1 rfl
  refine ⟨?_, fun k k0 k1 => ?_, fun c c0 c1 => ?_, fun c k c0 c1 k0 k1 => ?_⟩
  · rw [cNew_0.1, cNew_0.2]
    omega
  · rw [cNew_0.1] at k1 ⊢
    rw [cNew_0.2, cNew_2, cNew_3, cNew_c (o := 9) (Or.inr rfl)]
    have := a1 k k0 k1
    by_cases e : k = K 0 0 - 1
    · rw [if_pos e, if_pos e]
      rw [e] at this ⊢
      omega
    · rw [if_neg e, if_neg e]
      omega
  · rw [cNew_0.2] at c1
    rw [cNew_0.1, cNew_5, cNew_6, cNew_7, cNew_8]
    by_cases e : c = K 0 1
    · rw [if_pos e, if_pos e, if_pos e, if_pos e]
      omega
    · rw [if_neg e, if_neg e, if_neg e, if_neg e]
      exact a2 c c0 (by omega)
  · rw [cNew_0.2] at c1
    rw [cNew_0.1] at k1
    rw [cNew_5, cNew_3, cNew_c (o := 9) (Or.inr rfl)]
    have hk2 := a1 k k0 k1
    by_cases e : c = K 0 1
    · rw [if_pos e]
      by_cases e2 : k = K 0 0 - 1
      · rw [if_pos e2, e2]
        omega
      · rw [if_neg e2]
        omega
    · rw [if_neg e]
      have h3 := a3 c k c0 (by omega) k0 k1
      by_cases e2 : k = K 0 0 - 1
      · rw [if_pos e2, h3]
        rw [e2]
        omega
      · rw [if_neg e2]
        exact h3
theorem fld_w {T : TT} {K : PH} (h : AW K) (hk : 1 ≤ K 0 0) : ∀ (r : Nat) (n a b i p : Int), n + r = 2 → 0 ≤ n → (-1 ≤ a ∧ a < K 0 0 - 1) → (-1 ≤ b ∧ b < K 0 0 - 1) → 1 ≤ i → (i = 1 ∨ K 2 (K 0 0 - 1) + i ≤ 2000) → (fld T K r n a b i p).1 = 0 →
    n ≤ (fld T K r n a b i p).2.2.1 ∧ (fld T K r n a b i p).2.2.1 ≤ 2 ∧ (-1 ≤ (fld T K r n a b i p).2.2.2.1 ∧ (fld T K r n a b i p).2.2.2.1 < K 0 0 - 1) ∧ (-1 ≤ (fld T K r n a b i p).2.2.2.2.1 ∧ (fld T K r n a b i p).2.2.2.2.1 < K 0 0 - 1) ∧ 1 ≤ (fld T K r n a b i p).2.2.2.2.2 ∧ ((fld T K r n a b i p).2.2.2.2.2 = 1 ∨ K 2 (K 0 0 - 1) + (fld T K r n a b i p).2.2.2.2.2 ≤ 2000) := by
  intro r
  induction r with
  | zero =>
    intro n a b i p hr hn ha hb hi hv h0
    rcases (show kGo T K (K 0 0 - 1) n 2 (K 2 (K 0 0 - 1)) i 2000 p = 1 ∨ kGo T K (K 0 0 - 1) n 2 (K 2 (K 0 0 - 1)) i 2000 p ≠ 1 by omega) with e | e
    · rw [fld_end e]
      exact ⟨Int.le_refl _, by show n ≤ 2; omega, ha, hb, hi, hv⟩
    · have hs := kGo_s T K (K 0 0 - 1) n 2 (K 2 (K 0 0 - 1)) i 2000 p
      rw [fld_bad e (by omega)] at h0
      exfalso
      have h0 : kGo T K (K 0 0 - 1) n 2 (K 2 (K 0 0 - 1)) i 2000 p = 0 := h0
      omega
  | succ r ih =>
    intro n a b i p hr hn ha hb hi hv h0
    rcases (show kGo T K (K 0 0 - 1) n 2 (K 2 (K 0 0 - 1)) i 2000 p = 1 ∨ kGo T K (K 0 0 - 1) n 2 (K 2 (K 0 0 - 1)) i 2000 p = 0 ∨ (kGo T K (K 0 0 - 1) n 2 (K 2 (K 0 0 - 1)) i 2000 p ≠ 1 ∧ kGo T K (K 0 0 - 1) n 2 (K 2 (K 0 0 - 1)) i 2000 p ≠ 0) by omega) with e | e | e
    · rw [fld_end e]
      exact ⟨Int.le_refl _, by show n ≤ 2; omega, ha, hb, hi, hv⟩
    · rw [fld_go e] at h0 ⊢
      have hs := kGo_s T K (K 0 0 - 1) n 2 (K 2 (K 0 0 - 1)) i 2000 p
      have hs := ((hs.resolve_left (by omega)).resolve_left (by omega)).resolve_left (by omega)
      have hs := hs.resolve_left (by omega)
      obtain ⟨s1, s2, s3, s4, s5, s6⟩ := hs
      have hb0 := kHe_b (T := T) h p
      have hh := kHe_s T K p
      have hkl : -1 ≤ kHe T K p ∧ kHe T K p < K 0 0 - 1 := by omega
      have hz : 1 ≤ sz K (kHe T K p) := by
        rcases sz_s K (kHe T K p) with q | q
        · omega
        · have := h.2.1 (kHe T K p) (by omega) (by omega)
          omega
      have hp : 1 ≤ i * sz K (kHe T K p) := Int.mul_pos (by omega) (by omega)
      have key := ih (n + 1) (if n = 0 then kHe T K p else a) (if n = 0 then b else kHe T K p) (i * sz K (kHe T K p)) (tE T p) (by omega) (by omega) (by split <;> omega) (by split <;> omega) hp (Or.inr (by omega)) h0
      exact ⟨by omega, key.2⟩
    · rw [fld_bad e.1 e.2] at h0
      exact absurd h0 e.2
theorem fldX_w {T : TT} {K : PH} (h : AW K) (hk : 1 ≤ K 0 0) (p : Int) (h0 : (fldX T K p).1 = 0) : 0 ≤ (fldX T K p).2.2.1 ∧ (fldX T K p).2.2.1 ≤ 2 ∧ (-1 ≤ (fldX T K p).2.2.2.1 ∧ (fldX T K p).2.2.2.1 < K 0 0 - 1) ∧ (-1 ≤ (fldX T K p).2.2.2.2.1 ∧ (fldX T K p).2.2.2.2.1 < K 0 0 - 1) ∧ 1 ≤ (fldX T K p).2.2.2.2.2 ∧ ((fldX T K p).2.2.2.2.2 = 1 ∨ K 2 (K 0 0 - 1) + (fldX T K p).2.2.2.2.2 ≤ 2000) := by
  unfold fldX at h0 ⊢
  exact fld_w h hk 2 0 (-1) (-1) 1 p (by decide) (by decide) (by omega) (by omega) (by decide) (Or.inl rfl) h0
end
end
section
section
/-! The reference's tables: what writes do. -/
theorem MK.b {K P : PH} (h : MK K P) : P 2 (P 0 37) = K 0 0 ∧ P 5 (P 0 37) = K 0 1 := ⟨h.1, h.2.1⟩
theorem MK.k {K P : PH} (h : MK K P) {k : Int} (h0 : 0 ≤ k) (h1 : k < K 0 0) : NW (K 1 k) (P 22 (4 * P 0 37 + k)) ∧ P 3 (4 * P 0 37 + k) = K 2 k ∧ P 4 (4 * P 0 37 + k) = K 3 k := h.2.2.1 k h0 h1
theorem MK.c {K P : PH} (h : MK K P) {c : Int} (h0 : 0 ≤ c) (h1 : c < K 0 1) : NW (K 4 c) (P 23 (24 * P 0 37 + c)) ∧ P 6 (24 * P 0 37 + c) = K 5 c ∧ P 7 (24 * P 0 37 + c) = K 6 c ∧ (1 ≤ K 6 c → K4 (P 8 (2 * (24 * P 0 37 + c))) (K 7 c)) ∧ (2 ≤ K 6 c → K4 (P 8 (2 * (24 * P 0 37 + c) + 1)) (K 8 c)) ∧ P 9 (24 * P 0 37 + c) = K 10 c := h.2.2.2 c h0 h1
/-- the first kind of a name -/
theorem MK.kn {K P : PH} (h : MK K P) (ha : AW K) {v w : Int} (hw : NW v w) : fxi (fun i => P 22 (4 * P 0 37 + i)) w (P 2 (P 0 37)).toNat = kNm K v := by
  unfold kNm
  rw [h.1]
  refine fxi_cg _ (fun i h0 h1 => ?_)
  have := ha.1
  exact ((h.k (k := i) h0 (by omega)).1.inj hw).symm
theorem MK.cn {K P : PH} (h : MK K P) (ha : AW K) {v w : Int} (hw : NW v w) : fxi (fun i => P 23 (24 * P 0 37 + i)) w (P 5 (P 0 37)).toNat = cNm K v := by
  unfold cNm
  rw [h.2.1]
  refine fxi_cg _ (fun i h0 h1 => ?_)
  have := ha.1
  exact ((h.c (c := i) h0 (by omega)).1.inj hw).symm
theorem MK.kind {K P P1 : PH} {v w i : Int} (h : MK K P) (ha : AW K) (hw : NW v w) (hi : i = 4 * P 0 37 + P 2 (P 0 37)) (e37 : P1 0 37 = P 0 37) (e2 : P1 2 (P 0 37) = P 2 (P 0 37) + 1) (e5 : P1 5 (P 0 37) = P 5 (P 0 37))
    (s22 : P1 22 i = w) (q22 : ∀ j : Int, j ≠ i → P1 22 j = P 22 j) (s3 : P1 3 i = 0) (q3 : ∀ j : Int, j ≠ i → P1 3 j = P 3 j) (s4 : P1 4 i = 0) (q4 : ∀ j : Int, j ≠ i → P1 4 j = P 4 j)
    (q6 : ∀ j, P1 6 j = P 6 j) (q7 : ∀ j, P1 7 j = P 7 j) (q8 : ∀ j, P1 8 j = P 8 j) (q9 : ∀ j, P1 9 j = P 9 j) (q23 : ∀ j, P1 23 j = P 23 j) : MK (kNew K v) P1 := by
  have h2 := h.1
  unfold MK
  rw [kNew_0.1, kNew_0.2, e37, e2, e5]
  refine ⟨by omega, h.2.1, fun k k0 k1 => ?_, fun c c0 c1 => ?_⟩
  · rw [kNew_1, kNew_2, kNew_3]
    by_cases e : k = K 0 0
    · have e9 : 4 * P 0 37 + k = i := by omega
      rw [if_pos e, if_pos e, if_pos e, e9, s22, s3, s4]
      exact ⟨hw, rfl, rfl⟩
    · have e9 : 4 * P 0 37 + k ≠ i := by omega
      rw [if_neg e, if_neg e, if_neg e, q22 _ e9, q3 _ e9, q4 _ e9]
      exact h.k k0 (by omega)
  · rw [kNew_c (o := 4) (by decide) (by decide) (by decide) (by decide) (by decide), kNew_c (o := 5) (by decide) (by decide) (by decide) (by decide) (by decide), kNew_c (o := 6) (by decide) (by decide) (by decide) (by decide) (by decide), kNew_c (o := 7) (by decide) (by decide) (by decide) (by decide) (by decide), kNew_c (o := 8) (by decide) (by decide) (by decide) (by decide) (by decide), kNew_c (o := 10) (by decide) (by decide) (by decide) (by decide) (by decide), q6, q7, q8, q8, q9, q23]
    exact h.c c0 c1
/-- writes behind what is told -/
theorem MK.un {K P P1 : PH} {i : Int} (h : MK K P) (hi : i = 24 * P 0 37 + P 5 (P 0 37)) (e37 : P1 0 37 = P 0 37) (q2 : ∀ j, P1 2 j = P 2 j) (q3 : ∀ j, P1 3 j = P 3 j) (q4 : ∀ j, P1 4 j = P 4 j) (q5 : ∀ j, P1 5 j = P 5 j) (q22 : ∀ j, P1 22 j = P 22 j)
    (q6 : ∀ j : Int, j ≠ i → P1 6 j = P 6 j) (q7 : ∀ j : Int, j ≠ i → P1 7 j = P 7 j) (q8 : ∀ j : Int, j < 2 * i → P1 8 j = P 8 j) (q9 : ∀ j : Int, j ≠ i → P1 9 j = P 9 j) (q23 : ∀ j : Int, j ≠ i → P1 23 j = P 23 j) : MK K P1 := by
  have h5 := h.2.1
  unfold MK
  rw [e37, q2, q5]
  refine ⟨h.1, h.2.1, fun k k0 k1 => ?_, fun c c0 c1 => ?_⟩
  · rw [q22, q3, q4]
    exact h.k k0 k1
  · have e9 : 24 * P 0 37 + c ≠ i := by omega
    rw [q6 _ e9, q7 _ e9, q8 _ (by omega), q8 _ (by omega), q9 _ e9, q23 _ e9]
    exact h.c c0 c1
/-- the constructor that is being told -/
def MN (L v n a b i f : Int) (P : PH) : Prop := NW v (P 23 (24 * P 0 37 + P 5 (P 0 37))) ∧ P 6 (24 * P 0 37 + P 5 (P 0 37)) = L ∧ P 7 (24 * P 0 37 + P 5 (P 0 37)) = n ∧ (1 ≤ n → K4 (P 8 (2 * (24 * P 0 37 + P 5 (P 0 37)))) a) ∧ (2 ≤ n → K4 (P 8 (2 * (24 * P 0 37 + P 5 (P 0 37)) + 1)) b) ∧ P 9 (24 * P 0 37 + P 5 (P 0 37)) = f ∧ P 10 (24 * P 0 37 + P 5 (P 0 37)) = i
theorem MN.fr {L v n a b i f : Int} {P P1 : PH} {F : FS} (h : MN L v n a b i f P) (hf : FrM F P P1) (hd : disF F ([37], [5, 6, 7, 8, 9, 10, 23]) = true) : MN L v n a b i f P1 := by
  unfold MN at h ⊢
  rw [disF_k hd hf (k := 37) (by decide), disF_o hd hf (o := 5) (by decide) rfl, disF_o hd hf (o := 6) (by decide) rfl, disF_o hd hf (o := 7) (by decide) rfl, disF_o hd hf (o := 8) (by decide) rfl, disF_o hd hf (o := 9) (by decide) rfl, disF_o hd hf (o := 10) (by decide) rfl, disF_o hd hf (o := 23) (by decide) rfl]
  exact h
theorem MN.new {L v w f c b e : Int} {P : PH} (hw : NW v w) (e37 : P 0 37 = b) (e5 : P 5 b = e) (hc : c = 24 * b + e) (s23 : P 23 c = w) (s6 : P 6 c = L) (s7 : P 7 c = 0) (s9 : P 9 c = f) (s10 : P 10 c = 1) : MN L v 0 (-1) (-1) 1 f P := by
  subst hc
  unfold MN
  rw [e37, e5, s23]
  exact ⟨hw, s6, s7, fun h => absurd h (by decide), fun h => absurd h (by decide), s9, s10⟩
theorem MN.field {L v n a b i f k z i2 : Int} {P P1 : PH} (h : MN L v n a b i f P) (hn : 0 ≤ n ∧ n ≤ 1) (e37 : P1 0 37 = P 0 37) (e5 : P1 5 (P 0 37) = P 5 (P 0 37)) (hk : K4 z k)
    (s8 : P1 8 (2 * (24 * P 0 37 + P 5 (P 0 37)) + n) = z) (q8 : ∀ j : Int, j ≠ 2 * (24 * P 0 37 + P 5 (P 0 37)) + n → P1 8 j = P 8 j) (s7 : P1 7 (24 * P 0 37 + P 5 (P 0 37)) = n + 1) (s10 : P1 10 (24 * P 0 37 + P 5 (P 0 37)) = i2)
    (q6 : ∀ j, P1 6 j = P 6 j) (q9 : ∀ j, P1 9 j = P 9 j) (q23 : ∀ j, P1 23 j = P 23 j) : MN L v (n + 1) (if n = 0 then k else a) (if n = 0 then b else k) i2 f P1 := by
  unfold MN at h ⊢
  rw [e37, e5, q6, q9, q23, s7, s10]
  obtain ⟨h1, h2, h3, h4, h5, h6, h7⟩ := h
  refine ⟨h1, h2, rfl, fun _ => ?_, fun hn2 => ?_, h6, rfl⟩
  · by_cases e : n = 0
    · rw [if_pos e]
      rw [e, Int.add_zero] at s8
      rw [s8]
      exact hk
    · rw [if_neg e, q8 _ (by omega)]
      exact h4 (by omega)
  · have e : n = 1 := by omega
    rw [e] at s8
    rw [if_neg (by omega), s8]
    exact hk
theorem MK.con {K P P1 : PH} {v n a b i : Int} (h : MK K P) (hm : MN (K 0 0 - 1) v n a b i (K 2 (K 0 0 - 1)) P) (hk : 1 ≤ K 0 0) (e37 : P1 0 37 = P 0 37) (e5 : P1 5 (P 0 37) = P 5 (P 0 37) + 1)
    (s3 : P1 3 (4 * P 0 37 + (K 0 0 - 1)) = P 3 (4 * P 0 37 + (K 0 0 - 1)) + i) (q3 : ∀ j : Int, j ≠ 4 * P 0 37 + (K 0 0 - 1) → P1 3 j = P 3 j) (s4 : P1 4 (4 * P 0 37 + (K 0 0 - 1)) = P 4 (4 * P 0 37 + (K 0 0 - 1)) + 1) (q4 : ∀ j : Int, j ≠ 4 * P 0 37 + (K 0 0 - 1) → P1 4 j = P 4 j)
    (q2 : ∀ j, P1 2 j = P 2 j) (q6 : ∀ j, P1 6 j = P 6 j) (q7 : ∀ j, P1 7 j = P 7 j) (q8 : ∀ j, P1 8 j = P 8 j) (q9 : ∀ j, P1 9 j = P 9 j) (q22 : ∀ j, P1 22 j = P 22 j) (q23 : ∀ j, P1 23 j = P 23 j) : MK (cNew K v n a b i) P1 := by
  have h5 := h.2.1
  have hl := h.k (k := K 0 0 - 1) (by omega) (by omega)
  unfold MK
  rw [cNew_0.1, cNew_0.2, cNew_c (o := 1) (Or.inl rfl), e37, q2, e5]
  refine ⟨h.1, by omega, fun k k0 k1 => ?_, fun c c0 c1 => ?_⟩
  · rw [q22, cNew_2, cNew_3]
    by_cases e : k = K 0 0 - 1
    · rw [if_pos e, if_pos e, e, s3, s4, hl.2.1, hl.2.2]
      exact ⟨hl.1, rfl, rfl⟩
    · rw [if_neg e, if_neg e, q3 _ (by omega), q4 _ (by omega)]
      exact h.k k0 k1
  · rw [q6, q7, q8, q8, q9, q23, cNew_4, cNew_5, cNew_6, cNew_7, cNew_8, cNew_10]
    by_cases e : c = K 0 1
    · rw [if_pos e, if_pos e, if_pos e, if_pos e, if_pos e, if_pos e, show 24 * P 0 37 + c = 24 * P 0 37 + P 5 (P 0 37) by omega]
      exact ⟨hm.1, hm.2.1, hm.2.2.1, hm.2.2.2.1, hm.2.2.2.2.1, hm.2.2.2.2.2.1⟩
    · rw [if_neg e, if_neg e, if_neg e, if_neg e, if_neg e, if_neg e]
      exact h.c c0 (by omega)
theorem MM.b {M P : PH} (h : MM M P) : P 11 (P 0 37) = M 0 0 ∧ P 13 (P 0 37) = M 0 2 ∧ P 15 (P 0 37) = M 0 3 ∧ P 16 (P 0 37) = M 0 4 := ⟨h.1, h.2.1, h.2.2.1, h.2.2.2.1⟩
theorem mCol_0 {M : PH} {k r : Int} : mCol M k r 0 0 = M 0 0 + 1 ∧ mCol M k r 0 1 = r ∧ mCol M k r 0 2 = M 0 2 ∧ mCol M k r 0 3 = M 0 3 ∧ mCol M k r 0 4 = M 0 4 := ⟨by simp [mCol, up], by simp [mCol, up], by simp [mCol, up], by simp [mCol, up], by simp [mCol, up]⟩
theorem mCol_1 {M : PH} {k r : Int} (c : Int) : mCol M k r 1 c = if c = M 0 0 then k else M 1 c := by simp [mCol, up]
theorem mCol_2 {M : PH} {k r : Int} : mCol M k r 2 = M 2 := by funext j; simp [mCol, up]
theorem MM.col {M P P1 : PH} {k z r : Int} (h : MM M P) (hk : K4 z k) (e37 : P1 0 37 = P 0 37) (e11 : P1 11 (P 0 37) = P 11 (P 0 37) + 1) (s12 : P1 12 (4 * P 0 37 + P 11 (P 0 37)) = z) (q12 : ∀ j : Int, j ≠ 4 * P 0 37 + P 11 (P 0 37) → P1 12 j = P 12 j)
    (q13 : ∀ j, P1 13 j = P 13 j) (q14 : ∀ j, P1 14 j = P 14 j) (q15 : ∀ j, P1 15 j = P 15 j) (q16 : ∀ j, P1 16 j = P 16 j) : MM (mCol M k r) P1 := by
  obtain ⟨h1, h2, h3, h4, h5, h6⟩ := h
  unfold MM
  rw [mCol_0.1, mCol_0.2.2.1, mCol_0.2.2.2.1, mCol_0.2.2.2.2, mCol_2, e37, e11, q13, q15, q16]
  refine ⟨by omega, h2, h3, h4, fun c c0 c1 => ?_, fun a a0 a1 => ?_⟩
  · rw [mCol_1]
    by_cases e : c = M 0 0
    · rw [if_pos e, e, ← h1, s12]
      exact hk
    · rw [if_neg e, q12 _ (by omega)]
      exact h5 c c0 (by omega)
  · rw [q14]
    exact h6 a a0 a1
theorem MM.un {M P P1 : PH} (h : MM M P) (e37 : P1 0 37 = P 0 37) (q14 : ∀ j : Int, j ≠ 12 * P 0 37 + P 13 (P 0 37) → P1 14 j = P 14 j) (q11 : ∀ j, P1 11 j = P 11 j) (q12 : ∀ j, P1 12 j = P 12 j) (q13 : ∀ j, P1 13 j = P 13 j) (q15 : ∀ j, P1 15 j = P 15 j) (q16 : ∀ j, P1 16 j = P 16 j) : MM M P1 := by
  obtain ⟨h1, h2, h3, h4, h5, h6⟩ := h
  unfold MM
  rw [e37, q11, q13, q15, q16]
  exact ⟨h1, h2, h3, h4, fun c c0 c1 => by rw [q12]; exact h5 c c0 c1, fun a a0 a1 => by rw [q14 _ (by omega)]; exact h6 a a0 a1⟩
theorem aNew_0 {M : PH} {g : Int} : aNew M g 0 0 = M 0 0 ∧ aNew M g 0 2 = M 0 2 + 1 ∧ aNew M g 0 3 = M 0 3 ∧ aNew M g 0 4 = M 0 4 := ⟨by simp [aNew, up], by simp [aNew, up], by simp [aNew, up], by simp [aNew, up]⟩
theorem aNew_2 {M : PH} {g : Int} (a : Int) : aNew M g 2 a = if a = M 0 2 then g else M 2 a := by simp [aNew, up]
theorem aNew_1 {M : PH} {g : Int} : aNew M g 1 = M 1 := by funext j; simp [aNew, up]
theorem MM.arm {M P P1 : PH} {g : Int} (h : MM M P) (hg : P 14 (12 * P 0 37 + P 13 (P 0 37)) = g) (e37 : P1 0 37 = P 0 37) (e13 : P1 13 (P 0 37) = P 13 (P 0 37) + 1) (q14 : ∀ j, P1 14 j = P 14 j) (q11 : ∀ j, P1 11 j = P 11 j) (q12 : ∀ j, P1 12 j = P 12 j) (q15 : ∀ j, P1 15 j = P 15 j) (q16 : ∀ j, P1 16 j = P 16 j) : MM (aNew M g) P1 := by
  obtain ⟨h1, h2, h3, h4, h5, h6⟩ := h
  unfold MM
  rw [aNew_0.1, aNew_0.2.1, aNew_0.2.2.1, aNew_0.2.2.2, aNew_1, e37, e13, q11, q15, q16]
  refine ⟨h1, by omega, h3, h4, fun c c0 c1 => by rw [q12]; exact h5 c c0 c1, fun a a0 a1 => ?_⟩
  rw [aNew_2, q14]
  by_cases e : a = M 0 2
  · rw [if_pos e, e, ← h2, hg]
  · rw [if_neg e]
    exact h6 a a0 (by omega)
theorem MM.rule {M P P1 : PH} {g : Int} (h : MM M P) (e37 : P1 0 37 = P 0 37) (e15 : P1 15 (P 0 37) = g) (q14 : ∀ j, P1 14 j = P 14 j) (q11 : ∀ j, P1 11 j = P 11 j) (q12 : ∀ j, P1 12 j = P 12 j) (q13 : ∀ j, P1 13 j = P 13 j) (q16 : ∀ j, P1 16 j = P 16 j) : MM (up M 0 3 g) P1 := by
  obtain ⟨h1, h2, h3, h4, h5, h6⟩ := h
  unfold MM
  rw [up_k (by decide), up_k (by decide), up_same, up_k (by decide), up_row (o1 := 1) (by decide), up_row (o1 := 2) (by decide), e37, q11, q13, q16]
  exact ⟨h1, h2, e15, h4, fun c c0 c1 => by rw [q12]; exact h5 c c0 c1, fun a a0 a1 => by rw [q14]; exact h6 a a0 a1⟩
theorem MM.budget {M P P1 : PH} {g : Int} (h : MM M P) (e37 : P1 0 37 = P 0 37) (e16 : P1 16 (P 0 37) = g) (q14 : ∀ j, P1 14 j = P 14 j) (q11 : ∀ j, P1 11 j = P 11 j) (q12 : ∀ j, P1 12 j = P 12 j) (q13 : ∀ j, P1 13 j = P 13 j) (q15 : ∀ j, P1 15 j = P 15 j) : MM (up M 0 4 g) P1 := by
  obtain ⟨h1, h2, h3, h4, h5, h6⟩ := h
  unfold MM
  rw [up_k (by decide), up_k (by decide), up_k (by decide), up_same, up_row (o1 := 1) (by decide), up_row (o1 := 2) (by decide), e37, q11, q13, q15]
  exact ⟨h1, h2, h3, e16, fun c c0 c1 => by rw [q12]; exact h5 c c0 c1, fun a a0 a1 => by rw [q14]; exact h6 a a0 a1⟩
end
section
/-! Longs: a byte more. The reference's token ahead, made. -/
theorem l64_bv (x : Int64) : x.toInt = x.toBitVec.toInt := rfl
theorem llshl8 {x : Int} (h : LR (x * 256)) : llshl x 8 = x * 256 := by
  have e : Int64.ofInt x <<< ((Int32.ofInt (8 : Int)).toInt64 &&& 63) = Int64.ofInt (x * 256) := by
    apply Int64.toBitVec.inj
    rw [Int64.toBitVec_shiftLeft, BitVec.shiftLeft_eq', show ((((Int32.ofInt (8 : Int)).toInt64 &&& 63).toBitVec.smod 64)).toNat = 8 from l64_smod (c := 8) (by decide)]
    have h1 : (Int64.ofInt x).toBitVec = BitVec.ofInt 64 x := rfl
    have h2 : (Int64.ofInt (x * 256)).toBitVec = BitVec.ofInt 64 (x * 256) := rfl
    rw [h1, h2, BitVec.shiftLeft_eq_mul_twoPow, BitVec.ofInt_mul]
    rfl
  unfold llshl
  rw [e, oL h]
theorem bv64_of {z : Int} (h : 0 ≤ z ∧ z ≤ 9223372036854775807) : (Int64.ofInt z).toBitVec.toNat = z.toNat := by
  have h1 : (Int64.ofInt z).toBitVec = BitVec.ofInt 64 z := rfl
  rw [h1, BitVec.toNat_ofInt]
  omega
theorem llor8 {x c : Int} (hx : 0 ≤ x ∧ x ≤ 36028797018963967) (hc : 0 ≤ c ∧ c < 256) : llor (x * 256) c = x * 256 + c := by
  have e4 : ((x.toNat : Nat) : Int) = x := Int.toNat_of_nonneg hx.1
  have e3 : ((c.toNat : Nat) : Int) = c := Int.toNat_of_nonneg hc.1
  unfold llor
  rw [l64_bv, Int64.toBitVec_or]
  have e1 := bv64_of (z := x * 256) ⟨by omega, by omega⟩
  have e2 := bv64_of (z := c) ⟨hc.1, by omega⟩
  have hv : ((Int64.ofInt (x * 256)).toBitVec ||| (Int64.ofInt c).toBitVec).toNat = x.toNat * 2 ^ 8 + c.toNat := by
    rw [BitVec.toNat_or, e1, e2, show (x * 256).toNat = x.toNat * 2 ^ 8 by omega, ← Nat.shiftLeft_eq, Nat.shiftLeft_add_eq_or_of_lt (by omega)]
  rw [BitVec.toInt_eq_toNat_cond, hv, if_pos (by omega)]
  omega
def p256 : Nat → Int
  | 0 => 1
  | k + 1 => p256 k * 256
theorem e56_lt {g : Nat → Int} : ∀ (k : Nat), (∀ i, i < k → 1 ≤ g i ∧ g i ≤ 26) → e56 g k < p256 k := by
  intro k
  induction k with
  | zero => intro _; show (0 : Int) < 1; omega
  | succ k ih =>
    intro h
    have h1 := ih (fun i hi => h i (by omega))
    have h2 := h k (by omega)
    show e56 g k * 256 + (96 + g k) < p256 k * 256
    omega
theorem e56_r {g : Nat → Int} {k : Nat} (hk : k ≤ 6) (h : ∀ i, i < k → 1 ≤ g i ∧ g i ≤ 26) : 0 ≤ e56 g k ∧ e56 g k < 281474976710656 := by
  have h0 := e56_b k h
  have h1 := e56_lt k h
  have h2 : ∀ k : Nat, k < 7 → p256 k ≤ 281474976710656 := by decide
  have := h2 k (by omega)
  omega
/-- a letter more -/
theorem e56_one {T : TT} {a w c : Int} {n : Nat} (h : w = e56 (tL T a) n) (hn : n ≤ 5) (hl : ∀ i, i < n → 1 ≤ tL T a i ∧ tL T a i ≤ 26) (hc : c = T.1 (a + n)) (hr : 97 ≤ c ∧ c ≤ 122) : llor (llshl w 8) c = e56 (tL T a) (n + 1) := by
  have hb := e56_r (by omega) hl
  rw [← h] at hb
  rw [llshl8 ⟨by omega, by omega⟩, llor8 ⟨by omega, by omega⟩ ⟨by omega, by omega⟩]
  show w * 256 + c = e56 (tL T a) n * 256 + (96 + (T.1 (a + n) - 96))
  rw [← h, ← hc]
  omega
theorem e10_b {T : TT} {a : Int} : ∀ (n : Nat), n ≤ 4 → (∀ i : Nat, i < n → 48 ≤ T.1 (a + i) ∧ T.1 (a + i) ≤ 57) → 0 ≤ e10 (tD T a) n ∧ e10 (tD T a) n ≤ 9999 ∧ (n ≤ 3 → e10 (tD T a) n ≤ 999) ∧ (n ≤ 2 → e10 (tD T a) n ≤ 99) ∧ (n ≤ 1 → e10 (tD T a) n ≤ 9) ∧ (n = 0 → e10 (tD T a) n = 0) := by
  intro n
  induction n with
  | zero => intro _ _; exact ⟨Int.le_refl _, by show (0 : Int) ≤ 9999; omega, fun _ => by show (0 : Int) ≤ 999; omega, fun _ => by show (0 : Int) ≤ 99; omega, fun _ => by show (0 : Int) ≤ 9; omega, fun _ => rfl⟩
  | succ n ih =>
    intro hn h
    have h1 := ih (by omega) (fun i hi => h i (by omega))
    have h2 := h n (by omega)
    have e : e10 (tD T a) (n + 1) = e10 (tD T a) n * 10 + (T.1 (a + n) - 48) := rfl
    rw [e]
    omega
theorem tE_0 {T : TT} {p : Int} (h : tK T p = 0) : tE T p = tA T p := by
  unfold tE
  rw [if_neg (by omega), if_neg (by omega), if_neg (by omega)]
/-- the kind of a token, by what stands there -/
theorem tK_0 {T : TT} {p : Int} (h : T.2 ≤ tA T p) : tK T p = 0 := by unfold tK; rw [if_pos h]
theorem tK_3 {T : TT} {p : Int} (h : tA T p < T.2) (hl : bL (T.1 (tA T p)) = false) (hn : bN (T.1 (tA T p)) = false) : tK T p = 3 := by
  unfold tK
  rw [if_neg (by omega), if_pos ⟨hl, hn⟩]
theorem tK_j {T : TT} {p : Int} (h : tA T p < T.2) (hl : bL (T.1 (tA T p)) = true ∨ bN (T.1 (tA T p)) = true) (hj : tJ T p = true) : tK T p = 4 := by
  unfold tK
  rw [if_neg (by omega), if_neg (fun q => by rcases hl with z | z <;> (rw [z] at q; simp at q)), if_pos hj]
theorem tK_w {T : TT} {p : Int} (h : tA T p < T.2) (hl : bL (T.1 (tA T p)) = true) (hj : tJ T p = false) : tK T p = if rE bL T (tA T p) - tA T p ≤ 6 then 1 else 4 := by
  unfold tK
  rw [if_neg (by omega), if_neg (fun q => by rw [hl] at q; simp at q), if_neg (by rw [hj]; simp), if_pos hl]
theorem tK_n {T : TT} {p : Int} (h : tA T p < T.2) (hl : bL (T.1 (tA T p)) = false) (hn : bN (T.1 (tA T p)) = true) (hj : tJ T p = false) : tK T p = if rE bN T (tA T p) - tA T p ≤ 4 then 2 else 4 := by
  unfold tK
  rw [if_neg (by omega), if_neg (fun q => by rw [hn] at q; simp at q), if_neg (by rw [hj]; simp), if_neg (by rw [hl]; simp)]
theorem bL_f {c : Int} (h : c < 97 ∨ 122 < c) : bL c = false := by
  cases e : bL c with
  | false => rfl
  | true => have := bL_t.mp e; omega
theorem bN_f {c : Int} (h : c < 48 ∨ 57 < c) : bN c = false := by
  cases e : bN c with
  | false => rfl
  | true => have := bN_t.mp e; omega
/-- a letter or a digit just ahead of the token: as the reference looks -/
theorem tJ_t {T : TT} {p : Int} (h0 : 0 ≤ p) (h : 0 < tA T p ∧ ((97 ≤ T.1 (tA T p - 1) ∧ T.1 (tA T p - 1) ≤ 122) ∨ (48 ≤ T.1 (tA T p - 1) ∧ T.1 (tA T p - 1) ≤ 57))) : tJ T p = true := by
  have e : tA T p = p := by
    have hg := tA_ge T p
    rcases (show tA T p = p ∨ p < tA T p by omega) with q | q
    · exact q
    · exfalso
      have hi := rE_in (f := bW) (T := T) (p := p) (i := tA T p - 1) (by omega) (by show _ < tA T p; omega)
      have := bW_t.mp hi.2
      omega
  unfold tJ
  rw [Bool.and_eq_true, Bool.or_eq_true, decide_eq_true_iff]
  rw [e] at h
  refine ⟨⟨e, by omega⟩, ?_⟩
  rcases h.2 with q | q
  · exact Or.inl (bL_t.mpr q)
  · exact Or.inr (bN_t.mpr q)
theorem tJ_f {T : TT} {p : Int} (h : tA T p ≤ 0 ∨ ((T.1 (tA T p - 1) < 97 ∨ 122 < T.1 (tA T p - 1)) ∧ (T.1 (tA T p - 1) < 48 ∨ 57 < T.1 (tA T p - 1)))) : tJ T p = false := by
  cases e : tJ T p with
  | false => rfl
  | true =>
    exfalso
    unfold tJ at e
    rw [Bool.and_eq_true, Bool.or_eq_true, decide_eq_true_iff] at e
    obtain ⟨⟨e1, e2⟩, e3⟩ := e
    rw [e1] at h
    rcases h with h | h
    · omega
    · rcases e3 with q | q
      · have := bL_t.mp q; omega
      · have := bN_t.mp q; omega
/-- as a number -/
def tJn (T : TT) (p : Int) : Int := if tJ T p = true then 1 else 0
theorem tJn_1 {T : TT} {p : Int} (h : tJ T p = true) : tJn T p = 1 := by unfold tJn; rw [if_pos h]
theorem tJn_0 {T : TT} {p : Int} (h : tJ T p = false) : tJn T p = 0 := by unfold tJn; rw [if_neg (by rw [h]; simp)]
theorem tJn_t {T : TT} {p : Int} (h : tJn T p = 1) : tJ T p = true := by
  cases e : tJ T p with
  | true => rfl
  | false => rw [tJn_0 e] at h; omega
theorem tJn_f {T : TT} {p : Int} (h : tJn T p = 0) : tJ T p = false := by
  cases e : tJ T p with
  | false => rfl
  | true => rw [tJn_1 e] at h; omega
theorem MS.end {T : TT} {p : Int} {P : PH} (hp : 0 ≤ p ∧ p ≤ T.2) (h4 : P 0 4 = tA T p) (hn : T.2 ≤ tA T p) (h3 : P 0 3 = 0) (h12 : P 0 12 = -1) (h5 : P 0 5 = tA T p) : MS T p P := by
  have hk := tK_0 hn
  refine ⟨h4, hp.1, hp.2, fun q => by omega, fun _ => ⟨h12, by omega, by rw [tE_0 hk]; exact h5⟩, fun q => by omega, fun q => by omega⟩
theorem MS.sig {T : TT} {p : Int} {P : PH} (hp : 0 ≤ p ∧ p ≤ T.2) (h4 : P 0 4 = tA T p) (hn : tA T p < T.2) (hl : T.1 (tA T p) < 97 ∨ 122 < T.1 (tA T p)) (hd : T.1 (tA T p) < 48 ∨ 57 < T.1 (tA T p)) (h3 : P 0 3 = 3) (h12 : P 0 12 = -1) (h5 : P 0 5 = tA T p + 1) (h6 : P 0 6 = T.1 (tA T p)) : MS T p P := by
  have hk := tK_3 hn (bL_f hl) (bN_f hd)
  have h9 := tK3 hk
  refine ⟨h4, hp.1, hp.2, fun q => by omega, fun _ => ⟨h12, by omega, by omega⟩, fun _ => by rw [h9.2.2.2]; exact h6, fun q => by omega⟩
theorem MS.wor {T : TT} {p : Int} {P : PH} (hp : 0 ≤ p ∧ p ≤ T.2) (h4 : P 0 4 = tA T p) (hn : tA T p < T.2) (hl : 97 ≤ T.1 (tA T p) ∧ T.1 (tA T p) ≤ 122) (h3 : P 0 3 = 1) (h5 : P 0 5 = rE bL T (tA T p))
    (hx : (tJn T p = 1 ∧ P 0 12 = tA T p) ∨ (tJn T p = 0 ∧ ((rE bL T (tA T p) - tA T p ≤ 6 ∧ P 0 12 = -1) ∨ (6 < rE bL T (tA T p) - tA T p ∧ P 0 12 = tA T p + 6)))) (hw : rE bL T (tA T p) - tA T p ≤ 6 → P 0 7 = e56 (tL T (tA T p)) (rE bL T (tA T p) - tA T p).toNat) : MS T p P := by
  have hl1 := bL_t.mpr hl
  have hg := tA_ge T p
  rcases hx with ⟨hj, h12⟩ | ⟨hj, hx⟩
  · have hj := tJn_t hj
    have hk := tK_j hn (Or.inl hl1) hj
    refine ⟨h4, hp.1, hp.2, fun _ => ⟨?_, by omega, by omega⟩, fun q => by omega, fun q => by omega, fun q => by omega⟩
    unfold tS
    rw [if_pos hj]
    exact h12
  · have hj := tJn_f hj
    have hk := tK_w hn hl1 hj
    rcases hx with ⟨hle, h12⟩ | ⟨hle, h12⟩
    · rw [if_pos hle] at hk
      refine ⟨h4, hp.1, hp.2, fun q => by omega, fun _ => ⟨h12, by omega, ?_⟩, fun q => by omega, fun _ => hw hle⟩
      unfold tE
      rw [if_neg (by omega), if_pos hk]
      exact h5
    · rw [if_neg (by omega)] at hk
      refine ⟨h4, hp.1, hp.2, fun _ => ⟨?_, by omega, by omega⟩, fun q => by omega, fun q => by omega, fun q => by omega⟩
      unfold tS
      rw [if_neg (by rw [hj]; simp), if_pos hl1]
      exact h12
theorem MS.nu {T : TT} {p : Int} {P : PH} (hp : 0 ≤ p ∧ p ≤ T.2) (h4 : P 0 4 = tA T p) (hn : tA T p < T.2) (hl : 48 ≤ T.1 (tA T p) ∧ T.1 (tA T p) ≤ 57) (h3 : P 0 3 = 2) (h5 : P 0 5 = rE bN T (tA T p))
    (hx : (tJn T p = 1 ∧ P 0 12 = tA T p) ∨ (tJn T p = 0 ∧ ((rE bN T (tA T p) - tA T p ≤ 4 ∧ P 0 12 = -1) ∨ (4 < rE bN T (tA T p) - tA T p ∧ P 0 12 = tA T p + 4)))) (hw : rE bN T (tA T p) - tA T p ≤ 4 → P 0 6 = e10 (tD T (tA T p)) (rE bN T (tA T p) - tA T p).toNat) : MS T p P := by
  have hl1 := bN_t.mpr hl
  have hl0 : bL (T.1 (tA T p)) = false := bL_f (by omega)
  have hg := tA_ge T p
  rcases hx with ⟨hj, h12⟩ | ⟨hj, hx⟩
  · have hj := tJn_t hj
    have hk := tK_j hn (Or.inr hl1) hj
    refine ⟨h4, hp.1, hp.2, fun _ => ⟨?_, by omega, by omega⟩, fun q => by omega, fun q => by omega, fun q => by omega⟩
    unfold tS
    rw [if_pos hj]
    exact h12
  · have hj := tJn_f hj
    have hk := tK_n hn hl0 hl1 hj
    rcases hx with ⟨hle, h12⟩ | ⟨hle, h12⟩
    · rw [if_pos hle] at hk
      refine ⟨h4, hp.1, hp.2, fun q => by omega, fun _ => ⟨h12, by omega, ?_⟩, fun _ => ?_, fun q => by omega⟩
      · unfold tE
        rw [if_neg (by omega), if_neg (by omega), if_pos hk]
        exact h5
      · unfold tV
        rw [if_neg (by omega), if_neg (by omega), if_pos hk]
        exact hw hle
    · rw [if_neg (by omega)] at hk
      refine ⟨h4, hp.1, hp.2, fun _ => ⟨?_, by omega, by omega⟩, fun q => by omega, fun q => by omega, fun q => by omega⟩
      unfold tS
      rw [if_neg (by rw [hj]; simp), if_neg (by rw [hl0]; simp)]
      exact h12
/-- what the run so far holds -/
theorem run_l {T : TT} {a b : Int} (h : rE bL T a = rE bL T b) (hb : a ≤ b) (hg : b ≤ rE bL T a) : ∀ i : Nat, a + i < b → 1 ≤ tL T a i ∧ tL T a i ≤ 26 := by
  intro i hi
  have := bL_t.mp (rE_in (f := bL) (T := T) (p := a) (i := a + i) (by omega) (by omega)).2
  unfold tL
  omega
theorem run_d {T : TT} {a b : Int} (hb : a ≤ b) (hg : b ≤ rE bN T a) : ∀ i : Nat, a + i < b → 48 ≤ T.1 (a + i) ∧ T.1 (a + i) ≤ 57 := by
  intro i hi
  exact bN_t.mp (rE_in (f := bN) (T := T) (p := a) (i := a + i) (by omega) (by omega)).2
theorem own_r {T : TT} {p r w : Int} (hg : (r = 1 ∧ oWS w) ∨ (r = 0 ∧ ¬ oWS w)) (hw : tK T p = 1 → w = tW T p) (h1 : tK T p = 1) : (r = 1 ∧ tO T p ≠ -1) ∨ (r = 0 ∧ tO T p = -1) := by
  have ha := own_any h1
  rw [hw h1] at hg
  rcases hg with ⟨e, q⟩ | ⟨e, q⟩
  · exact Or.inl ⟨e, ha.mp q⟩
  · by_cases z : tO T p = -1
    · exact Or.inr ⟨e, z⟩
    · exact absurd (ha.mpr z) q
end
section
/-! The reference's stack of patterns begun; what a reading of a pattern ends with. -/
def STL (P : PH) : SK → Prop
  | [] => True
  | (c, f, k) :: s => P 26 ((s.length : Int) + 1) = c ∧ P 27 ((s.length : Int) + 1) = f ∧ K4 (P 24 ((s.length : Int) + 1)) k ∧ STL P s
theorem STL.eq {P P1 : PH} : ∀ (s : SK), STL P s → (∀ j : Int, 1 ≤ j → j ≤ s.length → P1 24 j = P 24 j ∧ P1 26 j = P 26 j ∧ P1 27 j = P 27 j) → STL P1 s := by
  intro s
  induction s with
  | nil => intro _ _; trivial
  | cons x s ih =>
    obtain ⟨c, f, k⟩ := x
    intro h e
    have e1 := e ((s.length : Int) + 1) (by omega) (by rw [List.length_cons]; omega)
    refine ⟨by rw [e1.2.1]; exact h.1, by rw [e1.2.2]; exact h.2.1, by rw [e1.1]; exact h.2.2.1, ih h.2.2.2 (fun j j1 j2 => e j j1 (by rw [List.length_cons]; omega))⟩
/-- patterns begun: the stack, the kind of the one on top -/
def STK (s : SK) (k : Int) (P : PH) : Prop := P 0 43 = (s.length : Int) + 1 ∧ K4 (P 24 (P 0 43)) k ∧ STL P s
theorem STK.fr {s : SK} {k : Int} {P P1 : PH} {F : FS} (h : STK s k P) (hf : FrM F P P1) (hd : disF F ([43], [24, 26, 27]) = true) : STK s k P1 := by
  obtain ⟨h1, h2, h3⟩ := h
  refine ⟨by rw [disF_k hd hf (k := 43) (by decide)]; exact h1, by rw [disF_k hd hf (k := 43) (by decide), disF_o hd hf (o := 24) (by decide) rfl]; exact h2, h3.eq s (fun j _ _ => ?_)⟩
  rw [disF_o hd hf (o := 24) (by decide) rfl, disF_o hd hf (o := 26) (by decide) rfl, disF_o hd hf (o := 27) (by decide) rfl]
  exact ⟨rfl, rfl, rfl⟩
theorem STK.start {k z : Int} {P : PH} (h43 : P 0 43 = 1) (h24 : P 24 1 = z) (hk : K4 z k) : STK [] k P := ⟨h43, by rw [h43, h24]; exact hk, trivial⟩
theorem STK.pop {c f k1 k : Int} {s : SK} {P P1 : PH} (h : STK ((c, f, k1) :: s) k P) (h43 : P1 0 43 = P 0 43 - 1) (q24 : ∀ j, P1 24 j = P 24 j) (q26 : ∀ j, P1 26 j = P 26 j) (q27 : ∀ j, P1 27 j = P 27 j) : STK s k1 P1 ∧ P1 26 (P1 0 43) = c ∧ P1 27 (P1 0 43) = f := by
  obtain ⟨h1, h2, h3, h4, h5, h6⟩ := h
  have h1 : P 0 43 = ((s.length : Int) + 1) + 1 := by rw [h1, List.length_cons]; omega
  have e : P1 0 43 = (s.length : Int) + 1 := by omega
  refine ⟨⟨e, by rw [e, q24]; exact h5, h6.eq s (fun j _ _ => ⟨q24 j, q26 j, q27 j⟩)⟩, by rw [e, q26]; exact h3, by rw [e, q27]; exact h4⟩
theorem STK.push {c f k k1 z : Int} {s : SK} {P P1 : PH} (h : STK s k P) (hz : K4 z k1) (h43 : P1 0 43 = P 0 43 + 1) (s24 : P1 24 (P 0 43 + 1) = z) (q24 : ∀ j : Int, j ≠ P 0 43 + 1 → P1 24 j = P 24 j) (s26 : P1 26 (P 0 43) = c) (q26 : ∀ j : Int, j ≠ P 0 43 → P1 26 j = P 26 j) (s27 : P1 27 (P 0 43) = f) (q27 : ∀ j : Int, j ≠ P 0 43 → P1 27 j = P 27 j) : STK ((c, f, k) :: s) k1 P1 := by
  obtain ⟨h1, h2, h3⟩ := h
  refine ⟨by rw [h43, h1, List.length_cons]; omega, by rw [h43, s24]; exact hz, by rw [← h1]; exact s26, by rw [← h1]; exact s27, by rw [← h1, q24 _ (by omega)]; exact h2, h3.eq s (fun j j1 j2 => ⟨q24 j (by omega), q26 j (by omega), q27 j (by omega)⟩)⟩
theorem STK.b {s : SK} {k : Int} {P : PH} (h : STK s k P) : P 0 43 = (s.length : Int) + 1 ∧ ((P 24 (P 0 43) = 4 ∧ k = -1) ∨ (0 ≤ P 24 (P 0 43) ∧ P 24 (P 0 43) ≤ 3 ∧ k = P 24 (P 0 43))) := ⟨h.1, h.2.1⟩
/-- a fault: the machine's own, or that of a token that can't be anywhere, just behind a whole pattern -/
def LFa (T : TT) (K : PH) (m : Int) (s : SK) (k p f pl : Int) : Prop := Runs T K m s k p (f, pl) ∨ ∃ q, tK T q = 4 ∧ f = 1 ∧ pl = tS T q ∧ Runs T K m s k p (0, q)
theorem LFa.go {T : TT} {K : PH} {m m1 : Int} {s s1 : SK} {k k1 p p1 f pl : Int} (h : LFa T K m1 s1 k1 p1 f pl) (hr : ∀ x, Runs T K m1 s1 k1 p1 x → Runs T K m s k p x) : LFa T K m s k p f pl := by
  rcases h with h | ⟨q, h1, h2, h3, h4⟩
  · exact Or.inl (hr _ h)
  · exact Or.inr ⟨q, h1, h2, h3, hr _ h4⟩
theorem tO_4 {T : TT} {p : Int} (h : tK T p ≠ 1) : tO T p = -1 := by
  unfold tO
  rw [if_neg h]
theorem sgn_4 {T : TT} {c p : Int} (h : tK T p = 4) : sgn T c p = (1, tS T p) := by
  unfold sgn fh
  rw [if_neg (by omega), if_pos h]
/-- a token that can't be anywhere behind an alternative -/
theorem LFa.bad {T : TT} {K : PH} {s : SK} {k p f pl : Int} (h : tK T p = 4) (hf : f = 1) (hp : pl = tS T p) : LFa T K 1 s k p f pl := by
  have ho : tO T p ≠ 9 := by rw [tO_4 (by omega)]; decide
  subst hf
  subst hp
  cases s with
  | nil => exact Or.inr ⟨p, h, rfl, rfl, Runs.done ho⟩
  | cons x s =>
    obtain ⟨c, g, k1⟩ := x
    left
    by_cases hg : g + 1 < K 6 c
    · have := Runs.commaF (T := T) (K := K) (s := s) (k := k) (p := p) (k1 := k1) ho hg (by rw [sgn_4 h]; show (1 : Int) ≠ 0; decide)
      rw [sgn_4 h] at this
      exact this
    · have := Runs.closeF (T := T) (K := K) (s := s) (k := k) (p := p) (k1 := k1) ho hg (by rw [sgn_4 h]; show (1 : Int) ≠ 0; decide)
      rw [sgn_4 h] at this
      exact this
/-- what an alternative leaves -/
def AL (T : TT) (K : PH) (s : SK) (k p r : Int) (P : PH) : Prop := (0 < P 0 8 ∧ LFa T K 0 s k p (P 0 8) (P 0 9)) ∨ (P 0 8 ≤ 0 ∧ r = 1 ∧ ∃ q, MS T q P ∧ STK s k P ∧ ∀ x, Runs T K 1 s k q x → Runs T K 0 s k p x) ∨ (P 0 8 ≤ 0 ∧ r = 0 ∧ ∃ s1 k1 q, MS T q P ∧ STK s1 k1 P ∧ ∀ x, Runs T K 0 s1 k1 q x → Runs T K 0 s k p x)
/-- what the going on behind an alternative leaves -/
def GN (T : TT) (K : PH) (s : SK) (k p r : Int) (P : PH) : Prop := (0 < P 0 8 ∧ LFa T K 1 s k p (P 0 8) (P 0 9)) ∨ (P 0 8 ≤ 0 ∧ r = 1 ∧ ∃ s1 k1 q, MS T q P ∧ STK s1 k1 P ∧ ∀ x, Runs T K 0 s1 k1 q x → Runs T K 1 s k p x) ∨ (P 0 8 ≤ 0 ∧ r = 0 ∧ ∃ q, MS T q P ∧ Runs T K 1 s k p (0, q))
/-- a reading that ends at q, or with a fault, or with one of a token that can't be anywhere just there -/
def REn (T : TT) (x : Int × Int) (P : PH) : Prop := (P 0 8 = x.1 ∧ (x.1 = 0 ∨ P 0 9 = x.2)) ∨ (x.1 = 0 ∧ tK T x.2 = 4 ∧ P 0 8 = 1 ∧ P 0 9 = tS T x.2)
theorem LFa.pat {T : TT} {K : PH} {k p : Int} {P : PH} (h : LFa T K 0 [] k p (P 0 8) (P 0 9)) : REn T (pat T K k p) P := by
  rcases h with h | ⟨q, h1, h2, h3, h4⟩
  · rw [h.pat]
    exact Or.inl ⟨rfl, Or.inr rfl⟩
  · rw [h4.pat]
    exact Or.inr ⟨rfl, h1, h2, h3⟩
theorem STK.top {c f k1 k : Int} {s : SK} {P : PH} (h : STK ((c, f, k1) :: s) k P) : P 26 (P 0 43 - 1) = c ∧ P 27 (P 0 43 - 1) = f := by
  obtain ⟨h1, h2, h3, h4, h5, h6⟩ := h
  have h1 : P 0 43 = ((s.length : Int) + 1) + 1 := by rw [h1, List.length_cons]; omega
  rw [show P 0 43 - 1 = (s.length : Int) + 1 by omega]
  exact ⟨h3, h4⟩
theorem num_4 {T : TT} {lo hi p : Int} (h : tK T p = 4) : num T lo hi p = (1, tS T p) := by
  unfold num fh
  rw [if_neg (by omega), if_pos h]
theorem LFa.bad0 {T : TT} {K : PH} {s : SK} {k p f pl : Int} (h : tK T p = 4) (hf : f = 1) (hp : pl = tS T p) : LFa T K 0 s k p f pl := by
  have ho : tO T p ≠ 8 := by rw [tO_4 (by omega)]; decide
  subst hf
  subst hp
  left
  by_cases hk : k = -1
  · have e : rng T p = (1, tS T p) := by
      unfold rng
      rw [num_4 h]
      rfl
    have := Runs.rangeF (T := T) (K := K) (s := s) (k := k) (p := p) ho hk (by rw [e]; show (1 : Int) ≠ 0; decide)
    rw [e] at this
    exact this
  · have e : cas T K k p = (1, tS T p) := by
      unfold cas fh
      rw [if_neg (by omega), if_pos h]
    have := Runs.caseF (T := T) (K := K) (s := s) (k := k) (p := p) ho hk (by rw [e]; show (1 : Int) ≠ 0; decide)
    rw [e] at this
    exact this
theorem pair_eq {x : Int × Int} {a b : Int} (h1 : a = x.1) (h2 : b = x.2) : (a, b) = x := by
  subst h1
  subst h2
  rfl
theorem AL.bad {T : TT} {K : PH} {s : SK} {k p r : Int} {P : PH} (h : tK T p = 4) (h8 : P 0 8 = 1) (h9 : P 0 9 = tS T p) : AL T K s k p r P := Or.inl ⟨by omega, LFa.bad0 h h8 h9⟩
theorem AL.any {T : TT} {K : PH} {s : SK} {k p : Int} {P : PH} (h : tO T p = 8) (h8 : P 0 8 ≤ 0) (hs : MS T (tE T p) P) (hk : STK s k P) : AL T K s k p 1 P := Or.inr (Or.inl ⟨h8, rfl, tE T p, hs, hk, fun _ hx => Runs.any h hx⟩)
theorem AL.range {T : TT} {K : PH} {s : SK} {k p : Int} {P : PH} (ho : tO T p ≠ 8) (hk : k = -1) (hr : REn T (rng T p) P) (h0 : 0 ≤ P 0 8) (hs : P 0 8 = 0 → MS T (rng T p).2 P) (hst : STK s k P) : AL T K s k p 1 P := by
  rcases hr with ⟨h1, h2⟩ | ⟨h1, h2, h3, h4⟩
  · by_cases e : (rng T p).1 = 0
    · exact Or.inr (Or.inl ⟨by omega, rfl, (rng T p).2, hs (by omega), hst, fun _ hx => Runs.range ho hk e hx⟩)
    · refine Or.inl ⟨by omega, Or.inl ?_⟩
      rw [pair_eq h1 (h2.resolve_left e)]
      exact Runs.rangeF ho hk e
  · exact Or.inl ⟨by omega, (LFa.bad h2 h3 h4).go (fun _ hx => Runs.range ho hk h1 hx)⟩
theorem AL.caseF {T : TT} {K : PH} {s : SK} {k p r : Int} {P : PH} (ho : tO T p ≠ 8) (hk : k ≠ -1) (h0 : 0 < P 0 8) (h1 : P 0 8 = (cas T K k p).1) (h2 : P 0 9 = (cas T K k p).2) : AL T K s k p r P := by
  refine Or.inl ⟨h0, Or.inl ?_⟩
  rw [pair_eq h1 h2]
  exact Runs.caseF ho hk (by omega)
theorem AL.case0 {T : TT} {K : PH} {s : SK} {k p : Int} {P : PH} (ho : tO T p ≠ 8) (hk : k ≠ -1) (h0 : P 0 8 ≤ 0) (hc : (cas T K k p).1 = 0) (h6 : K 6 (cNm K (tV T p)) = 0) (hs : MS T (tE T p) P) (hst : STK s k P) : AL T K s k p 1 P := Or.inr (Or.inl ⟨h0, rfl, tE T p, hs, hst, fun _ hx => Runs.case0 ho hk hc h6 hx⟩)
theorem AL.intoF {T : TT} {K : PH} {s : SK} {k p r : Int} {P : PH} (ho : tO T p ≠ 8) (hk : k ≠ -1) (h0 : 0 < P 0 8) (hc : (cas T K k p).1 = 0) (h6 : K 6 (cNm K (tV T p)) ≠ 0) (h1 : P 0 8 = (sgn T 40 (tE T p)).1) (h2 : P 0 9 = (sgn T 40 (tE T p)).2) : AL T K s k p r P := by
  refine Or.inl ⟨h0, Or.inl ?_⟩
  rw [pair_eq h1 h2]
  exact Runs.intoF ho hk hc h6 (by omega)
theorem AL.into {T : TT} {K : PH} {s : SK} {k p c : Int} {P : PH} (ho : tO T p ≠ 8) (hk : k ≠ -1) (h0 : P 0 8 ≤ 0) (hc : (cas T K k p).1 = 0) (e : c = cNm K (tV T p)) (h6 : K 6 (cNm K (tV T p)) ≠ 0) (h1 : (sgn T 40 (tE T p)).1 = 0) (hs : MS T (tE T (tE T p)) P) (hst : STK ((c, 0, k) :: s) (K 7 c) P) : AL T K s k p 0 P := by
  subst e
  exact Or.inr (Or.inr ⟨h0, rfl, _, _, _, hs, hst, fun _ hx => Runs.into ho hk hc h6 h1 hx⟩)
theorem AL.one {T : TT} {K : PH} {s : SK} {k p r : Int} {P : PH} (h : AL T K s k p r P) (hr : r ≠ 0) : ∃ q, (0 < P 0 8 ∧ LFa T K 0 s k p (P 0 8) (P 0 9)) ∨ (P 0 8 ≤ 0 ∧ MS T q P ∧ STK s k P ∧ ∀ x, Runs T K 1 s k q x → Runs T K 0 s k p x) := by
  rcases h with h | ⟨h1, h2, q, h3, h4, h5⟩ | ⟨h1, h2, h3⟩
  · exact ⟨0, Or.inl h⟩
  · exact ⟨q, Or.inr ⟨h1, h3, h4, h5⟩⟩
  · exact absurd h2 hr
/-- the reading of a pattern goes on, or has ended -/
def PL (T : TT) (K : PH) (k p l : Int) (P : PH) : Prop := (0 < P 0 8 → REn T (pat T K k p) P) ∧ (P 0 8 ≤ 0 → (l = 1 ∧ ∃ s1 k1 q, MS T q P ∧ STK s1 k1 P ∧ ∀ x, Runs T K 0 s1 k1 q x → Runs T K 0 [] k p x) ∨ (l = 0 ∧ MS T (pat T K k p).2 P ∧ (pat T K k p).1 = 0))
theorem PL.start {T : TT} {K : PH} {k p : Int} {P : PH} (h8 : P 0 8 ≤ 0) (hs : MS T p P) (hk : STK [] k P) : PL T K k p 1 P := ⟨fun h => by omega, fun _ => Or.inl ⟨rfl, [], k, p, hs, hk, fun _ hx => hx⟩⟩
theorem PL.al {T : TT} {K : PH} {s1 : SK} {k p k1 q r l : Int} {P : PH} (hl : l = 1) (h : AL T K s1 k1 q r P) (hr : r = 0) (hR : ∀ x, Runs T K 0 s1 k1 q x → Runs T K 0 [] k p x) : PL T K k p l P := by
  subst hl
  rcases h with ⟨h1, h2⟩ | ⟨h1, h2, _⟩ | ⟨h1, h2, s2, k2, q2, h3, h4, h5⟩
  · exact ⟨fun _ => (h2.go hR).pat, fun h => by omega⟩
  · omega
  · exact ⟨fun h => by omega, fun _ => Or.inl ⟨rfl, s2, k2, q2, h3, h4, fun x hx => hR x (h5 x hx)⟩⟩
theorem PL.gn {T : TT} {K : PH} {s1 : SK} {k p k1 q q1 r : Int} {P P1 : PH} (ha : (0 < P 0 8 ∧ LFa T K 0 s1 k1 q (P 0 8) (P 0 9)) ∨ (P 0 8 ≤ 0 ∧ MS T q1 P ∧ STK s1 k1 P ∧ ∀ x, Runs T K 1 s1 k1 q1 x → Runs T K 0 s1 k1 q x)) (hR : ∀ x, Runs T K 0 s1 k1 q x → Runs T K 0 [] k p x)
    (h : (0 < P 0 8 ∧ P1 0 8 = P 0 8 ∧ P1 0 9 = P 0 9) ∨ (P 0 8 ≤ 0 ∧ GN T K s1 k1 q1 r P1)) : PL T K k p r P1 := by
  rcases h with ⟨h1, h2, h3⟩ | ⟨h1, h2⟩
  · have ha := (ha.resolve_right (by omega)).2
    rw [← h2, ← h3] at ha
    exact ⟨fun _ => (ha.go hR).pat, fun h => by omega⟩
  · have ha := ha.resolve_left (by omega)
    have hR1 : ∀ x, Runs T K 1 s1 k1 q1 x → Runs T K 0 [] k p x := fun x hx => hR x (ha.2.2.2 x hx)
    rcases h2 with ⟨g1, g2⟩ | ⟨g1, g2, s2, k2, q2, g3, g4, g5⟩ | ⟨g1, g2, q2, g3, g4⟩
    · exact ⟨fun _ => (g2.go hR1).pat, fun h => by omega⟩
    · exact ⟨fun h => by omega, fun _ => Or.inl ⟨g2, s2, k2, q2, g3, g4, fun x hx => hR1 x (g5 x hx)⟩⟩
    · have e := (hR1 _ g4).pat
      exact ⟨fun h => by omega, fun _ => Or.inr ⟨g2, by rw [e]; exact g3, by rw [e]⟩⟩
/-- behind an alternative, round the loop -/
def GL (T : TT) (K : PH) (s : SK) (k p : Int) (P : PH) : Prop := ∃ (s1 : SK) (k1 q : Int), (P 0 8 ≤ 0 → MS T q P ∧ STK s1 k1 P ∧ ∀ x, Runs T K 1 s1 k1 q x → Runs T K 1 s k p x) ∧ (0 < P 0 8 → LFa T K 1 s k p (P 0 8) (P 0 9))
theorem GL.start {T : TT} {K : PH} {s : SK} {k p : Int} {P : PH} (h8 : P 0 8 ≤ 0) (h : MS T p P ∧ STK s k P) : GL T K s k p P := ⟨s, k, p, fun _ => ⟨h.1, h.2, fun _ hx => hx⟩, fun h => by omega⟩
theorem GL.lr {T : TT} {K : PH} {s : SK} {k p : Int} {P : PH} (h : GL T K s k p P) (h0 : 0 < P 0 8) : LFa T K 1 s k p (P 0 8) (P 0 9) := by
  obtain ⟨s1, k1, q, _, h2⟩ := h
  exact h2 h0
section GNS
variable {T : TT} {K : PH} {s s1 : SK} {k p k1 q c f g r : Int} {P : PH}
theorem GN.bad (hR : ∀ x, Runs T K 1 s1 k1 q x → Runs T K 1 s k p x) (h : tK T q = 4) (h8 : P 0 8 = 1) (h9 : P 0 9 = tS T q) : GN T K s k p r P := Or.inl ⟨by omega, (LFa.bad h h8 h9).go hR⟩
theorem GN.or (hR : ∀ x, Runs T K 1 s1 k1 q x → Runs T K 1 s k p x) (h : tO T q = 9) (h8 : P 0 8 ≤ 0) (hs : MS T (tE T q) P) (hk : STK s1 k1 P) : GN T K s k p 1 P := Or.inr (Or.inl ⟨h8, rfl, s1, k1, tE T q, hs, hk, fun x hx => hR x (Runs.or h hx)⟩)
theorem GN.done (hR : ∀ x, Runs T K 1 s1 k1 q x → Runs T K 1 s k p x) (hl : s1.length = 0) (h : tO T q ≠ 9) (h8 : P 0 8 ≤ 0) (hs : MS T q P) : GN T K s k p 0 P := by
  obtain rfl : s1 = [] := List.length_eq_zero_iff.mp hl
  exact Or.inr (Or.inr ⟨h8, rfl, q, hs, hR _ (Runs.done h)⟩)
theorem GN.commaF (hR : ∀ x, Runs T K 1 ((c, f, g) :: s1) k1 q x → Runs T K 1 s k p x) (ho : tO T q ≠ 9) (hf : f + 1 < K 6 c) (h0 : 0 < P 0 8) (h1 : P 0 8 = (sgn T 44 q).1) (h2 : P 0 9 = (sgn T 44 q).2) : GN T K s k p r P := by
  refine Or.inl ⟨h0, Or.inl ?_⟩
  rw [pair_eq h1 h2]
  exact hR _ (Runs.commaF ho hf (by omega))
theorem GN.comma (hR : ∀ x, Runs T K 1 ((c, f, g) :: s1) k1 q x → Runs T K 1 s k p x) (ho : tO T q ≠ 9) (hf : f + 1 < K 6 c) (h0 : P 0 8 ≤ 0) (h1 : (sgn T 44 q).1 = 0) (hs : MS T (tE T q) P) (hk : STK ((c, f + 1, g) :: s1) (K 8 c) P) : GN T K s k p 1 P :=
  Or.inr (Or.inl ⟨h0, rfl, _, _, _, hs, hk, fun x hx => hR x (Runs.comma ho hf h1 hx)⟩)
theorem GL.close (hR : ∀ x, Runs T K 1 ((c, f, g) :: s1) k1 q x → Runs T K 1 s k p x) (ho : tO T q ≠ 9) (hf : ¬ f + 1 < K 6 c) (h1 : P 0 8 = (sgn T 41 q).1) (h2 : (sgn T 41 q).1 = 0 ∨ P 0 9 = (sgn T 41 q).2) (hs : (sgn T 41 q).1 = 0 → MS T (tE T q) P) (hk : STK s1 g P) (h0 : 0 ≤ P 0 8) : GL T K s k p P := by
  refine ⟨s1, g, tE T q, fun h8 => ⟨hs (by omega), hk, fun x hx => hR x (Runs.close ho hf (by omega) hx)⟩, fun h8 => Or.inl ?_⟩
  rw [pair_eq h1 (h2.resolve_left (by omega))]
  exact hR _ (Runs.closeF ho hf (by omega))
end GNS
theorem fh_ok {T : TT} {p : Int} (h : tK T p ≠ 4) : fh T p = tA T p := by unfold fh; rw [if_neg h]
theorem fh_no {T : TT} {p : Int} (h : tK T p = 4) : fh T p = tS T p := by unfold fh; rw [if_pos h]
theorem fre_4 {T : TT} {K : PH} {p : Int} (h : tK T p = 4) : fre T K p = (1, tS T p) := by unfold fre; rw [if_neg (by omega), fh_no h]
end
section
/-! Arms, statements: lemmas for the reference's loops. -/
theorem MM.arm2 {M P P1 : PH} {g : Int} (h : MM M P) (e37 : P1 0 37 = P 0 37) (e13 : P1 13 (P 0 37) = P 13 (P 0 37) + 1) (s14 : P1 14 (12 * P 0 37 + P 13 (P 0 37)) = g) (q14 : ∀ j : Int, j ≠ 12 * P 0 37 + P 13 (P 0 37) → P1 14 j = P 14 j) (q11 : ∀ j, P1 11 j = P 11 j) (q12 : ∀ j, P1 12 j = P 12 j) (q15 : ∀ j, P1 15 j = P 15 j) (q16 : ∀ j, P1 16 j = P 16 j) : MM (aNew M g) P1 := by
  obtain ⟨h1, h2, h3, h4, h5, h6⟩ := h
  unfold MM
  rw [aNew_0.1, aNew_0.2.1, aNew_0.2.2.1, aNew_0.2.2.2, aNew_1, e37, e13, q11, q15, q16]
  refine ⟨h1, by omega, h3, h4, fun c c0 c1 => by rw [q12]; exact h5 c c0 c1, fun a a0 a1 => ?_⟩
  rw [aNew_2]
  by_cases e : a = M 0 2
  · rw [if_pos e, e, ← h2, s14]
  · rw [if_neg e, q14 _ (by omega)]
    exact h6 a a0 (by omega)
theorem arl_bad {T : TT} {K M : PH} {r : Nat} {c p : Int} (hc : 0 < c) (h : tK T p = 4) : arl T K M r c p = if r = 0 then (0, p) else (1, tS T p) := by
  cases r with
  | zero => rfl
  | succ r =>
    rw [if_neg (by omega), arl_sF hc (by rw [sgn_4 h]; show (1 : Int) ≠ 0; decide), sgn_4 h]
/-- a column's pattern more -/
theorem ARn {T : TT} {K M : PH} {r : Nat} {c q q1 : Int} {X : Int × Int} {P : PH} (hX : X = arl T K M (r + 1) c q) (h0 : 0 ≤ c) (hq : (c ≤ 0 ∧ q1 = q) ∨ (0 < c ∧ (sgn T 44 q).1 = 0 ∧ q1 = tE T q)) (hp : REn T (pat T K (M 1 c) q1) P) (h8 : 0 ≤ P 0 8) (hs : P 0 8 = 0 → MS T (pat T K (M 1 c) q1).2 P) :
    ∃ q2 : Int, (P 0 8 ≤ 0 → X = arl T K M r (c + 1) q2 ∧ MS T q2 P) ∧ (0 < P 0 8 → REn T X P) := by
  have e : arl T K M (r + 1) c q = if (pat T K (M 1 c) q1).1 ≠ 0 then pat T K (M 1 c) q1 else arl T K M r (c + 1) (pat T K (M 1 c) q1).2 := by
    rcases hq with ⟨h, rfl⟩ | ⟨h, h2, rfl⟩
    · exact arl_p0 h
    · exact arl_p1 h h2
  rw [e] at hX
  rcases hp with ⟨h1, h2⟩ | ⟨h1, h2, h3, h4⟩
  · by_cases z : (pat T K (M 1 c) q1).1 = 0
    · rw [if_neg (by omega)] at hX
      exact ⟨(pat T K (M 1 c) q1).2, fun _ => ⟨hX, hs (by omega)⟩, fun h => by omega⟩
    · rw [if_pos z] at hX
      rw [hX]
      exact ⟨0, fun h => by omega, fun _ => Or.inl ⟨h1, h2⟩⟩
  · rw [if_neg (by omega), arl_bad (by omega) h2] at hX
    refine ⟨0, fun h => by omega, fun _ => ?_⟩
    rw [hX]
    by_cases z : r = 0
    · rw [if_pos z]
      exact Or.inr ⟨rfl, h2, h3, h4⟩
    · rw [if_neg z]
      exact Or.inl ⟨h3, Or.inr h4⟩
theorem ARs {T : TT} {K M : PH} {r : Nat} {c q : Int} {X : Int × Int} {P : PH} (hX : X = arl T K M (r + 1) c q) (hc : 0 < c) (h0 : 0 < P 0 8) (h1 : P 0 8 = (sgn T 44 q).1) (h2 : P 0 9 = (sgn T 44 q).2) :
    ∃ q2 : Int, (P 0 8 ≤ 0 → X = arl T K M r (c + 1) q2 ∧ MS T q2 P) ∧ (0 < P 0 8 → REn T X P) := by
  rw [arl_sF hc (by omega)] at hX
  refine ⟨0, fun h => by omega, fun _ => ?_⟩
  rw [hX]
  exact Or.inl ⟨h1, Or.inr h2⟩
theorem tA_E {T : TT} {p : Int} : (tA T p < T.2 ∧ tK T p ≠ 0) ∨ (T.2 ≤ tA T p ∧ tK T p = 0) := by
  rcases Int.lt_or_le (tA T p) T.2 with h | h
  · refine Or.inl ⟨h, fun e => ?_⟩
    unfold tK at e
    rw [if_neg (by omega)] at e
    repeat' split at e
    all_goals omega
  · exact Or.inr ⟨h, tK_0 h⟩
theorem AW.st {T : TT} {K M : PH} {p : Int} (h : AW K) (hs : (sSt T K M p).1 = 0) : AW (kSt T K p) := by
  unfold kSt
  unfold sSt at hs
  by_cases h0 : tO T p = 0
  · rw [if_pos h0] at hs ⊢
    have hk := sKi_s T K M p
    exact h.kind (by omega)
  · rw [if_neg h0] at hs ⊢
    by_cases h1 : tO T p = 1
    · rw [if_pos h1] at hs ⊢
      have hc := sCo_s T K M p
      have hf := fre_s T K (tE T p)
      have e : (fre T K (tE T p)).1 = 0 := by omega
      have e2 : (fre T K (tE T p)).2 = tE T (tE T p) := by omega
      rw [e2] at hc
      have hx : (fldX T K (tE T (tE T p))).1 = 0 := by omega
      have hw := fldX_w h (by omega) (tE T (tE T p)) hx
      unfold kCo
      exact h.con (by omega) (by omega) ⟨hw.1, hw.2.1⟩ hw.2.2.1 hw.2.2.2.1 hw.2.2.2.2.1 hw.2.2.2.2.2
    · rw [if_neg h1]
      exact h
/-- the statements so far -/
theorem mlo_n {T : TT} {n : Int} {K M : PH} {q : Int} (h0 : 0 ≤ n) (hn : n < 60) (h : tK T q ≠ 0) :
    ((sSt T K M q).1 ≠ 0 → mlo T (60 - n).toNat n K M q = ((sSt T K M q).1, (sSt T K M q).2, K, M)) ∧
    ((sSt T K M q).1 = 0 → (sgn T 59 (sSt T K M q).2).1 ≠ 0 → mlo T (60 - n).toNat n K M q = ((sgn T 59 (sSt T K M q).2).1, (sgn T 59 (sSt T K M q).2).2, K, M)) ∧
    ((sSt T K M q).1 = 0 → (sgn T 59 (sSt T K M q).2).1 = 0 → mlo T (60 - n).toNat n K M q = mlo T (60 - (n + 1)).toNat (n + 1) (kSt T K q) (mSt T K M q) (sgn T 59 (sSt T K M q).2).2) := by
  rw [show (60 - n).toNat = (60 - (n + 1)).toNat + 1 by omega]
  refine ⟨fun h1 => mlo_sF h h1, fun h1 h2 => mlo_eF h h1 h2, fun h1 h2 => ?_⟩
  rw [mlo_go h h1 h2]
  have := sgn_s T 59 (sSt T K M q).2
  rw [show (sgn T 59 (sSt T K M q).2).2 = tE T (sSt T K M q).2 by omega]
theorem ML.fault {T : TT} {n : Int} {K M : PH} {q f pl : Int} (h0 : 0 ≤ n) (hn : n < 60) (hk : tK T q ≠ 0) (hR : mlR T = mlo T (60 - n).toNat n K M q)
    (h : ((sSt T K M q).1 ≠ 0 ∧ f = (sSt T K M q).1 ∧ pl = (sSt T K M q).2) ∨ ((sSt T K M q).1 = 0 ∧ (sgn T 59 (sSt T K M q).2).1 ≠ 0 ∧ f = (sgn T 59 (sSt T K M q).2).1 ∧ pl = (sgn T 59 (sSt T K M q).2).2) ∨
      ((sSt T K M q).1 = 0 ∧ (sgn T 59 (sSt T K M q).2).1 = 0 ∧ n + 1 = 60 ∧ tA T (tE T (sSt T K M q).2) < T.2 ∧ f = 6 ∧ pl = tA T (tE T (sSt T K M q).2))) : (mlR T).1 = f ∧ (mlR T).2.1 = pl := by
  obtain ⟨m1, m2, m3⟩ := mlo_n (T := T) (K := K) (M := M) h0 hn hk
  rcases h with ⟨a, b, c⟩ | ⟨a, a2, b, c⟩ | ⟨a, a2, a3, a4, b, c⟩
  · rw [hR, m1 a]; exact ⟨b.symm, c.symm⟩
  · rw [hR, m2 a a2]; exact ⟨b.symm, c.symm⟩
  · have hs := sgn_s T 59 (sSt T K M q).2
    have hte := tA_E (T := T) (p := tE T (sSt T K M q).2)
    rw [hR, m3 a a2, show (60 - (n + 1)).toNat = 0 by omega, show (sgn T 59 (sSt T K M q).2).2 = tE T (sSt T K M q).2 by omega, mlo_much (by omega)]
    exact ⟨b.symm, c.symm⟩
theorem ML.go {T : TT} {n : Int} {K M : PH} {q : Int} (h0 : 0 ≤ n) (hn : n < 60) (hk : tK T q ≠ 0) (hR : mlR T = mlo T (60 - n).toNat n K M q) (h1 : (sSt T K M q).1 = 0) (h2 : (sgn T 59 (sSt T K M q).2).1 = 0) : mlR T = mlo T (60 - (n + 1)).toNat (n + 1) (kSt T K q) (mSt T K M q) (sgn T 59 (sSt T K M q).2).2 := hR.trans ((mlo_n h0 hn hk).2.2 h1 h2)
theorem ML.fin {T : TT} {n : Int} {K M : PH} {q : Int} (hk : tK T q = 0) (hR : mlR T = mlo T (60 - n).toNat n K M q) : (M 0 0 ≤ 0 ∧ (mlR T).1 = 1 ∧ (mlR T).2.1 = tA T q) ∨ (0 < M 0 0 ∧ (mlR T).1 = 0 ∧ (mlR T).2.1 = n) := by
  rw [hR, mlo_end hk]
  by_cases h : M 0 0 ≤ 0
  · left
    exact ⟨h, by show (if M 0 0 ≤ 0 then (1 : Int) else 0) = 1; rw [if_pos h], by show (if M 0 0 ≤ 0 then tA T q else n) = _; rw [if_pos h]⟩
  · right
    exact ⟨by omega, by show (if M 0 0 ≤ 0 then (1 : Int) else 0) = 0; rw [if_neg h], by show (if M 0 0 ≤ 0 then tA T q else n) = _; rw [if_neg h]⟩
theorem ML.tab {T : TT} {n : Int} {K M : PH} {q : Int} (hk : tK T q = 0) (hR : mlR T = mlo T (60 - n).toNat n K M q) : (mlR T).2.2.1 = K ∧ (mlR T).2.2.2 = M := by
  rw [hR, mlo_end hk]
  exact ⟨rfl, rfl⟩
theorem MK.zero {P : PH} {b : Int} (e37 : P 0 37 = b) (e2 : P 2 b = 0) (e5 : P 5 b = 0) : MK K0 P := by
  unfold MK
  rw [e37, e2, e5]
  exact ⟨rfl, rfl, fun k h0 h1 => by exfalso; have h1 : k < 0 := h1; omega, fun k h0 h1 => by exfalso; have h1 : k < 0 := h1; omega⟩
theorem MM.zero {P : PH} {b : Int} (e37 : P 0 37 = b) (e11 : P 11 b = 0) (e13 : P 13 b = 0) (e15 : P 15 b = 0) (e16 : P 16 b = 300) : MM M0 P := by
  unfold MM
  rw [e37, e11, e13, e15, e16]
  exact ⟨rfl, rfl, rfl, rfl, fun k h0 h1 => by exfalso; have h1 : k < 0 := h1; omega, fun k h0 h1 => by exfalso; have h1 : k < 0 := h1; omega⟩
/-- a statement and what ends it: round the loop, or a fault -/
theorem ML.cases {T : TT} {S : Int × Int} {s8 s9 h8 h9 n : Int} (hs : (s8 = S.1 ∧ (S.1 = 0 ∨ s9 = S.2)) ∨ (S.1 = 0 ∧ tK T S.2 = 4 ∧ s8 = 1 ∧ s9 = tS T S.2))
    (hf : (0 < s8 ∧ h8 = s8 ∧ h9 = s9) ∨ (s8 ≤ 0 ∧ (sgn T 59 S.2).1 = 0 ∧ n = 60 ∧ tA T (tE T S.2) < T.2 ∧ h8 = 6 ∧ h9 = tA T (tE T S.2)) ∨ (s8 ≤ 0 ∧ ((sgn T 59 S.2).1 ≠ 0 ∨ n ≠ 60 ∨ T.2 ≤ tA T (tE T S.2)) ∧ h8 = (sgn T 59 S.2).1 ∧ ((sgn T 59 S.2).1 = 0 ∨ h9 = (sgn T 59 S.2).2))) (h0 : 0 ≤ s8) :
    (h8 = 0 ∧ S.1 = 0 ∧ (sgn T 59 S.2).1 = 0 ∧ (n ≠ 60 ∨ T.2 ≤ tA T (tE T S.2))) ∨ (0 < h8 ∧ ((S.1 ≠ 0 ∧ h8 = S.1 ∧ h9 = S.2) ∨ (S.1 = 0 ∧ (sgn T 59 S.2).1 ≠ 0 ∧ h8 = (sgn T 59 S.2).1 ∧ h9 = (sgn T 59 S.2).2) ∨ (S.1 = 0 ∧ (sgn T 59 S.2).1 = 0 ∧ n = 60 ∧ tA T (tE T S.2) < T.2 ∧ h8 = 6 ∧ h9 = tA T (tE T S.2)))) := by
  rcases hs with ⟨a1, a2⟩ | ⟨a1, a2, a3, a4⟩
  · rcases hf with ⟨b1, b2, b3⟩ | ⟨b1, b2, b3, b4, b5, b6⟩ | ⟨b1, b2, b3, b4⟩
    · exact Or.inr ⟨by omega, Or.inl ⟨by omega, by omega, by omega⟩⟩
    · exact Or.inr ⟨by omega, Or.inr (Or.inr ⟨by omega, b2, b3, b4, b5, b6⟩)⟩
    · have hg := sgn_s T 59 S.2
      by_cases e : (sgn T 59 S.2).1 = 0
      · exact Or.inl ⟨by omega, by omega, e, by omega⟩
      · exact Or.inr ⟨by omega, Or.inr (Or.inl ⟨by omega, e, b3, by omega⟩)⟩
  · rcases hf with ⟨b1, b2, b3⟩ | ⟨b1, b2⟩ | ⟨b1, b2⟩
    · have hg : sgn T 59 S.2 = (1, tS T S.2) := sgn_4 a2
      have hg1 : (sgn T 59 S.2).1 = 1 ∧ (sgn T 59 S.2).2 = tS T S.2 := by rw [hg]; exact ⟨rfl, rfl⟩
      exact Or.inr ⟨by omega, Or.inr (Or.inl ⟨a1, by omega, by omega, by omega⟩)⟩
    · exfalso; omega
    · exfalso; omega
end
end
section
section
/-! The class's picture of a text, of the token ahead, of the tables told. -/
def disX (F : FSX) (s : List (Nat × Int) × List Nat) : Bool := s.1.all (fun q => !inF F q.1 q.2) && s.2.all (fun k => !F.2.contains k && F.1.all fun q => !(q.1 == k))
theorem disX_f {F : FSX} {s : List (Nat × Int) × List Nat} {P P1 : PH} (hd : disX F s = true) (hf : FrX F P P1) {o k : Nat} {j : Int} (hk : kx o k) (hm : (k, j) ∈ s.1) : P1 o j = P o j := by
  unfold disX at hd
  rw [Bool.and_eq_true] at hd
  refine hf.g hk ?_
  have := List.all_eq_true.mp hd.1 (k, j) hm
  simpa using this
theorem disX_a {F : FSX} {s : List (Nat × Int) × List Nat} {P P1 : PH} (hd : disX F s = true) (hf : FrX F P P1) {o k : Nat} (hk : kx o k) (hm : k ∈ s.2) (j : Int) : P1 o j = P o j := by
  unfold disX at hd
  rw [Bool.and_eq_true] at hd
  refine hf.g hk ?_
  have h := List.all_eq_true.mp hd.2 k hm
  rw [Bool.and_eq_true] at h
  unfold inF
  rw [Bool.or_eq_false_iff]
  refine ⟨by simpa using h.1, ?_⟩
  cases e : F.1.any fun q => q.1 == k && q.2 == j with
  | false => rfl
  | true =>
    obtain ⟨q, hq, he⟩ := List.any_eq_true.mp e
    have h2 := List.all_eq_true.mp h.2 q hq
    rw [Bool.and_eq_true] at he
    rw [he.1] at h2
    exact absurd h2 (by decide)
/-- the text -/
def XT (T : TT) (P : PH) : Prop := P 111 2 = T.2 ∧ ∀ i : Int, 0 ≤ i → i < T.2 → P 2 i = T.1 i
theorem XT.fr {T : TT} {P P1 : PH} {F : FSX} (h : XT T P) (hf : FrX F P P1) (hd : disX F ([(46, 2)], [2]) = true) : XT T P1 := by
  refine ⟨by rw [disX_f hd hf (o := 111) (k := 46) (j := 2) ⟨by decide, rfl⟩ (by decide)]; exact h.1, fun i h0 h1 => ?_⟩
  rw [disX_a hd hf (o := 2) (k := 2) ⟨by decide, rfl⟩ (by decide)]
  exact h.2 i h0 h1
/-- the token ahead, behind place p -/
def XS (T : TT) (p : Int) (P : PH) : Prop := P 111 4 = tK T p ∧ P 111 5 = tA T p ∧ P 111 8 = tO T p ∧ 0 ≤ p ∧ p ≤ T.2 ∧ (tK T p = 4 → P 111 6 = tS T p) ∧ (1 ≤ tK T p ∧ tK T p ≤ 3 → P 111 3 = tE T p ∧ P 111 7 = tV T p)
theorem XS.fr {T : TT} {p : Int} {P P1 : PH} {F : FSX} (h : XS T p P) (hf : FrX F P P1) (hd : disX F ([(46, 3), (46, 4), (46, 5), (46, 6), (46, 7), (46, 8)], []) = true) : XS T p P1 := by
  have hk : kx 111 46 := ⟨by decide, rfl⟩
  unfold XS at h ⊢
  rw [disX_f hd hf (j := 3) hk (by decide), disX_f hd hf (j := 4) hk (by decide), disX_f hd hf (j := 5) hk (by decide), disX_f hd hf (j := 6) hk (by decide), disX_f hd hf (j := 7) hk (by decide), disX_f hd hf (j := 8) hk (by decide)]
  exact h
theorem XS.b {T : TT} {p : Int} {P : PH} (h : XS T p P) : P 111 4 = tK T p ∧ P 111 5 = tA T p ∧ P 111 8 = tO T p ∧ 0 ≤ p ∧ p ≤ T.2 := ⟨h.1, h.2.1, h.2.2.1, h.2.2.2.1, h.2.2.2.2.1⟩
theorem XS.bad {T : TT} {p : Int} {P : PH} (h : XS T p P) (h4 : tK T p = 4) : P 111 6 = tS T p := h.2.2.2.2.2.1 h4
theorem XS.tok {T : TT} {p : Int} {P : PH} (h : XS T p P) (h4 : 1 ≤ tK T p ∧ tK T p ≤ 3) : P 111 3 = tE T p ∧ P 111 7 = tV T p := h.2.2.2.2.2.2 h4
/-- a letter or a digit just ahead of a place -/
def jn (T : TT) (q : Int) : Int := if 0 < q ∧ (bL (T.1 (q - 1)) || bN (T.1 (q - 1))) = true then 1 else 0
theorem tJ_jn {T : TT} {q : Int} : tJn T q = if tA T q = q ∧ jn T q = 1 then 1 else 0 := by
  have key : tJ T q = true ↔ tA T q = q ∧ jn T q = 1 := by
    unfold tJ jn
    rw [Bool.and_eq_true, decide_eq_true_iff]
    constructor
    · intro h
      exact ⟨h.1.1, if_pos ⟨h.1.2, h.2⟩⟩
    · intro h
      by_cases e : 0 < q ∧ (bL (T.1 (q - 1)) || bN (T.1 (q - 1))) = true
      · exact ⟨⟨h.1, e.1⟩, e.2⟩
      · rw [if_neg e] at h
        exact absurd h.2 (by decide)
  unfold tJn
  by_cases h : tJ T q = true
  · rw [if_pos h, if_pos (key.mp h)]
  · rw [if_neg h, if_neg (fun z => h (key.mpr z))]
theorem tJ_s (T : TT) (q : Int) : (tA T q = q ∧ jn T q = 1 ∧ tJn T q = 1) ∨ ((tA T q ≠ q ∨ jn T q ≠ 1) ∧ tJn T q = 0) := by
  have h := tJ_jn (T := T) (q := q)
  by_cases e : tA T q = q ∧ jn T q = 1
  · rw [if_pos e] at h; exact Or.inl ⟨e.1, e.2, h⟩
  · rw [if_neg e] at h; exact Or.inr ⟨by omega, h⟩
/-- what a step wants -/
theorem XS.stp {T : TT} {p : Int} {P : PH} (h : XS T p P) (h4 : 1 ≤ tK T p ∧ tK T p ≤ 3) : (P 111 3 = tE T p ∧ 0 ≤ tE T p ∧ tE T p ≤ T.2) ∧ (((P 111 4 = 1 ∨ P 111 4 = 2) ∧ jn T (tE T p) = 1) ∨ (P 111 4 ≠ 1 ∧ P 111 4 ≠ 2 ∧ jn T (tE T p) = 0)) := by
  have hb := h.b
  have ht := h.tok h4
  have he := tE_b h4
  have hg := tA_ge T p
  have hc := tE_c h4
  refine ⟨⟨ht.1, by omega, he.2.2⟩, ?_⟩
  unfold jn
  rw [hc]
  by_cases e : tK T p = 3
  · right
    refine ⟨by omega, by omega, ?_⟩
    rw [if_neg]
    intro z
    rw [decide_eq_true_iff] at z
    exact z.2 e
  · left
    refine ⟨by omega, ?_⟩
    rw [if_pos ⟨by omega, decide_eq_true_iff.mpr e⟩]
/-- the own words, by 27 -/
def OWN (P : PH) : Prop := ∀ k : Nat, k < 11 → P 112 (k : Int) = o27 k
theorem OWN.fr {P P1 : PH} {F : FSX} (h : OWN P) (hf : FrX F P P1) (hd : disX F ([], [47]) = true) : OWN P1 := by
  intro k hk
  rw [disX_a hd hf (o := 112) (k := 47) ⟨by decide, rfl⟩ (by decide)]
  exact h k hk
/-- the table that the reader fills -/
def RT (o : Nat) (P : PH) : Prop := P 110 2 = (o : Int)
theorem RT.fr {o : Nat} {P P1 : PH} {F : FSX} (h : RT o P) (hf : FrX F P P1) (hd : disX F ([(45, 2)], []) = true) : RT o P1 := (disX_f hd hf (o := 110) (k := 45) (j := 2) ⟨by decide, rfl⟩ (by decide)).trans h
/-- kinds and constructors -/
def XK (K : PH) (o : Nat) (P : PH) : Prop := kx o 29 ∧ P o 9 = K 0 0 ∧ P o 10 = K 0 1 ∧
  (∀ k : Int, 0 ≤ k → k < K 0 0 → P (crX o 0) k = K 1 k ∧ P (crX o 1) k = K 9 k ∧ P (crX o 2) k = K 3 k ∧ P (crX o 3) k = K 2 k) ∧
  ∀ c : Int, 0 ≤ c → c < K 0 1 → P (crX o 4) c = K 4 c ∧ P (crX o 5) c = K 10 c ∧ P (crX o 6) c = K 6 c ∧ P (crX o 7) c = K 7 c ∧ P (crX o 8) c = K 8 c
theorem XK.fr {K : PH} {o : Nat} {P P1 : PH} {F : FSX} (h : XK K o P) (hf : FrX F P P1) (hd : disX F ([(29, 9), (29, 10)], [30, 31, 32, 33, 34, 35, 36, 37, 38]) = true) : XK K o P1 := by
  obtain ⟨hk, h1, h2, h3, h4⟩ := h
  refine ⟨hk, by rw [disX_f hd hf (j := 9) hk (by decide)]; exact h1, by rw [disX_f hd hf (j := 10) hk (by decide)]; exact h2, fun k k0 k1 => ?_, fun c c0 c1 => ?_⟩
  · rw [disX_a hd hf (ck_29_0 hk) (by decide), disX_a hd hf (ck_29_1 hk) (by decide), disX_a hd hf (ck_29_2 hk) (by decide), disX_a hd hf (ck_29_3 hk) (by decide)]
    exact h3 k k0 k1
  · rw [disX_a hd hf (ck_29_4 hk) (by decide), disX_a hd hf (ck_29_5 hk) (by decide), disX_a hd hf (ck_29_6 hk) (by decide), disX_a hd hf (ck_29_7 hk) (by decide), disX_a hd hf (ck_29_8 hk) (by decide)]
    exact h4 c c0 c1
theorem XK.b {K : PH} {o : Nat} {P : PH} (h : XK K o P) : P o 9 = K 0 0 ∧ P o 10 = K 0 1 := ⟨h.2.1, h.2.2.1⟩
theorem XK.k {K : PH} {o : Nat} {P : PH} (h : XK K o P) {k : Int} (k0 : 0 ≤ k) (k1 : k < K 0 0) : P (crX o 0) k = K 1 k ∧ P (crX o 1) k = K 9 k ∧ P (crX o 2) k = K 3 k ∧ P (crX o 3) k = K 2 k := h.2.2.2.1 k k0 k1
theorem XK.c {K : PH} {o : Nat} {P : PH} (h : XK K o P) {c : Int} (c0 : 0 ≤ c) (c1 : c < K 0 1) : P (crX o 4) c = K 4 c ∧ P (crX o 5) c = K 10 c ∧ P (crX o 6) c = K 6 c ∧ P (crX o 7) c = K 7 c ∧ P (crX o 8) c = K 8 c := h.2.2.2.2 c c0 c1
theorem XK.kn {K : PH} {o : Nat} {P : PH} (h : XK K o P) (v : Int) : fxi (fun i => P (crX o 0) i) v (P o 9).toNat = kNm K v := by
  unfold kNm
  rw [h.2.1]
  exact fxi_cg _ (fun i h0 h1 => by show P (crX o 0) i = v ↔ _; rw [(h.k (k := i) h0 (by omega)).1])
theorem XK.cn {K : PH} {o : Nat} {P : PH} (h : XK K o P) (v : Int) : fxi (fun i => P (crX o 4) i) v (P o 10).toNat = cNm K v := by
  unfold cNm
  rw [h.2.2.1]
  exact fxi_cg _ (fun i h0 h1 => by show P (crX o 4) i = v ↔ _; rw [(h.c (c := i) h0 (by omega)).1])
theorem XK.zero {o : Nat} {P : PH} (hk : kx o 29) (h9 : P o 9 = 0) (h10 : P o 10 = 0) : XK K0 o P := ⟨hk, h9, h10, fun k h0 h1 => by exfalso; have h1 : k < 0 := h1; omega, fun k h0 h1 => by exfalso; have h1 : k < 0 := h1; omega⟩
theorem XK.kind {K : PH} {o : Nat} {P P1 : PH} {v : Int} (h : XK K o P) (h9 : P1 o 9 = P o 9 + 1) (h10 : P1 o 10 = P o 10) (s0 : P1 (crX o 0) (P o 9) = v) (q0 : ∀ j : Int, j ≠ P o 9 → P1 (crX o 0) j = P (crX o 0) j) (s1 : P1 (crX o 1) (P o 9) = P o 10) (q1 : ∀ j : Int, j ≠ P o 9 → P1 (crX o 1) j = P (crX o 1) j)
    (s2 : P1 (crX o 2) (P o 9) = 0) (q2 : ∀ j : Int, j ≠ P o 9 → P1 (crX o 2) j = P (crX o 2) j) (s3 : P1 (crX o 3) (P o 9) = 0) (q3 : ∀ j : Int, j ≠ P o 9 → P1 (crX o 3) j = P (crX o 3) j)
    (q4 : ∀ j, P1 (crX o 4) j = P (crX o 4) j) (q5 : ∀ j, P1 (crX o 5) j = P (crX o 5) j) (q6 : ∀ j, P1 (crX o 6) j = P (crX o 6) j) (q7 : ∀ j, P1 (crX o 7) j = P (crX o 7) j) (q8 : ∀ j, P1 (crX o 8) j = P (crX o 8) j) : XK (kNew K v) o P1 := by
  have hb := h.b
  refine ⟨h.1, by rw [h9, kNew_0.1, hb.1], by rw [h10, kNew_0.2, hb.2], fun k k0 k1 => ?_, fun c c0 c1 => ?_⟩
  · rw [kNew_0.1] at k1
    rw [kNew_1, kNew_9, kNew_3, kNew_2]
    by_cases e : k = K 0 0
    · have e9 : k = P o 9 := by omega
      rw [if_pos e, if_pos e, if_pos e, if_pos e, e9, s0, s1, s2, s3]
      exact ⟨rfl, hb.2, rfl, rfl⟩
    · have e9 : k ≠ P o 9 := by omega
      rw [if_neg e, if_neg e, if_neg e, if_neg e, q0 _ e9, q1 _ e9, q2 _ e9, q3 _ e9]
      exact h.k k0 (by omega)
  · rw [kNew_0.2] at c1
    rw [kNew_c (o := 4) (by decide) (by decide) (by decide) (by decide) (by decide), kNew_c (o := 6) (by decide) (by decide) (by decide) (by decide) (by decide), kNew_c (o := 7) (by decide) (by decide) (by decide) (by decide) (by decide), kNew_c (o := 8) (by decide) (by decide) (by decide) (by decide) (by decide), kNew_c (o := 10) (by decide) (by decide) (by decide) (by decide) (by decide), q4, q5, q6, q7, q8]
    exact h.c c0 c1
theorem XK.con {K : PH} {o : Nat} {P P1 : PH} {v n a b i : Int} (h : XK K o P) (h9 : P1 o 9 = P o 9) (h10 : P1 o 10 = P o 10 + 1) (s4 : P1 (crX o 4) (P o 10) = v) (q4 : ∀ j : Int, j ≠ P o 10 → P1 (crX o 4) j = P (crX o 4) j) (s5 : P1 (crX o 5) (P o 10) = P (crX o 3) (P o 9 - 1)) (q5 : ∀ j : Int, j ≠ P o 10 → P1 (crX o 5) j = P (crX o 5) j)
    (s6 : P1 (crX o 6) (P o 10) = n) (q6 : ∀ j : Int, j ≠ P o 10 → P1 (crX o 6) j = P (crX o 6) j) (s7 : P1 (crX o 7) (P o 10) = a) (q7 : ∀ j : Int, j ≠ P o 10 → P1 (crX o 7) j = P (crX o 7) j) (s8 : P1 (crX o 8) (P o 10) = b) (q8 : ∀ j : Int, j ≠ P o 10 → P1 (crX o 8) j = P (crX o 8) j)
    (s2 : P1 (crX o 2) (P o 9 - 1) = P (crX o 2) (P o 9 - 1) + 1) (q2 : ∀ j : Int, j ≠ P o 9 - 1 → P1 (crX o 2) j = P (crX o 2) j) (s3 : P1 (crX o 3) (P o 9 - 1) = P (crX o 3) (P o 9 - 1) + i) (q3 : ∀ j : Int, j ≠ P o 9 - 1 → P1 (crX o 3) j = P (crX o 3) j)
    (q0 : ∀ j, P1 (crX o 0) j = P (crX o 0) j) (q1 : ∀ j, P1 (crX o 1) j = P (crX o 1) j) (h1 : 1 ≤ K 0 0) : XK (cNew K v n a b i) o P1 := by
  have hb := h.b
  have hl := h.k (k := K 0 0 - 1) (by omega) (by omega)
  rw [show P o 9 - 1 = K 0 0 - 1 by omega] at s2 s3 s5 q2 q3
  refine ⟨h.1, by rw [h9, cNew_0.1, hb.1], by rw [h10, cNew_0.2, hb.2], fun k k0 k1 => ?_, fun c c0 c1 => ?_⟩
  · rw [cNew_0.1] at k1
    rw [cNew_c (o := 1) (Or.inl rfl), cNew_c (o := 9) (Or.inr rfl), cNew_3, cNew_2, q0, q1]
    have hk := h.k k0 k1
    by_cases e : k = K 0 0 - 1
    · rw [if_pos e, if_pos e]
      rw [e] at hk ⊢
      rw [s2, s3]
      exact ⟨hk.1, hk.2.1, by rw [hk.2.2.1], by rw [hk.2.2.2]⟩
    · rw [if_neg e, if_neg e, q2 _ e, q3 _ e]
      exact hk
  · rw [cNew_0.2] at c1
    rw [cNew_4, cNew_10, cNew_6, cNew_7, cNew_8]
    by_cases e : c = K 0 1
    · have e9 : c = P o 10 := by omega
      rw [if_pos e, if_pos e, if_pos e, if_pos e, if_pos e, e9, s4, s5, s6, s7, s8]
      exact ⟨rfl, hl.2.2.2, rfl, rfl, rfl⟩
    · have e9 : c ≠ P o 10 := by omega
      rw [if_neg e, if_neg e, if_neg e, if_neg e, if_neg e, q4 _ e9, q5 _ e9, q6 _ e9, q7 _ e9, q8 _ e9]
      exact h.c c0 (by omega)
/-- columns, arms, rule, budget -/
def XM (M : PH) (o : Nat) (P : PH) : Prop := kx o 28 ∧ P o 6 = M 0 0 ∧ P o 7 = M 0 1 ∧ P o 8 = M 0 2 ∧ P o 9 = M 0 3 ∧ P o 10 = M 0 4 ∧ (∀ c : Int, 0 ≤ c → c < M 0 0 → P (crX o 1) c = M 1 c) ∧ ∀ a : Int, 0 ≤ a → a < M 0 2 → P (crX o 4) a = M 2 a
theorem XM.fr {M : PH} {o : Nat} {P P1 : PH} {F : FSX} (h : XM M o P) (hf : FrX F P P1) (hd : disX F ([(28, 6), (28, 7), (28, 8), (28, 9), (28, 10)], [39, 42]) = true) : XM M o P1 := by
  obtain ⟨hk, h1, h2, h3, h4, h5, h6, h7⟩ := h
  refine ⟨hk, by rw [disX_f hd hf (j := 6) hk (by decide)]; exact h1, by rw [disX_f hd hf (j := 7) hk (by decide)]; exact h2, by rw [disX_f hd hf (j := 8) hk (by decide)]; exact h3, by rw [disX_f hd hf (j := 9) hk (by decide)]; exact h4, by rw [disX_f hd hf (j := 10) hk (by decide)]; exact h5, fun c c0 c1 => ?_, fun a a0 a1 => ?_⟩
  · rw [disX_a hd hf (ck_28_1 hk) (by decide)]
    exact h6 c c0 c1
  · rw [disX_a hd hf (ck_28_4 hk) (by decide)]
    exact h7 a a0 a1
theorem XM.b {M : PH} {o : Nat} {P : PH} (h : XM M o P) : P o 6 = M 0 0 ∧ P o 7 = M 0 1 ∧ P o 8 = M 0 2 ∧ P o 9 = M 0 3 ∧ P o 10 = M 0 4 := ⟨h.2.1, h.2.2.1, h.2.2.2.1, h.2.2.2.2.1, h.2.2.2.2.2.1⟩
theorem XM.c {M : PH} {o : Nat} {P : PH} (h : XM M o P) {c : Int} (c0 : 0 ≤ c) (c1 : c < M 0 0) : P (crX o 1) c = M 1 c := h.2.2.2.2.2.2.1 c c0 c1
theorem XM.zero {o : Nat} {P : PH} (hk : kx o 28) (h6 : P o 6 = 0) (h7 : P o 7 = 0) (h8 : P o 8 = 0) (h9 : P o 9 = 0) (h10 : P o 10 = 300) : XM M0 o P := ⟨hk, h6, h7, h8, h9, h10, fun k h0 h1 => by exfalso; have h1 : k < 0 := h1; omega, fun k h0 h1 => by exfalso; have h1 : k < 0 := h1; omega⟩
theorem XM.col {M : PH} {o : Nat} {P P1 : PH} {k r : Int} (h : XM M o P) (h6 : P1 o 6 = P o 6 + 1) (h7 : P1 o 7 = r) (h8 : P1 o 8 = P o 8) (h9 : P1 o 9 = P o 9) (h10 : P1 o 10 = P o 10) (s1 : P1 (crX o 1) (P o 6) = k) (q1 : ∀ j : Int, j ≠ P o 6 → P1 (crX o 1) j = P (crX o 1) j) (q4 : ∀ j, P1 (crX o 4) j = P (crX o 4) j) : XM (mCol M k r) o P1 := by
  have hb := h.b
  refine ⟨h.1, by rw [h6, mCol_0.1, hb.1], by rw [h7, mCol_0.2.1], by rw [h8, mCol_0.2.2.1, hb.2.2.1], by rw [h9, mCol_0.2.2.2.1, hb.2.2.2.1], by rw [h10, mCol_0.2.2.2.2, hb.2.2.2.2], fun c c0 c1 => ?_, fun a a0 a1 => ?_⟩
  · rw [mCol_0.1] at c1
    rw [mCol_1]
    by_cases e : c = M 0 0
    · rw [if_pos e, show c = P o 6 by omega, s1]
    · rw [if_neg e, q1 _ (by omega)]
      exact h.c c0 (by omega)
  · rw [mCol_0.2.2.1] at a1
    rw [mCol_2, q4]
    exact h.2.2.2.2.2.2.2 a a0 a1
theorem XM.arm {M : PH} {o : Nat} {P P1 : PH} {g : Int} (h : XM M o P) (h6 : P1 o 6 = P o 6) (h7 : P1 o 7 = P o 7) (h8 : P1 o 8 = P o 8 + 1) (h9 : P1 o 9 = P o 9) (h10 : P1 o 10 = P o 10) (q1 : ∀ j, P1 (crX o 1) j = P (crX o 1) j) (s4 : P1 (crX o 4) (P o 8) = g) (q4 : ∀ j : Int, j ≠ P o 8 → P1 (crX o 4) j = P (crX o 4) j) : XM (aNew M g) o P1 := by
  have hb := h.b
  have e1 : aNew M g 0 1 = M 0 1 := by simp [aNew, up]
  refine ⟨h.1, by rw [h6, aNew_0.1, hb.1], by rw [h7, e1, hb.2.1], by rw [h8, aNew_0.2.1, hb.2.2.1], by rw [h9, aNew_0.2.2.1, hb.2.2.2.1], by rw [h10, aNew_0.2.2.2, hb.2.2.2.2], fun c c0 c1 => ?_, fun a a0 a1 => ?_⟩
  · rw [aNew_0.1] at c1
    rw [aNew_1, q1]
    exact h.c c0 c1
  · rw [aNew_0.2.1] at a1
    rw [aNew_2]
    by_cases e : a = M 0 2
    · rw [if_pos e, show a = P o 8 by omega, s4]
    · rw [if_neg e, q4 _ (by omega)]
      exact h.2.2.2.2.2.2.2 a a0 (by omega)
theorem XM.rule {M : PH} {o : Nat} {P P1 : PH} {g : Int} (h : XM M o P) (h6 : P1 o 6 = P o 6) (h7 : P1 o 7 = P o 7) (h8 : P1 o 8 = P o 8) (h9 : P1 o 9 = g) (h10 : P1 o 10 = P o 10) (q1 : ∀ j, P1 (crX o 1) j = P (crX o 1) j) (q4 : ∀ j, P1 (crX o 4) j = P (crX o 4) j) : XM (up M 0 3 g) o P1 := by
  have hb := h.b
  refine ⟨h.1, by rw [h6, up_k (by decide), hb.1], by rw [h7, up_k (by decide), hb.2.1], by rw [h8, up_k (by decide), hb.2.2.1], by rw [h9, up_same], by rw [h10, up_k (by decide), hb.2.2.2.2], fun c c0 c1 => ?_, fun a a0 a1 => ?_⟩
  · rw [up_k (by decide)] at c1
    rw [up_row (o1 := 1) (by decide), q1]
    exact h.c c0 c1
  · rw [up_k (by decide)] at a1
    rw [up_row (o1 := 2) (by decide), q4]
    exact h.2.2.2.2.2.2.2 a a0 a1
theorem XM.budget {M : PH} {o : Nat} {P P1 : PH} {g : Int} (h : XM M o P) (h6 : P1 o 6 = P o 6) (h7 : P1 o 7 = P o 7) (h8 : P1 o 8 = P o 8) (h9 : P1 o 9 = P o 9) (h10 : P1 o 10 = g) (q1 : ∀ j, P1 (crX o 1) j = P (crX o 1) j) (q4 : ∀ j, P1 (crX o 4) j = P (crX o 4) j) : XM (up M 0 4 g) o P1 := by
  have hb := h.b
  refine ⟨h.1, by rw [h6, up_k (by decide), hb.1], by rw [h7, up_k (by decide), hb.2.1], by rw [h8, up_k (by decide), hb.2.2.1], by rw [h9, up_k (by decide), hb.2.2.2.1], by rw [h10, up_same], fun c c0 c1 => ?_, fun a a0 a1 => ?_⟩
  · rw [up_k (by decide)] at c1
    rw [up_row (o1 := 1) (by decide), q1]
    exact h.c c0 c1
  · rw [up_k (by decide)] at a1
    rw [up_row (o1 := 2) (by decide), q4]
    exact h.2.2.2.2.2.2.2 a a0 a1
section XSM
variable {T : TT} {p : Int} {P : PH}
theorem XS.end (hp : 0 ≤ p ∧ p ≤ T.2) (h4 : P 111 4 = 0) (h5 : P 111 5 = tA T p) (h8 : P 111 8 = -1) (hn : T.2 ≤ tA T p) : XS T p P := by
  have hk := tK_0 hn
  exact ⟨by omega, h5, by rw [tO_4 (by omega)]; exact h8, hp.1, hp.2, fun q => by omega, fun q => by omega⟩
theorem XS.sig (hp : 0 ≤ p ∧ p ≤ T.2) (h4 : P 111 4 = 3) (h5 : P 111 5 = tA T p) (h8 : P 111 8 = -1) (h3 : P 111 3 = tA T p + 1) (h7 : P 111 7 = T.1 (tA T p)) (hn : tA T p < T.2) (hl : T.1 (tA T p) < 97 ∨ 122 < T.1 (tA T p)) (hd : T.1 (tA T p) < 48 ∨ 57 < T.1 (tA T p)) : XS T p P := by
  have hk := tK_3 hn (bL_f hl) (bN_f hd)
  have h9 := tK3 hk
  exact ⟨by omega, h5, by rw [tO_4 (by omega)]; exact h8, hp.1, hp.2, fun q => by omega, fun _ => ⟨by omega, by rw [h9.2.2.2]; exact h7⟩⟩
theorem XS.badj (hp : 0 ≤ p ∧ p ≤ T.2) (h4 : P 111 4 = 4) (h5 : P 111 5 = tA T p) (h8 : P 111 8 = -1) (h6 : P 111 6 = tA T p) (hn : tA T p < T.2) (hl : (97 ≤ T.1 (tA T p) ∧ T.1 (tA T p) ≤ 122) ∨ (48 ≤ T.1 (tA T p) ∧ T.1 (tA T p) ≤ 57)) (hj : tJn T p = 1) : XS T p P := by
  have hj := tJn_t hj
  have hk := tK_j hn (by rcases hl with h | h; exact Or.inl (bL_t.mpr h); exact Or.inr (bN_t.mpr h)) hj
  refine ⟨by omega, h5, by rw [tO_4 (by omega)]; exact h8, hp.1, hp.2, fun _ => ?_, fun q => by omega⟩
  unfold tS
  rw [if_pos hj]
  exact h6
theorem XS.nu (hp : 0 ≤ p ∧ p ≤ T.2) (h4 : P 111 4 = 2) (h5 : P 111 5 = tA T p) (h8 : P 111 8 = -1) (h3 : P 111 3 = rE bN T (tA T p)) (hle : rE bN T (tA T p) - tA T p ≤ 4) (h7 : P 111 7 = e10 (tD T (tA T p)) (rE bN T (tA T p) - tA T p).toNat) (hn : tA T p < T.2) (hl : 48 ≤ T.1 (tA T p) ∧ T.1 (tA T p) ≤ 57) (hj : tJn T p = 0) : XS T p P := by
  have hk := tK_n hn (bL_f (by omega)) (bN_t.mpr hl) (tJn_f hj)
  rw [if_pos hle] at hk
  refine ⟨by omega, h5, by rw [tO_4 (by omega)]; exact h8, hp.1, hp.2, fun q => by omega, fun _ => ⟨?_, ?_⟩⟩
  · unfold tE
    rw [if_neg (by omega), if_neg (by omega), if_pos hk]
    exact h3
  · unfold tV
    rw [if_neg (by omega), if_neg (by omega), if_pos hk]
    exact h7
theorem XS.nub (hp : 0 ≤ p ∧ p ≤ T.2) (h4 : P 111 4 = 4) (h5 : P 111 5 = tA T p) (h8 : P 111 8 = -1) (h6 : P 111 6 = tA T p + 4) (hle : 4 < rE bN T (tA T p) - tA T p) (hn : tA T p < T.2) (hl : 48 ≤ T.1 (tA T p) ∧ T.1 (tA T p) ≤ 57) (hj : tJn T p = 0) : XS T p P := by
  have hl0 : bL (T.1 (tA T p)) = false := bL_f (by omega)
  have hk := tK_n hn hl0 (bN_t.mpr hl) (tJn_f hj)
  rw [if_neg (by omega)] at hk
  refine ⟨by omega, h5, by rw [tO_4 (by omega)]; exact h8, hp.1, hp.2, fun _ => ?_, fun q => by omega⟩
  unfold tS
  rw [if_neg (by rw [tJn_f hj]; simp), if_neg (by rw [hl0]; simp)]
  exact h6
theorem XS.wo (hp : 0 ≤ p ∧ p ≤ T.2) (h4 : P 111 4 = 1) (h5 : P 111 5 = tA T p) (h8 : P 111 8 = oWF (P 111 7) 11) (h3 : P 111 3 = rE bL T (tA T p)) (hle : rE bL T (tA T p) - tA T p ≤ 6) (h7 : P 111 7 = e27 (tPad (tL T (tA T p)) (rE bL T (tA T p) - tA T p).toNat) 6) (hn : tA T p < T.2) (hl : 97 ≤ T.1 (tA T p) ∧ T.1 (tA T p) ≤ 122) (hj : tJn T p = 0) : XS T p P := by
  have hk := tK_w hn (bL_t.mpr hl) (tJn_f hj)
  rw [if_pos hle] at hk
  have hge := rE_ge bL T (tA T p)
  have hv : P 111 7 = tV T p := by
    unfold tV tN
    rw [if_neg (by omega), if_pos hk, h7]
    have := e27_pad (tL T (tA T p)) (rE bL T (tA T p) - tA T p).toNat (6 - (rE bL T (tA T p) - tA T p).toNat)
    rw [show (rE bL T (tA T p) - tA T p).toNat + (6 - (rE bL T (tA T p) - tA T p).toNat) = 6 by omega] at this
    exact this
  refine ⟨by omega, h5, ?_, hp.1, hp.2, fun q => by omega, fun _ => ⟨?_, hv⟩⟩
  · unfold tO
    rw [if_pos hk, h8, hv]
    rfl
  · unfold tE
    rw [if_neg (by omega), if_pos hk]
    exact h3
theorem XS.wob (hp : 0 ≤ p ∧ p ≤ T.2) (h4 : P 111 4 = 4) (h5 : P 111 5 = tA T p) (h8 : P 111 8 = -1) (h6 : P 111 6 = tA T p + 6) (hle : 6 < rE bL T (tA T p) - tA T p) (hn : tA T p < T.2) (hl : 97 ≤ T.1 (tA T p) ∧ T.1 (tA T p) ≤ 122) (hj : tJn T p = 0) : XS T p P := by
  have hk := tK_w hn (bL_t.mpr hl) (tJn_f hj)
  rw [if_neg (by omega)] at hk
  refine ⟨by omega, h5, by rw [tO_4 (by omega)]; exact h8, hp.1, hp.2, fun _ => ?_, fun q => by omega⟩
  unfold tS
  rw [if_neg (by rw [tJn_f hj]; simp), if_pos (bL_t.mpr hl)]
  exact h6
end XSM
/-- a letter more, by 27 -/
theorem e27_one {T : TT} {a v c : Int} {n : Nat} (h : v = e27 (tL T a) n) (hc : c = T.1 (a + n)) : v * 27 + c - 97 + 1 = e27 (tL T a) (n + 1) := by
  show v * 27 + c - 97 + 1 = e27 (tL T a) n * 27 + (T.1 (a + n) - 96)
  rw [← h, ← hc]
  omega
theorem e27_lt {T : TT} {a : Int} {n : Nat} (hn : n ≤ 5) (h : ∀ i, i < n → 1 ≤ tL T a i ∧ tL T a i ≤ 26) : 0 ≤ e27 (tL T a) n ∧ e27 (tL T a) n ≤ 14348906 := by
  have hb := e27_b (g := tL T a) n (by omega) (fun i hi => by have := h i hi; omega)
  have h2 : ∀ k : Nat, k < 6 → p27 k ≤ 14348907 := by decide
  have := h2 n (by omega)
  omega
theorem pad_lt {g : Nat → Int} {L k : Nat} (hk : k ≤ 5) (h : ∀ i, i < L → 1 ≤ g i ∧ g i ≤ 26) : 0 ≤ e27 (tPad g L) k ∧ e27 (tPad g L) k ≤ 14348906 := by
  have hb := e27_b (g := tPad g L) k (by omega) (fun i _ => by
    unfold tPad
    by_cases q : i < L
    · rw [if_pos q]; have := h i q; omega
    · rw [if_neg q]; omega)
  have h2 : ∀ k : Nat, k < 6 → p27 k ≤ 14348907 := by decide
  have := h2 k (by omega)
  omega
theorem pad_one {g : Nat → Int} {L k : Nat} (h : L ≤ k) : e27 (tPad g L) (k + 1) = e27 (tPad g L) k * 27 := by
  show e27 (tPad g L) k * 27 + tPad g L k = _
  rw [show tPad g L k = 0 by unfold tPad; rw [if_neg (by omega)]]
  omega
theorem pad_0 {g : Nat → Int} {L : Nat} : e27 (tPad g L) L = e27 g L := e27_cg L (fun i hi => by unfold tPad; rw [if_pos hi])
theorem oWF_s {v x : Int} {n : Nat} (h : x = o27 n) : (x = v ∧ oWF v (n + 1) = n) ∨ (x ≠ v ∧ oWF v (n + 1) = oWF v n) := by
  have e : oWF v (n + 1) = if o27 n = v then (n : Int) else oWF v n := rfl
  by_cases q : x = v
  · left; rw [e, if_pos (h ▸ q)]; exact ⟨q, rfl⟩
  · right; rw [e, if_neg (h ▸ q)]; exact ⟨q, rfl⟩
theorem jn_0 (T : TT) : jn T 0 = 0 := by
  unfold jn
  rw [if_neg (fun h => by omega)]
/-- a range, or any -/
def rg8 (T : TT) (p : Int) : Int × Int := if tO T p = 8 then (0, tE T p) else rng T p
theorem rg8_s (T : TT) (p : Int) : (tO T p = 8 ∧ (rg8 T p).1 = 0 ∧ (rg8 T p).2 = tE T p) ∨ (tO T p ≠ 8 ∧ (rg8 T p).1 = (rng T p).1 ∧ (rg8 T p).2 = (rng T p).2) := by
  unfold rg8
  by_cases h : tO T p = 8
  · rw [if_pos h]; exact Or.inl ⟨h, rfl, rfl⟩
  · rw [if_neg h]; exact Or.inr ⟨h, rfl, rfl⟩
theorem rg8_ge {T : TT} {p : Int} (h : (rg8 T p).1 = 0) : p ≤ (rg8 T p).2 := by
  have hs := rg8_s T p
  have hr := rng_s T p
  have hn := num_s T 0 19 p
  have hn2 := num_s T (tV T p) 19 (tE T (tE T p))
  have h1 := tE_b (T := T) (p := p)
  have h2 := tE_b (T := T) (p := tE T p)
  have h3 := tE_b (T := T) (p := tE T (tE T p))
  have h4 := tO_r T p
  have h5 := tO_r T (tE T p)
  omega
/-- what an alternative's reading leaves -/
def AC (T : TT) (K : PH) (k p r : Int) (P P1 : PH) : Prop := (r = 1 ∧ P1 110 3 = P 110 3 ∧ P1 110 4 = P 110 4 ∧ ∃ q : Int, p ≤ q ∧ XS T q P1 ∧ ∀ (s : SK) (x : Int × Int), Runs T K 1 s k q x → Runs T K 0 s k p x) ∨ (r = 0 ∧ P1 110 3 ≠ 0 ∧ ∀ s : SK, Runs T K 0 s k p (P1 110 3, P1 110 4))
/-- what a pattern's reading leaves -/
def AP (T : TT) (K : PH) (k p r : Int) (P P1 : PH) : Prop := (r = 1 ∧ P1 110 3 = P 110 3 ∧ P1 110 4 = P 110 4 ∧ ∃ q : Int, p ≤ q ∧ tO T q ≠ 9 ∧ XS T q P1 ∧ ∀ (s : SK) (x : Int × Int), Runs T K 1 s k q x → Runs T K 0 s k p x) ∨ (r = 0 ∧ P1 110 3 ≠ 0 ∧ ∀ s : SK, Runs T K 0 s k p (P1 110 3, P1 110 4))
section ACS
variable {T : TT} {K : PH} {k p r c q f : Int} {P P1 : PH}
theorem AC.range (hk : k = -1) (h : (r = 1 ∧ (rg8 T p).1 = 0 ∧ P1 110 3 = P 110 3 ∧ P1 110 4 = P 110 4) ∨ (r = 0 ∧ (rg8 T p).1 ≠ 0 ∧ P1 110 3 = (rg8 T p).1 ∧ P1 110 4 = (rg8 T p).2)) (hs : (rg8 T p).1 = 0 → XS T (rg8 T p).2 P1) : AC T K k p r P P1 := by
  have hg := rg8_s T p
  rcases h with ⟨h1, h2, h3, h4⟩ | ⟨h1, h2, h3, h4⟩
  · refine Or.inl ⟨h1, h3, h4, (rg8 T p).2, rg8_ge h2, hs h2, fun s x hx => ?_⟩
    rcases hg with ⟨g1, g2, g3⟩ | ⟨g1, g2, g3⟩
    · rw [g3] at hx; exact Runs.any g1 hx
    · rw [g3] at hx; exact Runs.range g1 hk (by omega) hx
  · refine Or.inr ⟨h1, by omega, fun s => ?_⟩
    rcases hg with ⟨g1, g2, g3⟩ | ⟨g1, g2, g3⟩
    · omega
    · rw [pair_eq (h3.trans g2) (h4.trans g3)]
      exact Runs.rangeF g1 hk (by omega)
theorem AC.any (ho : tO T p = 8) (h3 : P1 110 3 = P 110 3) (h4 : P1 110 4 = P 110 4) (hs : XS T (tE T p) P1) : AC T K k p 1 P P1 := by
  have h1 := tE_b (T := T) (p := p)
  have h5 := tO_r T p
  exact Or.inl ⟨rfl, h3, h4, tE T p, by omega, hs, fun s x hx => Runs.any ho hx⟩
theorem AC.caseF (ho : tO T p ≠ 8) (hk : k ≠ -1) (h0 : (cas T K k p).1 ≠ 0) (h3 : P1 110 3 = (cas T K k p).1) (h4 : P1 110 4 = (cas T K k p).2) : AC T K k p 0 P P1 := by
  refine Or.inr ⟨rfl, by omega, fun s => ?_⟩
  rw [pair_eq h3 h4]
  exact Runs.caseF ho hk h0
theorem AC.case0 (ho : tO T p ≠ 8) (hk : k ≠ -1) (h0 : (cas T K k p).1 = 0) (h6 : K 6 (cNm K (tV T p)) = 0) (h3 : P1 110 3 = P 110 3) (h4 : P1 110 4 = P 110 4) (hs : XS T (tE T p) P1) : AC T K k p 1 P P1 := by
  have h1 := tE_b (T := T) (p := p)
  have hc := cas_s T K k p
  exact Or.inl ⟨rfl, h3, h4, tE T p, by omega, hs, fun s x hx => Runs.case0 ho hk h0 h6 hx⟩
theorem AC.intoF (ho : tO T p ≠ 8) (hk : k ≠ -1) (h0 : (cas T K k p).1 = 0) (h6 : K 6 (cNm K (tV T p)) ≠ 0) (hn : (sgn T 40 (tE T p)).1 ≠ 0) (h3 : P1 110 3 = (sgn T 40 (tE T p)).1) (h4 : P1 110 4 = (sgn T 40 (tE T p)).2) : AC T K k p 0 P P1 := by
  refine Or.inr ⟨rfl, by omega, fun s => ?_⟩
  rw [pair_eq h3 h4]
  exact Runs.intoF ho hk h0 h6 hn
/-- a field's fault -/
theorem AC.inF {k1 q1 : Int} (hr : ∀ (s : SK) (x : Int × Int), Runs T K 0 ((c, f, k) :: s) k1 q1 x → Runs T K 0 s k p x) (h0 : P1 110 3 ≠ 0) (h : ∀ s : SK, Runs T K 0 s k1 q1 (P1 110 3, P1 110 4)) : AC T K k p 0 P P1 := Or.inr ⟨rfl, h0, fun s => hr s _ (h _)⟩
theorem AC.commaF {k1 : Int} (hC : ∀ (s : SK) (x : Int × Int), Runs T K 1 ((c, f, k) :: s) k1 q x → Runs T K 0 s k p x) (ho : tO T q ≠ 9) (hf : f + 1 < K 6 c) (hn : (sgn T 44 q).1 ≠ 0) (h3 : P1 110 3 = (sgn T 44 q).1) (h4 : P1 110 4 = (sgn T 44 q).2) : AC T K k p 0 P P1 := by
  refine Or.inr ⟨rfl, by omega, fun s => ?_⟩
  rw [pair_eq h3 h4]
  exact hC s _ (Runs.commaF ho hf hn)
theorem AC.close {k1 : Int} (hC : ∀ (s : SK) (x : Int × Int), Runs T K 1 ((c, f, k) :: s) k1 q x → Runs T K 0 s k p x) (hp : p ≤ q) (ho : tO T q ≠ 9) (hf : ¬ f + 1 < K 6 c) (h : (r = 1 ∧ (sgn T 41 q).1 = 0 ∧ P1 110 3 = P 110 3 ∧ P1 110 4 = P 110 4) ∨ (r = 0 ∧ (sgn T 41 q).1 ≠ 0 ∧ P1 110 3 = (sgn T 41 q).1 ∧ P1 110 4 = (sgn T 41 q).2)) (hs : (sgn T 41 q).1 = 0 → XS T (sgn T 41 q).2 P1) : AC T K k p r P P1 := by
  have hg := sgn_s T 41 q
  have ht := tE_b (T := T) (p := q)
  rcases h with ⟨h1, h2, h3, h4⟩ | ⟨h1, h2, h3, h4⟩
  · refine Or.inl ⟨h1, h3, h4, (sgn T 41 q).2, by omega, hs h2, fun s x hx => ?_⟩
    rw [show (sgn T 41 q).2 = tE T q by omega] at hx
    exact hC s x (Runs.close ho hf h2 hx)
  · refine Or.inr ⟨h1, by omega, fun s => ?_⟩
    rw [pair_eq h3 h4]
    exact hC s _ (Runs.closeF ho hf h2)
end ACS
/-- columns' kinds are kinds -/
def AV (K M : PH) : Prop := 0 ≤ M 0 0 ∧ M 0 0 ≤ 4 ∧ 0 ≤ M 0 2 ∧ M 0 2 ≤ 12 ∧ ∀ c : Int, 0 ≤ c → c < M 0 0 → -1 ≤ M 1 c ∧ M 1 c < K 0 0
theorem AV.zero : AV K0 M0 := ⟨by decide, by decide, by decide, by decide, fun c h0 h1 => by exfalso; have h1 : c < 0 := h1; omega⟩
theorem col_v {T : TT} {K : PH} (h : AW K) : ∀ (r : Nat) (M : PH) (i p : Int), M 0 0 + r = 4 → AV K M → AV K (col T K r M i p).2.2 := by
  intro r
  induction r with
  | zero =>
    intro M i p hr hv
    exact hv
  | succ r ih =>
    intro M i p hr hv
    by_cases e : kGo T K (-1) (M 0 0) 4 0 i 20000 p = 0
    · rw [col_go e]
      refine ih _ _ _ (by rw [mCol_0.1]; omega) ?_
      have hb := kHe_b (T := T) h p
      obtain ⟨v1, v2, v3, v4, v5⟩ := hv
      refine ⟨by rw [mCol_0.1]; omega, by rw [mCol_0.1]; omega, by rw [mCol_0.2.2.1]; exact v3, by rw [mCol_0.2.2.1]; exact v4, fun c c0 c1 => ?_⟩
      rw [mCol_0.1] at c1
      rw [mCol_1]
      by_cases z : c = M 0 0
      · rw [if_pos z]; exact hb
      · rw [if_neg z]; exact v5 c c0 (by omega)
    · by_cases e1 : kGo T K (-1) (M 0 0) 4 0 i 20000 p = 1
      · rw [col_end e1]; exact hv
      · rw [col_bad e1 e]; exact hv
theorem AV.st {T : TT} {K M : PH} {p : Int} (hw : AW K) (h : AV K M) (hs : (sSt T K M p).1 = 0) : AV (kSt T K p) (mSt T K M p) := by
  have hk : kSt T K p 0 0 = if tO T p = 0 then K 0 0 + 1 else K 0 0 := by
    unfold kSt
    by_cases h0 : tO T p = 0
    · rw [if_pos h0, if_pos h0, kNew_0.1]
    · rw [if_neg h0, if_neg h0]
      by_cases h1 : tO T p = 1
      · rw [if_pos h1]; unfold kCo; rw [cNew_0.1]
      · rw [if_neg h1]
  obtain ⟨v1, v2, v3, v4, v5⟩ := h
  have hkw := hw.1
  unfold sSt at hs
  unfold mSt
  by_cases h2 : tO T p = 2
  · rw [if_pos h2]
    rw [if_neg (by omega), if_neg (by omega), if_pos h2] at hs
    have hm := sMa_s T K M p
    have hs : (sMa T K M p).1 = 0 := hs
    have e := sMa_M (T := T) (K := K) (M := M) (p := p) (by omega) (by omega)
    have hc := col_v (T := T) hw 4 M 1 (tE T p) (by omega) ⟨v1, v2, v3, v4, v5⟩
    rw [← e] at hc
    obtain ⟨w1, w2, w3, w4, w5⟩ := hc
    refine ⟨w1, w2, w3, w4, fun c c0 c1 => ?_⟩
    rw [hk, if_neg (by omega)]
    exact w5 c c0 c1
  · rw [if_neg h2]
    have key : ∀ c : Int, 0 ≤ c → c < M 0 0 → -1 ≤ M 1 c ∧ M 1 c < kSt T K p 0 0 := by
      intro c c0 c1
      have := v5 c c0 c1
      rw [hk]
      split <;> omega
    by_cases h3 : tO T p = 3
    · rw [if_pos h3]
      rw [if_neg (by omega), if_neg (by omega), if_neg (by omega), if_pos h3] at hs
      have ha := sAr_s T K M p
      unfold mAr
      refine ⟨by rw [aNew_0.1]; exact v1, by rw [aNew_0.1]; exact v2, by rw [aNew_0.2.1]; omega, by rw [aNew_0.2.1]; omega, fun c c0 c1 => ?_⟩
      rw [aNew_0.1] at c1
      rw [aNew_1]
      exact key c c0 c1
    · rw [if_neg h3]
      by_cases h5 : tO T p = 5
      · rw [if_pos h5]
        refine ⟨by rw [up_k (by decide)]; exact v1, by rw [up_k (by decide)]; exact v2, by rw [up_k (by decide)]; exact v3, by rw [up_k (by decide)]; exact v4, fun c c0 c1 => ?_⟩
        rw [up_k (by decide)] at c1
        rw [up_row (by decide)]
        exact key c c0 c1
      · rw [if_neg h5]
        by_cases h6 : tO T p = 6
        · rw [if_pos h6]
          refine ⟨by rw [up_k (by decide)]; exact v1, by rw [up_k (by decide)]; exact v2, by rw [up_k (by decide)]; exact v3, by rw [up_k (by decide)]; exact v4, fun c c0 c1 => ?_⟩
          rw [up_k (by decide)] at c1
          rw [up_row (by decide)]
          exact key c c0 c1
        · rw [if_neg h6]
          exact ⟨v1, v2, v3, v4, key⟩
theorem AC.tr {T : TT} {K : PH} {k p r : Int} {P P0 P1 : PH} (h : AC T K k p r P0 P1) (h3 : P0 110 3 = P 110 3) (h4 : P0 110 4 = P 110 4) : AC T K k p r P P1 := by
  rcases h with ⟨a, b, c, d⟩ | h
  · exact Or.inl ⟨a, b.trans h3, c.trans h4, d⟩
  · exact Or.inr h
theorem AP.tr {T : TT} {K : PH} {k p r : Int} {P P0 P1 : PH} (h : AP T K k p r P0 P1) (h3 : P0 110 3 = P 110 3) (h4 : P0 110 4 = P 110 4) : AP T K k p r P P1 := by
  rcases h with ⟨a, b, c, d⟩ | h
  · exact Or.inl ⟨a, b.trans h3, c.trans h4, d⟩
  · exact Or.inr h
theorem arl_x {T : TT} {K M : PH} {r : Nat} {c q q1 : Int} (hq : (c ≤ 0 ∧ q1 = q) ∨ (0 < c ∧ (sgn T 44 q).1 = 0 ∧ q1 = tE T q)) : arl T K M (r + 1) c q = if (pat T K (M 1 c) q1).1 ≠ 0 then pat T K (M 1 c) q1 else arl T K M r (c + 1) (pat T K (M 1 c) q1).2 := by
  rcases hq with ⟨h, rfl⟩ | ⟨h, h2, rfl⟩
  · exact arl_p0 h
  · exact arl_p1 h h2
theorem ARf {T : TT} {K M : PH} {r : Nat} {c q q1 f pl : Int} {X : Int × Int} (hX : X = arl T K M (r + 1) c q) (hq : (c ≤ 0 ∧ q1 = q) ∨ (0 < c ∧ (sgn T 44 q).1 = 0 ∧ q1 = tE T q)) (hp : pat T K (M 1 c) q1 = (f, pl)) (hf : f ≠ 0) : X.1 = f ∧ X.2 = pl := by
  rw [hX, arl_x hq, hp, if_pos hf]
  exact ⟨rfl, rfl⟩
theorem ARok {T : TT} {K M : PH} {r : Nat} {c q q1 q2 : Int} {X : Int × Int} (hX : X = arl T K M (r + 1) c q) (hq : (c ≤ 0 ∧ q1 = q) ∨ (0 < c ∧ (sgn T 44 q).1 = 0 ∧ q1 = tE T q)) (hp : pat T K (M 1 c) q1 = (0, q2)) : X = arl T K M r (c + 1) q2 := by
  rw [hX, arl_x hq, hp, if_neg (fun h => h rfl)]
end
section
/-! The tape on both sides: bytes behind one another. -/
def tadd (T : TT) (c : Int) : TT := (fun i => if i = T.2 then c else T.1 i, T.2 + 1)
def tput (T : TT) (a : Int) : Nat → TT
  | 0 => T
  | k + 1 => tadd (tput T a k) (iand (ishr a (24 - 8 * (k : Int))) 255)
def tfive (T : TT) (a b c d e : Int) : TT := tput (tput (tput (tput (tput T a 4) b 4) c 4) d 4) e 4
theorem tadd_2 (T : TT) (c : Int) : (tadd T c).2 = T.2 + 1 := rfl
/-- the reference's tape -/
def CM (T : TT) (P : PH) : Prop := P 0 1 = T.2 ∧ ∀ i : Int, 0 ≤ i → i < T.2 → P 1 i = T.1 i
theorem CM.fr {T : TT} {P P1 : PH} {F : FS} (h : CM T P) (hf : FrM F P P1) (hd : disF F ([1], [1]) = true) : CM T P1 := by
  unfold CM at h ⊢
  rw [disF_k hd hf (k := 1) (by decide), disF_o hd hf (o := 1) (by decide) rfl]
  exact h
theorem CM.add {T : TT} {P P1 : PH} {c : Int} (h : CM T P) (h1 : P1 0 1 = P 0 1 + 1) (s1 : P1 1 (P 0 1) = c) (q1 : ∀ j : Int, j ≠ P 0 1 → P1 1 j = P 1 j) : CM (tadd T c) P1 := by
  refine ⟨by rw [tadd_2, h1, h.1], fun i i0 i1 => ?_⟩
  rw [tadd_2] at i1
  show _ = if i = T.2 then c else T.1 i
  by_cases e : i = T.2
  · rw [if_pos e, e, ← h.1, s1]
  · rw [if_neg e, q1 i (by rw [h.1]; exact e)]
    exact h.2 i i0 (by omega)
theorem CM.cut {T : TT} {P P1 : PH} {n : Int} (h : CM T P) (hn : n ≤ T.2) (h1 : P1 0 1 = n) (q1 : ∀ j : Int, P1 1 j = P 1 j) : CM (T.1, n) P1 := ⟨h1, fun i i0 i1 => by rw [q1]; exact h.2 i i0 (by have i1 : i < n := i1; omega)⟩
theorem CM.nil {P : PH} (h : P 0 1 = 0) : CM (fun _ => 0, 0) P := ⟨h, fun i i0 i1 => by exfalso; have i1 : i < 0 := i1; omega⟩
/-- the class's tape -/
def CX (T : TT) (P : PH) : Prop := P 1 1 = T.2 ∧ ∀ i : Int, 0 ≤ i → i < T.2 → P 2 i = T.1 i
theorem CX.fr {T : TT} {P P1 : PH} {F : FSX} (h : CX T P) (hf : FrX F P P1) (hd : disX F ([(1, 1)], [2]) = true) : CX T P1 := by
  refine ⟨by rw [disX_f hd hf (o := 1) (k := 1) (j := 1) ⟨by decide, rfl⟩ (by decide)]; exact h.1, fun i i0 i1 => ?_⟩
  rw [disX_a hd hf (o := 2) (k := 2) ⟨by decide, rfl⟩ (by decide)]
  exact h.2 i i0 i1
theorem CX.add {T : TT} {P P1 : PH} {c : Int} (h : CX T P) (h1 : P1 1 1 = P 1 1 + 1) (s1 : P1 2 (P 1 1) = c) (q1 : ∀ j : Int, j ≠ P 1 1 → P1 2 j = P 2 j) : CX (tadd T c) P1 := by
  refine ⟨by rw [tadd_2, h1, h.1], fun i i0 i1 => ?_⟩
  rw [tadd_2] at i1
  show _ = if i = T.2 then c else T.1 i
  by_cases e : i = T.2
  · rw [if_pos e, e, ← h.1, s1]
  · rw [if_neg e, q1 i (by rw [h.1]; exact e)]
    exact h.2 i i0 (by omega)
theorem CX.cut {T : TT} {P P1 : PH} {n : Int} (h : CX T P) (hn : n ≤ T.2) (h1 : P1 1 1 = n) (q1 : ∀ j : Int, P1 2 j = P 2 j) : CX (T.1, n) P1 := ⟨h1, fun i i0 i1 => by rw [q1]; exact h.2 i i0 (by have i1 : i < n := i1; omega)⟩
theorem CX.nil {P : PH} (h : P 1 1 = 0) : CX (fun _ => 0, 0) P := ⟨h, fun i i0 i1 => by exfalso; have i1 : i < 0 := i1; omega⟩
theorem ishr_0 {x : Int} (h : IR x) : ishr x 0 = x := by
  have := ishr_c 0 (by decide) h
  rw [show ((0 : Nat) : Int) = 0 from rfl, show ((2 ^ 0 : Nat) : Int) = 1 from rfl, Int.ediv_one] at this
  exact this
/-- four bytes, one behind the other -/
theorem tput_4 {T : TT} {a : Int} (h : IR a) : tput T a 4 = tadd (tadd (tadd (tadd T (iand (ishr a 24) 255)) (iand (ishr a 16) 255)) (iand (ishr a 8) 255)) (iand a 255) := by
  have e : tput T a 4 = tadd (tadd (tadd (tadd T (iand (ishr a 24) 255)) (iand (ishr a 16) 255)) (iand (ishr a 8) 255)) (iand (ishr a 0) 255) := rfl
  rw [e, ishr_0 h]
def ff (T : TT) (a b c d e : Int) : TT := if 1580 < T.2 then T else tfive T a b c d e
def fe (T : TT) (n : Int) : TT := if 0 ≤ n ∧ n ≤ T.2 then (T.1, n) else T
end
section
/-! The reference's token ahead: what its loop holds, as words of one piece. -/
def RX (m : Int) (T : TT) (a : Int) : Int := if m = 6 then rE bL T a else rE bN T a
def CC (m c : Int) : Prop := (m = 6 → 97 ≤ c ∧ c ≤ 122) ∧ (m = 4 → 48 ≤ c ∧ c ≤ 57)
theorem RX_ge (m : Int) (T : TT) (a : Int) : a ≤ RX m T a := by
  unfold RX
  split
  · exact rE_ge bL T a
  · exact rE_ge bN T a
theorem RX_go {m : Int} {T : TT} {l : Int} (hm : m = 6 ∨ m = 4) (hl : l < T.2) (hc : CC m (T.1 l)) : RX m T l = RX m T (l + 1) := by
  unfold RX
  rcases hm with e | e
  · rw [if_pos e, if_pos e]; exact rE_go hl (bL_t.mpr (hc.1 e))
  · rw [if_neg (by omega), if_neg (by omega)]; exact rE_go hl (bN_t.mpr (hc.2 e))
theorem RX_st {m : Int} {T : TT} {l : Int} (h : T.2 ≤ l ∨ (m = 6 ∧ (T.1 l < 97 ∨ 122 < T.1 l)) ∨ (m = 4 ∧ (T.1 l < 48 ∨ 57 < T.1 l))) : RX m T l = l := by
  unfold RX
  split
  · refine rE_st (fun z => ?_)
    have := bL_t.mp z.2
    omega
  · refine rE_st (fun z => ?_)
    have := bN_t.mp z.2
    omega
/-- the run so far: it ends where the whole ends -/
def RN (m : Int) (T : TT) (a l : Int) : Prop := RX m T a = RX m T l ∧ l ≤ RX m T a
theorem RN.start {m : Int} {T : TT} {a l : Int} (h : l = a) : RN m T a l := by
  subst h
  exact ⟨rfl, RX_ge _ _ _⟩
theorem RN.go {m : Int} {T : TT} {a l : Int} (h : RN m T a l) (hm : m = 6 ∨ m = 4) (hl : l < T.2) (hc : CC m (T.1 l)) : RN m T a (l + 1) := by
  have e := RX_go hm hl hc
  have g := RX_ge m T (l + 1)
  have h1 := h.1
  exact ⟨by omega, by omega⟩
theorem RN.stop {m : Int} {T : TT} {a l : Int} (h : RN m T a l) (hs : T.2 ≤ l ∨ (m = 6 ∧ (T.1 l < 97 ∨ 122 < T.1 l)) ∨ (m = 4 ∧ (T.1 l < 48 ∨ 57 < T.1 l))) : RX m T a = l := h.1.trans (RX_st hs)
theorem RN.l {T : TT} {a l : Int} (h : RN 6 T a l) (hb : a ≤ l) : ∀ i : Nat, a + i < l → 1 ≤ tL T a i ∧ tL T a i ≤ 26 := run_l (T := T) (a := a) (b := l) h.1 hb h.2
theorem RN.d {T : TT} {a l : Int} (h : RN 4 T a l) (hb : a ≤ l) : ∀ i : Nat, a + i < l → 48 ≤ T.1 (a + i) ∧ T.1 (a + i) ≤ 57 := run_d (T := T) (a := a) (b := l) hb h.2
/-- word and value of the run so far -/
def WV (m w v : Int) (T : TT) (a n : Int) : Prop := (m = 6 → n ≤ 6 → w = e56 (tL T a) n.toNat) ∧ (m = 4 → n ≤ 4 → v = e10 (tD T a) n.toNat)
theorem WV.start {m : Int} {T : TT} {a : Int} : WV m 0 0 T a 0 := ⟨fun _ _ => rfl, fun _ _ => rfl⟩
theorem WV.w {w v : Int} {T : TT} {a n l c x : Int} (h : WV 6 w v T a n) (hr : RN 6 T a l) (hn : 0 ≤ n ∧ n ≤ 5) (hl : l = a + n) (hc : c = T.1 l) (hcc : 97 ≤ T.1 l ∧ T.1 l ≤ 122) (hx : x = llor (llshl w 8) c) : WV 6 x v T a (n + 1) := by
  refine ⟨fun _ _ => ?_, fun e => absurd e (by decide)⟩
  rw [hx, show (n + 1).toNat = n.toNat + 1 by omega]
  exact e56_one (h.1 rfl (by omega)) (by omega) (fun i hi => hr.l (by omega) i (by omega)) (by rw [show a + ((n.toNat : Nat) : Int) = l by omega]; exact hc) (by omega)
theorem WV.vb {w v : Int} {T : TT} {a n l : Int} (h : WV 4 w v T a n) (hr : RN 4 T a l) (hn : 0 ≤ n ∧ n ≤ 3) (hl : l = a + n) : 0 ≤ v ∧ v ≤ 999 := by
  have q := e10_b (T := T) (a := a) n.toNat (by omega) (fun i hi => hr.d (by omega) i (by omega))
  have e := h.2 rfl (by omega)
  omega
theorem WV.v {w v : Int} {T : TT} {a n l c x : Int} (h : WV 4 w v T a n) (hn : 0 ≤ n ∧ n ≤ 3) (hl : l = a + n) (hc : c = T.1 l) (hx : x = v * 10 + (c - 48)) : WV 4 w x T a (n + 1) := by
  refine ⟨fun e => absurd e (by decide), fun _ _ => ?_⟩
  have e := h.2 rfl (by omega)
  rw [hx, show (n + 1).toNat = n.toNat + 1 by omega]
  show _ = e10 (tD T a) n.toNat * 10 + (T.1 (a + ((n.toNat : Nat) : Int)) - 48)
  rw [show a + ((n.toNat : Nat) : Int) = l by omega, ← hc, ← e]
theorem WV.big {m w1 v1 : Int} {T : TT} {a n : Int} (hm : m = 6 ∨ m = 4) (hn : m ≤ n) : WV m w1 v1 T a (n + 1) := ⟨fun e h => by omega, fun e h => by omega⟩
/-- word done, value not yet -/
def W2 (m w v : Int) (T : TT) (a n : Int) : Prop := (m = 6 → WV 6 w v T a (n + 1)) ∧ (m = 4 → WV 4 w v T a n)
theorem W2.six {w v : Int} {T : TT} {a n : Int} (h : WV 6 w v T a (n + 1)) : W2 6 w v T a n := ⟨fun _ => h, fun e => absurd e (by decide)⟩
theorem W2.four {w v : Int} {T : TT} {a n : Int} (h : WV 4 w v T a n) : W2 4 w v T a n := ⟨fun e => absurd e (by decide), fun _ => h⟩
/-- where a fault of the token itself is, n bytes of it read -/
def lx (T : TT) (p n m : Int) : Int := if tJn T p = 1 then tA T p else if n ≤ m then -1 else tA T p + m
theorem lx_hit {T : TT} {p n m : Int} (h : lx T p n m = -1) (hn : n = m) (h0 : 0 ≤ tA T p) : lx T p (n + 1) m = tA T p + m := by
  unfold lx at h ⊢
  by_cases j : tJn T p = 1
  · rw [if_pos j] at h; omega
  · rw [if_neg j, if_neg (by omega)]
theorem lx_no {T : TT} {p n m : Int} (h : n ≠ m ∨ lx T p n m ≠ -1) : lx T p (n + 1) m = lx T p n m := by
  unfold lx at h ⊢
  by_cases j : tJn T p = 1
  · rw [if_pos j, if_pos j]
  · rw [if_neg j] at h
    rw [if_neg j, if_neg j]
    by_cases e : n + 1 ≤ m
    · rw [if_pos e, if_pos (by omega)]
    · rw [if_neg e]
      by_cases e2 : n ≤ m
      · rw [if_pos e2] at h
        omega
      · rw [if_neg e2]
/-- the same ahead of the loop -/
def L0 (T : TT) (p l2 l3 x : Int) : Prop := (l2 = 0 ∧ l3 = 0 → x = -1) ∧ (l2 ≠ 0 ∨ l3 ≠ 0 → ∀ m : Int, 0 ≤ m → x = lx T p 0 m)
theorem L0.sign {T : TT} {p l2 l3 x : Int} (h : l2 = 0 ∧ l3 = 0) (hx : x = -1) : L0 T p l2 l3 x := ⟨fun _ => hx, fun z => by omega⟩
theorem L0.j {T : TT} {p l2 l3 x : Int} (h : l2 ≠ 0 ∨ l3 ≠ 0) (hj : tJ T p = true) (hx : x = tA T p) : L0 T p l2 l3 x := ⟨fun z => by omega, fun _ m _ => by unfold lx; rw [if_pos (tJn_1 hj)]; exact hx⟩
theorem L0.n {T : TT} {p l2 l3 x : Int} (h : l2 ≠ 0 ∨ l3 ≠ 0) (hj : tJ T p = false) (hx : x = -1) : L0 T p l2 l3 x := ⟨fun z => by omega, fun _ m hm => by unfold lx; rw [if_neg (by rw [tJn_0 hj]; decide), if_pos hm]; exact hx⟩
theorem lx_s (T : TT) (p n m : Int) : (tJn T p = 1 ∧ lx T p n m = tA T p) ∨ (tJn T p = 0 ∧ ((n ≤ m ∧ lx T p n m = -1) ∨ (m < n ∧ lx T p n m = tA T p + m))) := by
  unfold lx
  rcases (show tJn T p = 1 ∨ tJn T p = 0 by unfold tJn; split; exact Or.inl rfl; exact Or.inr rfl) with j | j
  · rw [if_pos j]; exact Or.inl ⟨j, rfl⟩
  · rw [if_neg (by omega)]
    by_cases e : n ≤ m
    · rw [if_pos e]; exact Or.inr ⟨j, Or.inl ⟨e, rfl⟩⟩
    · rw [if_neg e]; exact Or.inr ⟨j, Or.inr ⟨by omega, rfl⟩⟩
theorem MS.wor2 {T : TT} {p n l : Int} {P : PH} (hp : 0 ≤ p ∧ p ≤ T.2) (h4 : P 0 4 = tA T p) (hn : tA T p < T.2) (hl : 97 ≤ T.1 (tA T p) ∧ T.1 (tA T p) ≤ 122) (h3 : P 0 3 = 1) (h5 : P 0 5 = l) (hr : RX 6 T (tA T p) = l) (hln : l = tA T p + n) (hx : P 0 12 = lx T p n 6) (hw : WV 6 (P 0 7) (P 0 6) T (tA T p) n) : MS T p P := by
  have e : rE bL T (tA T p) = l := by rw [← hr]; unfold RX; rw [if_pos rfl]
  have hs := lx_s T p n 6
  refine MS.wor hp h4 hn hl h3 (by omega) (by omega) (fun h => ?_)
  rw [hw.1 rfl (by omega), show (rE bL T (tA T p) - tA T p).toNat = n.toNat by omega]
theorem MS.nu2 {T : TT} {p n l : Int} {P : PH} (hp : 0 ≤ p ∧ p ≤ T.2) (h4 : P 0 4 = tA T p) (hn : tA T p < T.2) (hl : 48 ≤ T.1 (tA T p) ∧ T.1 (tA T p) ≤ 57) (h3 : P 0 3 = 2) (h5 : P 0 5 = l) (hr : RX 4 T (tA T p) = l) (hln : l = tA T p + n) (hx : P 0 12 = lx T p n 4) (hw : WV 4 (P 0 7) (P 0 6) T (tA T p) n) : MS T p P := by
  have e : rE bN T (tA T p) = l := by rw [← hr]; unfold RX; rw [if_neg (by decide)]
  have hs := lx_s T p n 4
  refine MS.nu hp h4 hn hl h3 (by omega) (by omega) (fun h => ?_)
  rw [hw.2 rfl (by omega), show (rE bN T (tA T p) - tA T p).toNat = n.toNat by omega]
theorem RX_pos {m : Int} {T : TT} {a : Int} (hm : m = 6 ∨ m = 4) (hl : a < T.2) (hc : CC m (T.1 a)) : a + 1 ≤ RX m T a := by
  rw [RX_go hm hl hc]
  exact RX_ge m T (a + 1)
end
section
/-! Where there is no fault its place is none. -/
def FP (P : PH) : Prop := P 0 8 ≤ 0 → P 0 9 = -1
theorem FP.fr {P P1 : PH} {F : FS} (h : FP P) (hf : FrM F P P1) (hd : disF F ([8, 9], []) = true) : FP P1 := by
  unfold FP at h ⊢
  rw [disF_k hd hf (k := 8) (by decide), disF_k hd hf (k := 9) (by decide)]
  exact h
/-! A field, a column: what is told of it, one lemma a way. -/
section KG
variable {T : TT} {K : PH} {but n many of' its most p : Int}
theorem kGo_1 (h : tK T p ≠ 1 ∨ (tO T p ≠ -1 ∧ tO T p ≠ 7)) : kGo T K but n many of' its most p = 1 := by
  unfold kGo
  rw [if_neg (by omega)]
theorem kGo_6 (hw : tK T p = 1 ∧ (tO T p = -1 ∨ tO T p = 7)) (h : many ≤ n) : kGo T K but n many of' its most p = 6 := by
  unfold kGo
  rw [if_pos hw, if_pos h]
theorem kGo_3 (hw : tK T p = 1 ∧ (tO T p = -1 ∨ tO T p = 7)) (hn : n < many) (h : tO T p = -1 ∧ (kHe T K p = -1 ∨ kHe T K p = but ∨ K 3 (kHe T K p) ≤ 0)) : kGo T K but n many of' its most p = 3 := by
  unfold kGo
  rw [if_pos hw, if_neg (by omega), if_pos ⟨by omega, h.2⟩]
theorem kGo_4 (hw : tK T p = 1 ∧ (tO T p = -1 ∨ tO T p = 7)) (hn : n < many) (hk : tO T p = 7 ∨ (kHe T K p ≠ -1 ∧ kHe T K p ≠ but ∧ 1 ≤ K 3 (kHe T K p))) (h : most < of' + its * sz K (kHe T K p)) : kGo T K but n many of' its most p = 4 := by
  unfold kGo
  rw [if_pos hw, if_neg (by omega), if_neg (fun z => by omega), if_pos h]
theorem kGo_0 (hw : tK T p = 1 ∧ (tO T p = -1 ∨ tO T p = 7)) (hn : n < many) (hk : tO T p = 7 ∨ (kHe T K p ≠ -1 ∧ kHe T K p ≠ but ∧ 1 ≤ K 3 (kHe T K p))) (h : of' + its * sz K (kHe T K p) ≤ most) : kGo T K but n many of' its most p = 0 := by
  unfold kGo
  rw [if_pos hw, if_neg (by omega), if_neg (fun z => by omega), if_neg (by omega)]
theorem szk_b (h : AW K) (hk : tO T p = 7 ∨ (kHe T K p ≠ -1 ∧ kHe T K p ≠ but ∧ 1 ≤ K 3 (kHe T K p))) : 1 ≤ sz K (kHe T K p) ∧ sz K (kHe T K p) ≤ 2006 := by
  have hb := kHe_b (T := T) h p
  rcases sz_s K (kHe T K p) with q | q
  · omega
  · have q2 := h.2.1 (kHe T K p) (by omega) hb.2
    have q3 := kHe_s T K p
    omega
end KG
end
section
/-! Which table an object is part of; what a method leaves of the other table. -/
def tbX (x : Nat) : Nat := if 70 ≤ x ∧ x ≤ 89 then 70 else if 90 ≤ x ∧ x ≤ 109 then 90 else 0
def KT (t : Nat) (P P1 : PH) : Prop := ∀ x : Nat, x < 154 → tbX x ≠ 0 → tbX x ≠ t → ∀ j : Int, P1 x j = P x j
theorem KT.rf {t : Nat} {P : PH} : KT t P P := fun _ _ _ _ _ => rfl
theorem KT.w {t : Nat} {P P1 : PH} {x : Nat} {j z : Int} (h : KT t P P1) (hx : tbX x = t ∨ tbX x = 0) : KT t P (up P1 x j z) := fun y h1 h2 h3 k => by
  have hne : y ≠ x := fun e => by
    subst e
    rcases hx with q | q
    · exact h3 q
    · exact h2 q
  rw [up_o hne]
  exact h y h1 h2 h3 k
theorem KT.t {t : Nat} {P P1 P2 : PH} (h : KT t P P1) (h2 : KT t P1 P2) : KT t P P2 := fun x a b c j => (h2 x a b c j).trans (h x a b c j)
theorem KT.e {t t1 : Nat} {P P1 : PH} (h : KT t P P1) (e : t = t1) : KT t1 P P1 := by
  subst e
  exact h
def nT (F : FSX) : Bool := F.1.all (fun q => decide (q.1 < 28) || decide (44 < q.1)) && F.2.all (fun k => decide (k < 28) || decide (44 < k))
theorem tb_kd : ∀ x : Nat, x < 154 → tbX x ≠ 0 → 28 ≤ kdX x ∧ kdX x ≤ 44 := by decide +kernel
theorem nT_in {F : FSX} (h : nT F = true) {k : Nat} (hk : 28 ≤ k ∧ k ≤ 44) (j : Int) : inF F k j = false := by
  unfold nT at h
  rw [Bool.and_eq_true] at h
  unfold inF
  rw [Bool.or_eq_false_iff]
  refine ⟨?_, ?_⟩
  · cases e : F.2.contains k with
    | false => rfl
    | true =>
      exfalso
      have q := List.all_eq_true.mp h.2 k (List.contains_iff_mem.mp e)
      rw [Bool.or_eq_true, decide_eq_true_iff, decide_eq_true_iff] at q
      omega
  · cases e : F.1.any fun q => q.1 == k && q.2 == j with
    | false => rfl
    | true =>
      exfalso
      obtain ⟨q, hq, he⟩ := List.any_eq_true.mp e
      have w := List.all_eq_true.mp h.1 q hq
      rw [Bool.or_eq_true, decide_eq_true_iff, decide_eq_true_iff] at w
      rw [Bool.and_eq_true, beq_iff_eq] at he
      omega
theorem KT.fr {t : Nat} {P P1 P2 : PH} {F : FSX} (h : KT t P P1) (hf : FrX F P1 P2) (hd : nT F = true) : KT t P P2 := fun x a b c j => (hf x j a (nT_in hd (tb_kd x a b) j)).trans (h x a b c j)
theorem tb_cr : ∀ x : Nat, x < 154 → ∀ j : Nat, j < 16 → tbX (crX x j) = tbX x ∨ tbX (crX x j) = 0 := by decide +kernel
theorem TB.c {t x j : Nat} (h : tbX x = t ∨ tbX x = 0) (hx : x < 154) (hj : j < 16) : tbX (crX x j) = t ∨ tbX (crX x j) = 0 := by
  rcases tb_cr x hx j hj with q | q
  · rw [q]; exact h
  · exact Or.inr q
theorem TB.no {t x k : Nat} (h : kx x k) (hk : k < 28 ∨ 44 < k) : tbX x = t ∨ tbX x = 0 := by
  by_cases e : tbX x = 0
  · exact Or.inr e
  · exfalso
    have q := tb_kd x h.1 e
    rw [h.2] at q
    omega
theorem tb28_0 {o : Nat} (h : kx o 28) : tbX (crX o 0) = tbX o := (show ∀ o : Nat, o < 154 → kdX o = 28 → tbX (crX o 0) = tbX o by decide +kernel) o h.1 h.2
theorem tb28 {o : Nat} (h : kx o 28) : tbX o = o ∧ o ≠ 0 := (show ∀ o : Nat, o < 154 → kdX o = 28 → tbX o = o ∧ o ≠ 0 by decide +kernel) o h.1 h.2
/-! What a method leaves of the reference's other bank. -/
def sbM : Nat → Int
  | 2 => 1
  | 3 => 4
  | 4 => 4
  | 5 => 1
  | 6 => 24
  | 7 => 24
  | 8 => 48
  | 9 => 24
  | 10 => 24
  | 11 => 1
  | 12 => 4
  | 13 => 1
  | 14 => 12
  | 15 => 1
  | 16 => 1
  | 17 => 48
  | 18 => 48
  | 19 => 2800
  | 20 => 2800
  | 21 => 2800
  | 22 => 4
  | 23 => 24
  | _ => 0
def KB (b : Int) (P P1 : PH) : Prop := ∀ (o : Nat) (j : Int), sbM o * (1 - b) ≤ j → j < sbM o * (2 - b) → P1 o j = P o j
theorem KB.rf {b : Int} {P : PH} : KB b P P := fun _ _ _ _ => rfl
theorem KB.w {b : Int} {P P1 : PH} {o : Nat} {x z s : Int} (h : KB b P P1) (hs : sbM o = s) (hx : x < s * (1 - b) ∨ s * (2 - b) ≤ x) : KB b P (up P1 o x z) := fun o1 j h1 h2 => by
  by_cases e : o1 = o
  · subst e
    rw [hs] at h1 h2
    rw [up_k (by omega)]
    exact h o1 j (by rw [hs]; exact h1) (by rw [hs]; exact h2)
  · rw [up_o e]
    exact h o1 j h1 h2
theorem KB.z {b : Int} {P P1 : PH} {o : Nat} {x z : Int} (h : KB b P P1) (hs : sbM o = 0) : KB b P (up P1 o x z) := fun o1 j h1 h2 => by
  by_cases e : o1 = o
  · subst e
    exfalso
    rw [hs, Int.zero_mul] at h1 h2
    omega
  · rw [up_o e]
    exact h o1 j h1 h2
theorem KB.t {b b1 : Int} {P P1 P2 : PH} (h : KB b P P1) (h2 : KB b1 P1 P2) (e : b1 = b) : KB b P P2 := by
  subst e
  exact fun o j a c => (h2 o j a c).trans (h o j a c)
def nB (F : FS) : Bool := F.2.all (fun o => decide (sbM o = 0))
theorem KB.fr {b : Int} {P P1 P2 : PH} {F : FS} (h : KB b P P1) (hf : FrM F P1 P2) (hd : nB F = true) : KB b P P2 := fun o j a c => by
  have h0 : sbM o ≠ 0 := fun e => by
    rw [e, Int.zero_mul] at a c
    omega
  have ho : (o == 0) = false := by
    cases e : o == 0 with
    | false => rfl
    | true =>
      rw [beq_iff_eq] at e
      rw [e] at h0
      exact absurd rfl h0
  have hc : F.2.contains o = false := by
    cases e : F.2.contains o with
    | false => rfl
    | true =>
      have q := List.all_eq_true.mp hd o (List.contains_iff_mem.mp e)
      rw [decide_eq_true_iff] at q
      exact absurd q h0
  exact (congrFun (hf.2 o ho hc) j).trans (h o j a c)
end
section
/-! The tables as they stand between calls, on both sides. -/
def MKb (b : Int) (K P : PH) : Prop := P 2 b = K 0 0 ∧ P 5 b = K 0 1 ∧
  (∀ k : Int, 0 ≤ k → k < K 0 0 → NW (K 1 k) (P 22 (4 * b + k)) ∧ P 3 (4 * b + k) = K 2 k ∧ P 4 (4 * b + k) = K 3 k) ∧
  ∀ c : Int, 0 ≤ c → c < K 0 1 → NW (K 4 c) (P 23 (24 * b + c)) ∧ P 6 (24 * b + c) = K 5 c ∧ P 7 (24 * b + c) = K 6 c ∧ (1 ≤ K 6 c → K4 (P 8 (2 * (24 * b + c))) (K 7 c)) ∧ (2 ≤ K 6 c → K4 (P 8 (2 * (24 * b + c) + 1)) (K 8 c)) ∧ P 9 (24 * b + c) = K 10 c
def MMb (b : Int) (M P : PH) : Prop := P 11 b = M 0 0 ∧ P 13 b = M 0 2 ∧ P 15 b = M 0 3 ∧ P 16 b = M 0 4 ∧
  (∀ c : Int, 0 ≤ c → c < M 0 0 → K4 (P 12 (4 * b + c)) (M 1 c)) ∧ ∀ a : Int, 0 ≤ a → a < M 0 2 → P 14 (12 * b + a) = M 2 a
theorem MKb.kb {b b1 : Int} {K P P1 : PH} (h : MKb b K P) (ha : AW K) (hk : KB b1 P P1) (hb : b = 1 - b1) : MKb b K P1 := by
  have a0 := ha.1
  obtain ⟨h1, h2, h3, h4⟩ := h
  refine ⟨?_, ?_, fun k k0 k1 => ?_, fun c c0 c1 => ?_⟩
  · rw [hk 2 b (by show 1 * (1 - b1) ≤ b; omega) (by show b < 1 * (2 - b1); omega)]; exact h1
  · rw [hk 5 b (by show 1 * (1 - b1) ≤ b; omega) (by show b < 1 * (2 - b1); omega)]; exact h2
  · rw [hk 22 (4 * b + k) (by show 4 * (1 - b1) ≤ _; omega) (by show _ < 4 * (2 - b1); omega), hk 3 (4 * b + k) (by show 4 * (1 - b1) ≤ _; omega) (by show _ < 4 * (2 - b1); omega), hk 4 (4 * b + k) (by show 4 * (1 - b1) ≤ _; omega) (by show _ < 4 * (2 - b1); omega)]
    exact h3 k k0 k1
  · rw [hk 23 (24 * b + c) (by show 24 * (1 - b1) ≤ _; omega) (by show _ < 24 * (2 - b1); omega), hk 6 (24 * b + c) (by show 24 * (1 - b1) ≤ _; omega) (by show _ < 24 * (2 - b1); omega), hk 7 (24 * b + c) (by show 24 * (1 - b1) ≤ _; omega) (by show _ < 24 * (2 - b1); omega),
      hk 8 (2 * (24 * b + c)) (by show 48 * (1 - b1) ≤ _; omega) (by show _ < 48 * (2 - b1); omega), hk 8 (2 * (24 * b + c) + 1) (by show 48 * (1 - b1) ≤ _; omega) (by show _ < 48 * (2 - b1); omega), hk 9 (24 * b + c) (by show 24 * (1 - b1) ≤ _; omega) (by show _ < 24 * (2 - b1); omega)]
    exact h4 c c0 c1
theorem MMb.kb {b b1 : Int} {K M P P1 : PH} (h : MMb b M P) (ha : AV K M) (hk : KB b1 P P1) (hb : b = 1 - b1) : MMb b M P1 := by
  obtain ⟨v1, v2, v3, v4, v5⟩ := ha
  obtain ⟨h1, h2, h3, h4, h5, h6⟩ := h
  refine ⟨?_, ?_, ?_, ?_, fun c c0 c1 => ?_, fun a a0 a1 => ?_⟩
  · rw [hk 11 b (by show 1 * (1 - b1) ≤ b; omega) (by show b < 1 * (2 - b1); omega)]; exact h1
  · rw [hk 13 b (by show 1 * (1 - b1) ≤ b; omega) (by show b < 1 * (2 - b1); omega)]; exact h2
  · rw [hk 15 b (by show 1 * (1 - b1) ≤ b; omega) (by show b < 1 * (2 - b1); omega)]; exact h3
  · rw [hk 16 b (by show 1 * (1 - b1) ≤ b; omega) (by show b < 1 * (2 - b1); omega)]; exact h4
  · rw [hk 12 (4 * b + c) (by show 4 * (1 - b1) ≤ _; omega) (by show _ < 4 * (2 - b1); omega)]; exact h5 c c0 c1
  · rw [hk 14 (12 * b + a) (by show 12 * (1 - b1) ≤ _; omega) (by show _ < 12 * (2 - b1); omega)]; exact h6 a a0 a1
/-- the reference's tables, in its bank -/
def MKB (K P : PH) : Prop := MKb (P 0 13) K P
def MMB (M P : PH) : Prop := MMb (P 0 13) M P
def MH (M P : PH) : Prop := (P 0 44 = 0 ∧ M 0 0 = 0) ∨ (P 0 44 = 1 ∧ 1 ≤ M 0 0)
theorem MKB.fr {K P P1 : PH} {F : FS} (h : MKB K P) (hf : FrM F P P1) (hd : disF F ([13], [2, 3, 4, 5, 6, 7, 8, 9, 22, 23]) = true) : MKB K P1 := by
  unfold MKB MKb at h ⊢
  rw [disF_k hd hf (k := 13) (by decide), disF_o hd hf (o := 2) (by decide) rfl, disF_o hd hf (o := 3) (by decide) rfl, disF_o hd hf (o := 4) (by decide) rfl, disF_o hd hf (o := 5) (by decide) rfl, disF_o hd hf (o := 6) (by decide) rfl, disF_o hd hf (o := 7) (by decide) rfl, disF_o hd hf (o := 8) (by decide) rfl, disF_o hd hf (o := 9) (by decide) rfl, disF_o hd hf (o := 22) (by decide) rfl, disF_o hd hf (o := 23) (by decide) rfl]
  exact h
theorem MMB.fr {M P P1 : PH} {F : FS} (h : MMB M P) (hf : FrM F P P1) (hd : disF F ([13], [11, 12, 13, 14, 15, 16]) = true) : MMB M P1 := by
  unfold MMB MMb at h ⊢
  rw [disF_k hd hf (k := 13) (by decide), disF_o hd hf (o := 11) (by decide) rfl, disF_o hd hf (o := 12) (by decide) rfl, disF_o hd hf (o := 13) (by decide) rfl, disF_o hd hf (o := 14) (by decide) rfl, disF_o hd hf (o := 15) (by decide) rfl, disF_o hd hf (o := 16) (by decide) rfl]
  exact h
theorem MH.fr {M P P1 : PH} {F : FS} (h : MH M P) (hf : FrM F P P1) (hd : disF F ([44], []) = true) : MH M P1 := by
  unfold MH at h ⊢
  rw [disF_k hd hf (k := 44) (by decide)]
  exact h
theorem MK.B {K P : PH} (h : MK K P) (e : P 0 13 = P 0 37) : MKB K P := by
  unfold MKB
  rw [e]
  exact h
theorem MM.B {M P : PH} (h : MM M P) (e : P 0 13 = P 0 37) : MMB M P := by
  unfold MMB
  rw [e]
  exact h
theorem MKB.k {K P : PH} (h : MKB K P) {k : Int} (h0 : 0 ≤ k) (h1 : k < K 0 0) : NW (K 1 k) (P 22 (4 * P 0 13 + k)) ∧ P 3 (4 * P 0 13 + k) = K 2 k ∧ P 4 (4 * P 0 13 + k) = K 3 k := h.2.2.1 k h0 h1
theorem MKB.c {K P : PH} (h : MKB K P) {c : Int} (h0 : 0 ≤ c) (h1 : c < K 0 1) : NW (K 4 c) (P 23 (24 * P 0 13 + c)) := (h.2.2.2 c h0 h1).1
theorem MKB.b {K P : PH} (h : MKB K P) : P 2 (P 0 13) = K 0 0 ∧ P 5 (P 0 13) = K 0 1 := ⟨h.1, h.2.1⟩
theorem MMB.b {M P : PH} (h : MMB M P) : P 11 (P 0 13) = M 0 0 ∧ P 13 (P 0 13) = M 0 2 ∧ P 15 (P 0 13) = M 0 3 ∧ P 16 (P 0 13) = M 0 4 := ⟨h.1, h.2.1, h.2.2.1, h.2.2.2.1⟩
/-- the class's table now -/
def XTB (K M P : PH) : Prop := XK K (crX (P 0 10).toNat 0) P ∧ XM M (P 0 10).toNat P
theorem XTB.fr {K M P P1 : PH} {F : FSX} (h : XTB K M P) (hf : FrX F P P1) (hd : disX F ([(0, 10), (28, 6), (28, 7), (28, 8), (28, 9), (28, 10), (29, 9), (29, 10)], [30, 31, 32, 33, 34, 35, 36, 37, 38, 39, 42]) = true) : XTB K M P1 := by
  have e : P1 0 10 = P 0 10 := disX_f hd hf (o := 0) (k := 0) (j := 10) ⟨by decide, rfl⟩ (by decide)
  obtain ⟨⟨hk, h1, h2, h3, h4⟩, hk2, g1, g2, g3, g4, g5, g6, g7⟩ := h
  unfold XTB
  rw [e]
  refine ⟨⟨hk, by rw [disX_f hd hf (j := 9) hk (by decide)]; exact h1, by rw [disX_f hd hf (j := 10) hk (by decide)]; exact h2, fun k k0 k1 => ?_, fun c c0 c1 => ?_⟩, ⟨hk2, by rw [disX_f hd hf (j := 6) hk2 (by decide)]; exact g1, by rw [disX_f hd hf (j := 7) hk2 (by decide)]; exact g2, by rw [disX_f hd hf (j := 8) hk2 (by decide)]; exact g3, by rw [disX_f hd hf (j := 9) hk2 (by decide)]; exact g4, by rw [disX_f hd hf (j := 10) hk2 (by decide)]; exact g5, fun c c0 c1 => ?_, fun a a0 a1 => ?_⟩⟩
  · rw [disX_a hd hf (ck_29_0 hk) (by decide), disX_a hd hf (ck_29_1 hk) (by decide), disX_a hd hf (ck_29_2 hk) (by decide), disX_a hd hf (ck_29_3 hk) (by decide)]
    exact h3 k k0 k1
  · rw [disX_a hd hf (ck_29_4 hk) (by decide), disX_a hd hf (ck_29_5 hk) (by decide), disX_a hd hf (ck_29_6 hk) (by decide), disX_a hd hf (ck_29_7 hk) (by decide), disX_a hd hf (ck_29_8 hk) (by decide)]
    exact h4 c c0 c1
  · rw [disX_a hd hf (ck_28_1 hk2) (by decide)]
    exact g6 c c0 c1
  · rw [disX_a hd hf (ck_28_4 hk2) (by decide)]
    exact g7 a a0 a1
/-- the other table's change leaves this one -/
theorem KT.xk {t o : Nat} {K P P1 : PH} (h : KT t P P1) (ho : kx o 28) (hn : o ≠ t) (hk : XK K (crX o 0) P) : XK K (crX o 0) P1 := by
  have ht := tb28 ho
  have h0 := tb28_0 ho
  rw [ht.1] at h0
  have hc : ∀ j : Nat, j < 9 → tbX (crX (crX o 0) j) = o := (show ∀ o : Nat, o < 154 → kdX o = 28 → ∀ j : Nat, j < 9 → tbX (crX (crX o 0) j) = o by decide +kernel) o ho.1 ho.2
  have hl : ∀ j : Nat, j < 9 → crX (crX o 0) j < 154 := (show ∀ o : Nat, o < 154 → kdX o = 28 → ∀ j : Nat, j < 9 → crX (crX o 0) j < 154 by decide +kernel) o ho.1 ho.2
  have ha : ∀ (f : Nat), f < 9 → ∀ j : Int, P1 (crX (crX o 0) f) j = P (crX (crX o 0) f) j := fun f hf j => h _ (hl f hf) (by rw [hc f hf]; exact ht.2) (by rw [hc f hf]; exact hn) j
  have hb : ∀ j : Int, P1 (crX o 0) j = P (crX o 0) j := fun j => h _ hk.1.1 (by rw [h0]; exact ht.2) (by rw [h0]; exact hn) j
  obtain ⟨hk0, h1, h2, h3, h4⟩ := hk
  refine ⟨hk0, by rw [hb]; exact h1, by rw [hb]; exact h2, fun k k0 k1 => ?_, fun c c0 c1 => ?_⟩
  · rw [ha 0 (by decide), ha 1 (by decide), ha 2 (by decide), ha 3 (by decide)]
    exact h3 k k0 k1
  · rw [ha 4 (by decide), ha 5 (by decide), ha 6 (by decide), ha 7 (by decide), ha 8 (by decide)]
    exact h4 c c0 c1
theorem KT.xm {t o : Nat} {M P P1 : PH} (h : KT t P P1) (ho : kx o 28) (hn : o ≠ t) (hk : XM M o P) : XM M o P1 := by
  have ht := tb28 ho
  have hc : tbX (crX o 1) = o ∧ tbX (crX o 4) = o ∧ crX o 1 < 154 ∧ crX o 4 < 154 := (show ∀ o : Nat, o < 154 → kdX o = 28 → tbX (crX o 1) = o ∧ tbX (crX o 4) = o ∧ crX o 1 < 154 ∧ crX o 4 < 154 by decide +kernel) o ho.1 ho.2
  have hb : ∀ j : Int, P1 o j = P o j := fun j => h _ ho.1 (by rw [ht.1]; exact ht.2) (by rw [ht.1]; exact hn) j
  have h1' : ∀ j : Int, P1 (crX o 1) j = P (crX o 1) j := fun j => h _ hc.2.2.1 (by rw [hc.1]; exact ht.2) (by rw [hc.1]; exact hn) j
  have h4' : ∀ j : Int, P1 (crX o 4) j = P (crX o 4) j := fun j => h _ hc.2.2.2 (by rw [hc.2.1]; exact ht.2) (by rw [hc.2.1]; exact hn) j
  obtain ⟨hk2, g1, g2, g3, g4, g5, g6, g7⟩ := hk
  exact ⟨hk2, by rw [hb]; exact g1, by rw [hb]; exact g2, by rw [hb]; exact g3, by rw [hb]; exact g4, by rw [hb]; exact g5, fun c c0 c1 => by rw [h1']; exact g6 c c0 c1, fun a a0 a1 => by rw [h4']; exact g7 a a0 a1⟩
/-- the tables behind a match's text: those told, or those that were -/
noncomputable def kmR (T : TT) (K : PH) : PH := if (mlR T).1 = 0 then (mlR T).2.2.1 else K
noncomputable def mmR (T : TT) (M : PH) : PH := if (mlR T).1 = 0 then (mlR T).2.2.2 else M
theorem kmR_0 {T : TT} {K : PH} (h : (mlR T).1 = 0) : kmR T K = (mlR T).2.2.1 := by unfold kmR; rw [if_pos h]
theorem kmR_1 {T : TT} {K : PH} (h : (mlR T).1 ≠ 0) : kmR T K = K := by unfold kmR; rw [if_neg h]
theorem mmR_0 {T : TT} {M : PH} (h : (mlR T).1 = 0) : mmR T M = (mlR T).2.2.2 := by unfold mmR; rw [if_pos h]
theorem mmR_1 {T : TT} {M : PH} (h : (mlR T).1 ≠ 0) : mmR T M = M := by unfold mmR; rw [if_neg h]
theorem mlo_w {T : TT} : ∀ (r : Nat) (n : Int) (K M : PH) (p : Int), AW K → AV K M → (mlo T r n K M p).1 = 0 → AW (mlo T r n K M p).2.2.1 ∧ AV (mlo T r n K M p).2.2.1 (mlo T r n K M p).2.2.2 ∧ 0 < (mlo T r n K M p).2.2.2 0 0 := by
  intro r
  induction r with
  | zero =>
    intro n K M p hw hv h0
    by_cases e : tK T p = 0
    · rw [mlo_end e] at h0 ⊢
      refine ⟨hw, hv, ?_⟩
      by_cases z : M 0 0 ≤ 0
      · have h0 : (if M 0 0 ≤ 0 then (1 : Int) else 0) = 0 := h0
        rw [if_pos z] at h0
        omega
      · show 0 < M 0 0
        omega
    · rw [mlo_much e] at h0
      exact absurd h0 (show (6 : Int) ≠ 0 by decide)
  | succ r ih =>
    intro n K M p hw hv h0
    by_cases e : tK T p = 0
    · rw [mlo_end e] at h0 ⊢
      refine ⟨hw, hv, ?_⟩
      by_cases z : M 0 0 ≤ 0
      · have h0 : (if M 0 0 ≤ 0 then (1 : Int) else 0) = 0 := h0
        rw [if_pos z] at h0
        omega
      · show 0 < M 0 0
        omega
    · by_cases h1 : (sSt T K M p).1 = 0
      · by_cases h2 : (sgn T 59 (sSt T K M p).2).1 = 0
        · rw [mlo_go e h1 h2] at h0 ⊢
          exact ih _ _ _ _ (hw.st h1) (hv.st hw h1) h0
        · rw [mlo_eF e h1 h2] at h0
          exact absurd h0 h2
      · rw [mlo_sF e h1] at h0
        exact absurd h0 h1
theorem mlR_w {T : TT} (h : (mlR T).1 = 0) : AW (mlR T).2.2.1 ∧ AV (mlR T).2.2.1 (mlR T).2.2.2 ∧ 0 < (mlR T).2.2.2 0 0 := mlo_w 60 0 K0 M0 0 AW.zero AV.zero h
end
section
/-! Letters of names; how many values a kind has: what is answered. -/
def vls (K M : PH) (x : Int) : Int := if 0 < M 0 0 ∧ -1 ≤ x ∧ x < K 0 0 then sz K x else -1
theorem vls_s (K M : PH) (x : Int) : (0 < M 0 0 ∧ -1 ≤ x ∧ x < K 0 0 ∧ vls K M x = sz K x) ∨ ((M 0 0 ≤ 0 ∨ x < -1 ∨ K 0 0 ≤ x) ∧ vls K M x = -1) := by
  unfold vls
  by_cases h : 0 < M 0 0 ∧ -1 ≤ x ∧ x < K 0 0
  · rw [if_pos h]; exact Or.inl ⟨h.1, h.2.1, h.2.2, rfl⟩
  · rw [if_neg h]; exact Or.inr ⟨by omega, rfl⟩
def lr (v : Int) : Nat → Int
  | 0 => v
  | n + 1 => lr v n / 27
/-- letter k of a name by 27 -/
def lt (v k : Int) : Int := lr v (5 - k).toNat % 27
theorem lr_b {v : Int} (h : 0 ≤ v) : ∀ n : Nat, 0 ≤ lr v n ∧ lr v n ≤ v := by
  intro n
  induction n with
  | zero => exact ⟨h, Int.le_refl _⟩
  | succ n ih =>
    show 0 ≤ lr v n / 27 ∧ lr v n / 27 ≤ v
    omega
theorem e27_dn {h : Nat → Int} {n : Nat} (hb : ∀ i, i < n + 1 → 0 ≤ h i ∧ h i ≤ 26) : e27 h (n + 1) / 27 = e27 h n := by
  have b := hb n (Nat.lt_succ_self n)
  show (e27 h n * 27 + h n) / 27 = e27 h n
  omega
theorem lr_e27 {h : Nat → Int} (hb : ∀ i, i < 6 → 0 ≤ h i ∧ h i ≤ 26) : ∀ j : Nat, j ≤ 6 → lr (e27 h 6) j = e27 h (6 - j) := by
  intro j
  induction j with
  | zero => intro _; rfl
  | succ j ih =>
    intro hj
    show lr (e27 h 6) j / 27 = _
    rw [ih (by omega), show 6 - j = (6 - (j + 1)) + 1 by omega]
    exact e27_dn (fun i hi => hb i (by omega))
theorem lt_g {g : Nat → Int} {L : Nat} (hL : L ≤ 6) (hg : ∀ i, i < L → 1 ≤ g i ∧ g i ≤ 26) {k : Int} (hk : 0 ≤ k ∧ k ≤ 5) : (k < (L : Int) ∧ lt (e27 g L * p27 (6 - L)) k = g k.toNat) ∨ ((L : Int) ≤ k ∧ lt (e27 g L * p27 (6 - L)) k = 0) := by
  have e1 : e27 (tPad g L) 6 = e27 g L * p27 (6 - L) := by rw [← e27_pad g L (6 - L), show L + (6 - L) = 6 by omega]
  have pg : ∀ i, i < 6 → 0 ≤ tPad g L i ∧ tPad g L i ≤ 26 := by
    intro i _
    unfold tPad
    by_cases q : i < L
    · rw [if_pos q]; have := hg i q; omega
    · rw [if_neg q]; omega
  have e2 : lt (e27 g L * p27 (6 - L)) k = tPad g L k.toNat := by
    unfold lt
    rw [← e1, lr_e27 pg (5 - k).toNat (by omega), show 6 - (5 - k).toNat = k.toNat + 1 by omega]
    show (e27 (tPad g L) k.toNat * 27 + tPad g L k.toNat) % 27 = _
    have b := pg k.toNat (by omega)
    omega
  rw [e2]
  unfold tPad
  by_cases q : k.toNat < L
  · rw [if_pos q]; exact Or.inl ⟨by omega, rfl⟩
  · rw [if_neg q]; exact Or.inr ⟨by omega, rfl⟩
theorem e56_dn {g : Nat → Int} {n : Nat} (hb : 1 ≤ g n ∧ g n ≤ 26) : e56 g (n + 1) / 256 = e56 g n ∧ e56 g (n + 1) % 256 = 96 + g n := by
  have e : e56 g (n + 1) = e56 g n * 256 + (96 + g n) := rfl
  rw [e]
  omega
theorem l64_smod8 {j : Nat} (hj : j ≤ 6) : ((((Int32.ofInt (((8 * j : Nat)) : Int)).toInt64 &&& 63).toBitVec.smod 64)).toNat = 8 * j := by
  have : ∀ j : Nat, j < 7 → ((((Int32.ofInt (((8 * j : Nat)) : Int)).toInt64 &&& 63).toBitVec.smod 64)).toNat = 8 * j := by decide
  exact this j (by omega)
theorem llshr_8 (j : Nat) (hj : j ≤ 6) {x : Int} (h : LR x) : llshr x ((8 * j : Nat) : Int) = x / ((2 ^ (8 * j) : Nat) : Int) := by
  unfold llshr
  have e0 : ∀ y : Int64, y.toInt = y.toBitVec.toInt := fun _ => rfl
  rw [e0, Int64.toBitVec_shiftRight, BitVec.toInt_sshiftRight', l64_smod8 hj]
  have h1 : (Int64.ofInt x).toBitVec.toInt = x := oL h
  rw [h1, Int.shiftRight_eq_div_pow]
theorem e56_sh {g : Nat → Int} {L : Nat} (hg : ∀ i, i < L → 1 ≤ g i ∧ g i ≤ 26) : ∀ j : Nat, j ≤ L → e56 g L / ((2 ^ (8 * j) : Nat) : Int) = e56 g (L - j) := by
  intro j
  induction j with
  | zero => intro _; show e56 g L / 1 = e56 g L; exact Int.ediv_one _
  | succ j ih =>
    intro hj
    have e := ih (by omega)
    have hp : ((2 ^ (8 * (j + 1)) : Nat) : Int) = ((2 ^ (8 * j) : Nat) : Int) * 256 := by
      rw [show 8 * (j + 1) = 8 * j + 8 by omega, Nat.pow_add, Int.natCast_mul]
      rfl
    rw [hp, ← Int.ediv_ediv_of_nonneg (Int.natCast_nonneg _), e, show L - j = (L - (j + 1)) + 1 by omega]
    exact (e56_dn (hg _ (by omega))).1
theorem lland_255 {x : Int} (hx : 0 ≤ x ∧ x ≤ 9223372036854775807) : lland x 255 = x % 256 := by
  have e4 : ((x.toNat : Nat) : Int) = x := Int.toNat_of_nonneg hx.1
  unfold lland
  rw [l64_bv, Int64.toBitVec_and]
  have e1 := bv64_of (z := x) hx
  have e2 := bv64_of (z := 255) ⟨by decide, by decide⟩
  have hv : ((Int64.ofInt x).toBitVec &&& (Int64.ofInt 255).toBitVec).toNat = x.toNat % 256 := by
    rw [BitVec.toNat_and, e1, e2]
    exact Nat.and_two_pow_sub_one_eq_mod x.toNat 8
  rw [BitVec.toInt_eq_toNat_cond, hv, if_pos (by omega)]
  omega
/-- a letter of a kind's name (0), of a constructor's (1) -/
def ltr (K : PH) (s x k : Int) : Int := if 0 ≤ k ∧ k ≤ 5 ∧ ((s = 0 ∧ 0 ≤ x ∧ x < K 0 0) ∨ (s = 1 ∧ 0 ≤ x ∧ x < K 0 1)) then lt (if s = 0 then K 1 x else K 4 x) k else -1
theorem ltr_s (K : PH) (s x k : Int) : (0 ≤ k ∧ k ≤ 5 ∧ s = 0 ∧ 0 ≤ x ∧ x < K 0 0 ∧ ltr K s x k = lt (K 1 x) k) ∨ (0 ≤ k ∧ k ≤ 5 ∧ s = 1 ∧ 0 ≤ x ∧ x < K 0 1 ∧ ltr K s x k = lt (K 4 x) k) ∨ ((k < 0 ∨ 5 < k ∨ ((s ≠ 0 ∨ x < 0 ∨ K 0 0 ≤ x) ∧ (s ≠ 1 ∨ x < 0 ∨ K 0 1 ≤ x))) ∧ ltr K s x k = -1) := by
  unfold ltr
  by_cases h : 0 ≤ k ∧ k ≤ 5 ∧ ((s = 0 ∧ 0 ≤ x ∧ x < K 0 0) ∨ (s = 1 ∧ 0 ≤ x ∧ x < K 0 1))
  · rw [if_pos h]
    by_cases h2 : s = 0
    · rw [if_pos h2]; exact Or.inl ⟨h.1, h.2.1, h2, by omega, by omega, rfl⟩
    · rw [if_neg h2]; exact Or.inr (Or.inl ⟨h.1, h.2.1, by omega, by omega, by omega, rfl⟩)
  · rw [if_neg h]; exact Or.inr (Or.inr ⟨by omega, rfl⟩)
/-- the names told are words -/
def AN (K : PH) : Prop := (∀ k : Int, 0 ≤ k → k < K 0 0 → 0 ≤ K 1 k) ∧ ∀ c : Int, 0 ≤ c → c < K 0 1 → 0 ≤ K 4 c
theorem MKB.an {K P : PH} (h : MKB K P) : AN K := ⟨fun _ k0 k1 => (h.k k0 k1).1.b.1, fun _ c0 c1 => (h.c c0 c1).b.1⟩
end
end
section
section
/-! The acts told: A: 0 [arms in order, guards on, rule, rows kept, acts to undo, seed, rows seen], 1 arms by place; of what can be undone (0 the eldest): 2 arms in order, 3 guards on, 4 rules, 5 rows kept, 6 arms by place (12 each). -/
def A0 : PH := fun o k => if o = 0 ∧ k = 5 then 1 else 0
/-- the state now is written down at place n, those above it s places further down -/
def aNow (A : PH) (n s : Int) : PH := fun o k =>
  if o = 0 then (if k = 4 then n + 1 else A 0 k)
  else if o = 2 then (if k = n then A 0 0 else A 2 (k + s))
  else if o = 3 then (if k = n then A 0 1 else A 3 (k + s))
  else if o = 4 then (if k = n then A 0 2 else A 4 (k + s))
  else if o = 5 then (if k = n then A 0 3 else A 5 (k + s))
  else if o = 6 then (if 12 * n ≤ k ∧ k < 12 * n + 12 then A 1 (k - 12 * n) else A 6 (k + 12 * s))
  else A o k
def aPush (A : PH) : PH := if A 0 4 = 20 then aNow A 19 1 else aNow A (A 0 4) 0
def aPop (A : PH) : PH := fun o k =>
  if o = 0 then (if k = 0 then A 2 (A 0 4 - 1) else if k = 1 then A 3 (A 0 4 - 1) else if k = 2 then A 4 (A 0 4 - 1) else if k = 3 then A 5 (A 0 4 - 1) else if k = 4 then A 0 4 - 1 else A 0 k)
  else if o = 1 then A 6 (12 * (A 0 4 - 1) + k)
  else A o k
/-- another order now -/
def aSet (A : PH) (c n r : Int) (a : Int → Int) : PH := fun o k =>
  if o = 0 then (if k = 0 then c else if k = 1 then n else if k = 2 then r else A 0 k)
  else if o = 1 then a k
  else A o k
section AN
variable {A : PH} {n s : Int}
theorem aNow_0 (k : Int) : aNow A n s 0 k = if k = 4 then n + 1 else A 0 k := rfl
theorem aNow_1 (k : Int) : aNow A n s 1 k = A 1 k := rfl
theorem aNow_2 (k : Int) : aNow A n s 2 k = if k = n then A 0 0 else A 2 (k + s) := rfl
theorem aNow_3 (k : Int) : aNow A n s 3 k = if k = n then A 0 1 else A 3 (k + s) := rfl
theorem aNow_4 (k : Int) : aNow A n s 4 k = if k = n then A 0 2 else A 4 (k + s) := rfl
theorem aNow_5 (k : Int) : aNow A n s 5 k = if k = n then A 0 3 else A 5 (k + s) := rfl
theorem aNow_6 (k : Int) : aNow A n s 6 k = if 12 * n ≤ k ∧ k < 12 * n + 12 then A 1 (k - 12 * n) else A 6 (k + 12 * s) := rfl
end AN
theorem aPush_0 (A : PH) (k : Int) (hk : k ≠ 4) : aPush A 0 k = A 0 k := by
  unfold aPush
  by_cases h : A 0 4 = 20
  · rw [if_pos h, aNow_0, if_neg hk]
  · rw [if_neg h, aNow_0, if_neg hk]
theorem aPush_1 (A : PH) (k : Int) : aPush A 1 k = A 1 k := by
  unfold aPush
  by_cases h : A 0 4 = 20
  · rw [if_pos h, aNow_1]
  · rw [if_neg h, aNow_1]
def m40 (x : Int) : Int := if x ≤ 40 then x else 40
theorem m40_s (x : Int) : (x ≤ 40 ∧ m40 x = x) ∨ (40 < x ∧ m40 x = 40) := by
  unfold m40
  by_cases h : x ≤ 40
  · rw [if_pos h]; exact Or.inl ⟨h, rfl⟩
  · rw [if_neg h]; exact Or.inr ⟨by omega, rfl⟩
/-- what the acts' numbers keep to behind k calls -/
def WA (k : Int) (A : PH) : Prop := (0 ≤ A 0 0 ∧ A 0 0 ≤ 12) ∧ (0 ≤ A 0 4 ∧ A 0 4 ≤ 20) ∧ (0 ≤ A 0 3 ∧ A 0 3 ≤ 40 * k) ∧ ∀ i : Int, 0 ≤ i → i < A 0 4 → (0 ≤ A 5 i ∧ A 5 i ≤ 40 * k) ∧ 0 ≤ A 2 i ∧ A 2 i ≤ 12
theorem WA.zero : WA 0 A0 := ⟨by decide, by decide, by decide, fun i h0 h1 => absurd h1 (by show ¬ i < 0; omega)⟩
theorem WA.mono {k k1 : Int} {A : PH} (h : WA k A) (hk : k ≤ k1) : WA k1 A := by
  obtain ⟨h1, h2, h3, h4⟩ := h
  exact ⟨h1, h2, by omega, fun i i0 i1 => by have q := h4 i i0 i1; omega⟩
theorem WA.push {k : Int} {A : PH} (h : WA k A) : WA k (aPush A) := by
  obtain ⟨h1, h2, h3, h4⟩ := h
  unfold aPush
  by_cases e : A 0 4 = 20
  · rw [if_pos e]
    refine ⟨by rw [aNow_0]; exact h1, by rw [aNow_0, if_pos rfl]; decide, by rw [aNow_0]; exact h3, fun i i0 i1 => ?_⟩
    rw [aNow_0, if_pos rfl] at i1
    rw [aNow_5, aNow_2]
    by_cases z : i = 19
    · rw [if_pos z, if_pos z]; exact ⟨h3, h1⟩
    · rw [if_neg z, if_neg z]; exact h4 (i + 1) (by omega) (by omega)
  · rw [if_neg e]
    refine ⟨by rw [aNow_0]; exact h1, by rw [aNow_0, if_pos rfl]; omega, by rw [aNow_0]; exact h3, fun i i0 i1 => ?_⟩
    rw [aNow_0, if_pos rfl] at i1
    rw [aNow_5, aNow_2]
    by_cases z : i = A 0 4
    · rw [if_pos z, if_pos z]; exact ⟨h3, h1⟩
    · rw [if_neg z, if_neg z, Int.add_zero]; exact h4 i i0 (by omega)
theorem WA.pop {k : Int} {A : PH} (h : WA k A) (h0 : 0 < A 0 4) : WA k (aPop A) := by
  obtain ⟨h1, h2, h3, h4⟩ := h
  have q := h4 (A 0 4 - 1) (by omega) (by omega)
  exact ⟨q.2, ⟨by show 0 ≤ A 0 4 - 1; omega, by show A 0 4 - 1 ≤ 20; omega⟩, q.1, fun i i0 i1 => h4 i i0 (by have i1 : i < A 0 4 - 1 := i1; omega)⟩
theorem WA.set {k c n r : Int} {A : PH} {a : Int → Int} (h : WA k A) (hc : 0 ≤ c ∧ c ≤ 12) : WA k (aSet A c n r a) := ⟨hc, h.2.1, h.2.2.1, h.2.2.2⟩
theorem WA.u5 {k j z : Int} {A : PH} (h : WA k A) (hj : j = 5 ∨ j = 6) : WA k (up A 0 j z) := by
  obtain ⟨h1, h2, h3, h4⟩ := h
  have e : ∀ q : Int, q < 5 → up A 0 j z 0 q = A 0 q := fun q hq => up_k (by omega)
  have e2 : ∀ o : Nat, o ≠ 0 → ∀ q : Int, up A 0 j z o q = A o q := fun o ho q => up_o ho
  exact ⟨by rw [e 0 (by decide)]; exact h1, by rw [e 4 (by decide)]; exact h2, by rw [e 3 (by decide)]; exact h3, fun i i0 i1 => by rw [e 4 (by decide)] at i1; rw [e2 5 (by decide), e2 2 (by decide)]; exact h4 i i0 i1⟩
/-! The reference's acts. -/
def AMe (A P : PH) (k s : Int) : Prop := P 35 s = A 2 k ∧ P 37 s = A 3 k ∧ P 38 s = A 4 k ∧ P 39 s = m40 (A 5 k) ∧ ∀ p : Int, 0 ≤ p → p < A 2 k → P 36 (12 * s + p) = A 6 (12 * k + p)
def AM (A P : PH) : Prop := (P 35 0 = A 0 0 ∧ P 37 0 = A 0 1 ∧ P 38 0 = A 0 2 ∧ P 39 0 = m40 (A 0 3) ∧ P 0 60 = A 0 4 ∧ P 0 61 = A 0 5 ∧ P 0 92 = A 0 6) ∧ (∀ p : Int, 0 ≤ p → p < A 0 0 → P 36 p = A 1 p) ∧ ∀ k : Int, 0 ≤ k → k < A 0 4 → AMe A P k (2 + (P 0 59 + k) % 20)
theorem AM.b {A P : PH} (h : AM A P) : P 35 0 = A 0 0 ∧ P 37 0 = A 0 1 ∧ P 38 0 = A 0 2 ∧ P 39 0 = m40 (A 0 3) ∧ P 0 60 = A 0 4 ∧ P 0 61 = A 0 5 ∧ P 0 92 = A 0 6 := h.1
theorem AM.fr {A P P1 : PH} {F : FS} (h : AM A P) (hf : FrM F P P1) (hd : disF F ([59, 60, 61, 92], [35, 36, 37, 38, 39]) = true) : AM A P1 := by
  unfold AM AMe at h ⊢
  rw [disF_k hd hf (k := 59) (by decide), disF_k hd hf (k := 60) (by decide), disF_k hd hf (k := 61) (by decide), disF_k hd hf (k := 92) (by decide), disF_o hd hf (o := 35) (by decide) rfl, disF_o hd hf (o := 36) (by decide) rfl, disF_o hd hf (o := 37) (by decide) rfl, disF_o hd hf (o := 38) (by decide) rfl, disF_o hd hf (o := 39) (by decide) rfl]
  exact h
/-- a row of acts is copied to place t from place f -/
def CY (t f : Int) (P P1 : PH) : Prop := (P1 35 t = P 35 f ∧ P1 37 t = P 37 f ∧ P1 38 t = P 38 f ∧ P1 39 t = P 39 f) ∧ (∀ p : Int, 0 ≤ p → p < 12 → P1 36 (12 * t + p) = P 36 (12 * f + p)) ∧
  (∀ j : Int, j ≠ t → P1 35 j = P 35 j ∧ P1 37 j = P 37 j ∧ P1 38 j = P 38 j ∧ P1 39 j = P 39 j) ∧ ∀ j : Int, j < 12 * t ∨ 12 * t + 12 ≤ j → P1 36 j = P 36 j
theorem AM.push {A P P1 : PH} {k : Int} (h : AM A P) (hw : WA k A) (hu : 0 ≤ P 0 59 ∧ P 0 59 ≤ 19) {t : Int} (hc : CY t 0 P P1)
    (ht : (A 0 4 = 20 ∧ P1 0 59 = (P 0 59 + 1) % 20 ∧ P1 0 60 = 20 ∧ t = 2 + (P1 0 59 + 19) % 20) ∨ (A 0 4 ≠ 20 ∧ P1 0 59 = P 0 59 ∧ P1 0 60 = A 0 4 + 1 ∧ t = 2 + (P 0 59 + A 0 4) % 20))
    (k61 : P1 0 61 = P 0 61) (k92 : P1 0 92 = P 0 92) : AM (aPush A) P1 := by
  obtain ⟨⟨b1, b2, b3, b4, b5, b6, b7⟩, ha, he⟩ := h
  obtain ⟨⟨c1, c2, c3, c4⟩, cp, co, cq⟩ := hc
  obtain ⟨w1, w2, w3, w4⟩ := hw
  have t2 : 2 ≤ t ∧ t ≤ 21 := by rcases ht with z | z <;> omega
  obtain ⟨o1, o2, o3, o4⟩ := co 0 (by omega)
  have o5 : ∀ p : Int, 0 ≤ p → p < 12 → P1 36 p = P 36 p := fun p p0 p1 => cq p (by omega)
  unfold aPush
  rcases ht with ⟨e, f1, f2, f3⟩ | ⟨e, f1, f2, f3⟩
  · rw [if_pos e]
    refine ⟨⟨by rw [o1]; exact b1, by rw [o2]; exact b2, by rw [o3]; exact b3, by rw [o4]; exact b4, by rw [f2]; rfl, by rw [k61]; exact b6, by rw [k92]; exact b7⟩, fun p p0 p1 => by rw [o5 p p0 (by have p1 : p < A 0 0 := p1; omega)]; exact ha p p0 p1, fun i i0 i1 => ?_⟩
    have i1 : i < 20 := i1
    unfold AMe
    rw [aNow_2, aNow_3, aNow_4, aNow_5]
    by_cases z : i = 19
    · rw [if_pos z, if_pos z, if_pos z, if_pos z, show 2 + (P1 0 59 + i) % 20 = t by rw [z]; exact f3.symm]
      refine ⟨c1.trans b1, c2.trans b2, c3.trans b3, c4.trans b4, fun p p0 p1 => ?_⟩
      rw [aNow_6, if_pos (by omega), cp p p0 (by omega), show 12 * 0 + p = p by omega, show 12 * i + p - 12 * 19 = p by omega]
      exact ha p p0 p1
    · rw [if_neg z, if_neg z, if_neg z, if_neg z]
      have hs : 2 + (P1 0 59 + i) % 20 = 2 + (P 0 59 + (i + 1)) % 20 := by rw [f1]; omega
      have hn : 2 + (P 0 59 + (i + 1)) % 20 ≠ t := by rw [f3, f1]; omega
      rw [hs]
      obtain ⟨g1, g2, g3, g4⟩ := co _ hn
      obtain ⟨d1, d2, d3, d4, d5⟩ := he (i + 1) (by omega) (by omega)
      refine ⟨g1.trans d1, g2.trans d2, g3.trans d3, g4.trans d4, fun p p0 p1 => ?_⟩
      have p2 := (w4 (i + 1) (by omega) (by omega)).2.2
      rw [aNow_6, if_neg (by omega), cq _ (by omega), show 12 * i + p + 12 * 1 = 12 * (i + 1) + p by omega]
      exact d5 p p0 p1
  · rw [if_neg e]
    refine ⟨⟨by rw [o1]; exact b1, by rw [o2]; exact b2, by rw [o3]; exact b3, by rw [o4]; exact b4, by rw [f2]; rfl, by rw [k61]; exact b6, by rw [k92]; exact b7⟩, fun p p0 p1 => by rw [o5 p p0 (by have p1 : p < A 0 0 := p1; omega)]; exact ha p p0 p1, fun i i0 i1 => ?_⟩
    have i1 : i < A 0 4 + 1 := i1
    unfold AMe
    rw [aNow_2, aNow_3, aNow_4, aNow_5, f1]
    by_cases z : i = A 0 4
    · rw [if_pos z, if_pos z, if_pos z, if_pos z, show 2 + (P 0 59 + i) % 20 = t by rw [z]; exact f3.symm]
      refine ⟨c1.trans b1, c2.trans b2, c3.trans b3, c4.trans b4, fun p p0 p1 => ?_⟩
      rw [aNow_6, if_pos (by omega), cp p p0 (by omega), show 12 * 0 + p = p by omega, show 12 * i + p - 12 * A 0 4 = p by omega]
      exact ha p p0 p1
    · rw [if_neg z, if_neg z, if_neg z, if_neg z, Int.add_zero]
      have hn : 2 + (P 0 59 + i) % 20 ≠ t := by rw [f3]; omega
      obtain ⟨g1, g2, g3, g4⟩ := co _ hn
      obtain ⟨d1, d2, d3, d4, d5⟩ := he i i0 (by omega)
      refine ⟨g1.trans d1, g2.trans d2, g3.trans d3, g4.trans d4, fun p p0 p1 => ?_⟩
      have p2 := (w4 i i0 (by omega)).2.2
      rw [aNow_6, if_neg (by omega), cq _ (by omega), show 12 * i + p + 12 * 0 = 12 * i + p by omega]
      exact d5 p p0 p1
theorem AM.pop {A P P1 : PH} {k : Int} (h : AM A P) (hw : WA k A) (h0 : 0 < A 0 4) (hu : 0 ≤ P 0 59 ∧ P 0 59 ≤ 19) (hc : CY 0 (2 + (P 0 59 + (A 0 4 - 1)) % 20) P P1) (k59 : P1 0 59 = P 0 59) (k60 : P1 0 60 = A 0 4 - 1) (k61 : P1 0 61 = P 0 61) (k92 : P1 0 92 = P 0 92) : AM (aPop A) P1 := by
  obtain ⟨⟨b1, b2, b3, b4, b5, b6, b7⟩, ha, he⟩ := h
  obtain ⟨⟨c1, c2, c3, c4⟩, cp, co, cq⟩ := hc
  obtain ⟨w1, w2, w3, w4⟩ := hw
  obtain ⟨d1, d2, d3, d4, d5⟩ := he (A 0 4 - 1) (by omega) (by omega)
  have p2 := (w4 (A 0 4 - 1) (by omega) (by omega)).2
  refine ⟨⟨c1.trans d1, c2.trans d2, c3.trans d3, c4.trans d4, k60, k61.trans b6, k92.trans b7⟩, fun p p0 p1 => ?_, fun i i0 i1 => ?_⟩
  · have p1 : p < A 2 (A 0 4 - 1) := p1
    have q := cp p p0 (by omega)
    rw [show 12 * 0 + p = p by omega] at q
    rw [q]
    exact d5 p p0 p1
  · have i1 : i < A 0 4 - 1 := i1
    obtain ⟨g1, g2, g3, g4, g5⟩ := he i i0 (by omega)
    obtain ⟨o1, o2, o3, o4⟩ := co (2 + (P 0 59 + i) % 20) (by omega)
    unfold AMe
    rw [k59]
    have p3 := (w4 i i0 (by omega)).2
    exact ⟨o1.trans g1, o2.trans g2, o3.trans g3, o4.trans g4, fun p p0 p1 => (cq _ (by omega)).trans (g5 p p0 p1)⟩
/-- another order now -/
theorem AM.set {A P P1 : PH} {k c n r : Int} {a : Int → Int} (h : AM A P) (hw : WA k A) (hu : 0 ≤ P 0 59 ∧ P 0 59 ≤ 19) (e1 : P1 35 0 = c) (e2 : P1 37 0 = n) (e3 : P1 38 0 = r) (ea : ∀ p : Int, 0 ≤ p → p < c → P1 36 p = a p)
    (k35 : ∀ j : Int, j ≠ 0 → P1 35 j = P 35 j) (k37 : ∀ j : Int, j ≠ 0 → P1 37 j = P 37 j) (k38 : ∀ j : Int, j ≠ 0 → P1 38 j = P 38 j) (k39 : ∀ j : Int, P1 39 j = P 39 j) (k36 : ∀ j : Int, 12 ≤ j → P1 36 j = P 36 j)
    (k59 : P1 0 59 = P 0 59) (k60 : P1 0 60 = P 0 60) (k61 : P1 0 61 = P 0 61) (k92 : P1 0 92 = P 0 92) : AM (aSet A c n r a) P1 := by
  obtain ⟨⟨b1, b2, b3, b4, b5, b6, b7⟩, ha, he⟩ := h
  refine ⟨⟨e1, e2, e3, (k39 0).trans b4, k60.trans b5, k61.trans b6, k92.trans b7⟩, ea, fun i i0 i1 => ?_⟩
  have w2 := hw.2.1
  have i1 : i < A 0 4 := i1
  obtain ⟨g1, g2, g3, g4, g5⟩ := he i i0 i1
  unfold AMe
  rw [k59]
  exact ⟨(k35 _ (by omega)).trans g1, (k37 _ (by omega)).trans g2, (k38 _ (by omega)).trans g3, (k39 _).trans g4, fun p p0 p1 => (k36 _ (by omega)).trans (g5 p p0 p1)⟩
theorem CY.row {t f : Int} {P P1 Q : PH} (h : CY t f P P1) (q35 : ∀ j : Int, P 35 j = Q 35 j) (q36 : ∀ j : Int, P 36 j = Q 36 j) (q37 : ∀ j : Int, P 37 j = Q 37 j) (q38 : ∀ j : Int, P 38 j = Q 38 j) (q39 : ∀ j : Int, P 39 j = Q 39 j) : CY t f Q P1 := by
  obtain ⟨⟨c1, c2, c3, c4⟩, cp, co, cq⟩ := h
  exact ⟨⟨c1.trans (q35 _), c2.trans (q37 _), c3.trans (q38 _), c4.trans (q39 _)⟩, fun p p0 p1 => (cp p p0 p1).trans (q36 _), fun j hj => ⟨(co j hj).1.trans (q35 _), (co j hj).2.1.trans (q37 _), (co j hj).2.2.1.trans (q38 _), (co j hj).2.2.2.trans (q39 _)⟩, fun j hj => (cq j hj).trans (q36 _)⟩
theorem CY.r0 {t f k z : Int} {P P1 : PH} (h : CY t f P P1) : CY t f P (up P1 0 k z) := by
  obtain ⟨⟨c1, c2, c3, c4⟩, cp, co, cq⟩ := h
  exact ⟨⟨(up_o (by decide)).trans c1, (up_o (by decide)).trans c2, (up_o (by decide)).trans c3, (up_o (by decide)).trans c4⟩, fun p p0 p1 => (up_o (by decide)).trans (cp p p0 p1), fun j hj => ⟨(up_o (by decide)).trans (co j hj).1, (up_o (by decide)).trans (co j hj).2.1, (up_o (by decide)).trans (co j hj).2.2.1, (up_o (by decide)).trans (co j hj).2.2.2⟩, fun j hj => (up_o (by decide)).trans (cq j hj)⟩
/-- scalars alone -/
theorem AM.sc {A P P1 : PH} {j z : Int} (h : AM A P) (hj : j = 3 ∨ j = 5 ∨ j = 6) (e39 : P1 39 0 = m40 (up A 0 j z 0 3)) (e61 : P1 0 61 = up A 0 j z 0 5) (e92 : P1 0 92 = up A 0 j z 0 6) (k59 : P1 0 59 = P 0 59) (k60 : P1 0 60 = P 0 60)
    (k35 : ∀ q : Int, P1 35 q = P 35 q) (k36 : ∀ q : Int, P1 36 q = P 36 q) (k37 : ∀ q : Int, P1 37 q = P 37 q) (k38 : ∀ q : Int, P1 38 q = P 38 q) (k39 : ∀ q : Int, q ≠ 0 → P1 39 q = P 39 q) : AM (up A 0 j z) P1 := by
  obtain ⟨⟨b1, b2, b3, b4, b5, b6, b7⟩, ha, he⟩ := h
  have e : ∀ q : Int, q ≠ j → up A 0 j z 0 q = A 0 q := fun q hq => up_k hq
  have e2 : ∀ o : Nat, o ≠ 0 → ∀ q : Int, up A 0 j z o q = A o q := fun o ho q => up_o ho
  refine ⟨⟨by rw [k35, e 0 (by omega)]; exact b1, by rw [k37, e 1 (by omega)]; exact b2, by rw [k38, e 2 (by omega)]; exact b3, e39, by rw [k60, e 4 (by omega)]; exact b5, e61, e92⟩, fun p p0 p1 => by rw [e 0 (by omega)] at p1; rw [k36, e2 1 (by decide)]; exact ha p p0 p1, fun i i0 i1 => ?_⟩
  rw [e 4 (by omega)] at i1
  obtain ⟨g1, g2, g3, g4, g5⟩ := he i i0 i1
  unfold AMe
  rw [k59, e2 2 (by decide), e2 3 (by decide), e2 4 (by decide), e2 5 (by decide)]
  refine ⟨(k35 _).trans g1, (k37 _).trans g2, (k38 _).trans g3, (k39 _ (by omega)).trans g4, fun p p0 p1 => ?_⟩
  rw [k36, e2 6 (by decide)]
  exact g5 p p0 p1
/-! What each act makes of them. -/
def aBeg (A : PH) (c r : Int) : PH := fun o k => if o = 0 then (if k = 0 then c else if k = 1 then 255 else if k = 2 then r else if k = 5 then A 0 5 else 0) else if o = 1 then k else A o k
noncomputable def aSwap (A : PH) (a b : Int) : PH := if (0 ≤ a ∧ a < A 0 0) ∧ (0 ≤ b ∧ b < A 0 0) ∧ a ≠ b then aSet (aPush A) (A 0 0) (A 0 1) (A 0 2) (fun p => if p = a then A 1 b else if p = b then A 1 a else A 1 p) else A
noncomputable def aDrop (A : PH) (p : Int) : PH := if 0 ≤ p ∧ p < A 0 0 then aSet (aPush A) (A 0 0 - 1) (A 0 1) (A 0 2) (fun q => if q < p then A 1 q else A 1 (q + 1)) else A
noncomputable def aTurn (A M : PH) (g : Int) : PH := if 0 < M 0 0 ∧ 0 ≤ g ∧ g ≤ 7 then aSet (aPush A) (A 0 0) (ixor (A 0 1) (ishl 1 g)) (A 0 2) (A 1) else A
noncomputable def aRule (A M : PH) (r : Int) : PH := if 0 < M 0 0 ∧ 0 ≤ r ∧ r ≤ 3 ∧ A 0 2 ≠ r then aSet (aPush A) (A 0 0) (A 0 1) r (A 1) else A
def aSeed (A : PH) (v : Int) : PH := if 0 ≤ v then up A 0 5 v else A
noncomputable def aUndo (A : PH) : PH := if A 0 4 ≤ 0 then A else aPop A
theorem aSwap_y {A : PH} {a b : Int} (h : (0 ≤ a ∧ a < A 0 0) ∧ (0 ≤ b ∧ b < A 0 0) ∧ a ≠ b) : aSwap A a b = aSet (aPush A) (A 0 0) (A 0 1) (A 0 2) (fun p => if p = a then A 1 b else if p = b then A 1 a else A 1 p) := by unfold aSwap; rw [if_pos h]
theorem aSwap_n {A : PH} {a b : Int} (h : ¬ ((0 ≤ a ∧ a < A 0 0) ∧ (0 ≤ b ∧ b < A 0 0) ∧ a ≠ b)) : aSwap A a b = A := by unfold aSwap; rw [if_neg h]
theorem aDrop_y {A : PH} {p : Int} (h : 0 ≤ p ∧ p < A 0 0) : aDrop A p = aSet (aPush A) (A 0 0 - 1) (A 0 1) (A 0 2) (fun q => if q < p then A 1 q else A 1 (q + 1)) := by unfold aDrop; rw [if_pos h]
theorem aDrop_n {A : PH} {p : Int} (h : ¬ (0 ≤ p ∧ p < A 0 0)) : aDrop A p = A := by unfold aDrop; rw [if_neg h]
theorem aTurn_y {A M : PH} {g : Int} (h : 0 < M 0 0 ∧ 0 ≤ g ∧ g ≤ 7) : aTurn A M g = aSet (aPush A) (A 0 0) (ixor (A 0 1) (ishl 1 g)) (A 0 2) (A 1) := by unfold aTurn; rw [if_pos h]
theorem aTurn_n {A M : PH} {g : Int} (h : ¬ (0 < M 0 0 ∧ 0 ≤ g ∧ g ≤ 7)) : aTurn A M g = A := by unfold aTurn; rw [if_neg h]
theorem aRule_y {A M : PH} {r : Int} (h : 0 < M 0 0 ∧ 0 ≤ r ∧ r ≤ 3 ∧ A 0 2 ≠ r) : aRule A M r = aSet (aPush A) (A 0 0) (A 0 1) r (A 1) := by unfold aRule; rw [if_pos h]
theorem aRule_n {A M : PH} {r : Int} (h : ¬ (0 < M 0 0 ∧ 0 ≤ r ∧ r ≤ 3 ∧ A 0 2 ≠ r)) : aRule A M r = A := by unfold aRule; rw [if_neg h]
theorem aSeed_y {A : PH} {v : Int} (h : 0 ≤ v) : aSeed A v = up A 0 5 v := by unfold aSeed; rw [if_pos h]
theorem aSeed_n {A : PH} {v : Int} (h : v < 0) : aSeed A v = A := by unfold aSeed; rw [if_neg (by omega)]
theorem aUndo_y {A : PH} (h : 0 < A 0 4) : aUndo A = aPop A := by unfold aUndo; rw [if_neg (by omega)]
theorem aUndo_n {A : PH} (h : A 0 4 ≤ 0) : aUndo A = A := by unfold aUndo; rw [if_pos h]
theorem WA.swap {k a b : Int} {A : PH} (h : WA k A) : WA k (aSwap A a b) := by
  unfold aSwap; split
  · exact WA.set h.push h.1
  · exact h
theorem WA.drop {k p : Int} {A : PH} (h : WA k A) : WA k (aDrop A p) := by
  unfold aDrop; split
  · have q := h.1; exact WA.set h.push (by omega)
  · exact h
theorem WA.turn {k g : Int} {A M : PH} (h : WA k A) : WA k (aTurn A M g) := by
  unfold aTurn; split
  · exact WA.set h.push h.1
  · exact h
theorem WA.rule {k r : Int} {A M : PH} (h : WA k A) : WA k (aRule A M r) := by
  unfold aRule; split
  · exact WA.set h.push h.1
  · exact h
theorem WA.seed {k v : Int} {A : PH} (h : WA k A) : WA k (aSeed A v) := by
  unfold aSeed; split
  · exact h.u5 (Or.inl rfl)
  · exact h
theorem WA.undo {k : Int} {A : PH} (h : WA k A) : WA k (aUndo A) := by
  unfold aUndo; split
  · exact h
  · exact h.pop (by omega)
theorem WA.beg {k c r : Int} {A : PH} (hc : 0 ≤ c ∧ c ≤ 12) (hk : 0 ≤ k) : WA k (aBeg A c r) := ⟨hc, by show (0 : Int) ≤ 0 ∧ (0 : Int) ≤ 20; decide, by show (0 : Int) ≤ 0 ∧ (0 : Int) ≤ 40 * k; omega, fun i h0 h1 => absurd h1 (by show ¬ i < 0; omega)⟩
section AMS
variable {A M P P1 : PH} {k : Int}
theorem AM.sw {a b : Int} (h : AM (aPush A) P) (hw : WA k A) (hu : 0 ≤ P 0 59 ∧ P 0 59 ≤ 19) (hab : (0 ≤ a ∧ a < A 0 0) ∧ (0 ≤ b ∧ b < A 0 0) ∧ a ≠ b) (x1 : P1 36 ((12 * 0) + a) = P 36 ((12 * 0) + b)) (x2 : P1 36 ((12 * 0) + b) = P 36 ((12 * 0) + a)) (xo : ∀ j : Int, j ≠ (12 * 0) + a → j ≠ (12 * 0) + b → P1 36 j = P 36 j) (hf : FrM ([], [36]) P P1) : AM (aSwap A a b) P1 := by
  rw [aSwap_y hab]
  have w1 := hw.1
  have hb := h.b
  have ha : ∀ p : Int, 0 ≤ p → p < A 0 0 → P 36 p = A 1 p := fun p p0 p1 => (h.2.1 p p0 (by rw [aPush_0 A 0 (by decide)]; exact p1)).trans (aPush_1 A p)
  have e : ∀ z : Int, 12 * 0 + z = z := fun z => by omega
  rw [e, e] at x1 x2
  refine AM.set h hw.push hu ((congrFun (hf.2 35 rfl rfl) 0).trans (hb.1.trans (aPush_0 A 0 (by decide)))) ((congrFun (hf.2 37 rfl rfl) 0).trans (hb.2.1.trans (aPush_0 A 1 (by decide)))) ((congrFun (hf.2 38 rfl rfl) 0).trans (hb.2.2.1.trans (aPush_0 A 2 (by decide)))) (fun p p0 p1 => ?_) (fun j _ => congrFun (hf.2 35 rfl rfl) j) (fun j _ => congrFun (hf.2 37 rfl rfl) j) (fun j _ => congrFun (hf.2 38 rfl rfl) j) (fun j => congrFun (hf.2 39 rfl rfl) j) (fun j hj => xo j (by omega) (by omega)) (hf.1 59 rfl) (hf.1 60 rfl) (hf.1 61 rfl) (hf.1 92 rfl)
  show P1 36 p = if p = a then A 1 b else if p = b then A 1 a else A 1 p
  by_cases z : p = a
  · rw [if_pos z, z, x1]; exact ha b hab.2.1.1 hab.2.1.2
  · rw [if_neg z]
    by_cases z2 : p = b
    · rw [if_pos z2, z2, x2]; exact ha a hab.1.1 hab.1.2
    · rw [if_neg z2, xo p (by omega) (by omega)]; exact ha p p0 p1
theorem AM.dr {p : Int} (h : AM (aPush A) P) (hw : WA k A) (hu : 0 ≤ P 0 59 ∧ P 0 59 ≤ 19) (hp : 0 ≤ p ∧ p < A 0 0) (e35 : P1 35 0 = P 35 0 - 1) (k35 : ∀ j : Int, j ≠ 0 → P1 35 j = P 35 j) (el : ∀ q : Int, q < p → P1 36 q = P 36 q) (er : ∀ q : Int, p ≤ q → q + 1 < P 35 0 → P1 36 q = P 36 (q + 1)) (k36 : ∀ j : Int, 12 ≤ j → P1 36 j = P 36 j) (hf : FrM ([], [35, 36]) P P1) : AM (aDrop A p) P1 := by
  rw [aDrop_y hp]
  have w1 := hw.1
  have hb := h.b
  have h35 : P 35 0 = A 0 0 := hb.1.trans (aPush_0 A 0 (by decide))
  have ha : ∀ q : Int, 0 ≤ q → q < A 0 0 → P 36 q = A 1 q := fun q q0 q1 => (h.2.1 q q0 (by rw [aPush_0 A 0 (by decide)]; exact q1)).trans (aPush_1 A q)
  refine AM.set h hw.push hu (by omega) ((congrFun (hf.2 37 rfl rfl) 0).trans (hb.2.1.trans (aPush_0 A 1 (by decide)))) ((congrFun (hf.2 38 rfl rfl) 0).trans (hb.2.2.1.trans (aPush_0 A 2 (by decide)))) (fun q q0 q1 => ?_) k35 (fun j _ => congrFun (hf.2 37 rfl rfl) j) (fun j _ => congrFun (hf.2 38 rfl rfl) j) (fun j => congrFun (hf.2 39 rfl rfl) j) k36 (hf.1 59 rfl) (hf.1 60 rfl) (hf.1 61 rfl) (hf.1 92 rfl)
  show P1 36 q = if q < p then A 1 q else A 1 (q + 1)
  by_cases z : q < p
  · rw [if_pos z, el q z]; exact ha q q0 (by omega)
  · rw [if_neg z, er q (by omega) (by omega)]; exact ha (q + 1) (by omega) (by omega)
theorem AM.on {c : Int} (h : AM (aPush A) P) (hw : WA k A) (hu : 0 ≤ P 0 59 ∧ P 0 59 ≤ 19) (e37 : P1 37 0 = c) (k37 : ∀ j : Int, j ≠ 0 → P1 37 j = P 37 j) (hf : FrM ([], [37]) P P1) : AM (aSet (aPush A) (A 0 0) c (A 0 2) (A 1)) P1 := by
  have hb := h.b
  exact AM.set h hw.push hu ((congrFun (hf.2 35 rfl rfl) 0).trans (hb.1.trans (aPush_0 A 0 (by decide)))) e37 ((congrFun (hf.2 38 rfl rfl) 0).trans (hb.2.2.1.trans (aPush_0 A 2 (by decide)))) (fun p p0 p1 => (congrFun (hf.2 36 rfl rfl) p).trans ((h.2.1 p p0 (by rw [aPush_0 A 0 (by decide)]; exact p1)).trans (aPush_1 A p))) (fun j _ => congrFun (hf.2 35 rfl rfl) j) k37 (fun j _ => congrFun (hf.2 38 rfl rfl) j) (fun j => congrFun (hf.2 39 rfl rfl) j) (fun j _ => congrFun (hf.2 36 rfl rfl) j) (hf.1 59 rfl) (hf.1 60 rfl) (hf.1 61 rfl) (hf.1 92 rfl)
theorem AM.ru {c : Int} (h : AM (aPush A) P) (hw : WA k A) (hu : 0 ≤ P 0 59 ∧ P 0 59 ≤ 19) (e38 : P1 38 0 = c) (k38 : ∀ j : Int, j ≠ 0 → P1 38 j = P 38 j) (hf : FrM ([], [38]) P P1) : AM (aSet (aPush A) (A 0 0) (A 0 1) c (A 1)) P1 := by
  have hb := h.b
  exact AM.set h hw.push hu ((congrFun (hf.2 35 rfl rfl) 0).trans (hb.1.trans (aPush_0 A 0 (by decide)))) ((congrFun (hf.2 37 rfl rfl) 0).trans (hb.2.1.trans (aPush_0 A 1 (by decide)))) e38 (fun p p0 p1 => (congrFun (hf.2 36 rfl rfl) p).trans ((h.2.1 p p0 (by rw [aPush_0 A 0 (by decide)]; exact p1)).trans (aPush_1 A p))) (fun j _ => congrFun (hf.2 35 rfl rfl) j) (fun j _ => congrFun (hf.2 37 rfl rfl) j) k38 (fun j => congrFun (hf.2 39 rfl rfl) j) (fun j _ => congrFun (hf.2 36 rfl rfl) j) (hf.1 59 rfl) (hf.1 60 rfl) (hf.1 61 rfl) (hf.1 92 rfl)
end AMS
theorem AM.sd {A P P1 : PH} {v : Int} (h : AM A P) (e61 : P1 0 61 = v) (hf : FrM ([61], []) P P1) : AM (up A 0 5 v) P1 := by
  have hb := h.b
  exact AM.sc h (Or.inr (Or.inl rfl)) (by rw [up_k (by decide), hf.2 39 rfl rfl]; exact hb.2.2.2.1) (by rw [up_same]; exact e61) (by rw [up_k (by decide)]; exact (hf.1 92 rfl).trans hb.2.2.2.2.2.2) (hf.1 59 rfl) (hf.1 60 rfl) (fun q => congrFun (hf.2 35 rfl rfl) q) (fun q => congrFun (hf.2 36 rfl rfl) q) (fun q => congrFun (hf.2 37 rfl rfl) q) (fun q => congrFun (hf.2 38 rfl rfl) q) (fun q _ => congrFun (hf.2 39 rfl rfl) q)
end
section
/-! Which order an object is part of; what a method leaves of the others. -/
def orX (x : Nat) : Nat := if x = 14 ∨ x = 15 then 14 else if x = 16 ∨ x = 17 then 16 else if 23 ≤ x ∧ x ≤ 62 then 23 + 2 * ((x - 23) / 2) else 0
def KO (t : Nat) (P P1 : PH) : Prop := ∀ x : Nat, x < 154 → orX x ≠ 0 → orX x ≠ t → ∀ j : Int, P1 x j = P x j
theorem KO.rf {t : Nat} {P : PH} : KO t P P := fun _ _ _ _ _ => rfl
theorem KO.w {t : Nat} {P P1 : PH} {x : Nat} {j z : Int} (h : KO t P P1) (hx : orX x = t ∨ orX x = 0) : KO t P (up P1 x j z) := fun y h1 h2 h3 k => by
  have hne : y ≠ x := fun e => by
    subst e
    rcases hx with q | q
    · exact h3 q
    · exact h2 q
  rw [up_o hne]
  exact h y h1 h2 h3 k
theorem KO.t {t : Nat} {P P1 P2 : PH} (h : KO t P P1) (h2 : KO t P1 P2) : KO t P P2 := fun x a b c j => (h2 x a b c j).trans (h x a b c j)
def nO (F : FSX) : Bool := F.1.all (fun q => !(q.1 == 14) && !(q.1 == 15)) && F.2.all (fun k => !(k == 14) && !(k == 15))
theorem or_kd : ∀ x : Nat, x < 154 → orX x ≠ 0 → kdX x = 14 ∨ kdX x = 15 := by decide +kernel
theorem nO_in {F : FSX} (h : nO F = true) {k : Nat} (hk : k = 14 ∨ k = 15) (j : Int) : inF F k j = false := by
  unfold nO at h
  rw [Bool.and_eq_true] at h
  unfold inF
  rw [Bool.or_eq_false_iff]
  refine ⟨?_, ?_⟩
  · cases e : F.2.contains k with
    | false => rfl
    | true =>
      exfalso
      have q := List.all_eq_true.mp h.2 k (List.contains_iff_mem.mp e)
      rcases hk with z | z <;> (subst z; exact absurd q (by decide))
  · cases e : F.1.any fun q => q.1 == k && q.2 == j with
    | false => rfl
    | true =>
      exfalso
      obtain ⟨q, hq, he⟩ := List.any_eq_true.mp e
      have w := List.all_eq_true.mp h.1 q hq
      rw [Bool.and_eq_true, beq_iff_eq] at he
      rw [he.1] at w
      rcases hk with z | z <;> (subst z; exact absurd w (by decide))
theorem KO.fr {t : Nat} {P P1 P2 : PH} {F : FSX} (h : KO t P P1) (hf : FrX F P1 P2) (hd : nO F = true) : KO t P P2 := fun x a b c j => (hf x j a (nO_in hd (or_kd x a b) j)).trans (h x a b c j)
theorem or14 {o : Nat} (h : kx o 14) : orX o = o ∧ o ≠ 0 ∧ orX (crX o 0) = o ∧ crX o 0 < 154 := (show ∀ o : Nat, o < 154 → kdX o = 14 → orX o = o ∧ o ≠ 0 ∧ orX (crX o 0) = o ∧ crX o 0 < 154 by decide +kernel) o h.1 h.2
theorem OB.c {t x : Nat} (h : orX x = t) (hx : kx x 14) : orX (crX x 0) = t ∨ orX (crX x 0) = 0 := Or.inl (by rw [(or14 hx).2.2.1, ← (or14 hx).1]; exact h)
theorem OB.no {t x k : Nat} (h : kx x k) (hk : k ≠ 14 ∧ k ≠ 15) : orX x = t ∨ orX x = 0 := by
  by_cases e : orX x = 0
  · exact Or.inr e
  · exfalso
    have q := or_kd x h.1 e
    rw [h.2] at q
    omega
theorem KO.o {t o : Nat} {P P1 : PH} (h : KO t P P1) (ho : kx o 14) (hn : o ≠ t) (j : Int) : P1 o j = P o j := h o ho.1 (by rw [(or14 ho).1]; exact (or14 ho).2.1) (by rw [(or14 ho).1]; exact hn) j
theorem KO.a {t o : Nat} {P P1 : PH} (h : KO t P P1) (ho : kx o 14) (hn : o ≠ t) (j : Int) : P1 (crX o 0) j = P (crX o 0) j := h _ (or14 ho).2.2.2 (by rw [(or14 ho).2.2.1]; exact (or14 ho).2.1) (by rw [(or14 ho).2.2.1]; exact hn) j
theorem ah_k : ∀ s : Nat, s < 20 → crX 22 s = 23 + 2 * s ∧ kdX (crX 22 s) = 14 ∧ crX 22 s < 154 ∧ crX (crX 22 s) 0 = 24 + 2 * s := by decide +kernel
theorem ah {s : Nat} (h : s < 20) : crX 22 s = 23 + 2 * s ∧ kx (crX 22 s) 14 := ⟨(ah_k s h).1, (ah_k s h).2.2.1, (ah_k s h).2.1⟩
/-! The class's acts. -/
def AXe (A P : PH) (k s : Int) : Prop := P (crX 22 s.toNat) 1 = A 2 k ∧ P (crX 22 s.toNat) 2 = A 3 k ∧ P (crX 22 s.toNat) 3 = A 4 k ∧ P 63 s = A 5 k ∧ ∀ p : Int, 0 ≤ p → p < A 2 k → P (crX (crX 22 s.toNat) 0) p = A 6 (12 * k + p)
def AX (A P : PH) : Prop := (P 14 1 = A 0 0 ∧ P 14 2 = A 0 1 ∧ P 14 3 = A 0 2 ∧ P 18 5 = A 0 3 ∧ P 18 7 = A 0 4 ∧ P 0 14 = A 0 5 ∧ P 64 2 = A 0 6) ∧ (∀ p : Int, 0 ≤ p → p < A 0 0 → P 15 p = A 1 p) ∧ ∀ k : Int, 0 ≤ k → k < A 0 4 → AXe A P k ((P 18 6 - P 18 7 + k) % 20)
theorem AX.b {A P : PH} (h : AX A P) : P 14 1 = A 0 0 ∧ P 14 2 = A 0 1 ∧ P 14 3 = A 0 2 ∧ P 18 5 = A 0 3 ∧ P 18 7 = A 0 4 ∧ P 0 14 = A 0 5 ∧ P 64 2 = A 0 6 := h.1
/-- from what is left of the acts' own cells -/
theorem AX.same {A P P1 : PH} (h : AX A P) (q14 : ∀ x : Nat, x < 154 → orX x ≠ 0 → orX x ≠ 16 → ∀ j : Int, P1 x j = P x j) (q5 : P1 18 5 = P 18 5) (q6 : P1 18 6 = P 18 6) (q7 : P1 18 7 = P 18 7) (q0 : P1 0 14 = P 0 14) (q64 : P1 64 2 = P 64 2) (q63 : ∀ j : Int, P1 63 j = P 63 j) : AX A P1 := by
  obtain ⟨⟨b1, b2, b3, b4, b5, b6, b7⟩, ha, he⟩ := h
  have r14 : ∀ j : Int, P1 14 j = P 14 j := q14 14 (by decide) (by decide) (by decide)
  have r15 : ∀ j : Int, P1 15 j = P 15 j := q14 15 (by decide) (by decide) (by decide)
  refine ⟨⟨by rw [r14]; exact b1, by rw [r14]; exact b2, by rw [r14]; exact b3, by rw [q5]; exact b4, by rw [q7]; exact b5, by rw [q0]; exact b6, by rw [q64]; exact b7⟩, fun p p0 p1 => by rw [r15]; exact ha p p0 p1, fun k k0 k1 => ?_⟩
  rw [q6, q7]
  have hs : (P 18 6 - P 18 7 + k) % 20 < 20 ∧ 0 ≤ (P 18 6 - P 18 7 + k) % 20 := by omega
  have hk := ah (s := ((P 18 6 - P 18 7 + k) % 20).toNat) (by omega)
  have hn : crX 22 ((P 18 6 - P 18 7 + k) % 20).toNat ≠ 16 := by omega
  obtain ⟨d1, d2, d3, d4, d5⟩ := he k k0 k1
  have ho := or14 hk.2
  have ro : ∀ j : Int, P1 (crX 22 ((P 18 6 - P 18 7 + k) % 20).toNat) j = P (crX 22 ((P 18 6 - P 18 7 + k) % 20).toNat) j := q14 _ hk.2.1 (by rw [ho.1]; exact ho.2.1) (by rw [ho.1]; exact hn)
  have ra : ∀ j : Int, P1 (crX (crX 22 ((P 18 6 - P 18 7 + k) % 20).toNat) 0) j = P (crX (crX 22 ((P 18 6 - P 18 7 + k) % 20).toNat) 0) j := q14 _ ho.2.2.2 (by rw [ho.2.2.1]; exact ho.2.1) (by rw [ho.2.2.1]; exact hn)
  exact ⟨(ro 1).trans d1, (ro 2).trans d2, (ro 3).trans d3, (q63 _).trans d4, fun p p0 p1 => (ra p).trans (d5 p p0 p1)⟩
theorem AX.fr {A P P1 : PH} {F : FSX} (h : AX A P) (hf : FrX F P P1) (hd : disX F ([(0, 14), (14, 1), (14, 2), (14, 3), (16, 5), (16, 6), (16, 7), (22, 2)], [15, 21]) = true) : AX A P1 := by
  obtain ⟨⟨b1, b2, b3, b4, b5, b6, b7⟩, ha, he⟩ := h
  have e14 : ∀ o : Nat, kx o 14 → P1 o 1 = P o 1 ∧ P1 o 2 = P o 2 ∧ P1 o 3 = P o 3 := fun o ho => ⟨disX_f hd hf (j := 1) ho (by decide), disX_f hd hf (j := 2) ho (by decide), disX_f hd hf (j := 3) ho (by decide)⟩
  have e18 : P1 18 5 = P 18 5 ∧ P1 18 6 = P 18 6 ∧ P1 18 7 = P 18 7 := ⟨disX_f hd hf (o := 18) (k := 16) (j := 5) ⟨by decide, rfl⟩ (by decide), disX_f hd hf (o := 18) (k := 16) (j := 6) ⟨by decide, rfl⟩ (by decide), disX_f hd hf (o := 18) (k := 16) (j := 7) ⟨by decide, rfl⟩ (by decide)⟩
  have ea : ∀ o : Nat, kx o 14 → ∀ j : Int, P1 (crX o 0) j = P (crX o 0) j := fun o ho j => disX_a hd hf (o := crX o 0) (k := 15) (ck_14_0 ho) (by decide) j
  have e63 : ∀ j : Int, P1 63 j = P 63 j := fun j => disX_a hd hf (o := 63) (k := 21) ⟨by decide, rfl⟩ (by decide) j
  have k14 : kx 14 14 := ⟨by decide, rfl⟩
  have a14 := e14 14 k14
  refine ⟨⟨a14.1.trans b1, a14.2.1.trans b2, a14.2.2.trans b3, e18.1.trans b4, e18.2.2.trans b5, (disX_f hd hf (o := 0) (k := 0) (j := 14) ⟨by decide, rfl⟩ (by decide)).trans b6, (disX_f hd hf (o := 64) (k := 22) (j := 2) ⟨by decide, rfl⟩ (by decide)).trans b7⟩, fun p p0 p1 => (ea 14 k14 p).trans (ha p p0 p1), fun k k0 k1 => ?_⟩
  rw [e18.2.1, e18.2.2]
  have hs : (P 18 6 - P 18 7 + k) % 20 < 20 ∧ 0 ≤ (P 18 6 - P 18 7 + k) % 20 := by omega
  have hk := ah (s := ((P 18 6 - P 18 7 + k) % 20).toNat) (by omega)
  obtain ⟨d1, d2, d3, d4, d5⟩ := he k k0 k1
  have q := e14 _ hk.2
  exact ⟨q.1.trans d1, q.2.1.trans d2, q.2.2.trans d3, (e63 _).trans d4, fun p p0 p1 => (ea _ hk.2 p).trans (d5 p p0 p1)⟩
theorem AX.push {A P P1 : PH} {k s : Int} (h : AX A P) (hw : WA k A) (hn : 0 ≤ P 18 6 ∧ P 18 6 ≤ 20) (hs : s = P 18 6 % 20) (e5 : P1 18 5 = P 18 5) (e6 : P1 18 6 = s + 1) (e7 : (P 18 7 ≤ 19 ∧ P1 18 7 = P 18 7 + 1) ∨ (20 ≤ P 18 7 ∧ P1 18 7 = 20)) (e63 : P1 63 s = P 18 5) (k63 : ∀ j : Int, j ≠ s → P1 63 j = P 63 j)
    (c1 : P1 (crX 22 s.toNat) 1 = P 14 1) (c2 : P1 (crX 22 s.toNat) 2 = P 14 2) (c3 : P1 (crX 22 s.toNat) 3 = P 14 3) (ca : ∀ p : Int, 0 ≤ p → p < 12 → P1 (crX (crX 22 s.toNat) 0) p = P 15 p) (ko : KO (crX 22 s.toNat) P P1) (k0 : P1 0 14 = P 0 14) (k64 : P1 64 2 = P 64 2) : AX (aPush A) P1 := by
  obtain ⟨⟨b1, b2, b3, b4, b5, b6, b7⟩, ha, he⟩ := h
  obtain ⟨w1, w2, w3, w4⟩ := hw
  have s20 : 0 ≤ s ∧ s < 20 := by omega
  have hk := ah (s := s.toNat) (by omega)
  have k14 : kx 14 14 := ⟨by decide, rfl⟩
  have n14 : 14 ≠ crX 22 s.toNat := by omega
  have o14 : ∀ j : Int, P1 14 j = P 14 j := ko.o k14 n14
  have o15 : ∀ j : Int, P1 15 j = P 15 j := ko.a k14 n14
  have oth : ∀ t : Int, 0 ≤ t → t < 20 → t ≠ s → (∀ j : Int, P1 (crX 22 t.toNat) j = P (crX 22 t.toNat) j) ∧ ∀ j : Int, P1 (crX (crX 22 t.toNat) 0) j = P (crX (crX 22 t.toNat) 0) j := fun t t0 t1 t2 => by
    have ht := ah (s := t.toNat) (by omega)
    have nt : crX 22 t.toNat ≠ crX 22 s.toNat := by omega
    exact ⟨ko.o ht.2 nt, ko.a ht.2 nt⟩
  unfold aPush
  by_cases e : A 0 4 = 20
  · rw [if_pos e]
    refine ⟨⟨by rw [o14]; exact b1, by rw [o14]; exact b2, by rw [o14]; exact b3, by rw [e5]; exact b4, by rw [aNow_0, if_pos rfl]; omega, by rw [k0]; exact b6, by rw [k64]; exact b7⟩, fun p p0 p1 => by rw [o15]; exact ha p p0 p1, fun i i0 i1 => ?_⟩
    have i1 : i < 20 := i1
    unfold AXe
    rw [aNow_2, aNow_3, aNow_4, aNow_5]
    by_cases z : i = 19
    · rw [if_pos z, if_pos z, if_pos z, if_pos z, show (P1 18 6 - P1 18 7 + i) % 20 = s by omega]
      refine ⟨c1.trans b1, c2.trans b2, c3.trans b3, e63.trans b4, fun p p0 p1 => ?_⟩
      rw [aNow_6, if_pos (by omega), ca p p0 (by omega), show 12 * i + p - 12 * 19 = p by omega]
      exact ha p p0 p1
    · rw [if_neg z, if_neg z, if_neg z, if_neg z]
      have hs2 : (P1 18 6 - P1 18 7 + i) % 20 = (P 18 6 - P 18 7 + (i + 1)) % 20 := by omega
      rw [hs2]
      obtain ⟨g1, g2⟩ := oth ((P 18 6 - P 18 7 + (i + 1)) % 20) (by omega) (by omega) (by omega)
      obtain ⟨d1, d2, d3, d4, d5⟩ := he (i + 1) (by omega) (by omega)
      refine ⟨(g1 1).trans d1, (g1 2).trans d2, (g1 3).trans d3, (k63 _ (by omega)).trans d4, fun p p0 p1 => ?_⟩
      have p2 := (w4 (i + 1) (by omega) (by omega)).2.2
      rw [aNow_6, if_neg (by omega), g2, show 12 * i + p + 12 * 1 = 12 * (i + 1) + p by omega]
      exact d5 p p0 p1
  · rw [if_neg e]
    refine ⟨⟨by rw [o14]; exact b1, by rw [o14]; exact b2, by rw [o14]; exact b3, by rw [e5]; exact b4, by rw [aNow_0, if_pos rfl]; omega, by rw [k0]; exact b6, by rw [k64]; exact b7⟩, fun p p0 p1 => by rw [o15]; exact ha p p0 p1, fun i i0 i1 => ?_⟩
    have i1 : i < A 0 4 + 1 := i1
    unfold AXe
    rw [aNow_2, aNow_3, aNow_4, aNow_5]
    by_cases z : i = A 0 4
    · rw [if_pos z, if_pos z, if_pos z, if_pos z, show (P1 18 6 - P1 18 7 + i) % 20 = s by omega]
      refine ⟨c1.trans b1, c2.trans b2, c3.trans b3, e63.trans b4, fun p p0 p1 => ?_⟩
      rw [aNow_6, if_pos (by omega), ca p p0 (by omega), show 12 * i + p - 12 * A 0 4 = p by omega]
      exact ha p p0 p1
    · rw [if_neg z, if_neg z, if_neg z, if_neg z, Int.add_zero]
      have hs2 : (P1 18 6 - P1 18 7 + i) % 20 = (P 18 6 - P 18 7 + i) % 20 := by omega
      rw [hs2]
      obtain ⟨g1, g2⟩ := oth ((P 18 6 - P 18 7 + i) % 20) (by omega) (by omega) (by omega)
      obtain ⟨d1, d2, d3, d4, d5⟩ := he i i0 (by omega)
      refine ⟨(g1 1).trans d1, (g1 2).trans d2, (g1 3).trans d3, (k63 _ (by omega)).trans d4, fun p p0 p1 => ?_⟩
      have p2 := (w4 i i0 (by omega)).2.2
      rw [aNow_6, if_neg (by omega), g2, show 12 * i + p + 12 * 0 = 12 * i + p by omega]
      exact d5 p p0 p1
theorem AX.pop {A P P1 : PH} {k s : Int} (h : AX A P) (hw : WA k A) (h0 : 0 < A 0 4) (hn : 0 ≤ P 18 6 ∧ P 18 6 ≤ 20) (hs : s = (P 18 6 - 1) % 20) (e5 : P1 18 5 = P 63 s) (e6 : P1 18 6 = s) (e7 : P1 18 7 = P 18 7 - 1) (k63 : ∀ j : Int, P1 63 j = P 63 j)
    (c1 : P1 14 1 = P (crX 22 s.toNat) 1) (c2 : P1 14 2 = P (crX 22 s.toNat) 2) (c3 : P1 14 3 = P (crX 22 s.toNat) 3) (ca : ∀ p : Int, 0 ≤ p → p < 12 → P1 15 p = P (crX (crX 22 s.toNat) 0) p) (ko : KO 14 P P1) (k0 : P1 0 14 = P 0 14) (k64 : P1 64 2 = P 64 2) : AX (aPop A) P1 := by
  obtain ⟨⟨b1, b2, b3, b4, b5, b6, b7⟩, ha, he⟩ := h
  obtain ⟨w1, w2, w3, w4⟩ := hw
  have s20 : 0 ≤ s ∧ s < 20 := by omega
  have hl := he (A 0 4 - 1) (by omega) (by omega)
  rw [show (P 18 6 - P 18 7 + (A 0 4 - 1)) % 20 = s by omega] at hl
  obtain ⟨d1, d2, d3, d4, d5⟩ := hl
  have p2 := (w4 (A 0 4 - 1) (by omega) (by omega)).2
  refine ⟨⟨c1.trans d1, c2.trans d2, c3.trans d3, e5.trans d4, by show P1 18 7 = A 0 4 - 1; omega, k0.trans b6, k64.trans b7⟩, fun p p0 p1 => ?_, fun i i0 i1 => ?_⟩
  · have p1 : p < A 2 (A 0 4 - 1) := p1
    rw [ca p p0 (by omega)]
    exact d5 p p0 p1
  · have i1 : i < A 0 4 - 1 := i1
    have hs2 : (P1 18 6 - P1 18 7 + i) % 20 = (P 18 6 - P 18 7 + i) % 20 := by omega
    rw [hs2]
    have ht := ah (s := ((P 18 6 - P 18 7 + i) % 20).toNat) (by omega)
    have nt : crX 22 ((P 18 6 - P 18 7 + i) % 20).toNat ≠ 14 := by omega
    obtain ⟨g1, g2, g3, g4, g5⟩ := he i i0 (by omega)
    exact ⟨(ko.o ht.2 nt 1).trans g1, (ko.o ht.2 nt 2).trans g2, (ko.o ht.2 nt 3).trans g3, (k63 _).trans g4, fun p p0 p1 => (ko.a ht.2 nt p).trans (g5 p p0 p1)⟩
/-- another order now -/
theorem AX.set {A P P1 : PH} {c n r : Int} {a : Int → Int} (h : AX A P) (e1 : P1 14 1 = c) (e2 : P1 14 2 = n) (e3 : P1 14 3 = r) (ea : ∀ p : Int, 0 ≤ p → p < c → P1 15 p = a p) (ko : KO 14 P P1)
    (q5 : P1 18 5 = P 18 5) (q6 : P1 18 6 = P 18 6) (q7 : P1 18 7 = P 18 7) (q63 : ∀ j : Int, P1 63 j = P 63 j) (k0 : P1 0 14 = P 0 14) (k64 : P1 64 2 = P 64 2) : AX (aSet A c n r a) P1 := by
  obtain ⟨⟨b1, b2, b3, b4, b5, b6, b7⟩, ha, he⟩ := h
  refine ⟨⟨e1, e2, e3, q5.trans b4, q7.trans b5, k0.trans b6, k64.trans b7⟩, ea, fun i i0 i1 => ?_⟩
  have i1 : i < A 0 4 := i1
  rw [q6, q7]
  have ht := ah (s := ((P 18 6 - P 18 7 + i) % 20).toNat) (by omega)
  have nt : crX 22 ((P 18 6 - P 18 7 + i) % 20).toNat ≠ 14 := by omega
  obtain ⟨g1, g2, g3, g4, g5⟩ := he i i0 i1
  exact ⟨(ko.o ht.2 nt 1).trans g1, (ko.o ht.2 nt 2).trans g2, (ko.o ht.2 nt 3).trans g3, (q63 _).trans g4, fun p p0 p1 => (ko.a ht.2 nt p).trans (g5 p p0 p1)⟩
theorem irem_q {x y : Int} (hx : IR x) (hy : 0 < y ∧ y ≤ 2147483647) : ∃ q : Int, x = irem x y + y * q := by
  have hne : Int32.ofInt y ≠ -1 := fun q => by
    have := congrArg Int32.toInt q
    rw [oI ⟨by omega, hy.2⟩] at this
    have e : (-1 : Int32).toInt = -1 := by decide
    omega
  have hd : idiv x y = x.tdiv y := by
    unfold idiv
    rw [Int32.toInt_div_of_ne_right _ _ hne, oI hx, oI ⟨by omega, hy.2⟩]
  have e1 : Int32.ofInt x / Int32.ofInt y = Int32.ofInt (x.tdiv y) := by rw [← hd]; exact (Int32.ofInt_toInt _).symm
  have h3 : x - x.tdiv y * y = x.tmod y := by have := Int.mul_tdiv_add_tmod x y; rw [Int.mul_comm] at this; omega
  have h4 := Int.tmod_lt_of_pos x hy.1
  have h5 := Int.neg_tmod x y
  have h6 := Int.tmod_lt_of_pos (-x) hy.1
  have e2 : irem x y = x.tmod y := by
    unfold irem
    rw [e1, ← Int32.ofInt_mul, ← Int32.ofInt_sub, h3, oI ⟨by omega, by omega⟩]
  exact ⟨x.tdiv y, by rw [e2]; have := Int.mul_tdiv_add_tmod x y; omega⟩
theorem emod_u {x y r q : Int} (h : x = r + y * q) (h0 : 0 ≤ r) (h1 : r < y) : r = x % y := by
  rw [h, Int.add_mul_emod_self_left, Int.emod_eq_of_lt h0 h1]
section AXS
variable {A M P P1 : PH} {k : Int}
theorem k14_14 : kx 14 14 := ⟨by decide, rfl⟩
theorem AX.sw {a b : Int} (h : AX (aPush A) P) (hw : WA k A) (hab : (0 ≤ a ∧ a < A 0 0) ∧ (0 ≤ b ∧ b < A 0 0) ∧ a ≠ b) (x1 : P1 15 a = P 15 b) (x2 : P1 15 b = P 15 a) (xo : ∀ j : Int, j ≠ a → j ≠ b → P1 15 j = P 15 j) (ko : KO 14 P P1) (hf : FrX ([], [15]) P P1) : AX (aSwap A a b) P1 := by
  rw [aSwap_y hab]
  have hb := h.b
  have ha : ∀ p : Int, 0 ≤ p → p < A 0 0 → P 15 p = A 1 p := fun p p0 p1 => (h.2.1 p p0 (by rw [aPush_0 A 0 (by decide)]; exact p1)).trans (aPush_1 A p)
  refine AX.set h ((hf.g k14_14 rfl).trans (hb.1.trans (aPush_0 A 0 (by decide)))) ((hf.g k14_14 rfl).trans (hb.2.1.trans (aPush_0 A 1 (by decide)))) ((hf.g k14_14 rfl).trans (hb.2.2.1.trans (aPush_0 A 2 (by decide)))) (fun p p0 p1 => ?_) ko (hf.g (k := 16) ⟨by decide, rfl⟩ rfl) (hf.g (k := 16) ⟨by decide, rfl⟩ rfl) (hf.g (k := 16) ⟨by decide, rfl⟩ rfl) (fun j => hf.g (k := 21) ⟨by decide, rfl⟩ rfl) (hf.g (k := 0) ⟨by decide, rfl⟩ rfl) (hf.g (k := 22) ⟨by decide, rfl⟩ rfl)
  show P1 15 p = if p = a then A 1 b else if p = b then A 1 a else A 1 p
  by_cases z : p = a
  · rw [if_pos z, z, x1]; exact ha b hab.2.1.1 hab.2.1.2
  · rw [if_neg z]
    by_cases z2 : p = b
    · rw [if_pos z2, z2, x2]; exact ha a hab.1.1 hab.1.2
    · rw [if_neg z2, xo p z z2]; exact ha p p0 p1
theorem AX.dr {p : Int} (h : AX (aPush A) P) (hp : 0 ≤ p ∧ p < A 0 0) (e1 : P1 14 1 = P 14 1 - 1) (el : ∀ q : Int, q < p → P1 15 q = P 15 q) (er : ∀ q : Int, p ≤ q → q + 1 < P 14 1 → P1 15 q = P 15 (q + 1)) (ko : KO 14 P P1) (hf : FrX ([(14, 1)], [15]) P P1) : AX (aDrop A p) P1 := by
  rw [aDrop_y hp]
  have hb := h.b
  have h14 : P 14 1 = A 0 0 := hb.1.trans (aPush_0 A 0 (by decide))
  have ha : ∀ q : Int, 0 ≤ q → q < A 0 0 → P 15 q = A 1 q := fun q q0 q1 => (h.2.1 q q0 (by rw [aPush_0 A 0 (by decide)]; exact q1)).trans (aPush_1 A q)
  refine AX.set h (by omega) ((hf.g k14_14 rfl).trans (hb.2.1.trans (aPush_0 A 1 (by decide)))) ((hf.g k14_14 rfl).trans (hb.2.2.1.trans (aPush_0 A 2 (by decide)))) (fun q q0 q1 => ?_) ko (hf.g (k := 16) ⟨by decide, rfl⟩ rfl) (hf.g (k := 16) ⟨by decide, rfl⟩ rfl) (hf.g (k := 16) ⟨by decide, rfl⟩ rfl) (fun j => hf.g (k := 21) ⟨by decide, rfl⟩ rfl) (hf.g (k := 0) ⟨by decide, rfl⟩ rfl) (hf.g (k := 22) ⟨by decide, rfl⟩ rfl)
  show P1 15 q = if q < p then A 1 q else A 1 (q + 1)
  by_cases z : q < p
  · rw [if_pos z, el q z]; exact ha q q0 (by omega)
  · rw [if_neg z, er q (by omega) (by omega)]; exact ha (q + 1) (by omega) (by omega)
theorem AX.on {c : Int} (h : AX (aPush A) P) (e2 : P1 14 2 = c) (e1 : P1 14 1 = P 14 1) (e3 : P1 14 3 = P 14 3) (ko : KO 14 P P1) (hf : FrX ([(14, 2)], []) P P1) : AX (aSet (aPush A) (A 0 0) c (A 0 2) (A 1)) P1 := by
  have hb := h.b
  exact AX.set h (e1.trans (hb.1.trans (aPush_0 A 0 (by decide)))) e2 (e3.trans (hb.2.2.1.trans (aPush_0 A 2 (by decide)))) (fun p p0 p1 => (hf.g (k := 15) ⟨by decide, rfl⟩ rfl).trans ((h.2.1 p p0 (by rw [aPush_0 A 0 (by decide)]; exact p1)).trans (aPush_1 A p))) ko (hf.g (k := 16) ⟨by decide, rfl⟩ rfl) (hf.g (k := 16) ⟨by decide, rfl⟩ rfl) (hf.g (k := 16) ⟨by decide, rfl⟩ rfl) (fun j => hf.g (k := 21) ⟨by decide, rfl⟩ rfl) (hf.g (k := 0) ⟨by decide, rfl⟩ rfl) (hf.g (k := 22) ⟨by decide, rfl⟩ rfl)
theorem AX.ru {c : Int} (h : AX (aPush A) P) (e3 : P1 14 3 = c) (e1 : P1 14 1 = P 14 1) (e2 : P1 14 2 = P 14 2) (ko : KO 14 P P1) (hf : FrX ([(14, 3)], []) P P1) : AX (aSet (aPush A) (A 0 0) (A 0 1) c (A 1)) P1 := by
  have hb := h.b
  exact AX.set h (e1.trans (hb.1.trans (aPush_0 A 0 (by decide)))) (e2.trans (hb.2.1.trans (aPush_0 A 1 (by decide)))) e3 (fun p p0 p1 => (hf.g (k := 15) ⟨by decide, rfl⟩ rfl).trans ((h.2.1 p p0 (by rw [aPush_0 A 0 (by decide)]; exact p1)).trans (aPush_1 A p))) ko (hf.g (k := 16) ⟨by decide, rfl⟩ rfl) (hf.g (k := 16) ⟨by decide, rfl⟩ rfl) (hf.g (k := 16) ⟨by decide, rfl⟩ rfl) (fun j => hf.g (k := 21) ⟨by decide, rfl⟩ rfl) (hf.g (k := 0) ⟨by decide, rfl⟩ rfl) (hf.g (k := 22) ⟨by decide, rfl⟩ rfl)
theorem AX.sc {j z : Int} (h : AX A P) (hj : j = 3 ∨ j = 5 ∨ j = 6) (e5 : P1 18 5 = up A 0 j z 0 3) (e0 : P1 0 14 = up A 0 j z 0 5) (e64 : P1 64 2 = up A 0 j z 0 6) (q14 : ∀ o : Nat, kx o 14 → (P1 o 1 = P o 1 ∧ P1 o 2 = P o 2 ∧ P1 o 3 = P o 3) ∧ ∀ j : Int, P1 (crX o 0) j = P (crX o 0) j) (q6 : P1 18 6 = P 18 6) (q7 : P1 18 7 = P 18 7) (q63 : ∀ j : Int, P1 63 j = P 63 j) : AX (up A 0 j z) P1 := by
  obtain ⟨⟨b1, b2, b3, b4, b5, b6, b7⟩, ha, he⟩ := h
  have e : ∀ q : Int, q ≠ j → up A 0 j z 0 q = A 0 q := fun q hq => up_k hq
  have e2 : ∀ o : Nat, o ≠ 0 → ∀ q : Int, up A 0 j z o q = A o q := fun o ho q => up_o ho
  have r14 := (q14 14 k14_14).1
  have r15 : ∀ j : Int, P1 15 j = P 15 j := (q14 14 k14_14).2
  refine ⟨⟨by rw [r14.1, e 0 (by omega)]; exact b1, by rw [r14.2.1, e 1 (by omega)]; exact b2, by rw [r14.2.2, e 2 (by omega)]; exact b3, e5, by rw [q7, e 4 (by omega)]; exact b5, e0, e64⟩, fun p p0 p1 => by rw [e 0 (by omega)] at p1; rw [r15, e2 1 (by decide)]; exact ha p p0 p1, fun i i0 i1 => ?_⟩
  rw [e 4 (by omega)] at i1
  rw [q6, q7]
  have hk := ah (s := ((P 18 6 - P 18 7 + i) % 20).toNat) (by omega)
  obtain ⟨d1, d2, d3, d4, d5⟩ := he i i0 i1
  unfold AXe
  rw [e2 2 (by decide), e2 3 (by decide), e2 4 (by decide), e2 5 (by decide)]
  have ro := q14 _ hk.2
  refine ⟨ro.1.1.trans d1, ro.1.2.1.trans d2, ro.1.2.2.trans d3, (q63 _).trans d4, fun p p0 p1 => ?_⟩
  rw [e2 6 (by decide)]
  exact (ro.2 p).trans (d5 p p0 p1)
theorem AX.sd {v : Int} (h : AX A P) (e0 : P1 0 14 = v) (hf : FrX ([(0, 14)], []) P P1) : AX (up A 0 5 v) P1 := by
  have hb := h.b
  exact AX.sc h (Or.inr (Or.inl rfl)) (by rw [up_k (by decide)]; exact (hf.g (k := 16) ⟨by decide, rfl⟩ rfl).trans hb.2.2.2.1) (by rw [up_same]; exact e0) (by rw [up_k (by decide)]; exact (hf.g (k := 22) ⟨by decide, rfl⟩ rfl).trans hb.2.2.2.2.2.2) (fun o ho => ⟨⟨hf.g ho rfl, hf.g ho rfl, hf.g ho rfl⟩, fun j => hf.g (ck_14_0 ho) rfl⟩) (hf.g (k := 16) ⟨by decide, rfl⟩ rfl) (hf.g (k := 16) ⟨by decide, rfl⟩ rfl) (fun j => hf.g (k := 21) ⟨by decide, rfl⟩ rfl)
end AXS
end
section
/-! The rows of a match: the product of its columns' values. -/
def pG (K M : PH) : Nat → Int
  | 0 => 1
  | n + 1 => pG K M n * sz K (M 1 (n : Int))
theorem pG_cg {K K1 M M1 : PH} : ∀ n : Nat, (∀ c : Int, 0 ≤ c → c < (n : Int) → sz K1 (M1 1 c) = sz K (M 1 c)) → pG K1 M1 n = pG K M n := by
  intro n
  induction n with
  | zero => intro _; rfl
  | succ n ih =>
    intro h
    show pG K1 M1 n * sz K1 (M1 1 (n : Int)) = pG K M n * sz K (M 1 (n : Int))
    rw [ih (fun c c0 c1 => h c c0 (by omega)), h (n : Int) (by omega) (by omega)]
def AR (K M : PH) : Prop := M 0 0 = 0 ∨ M 0 1 = pG K M (M 0 0).toNat
theorem AR.zero : AR K0 M0 := Or.inl (by decide)
theorem col_r {T : TT} {K : PH} : ∀ (r : Nat) (M : PH) (i p : Int), M 0 0 + r = 4 → 0 ≤ M 0 0 → i = pG K M (M 0 0).toNat → AR K M → AR K (col T K r M i p).2.2 := by
  intro r
  induction r with
  | zero =>
    intro M i p hr h0 hi hv
    exact hv
  | succ r ih =>
    intro M i p hr h0 hi hv
    by_cases e : kGo T K (-1) (M 0 0) 4 0 i 20000 p = 0
    · rw [col_go e]
      have hp : pG K (mCol M (kHe T K p) (i * sz K (kHe T K p))) (M 0 0 + 1).toNat = i * sz K (kHe T K p) := by
        rw [show (M 0 0 + 1).toNat = (M 0 0).toNat + 1 by omega]
        show pG K (mCol M (kHe T K p) (i * sz K (kHe T K p))) (M 0 0).toNat * sz K (mCol M (kHe T K p) (i * sz K (kHe T K p)) 1 (((M 0 0).toNat : Nat) : Int)) = _
        rw [pG_cg (K := K) (K1 := K) (M := M) (M1 := mCol M (kHe T K p) (i * sz K (kHe T K p))) (M 0 0).toNat (fun c c0 c1 => by rw [mCol_1, if_neg (by omega)])]
        rw [mCol_1, if_pos (by omega), ← hi]
      refine ih _ _ _ (by rw [mCol_0.1]; omega) (by rw [mCol_0.1]; omega) (by rw [mCol_0.1]; exact hp.symm) (Or.inr (by rw [mCol_0.1, mCol_0.2.1]; exact hp.symm))
    · by_cases e1 : kGo T K (-1) (M 0 0) 4 0 i 20000 p = 1
      · rw [col_end e1]; exact hv
      · rw [col_bad e1 e]; exact hv
theorem aNew_01 {M : PH} {g : Int} : aNew M g 0 1 = M 0 1 := by simp [aNew, up]
theorem AR.st {T : TT} {K M : PH} {p : Int} (hv : AV K M) (h : AR K M) (hs : (sSt T K M p).1 = 0) : AR (kSt T K p) (mSt T K M p) := by
  have v1 := hv.1
  unfold sSt at hs
  unfold mSt kSt
  by_cases h0 : tO T p = 0
  · rw [if_pos h0] at hs
    have q := sKi_s T K M p
    rw [if_pos h0, if_neg (by omega), if_neg (by omega), if_neg (by omega), if_neg (by omega)]
    exact Or.inl (by omega)
  · rw [if_neg h0] at hs ⊢
    by_cases h1 : tO T p = 1
    · rw [if_pos h1] at hs
      have q := sCo_s T K M p
      rw [if_pos h1, if_neg (by omega), if_neg (by omega), if_neg (by omega), if_neg (by omega)]
      exact Or.inl (by omega)
    · rw [if_neg h1] at hs ⊢
      by_cases h2 : tO T p = 2
      · rw [if_pos h2] at hs ⊢
        have hs : (sMa T K M p).1 = 0 := hs
        have q := sMa_s T K M p
        have e := sMa_M (T := T) (K := K) (M := M) (p := p) (by omega) (by omega)
        rw [e]
        have hz : M 0 0 = 0 := by omega
        exact col_r 4 M 1 (tE T p) (by omega) (by omega) (by rw [hz]; rfl) h
      · rw [if_neg h2] at hs ⊢
        by_cases h3 : tO T p = 3
        · rw [if_pos h3]
          unfold mAr AR
          rw [aNew_0.1, aNew_01]
          rcases h with z | z
          · exact Or.inl z
          · exact Or.inr (z.trans (pG_cg _ (fun c _ _ => by rw [aNew_1])).symm)
        · rw [if_neg h3]
          by_cases h5 : tO T p = 5
          · rw [if_pos h5]
            unfold AR
            rw [up_k (by decide), up_k (by decide)]
            rcases h with z | z
            · exact Or.inl z
            · exact Or.inr (z.trans (pG_cg _ (fun c _ _ => by rw [up_row (by decide)])).symm)
          · rw [if_neg h5]
            by_cases h6 : tO T p = 6
            · rw [if_pos h6]
              unfold AR
              rw [up_k (by decide), up_k (by decide)]
              rcases h with z | z
              · exact Or.inl z
              · exact Or.inr (z.trans (pG_cg _ (fun c _ _ => by rw [up_row (by decide)])).symm)
            · rw [if_neg h6]
              exact h
theorem mlo_r {T : TT} : ∀ (r : Nat) (n : Int) (K M : PH) (p : Int), AW K → AV K M → AR K M → (mlo T r n K M p).1 = 0 → AR (mlo T r n K M p).2.2.1 (mlo T r n K M p).2.2.2 := by
  intro r
  induction r with
  | zero =>
    intro n K M p hw hv ha h0
    by_cases e : tK T p = 0
    · rw [mlo_end e]; exact ha
    · rw [mlo_much e] at h0
      exact absurd h0 (show (6 : Int) ≠ 0 by decide)
  | succ r ih =>
    intro n K M p hw hv ha h0
    by_cases e : tK T p = 0
    · rw [mlo_end e]; exact ha
    · by_cases h1 : (sSt T K M p).1 = 0
      · by_cases h2 : (sgn T 59 (sSt T K M p).2).1 = 0
        · rw [mlo_go e h1 h2] at h0 ⊢
          exact ih _ _ _ _ (hw.st h1) (hv.st hw h1) (ha.st hv h1) h0
        · rw [mlo_eF e h1 h2] at h0
          exact absurd h0 h2
      · rw [mlo_sF e h1] at h0
        exact absurd h0 h1
theorem mlR_r {T : TT} (h : (mlR T).1 = 0) : AR (mlR T).2.2.1 (mlR T).2.2.2 := mlo_r 60 0 K0 M0 0 AW.zero AV.zero AR.zero h
/-- the reference's product is this one -/
theorem prd_G {K M P : PH} {b : Int} (hk : MKb b K P) (hm : MMb b M P) (hv : AV K M) : ∀ n : Nat, (n : Int) ≤ M 0 0 → prdU P b n = pG K M n := by
  intro n
  induction n with
  | zero => intro _; rfl
  | succ n ih =>
    intro h
    show prdU P b n * vals P b (P 12 (4 * b + (n : Int))) = pG K M n * sz K (M 1 (n : Int))
    rw [ih (by omega)]
    congr 1
    have hc := hm.2.2.2.2.1 (n : Int) (by omega) (by omega)
    have hb := hv.2.2.2.2 (n : Int) (by omega) (by omega)
    unfold vals sz
    rcases hc with ⟨c1, c2⟩ | ⟨c1, c2, c3⟩
    · rw [if_pos c1, if_pos c2]
    · rw [if_neg (by omega), if_neg (by omega), ← c3]
      exact (hk.2.2.1 _ (by omega) (by omega)).2.1
/-- the reference's rows -/
def MR (M P : PH) : Prop := M 0 0 = 0 ∨ P 0 52 = M 0 1
theorem MR.fr {M P P1 : PH} {F : FS} (h : MR M P) (hf : FrM F P P1) (hd : disF F ([52], []) = true) : MR M P1 := by
  unfold MR at h ⊢
  rw [disF_k hd hf (k := 52) (by decide)]
  exact h
end
section
/-! Draws; rows that are run; a row seen; an image read. -/
def drw (s : Int) : Int := (1103515245 * s + 12345) % 2147483648
theorem drw_b (s : Int) : 0 ≤ drw s ∧ drw s ≤ 2147483647 := by unfold drw; omega
theorem iand_31 {x z : Int} (h : Int32.ofInt x = Int32.ofInt z) : iand x 2147483647 = z % 2147483648 := by
  unfold iand
  rw [h, i32_bv, Int32.toBitVec_and]
  have e1 : (Int32.ofInt z).toBitVec = BitVec.ofInt 32 z := rfl
  have e2 : (Int32.ofInt 2147483647).toBitVec.toNat = 2 ^ 31 - 1 := by decide
  have e3 : ((Int32.ofInt z).toBitVec &&& (Int32.ofInt 2147483647).toBitVec).toNat = (z % 4294967296).toNat % 2147483648 := by
    rw [BitVec.toNat_and, e2, Nat.and_two_pow_sub_one_eq_mod, e1, BitVec.toNat_ofInt]
    rfl
  have hl : (z % 4294967296).toNat % 2147483648 < 2147483648 := Nat.mod_lt _ (by decide)
  rw [bv_small (n := 2147483648) (by rw [e3]; exact hl) (by decide), e3]
  omega
theorem drw_i {s r x : Int} (h1 : Int32.ofInt (1103515245 * s) = Int32.ofInt r) (h2 : Int32.ofInt (r + 12345) = Int32.ofInt x) : iand x 2147483647 = drw s := by
  have e : Int32.ofInt x = Int32.ofInt (1103515245 * s + 12345) := by rw [← h2, Int32.ofInt_add, ← h1, ← Int32.ofInt_add]
  exact iand_31 e
/-- one row is run -/
def aDr (A : PH) : PH := up (up A 0 5 (drw (A 0 5))) 0 3 (A 0 3 + 1)
def aDrs : Nat → PH → PH
  | 0, A => A
  | n + 1, A => aDr (aDrs n A)
theorem aDr_o (A : PH) {o : Nat} (ho : o ≠ 0) (j : Int) : aDr A o j = A o j := by unfold aDr; rw [up_o ho, up_o ho]
theorem aDr_0 (A : PH) {j : Int} (h3 : j ≠ 3) (h5 : j ≠ 5) : aDr A 0 j = A 0 j := by unfold aDr; rw [up_k h3, up_k h5]
theorem aDr_3 (A : PH) : aDr A 0 3 = A 0 3 + 1 := by unfold aDr; rw [up_same]
theorem aDrs_o (A : PH) {o : Nat} (ho : o ≠ 0) (j : Int) : ∀ n : Nat, aDrs n A o j = A o j := by
  intro n
  induction n with
  | zero => rfl
  | succ n ih => show aDr (aDrs n A) o j = _; rw [aDr_o _ ho, ih]
theorem aDrs_0 (A : PH) {j : Int} (h3 : j ≠ 3) (h5 : j ≠ 5) : ∀ n : Nat, aDrs n A 0 j = A 0 j := by
  intro n
  induction n with
  | zero => rfl
  | succ n ih => show aDr (aDrs n A) 0 j = _; rw [aDr_0 _ h3 h5, ih]
theorem aDrs_3 (A : PH) : ∀ n : Nat, aDrs n A 0 3 = A 0 3 + (n : Int) := by
  intro n
  induction n with
  | zero => show A 0 3 = _; omega
  | succ n ih => show aDr (aDrs n A) 0 3 = _; rw [aDr_3, ih]; omega
noncomputable def aRun (A M : PH) (r : Int) : PH := if 0 < M 0 0 ∧ 0 ≤ r ∧ r < M 0 1 then up (aPush A) 0 3 (A 0 3 + 1) else A
noncomputable def aCha (A M : PH) (n : Int) : PH := if 0 < M 0 0 ∧ 1 ≤ n ∧ n ≤ 40 then aDrs n.toNat (aPush A) else A
theorem aRun_y {A M : PH} {r : Int} (h : 0 < M 0 0 ∧ 0 ≤ r ∧ r < M 0 1) : aRun A M r = up (aPush A) 0 3 (A 0 3 + 1) := by unfold aRun; rw [if_pos h]
theorem aRun_n {A M : PH} {r : Int} (h : ¬ (0 < M 0 0 ∧ 0 ≤ r ∧ r < M 0 1)) : aRun A M r = A := by unfold aRun; rw [if_neg h]
theorem aCha_y {A M : PH} {n : Int} (h : 0 < M 0 0 ∧ 1 ≤ n ∧ n ≤ 40) : aCha A M n = aDrs n.toNat (aPush A) := by unfold aCha; rw [if_pos h]
theorem aCha_n {A M : PH} {n : Int} (h : ¬ (0 < M 0 0 ∧ 1 ≤ n ∧ n ≤ 40)) : aCha A M n = A := by unfold aCha; rw [if_neg h]
theorem WA.k3 {k z : Int} {A : PH} (h : WA k A) (hz : A 0 3 ≤ z) (hk : z ≤ 40 * (k + 1)) : WA (k + 1) (up A 0 3 z) := by
  obtain ⟨h1, h2, h3, h4⟩ := h
  have e2 : ∀ o : Nat, o ≠ 0 → ∀ q : Int, up A 0 3 z o q = A o q := fun o ho q => up_o ho
  exact ⟨by rw [up_k (by decide)]; exact h1, by rw [up_k (by decide)]; exact h2, by rw [up_same]; omega, fun i i0 i1 => by rw [up_k (by decide)] at i1; rw [e2 5 (by decide), e2 2 (by decide)]; have q := h4 i i0 i1; omega⟩
theorem WA.run {k r : Int} {A M : PH} (h : WA k A) (hk : 0 ≤ k) : WA (k + 1) (aRun A M r) := by
  unfold aRun; split
  · have e := aPush_0 A 3 (by decide); have q := h.2.2.1; exact WA.k3 h.push (by omega) (by omega)
  · exact h.mono (by omega)
theorem WA.cha {k n : Int} {A M : PH} (h : WA k A) (hk : 0 ≤ k) : WA (k + 1) (aCha A M n) := by
  unfold aCha
  by_cases hc : 0 < M 0 0 ∧ 1 ≤ n ∧ n ≤ 40
  · rw [if_pos hc]
    obtain ⟨h1, h2, h3, h4⟩ := h.push
    have q3 := aDrs_3 (aPush A) n.toNat
    exact ⟨by rw [aDrs_0 _ (by decide) (by decide)]; exact h1, by rw [aDrs_0 _ (by decide) (by decide)]; exact h2, by omega, fun i i0 i1 => by rw [aDrs_0 _ (by decide) (by decide)] at i1; rw [aDrs_o _ (by decide), aDrs_o _ (by decide)]; have q := h4 i i0 i1; omega⟩
  · rw [if_neg hc]
    exact h.mono (by omega)
theorem m40_1 (x : Int) : (40 ≤ x ∧ m40 (x + 1) = 40) ∨ (x ≤ 39 ∧ m40 (x + 1) = x + 1) := by
  rcases m40_s (x + 1) with q | q <;> omega
theorem of_inj {z x : Int} (h : Int32.ofInt z = Int32.ofInt x) (hz : IR z) (hx : IR x) : x = z := by
  have q := congrArg Int32.toInt h
  rw [oI hz, oI hx] at q
  exact q.symm
theorem AX.k3 {A P P1 : PH} {F : FSX} (h : AX A P) (e5 : P1 18 5 = P 18 5 + 1) (hf : FrX F P P1) (hd : disX F ([(0, 14), (14, 1), (14, 2), (14, 3), (16, 6), (16, 7), (22, 2)], [15, 21]) = true) : AX (up A 0 3 (A 0 3 + 1)) P1 := by
  have hb := h.b
  have k18 : kx 18 16 := ⟨by decide, rfl⟩
  refine AX.sc h (Or.inl rfl) (by rw [up_same, e5, hb.2.2.2.1]) (by rw [up_k (by decide), disX_f hd hf (o := 0) (k := 0) (j := 14) ⟨by decide, rfl⟩ (by decide)]; exact hb.2.2.2.2.2.1) (by rw [up_k (by decide), disX_f hd hf (o := 64) (k := 22) (j := 2) ⟨by decide, rfl⟩ (by decide)]; exact hb.2.2.2.2.2.2)
    (fun o ho => ⟨⟨disX_f hd hf (j := 1) ho (by decide), disX_f hd hf (j := 2) ho (by decide), disX_f hd hf (j := 3) ho (by decide)⟩, fun j => disX_a hd hf (ck_14_0 ho) (by decide) j⟩) (disX_f hd hf (j := 6) k18 (by decide)) (disX_f hd hf (j := 7) k18 (by decide)) (fun j => disX_a hd hf (o := 63) (k := 21) ⟨by decide, rfl⟩ (by decide) j)
theorem AX.beg {A P P1 : PH} {c r : Int} (h : AX A P) (c1 : P1 14 1 = c) (c2 : P1 14 2 = 255) (c3 : P1 14 3 = r) (ca : ∀ q : Int, 0 ≤ q → q < c → P1 15 q = q) (e5 : P1 18 5 = 0) (e7 : P1 18 7 = 0) (e64 : P1 64 2 = 0) (e0 : P1 0 14 = P 0 14) : AX (aBeg A c r) P1 :=
  ⟨⟨c1, c2, c3, e5, e7, e0.trans h.b.2.2.2.2.2.1, e64⟩, ca, fun k k0 k1 => absurd k1 (by show ¬ k < 0; omega)⟩
theorem AM.beg {A P P1 : PH} {c r : Int} (h : AM A P) (c1 : P1 35 0 = c) (c2 : P1 37 0 = 255) (c3 : P1 38 0 = r) (ca : ∀ q : Int, 0 ≤ q → q < c → P1 36 q = q) (e5 : P1 39 0 = 0) (e7 : P1 0 60 = 0) (e64 : P1 0 92 = 0) (e0 : P1 0 61 = P 0 61) : AM (aBeg A c r) P1 :=
  ⟨⟨c1, c2, c3, e5, e7, e0.trans h.b.2.2.2.2.2.1, e64⟩, ca, fun k k0 k1 => absurd k1 (by show ¬ k < 0; omega)⟩
noncomputable def aMat (T : TT) (A : PH) : PH := if (mlR T).1 = 0 then aBeg A ((mlR T).2.2.2 0 2) ((mlR T).2.2.2 0 3) else A
theorem aMat_0 {T : TT} {A : PH} (h : (mlR T).1 = 0) : aMat T A = aBeg A ((mlR T).2.2.2 0 2) ((mlR T).2.2.2 0 3) := by unfold aMat; rw [if_pos h]
theorem aMat_1 {T : TT} {A : PH} (h : (mlR T).1 ≠ 0) : aMat T A = A := by unfold aMat; rw [if_neg h]
theorem WA.mat {k : Int} {T : TT} {A : PH} (h : WA k A) (hk : 0 ≤ k) : WA k (aMat T A) := by
  by_cases e : (mlR T).1 = 0
  · rw [aMat_0 e]
    have q := (mlR_w e).2.1
    exact WA.beg ⟨q.2.2.1, q.2.2.2.1⟩ hk
  · rw [aMat_1 e]; exact h
noncomputable def hasV (K M A : PH) (w : Int) : Int := if w = 0 then K 0 0 else if w = 1 then K 0 1 else if w = 2 then M 0 0 else if w = 3 then M 0 1 else if w = 4 then A 0 0 else if w = 5 then A 0 1 else if w = 6 then A 0 2 else if w = 7 then m40 (A 0 3) else if w = 8 then A 0 6 else if w = 9 then A 0 4 else if w = 10 then A 0 5 else -1
/-- what is tried lies in a row of its own -/
theorem AM.un {A P P1 : PH} (h : AM A P) (q35 : ∀ j : Int, j ≠ 1 → P1 35 j = P 35 j) (q37 : ∀ j : Int, j ≠ 1 → P1 37 j = P 37 j) (q38 : ∀ j : Int, j ≠ 1 → P1 38 j = P 38 j) (q39 : ∀ j : Int, j ≠ 1 → P1 39 j = P 39 j) (q36 : ∀ j : Int, j < 12 ∨ 24 ≤ j → P1 36 j = P 36 j)
    (k59 : P1 0 59 = P 0 59) (k60 : P1 0 60 = P 0 60) (k61 : P1 0 61 = P 0 61) (k92 : P1 0 92 = P 0 92) (hc : A 0 0 ≤ 12) (hu : 0 ≤ P 0 59) : AM A P1 := by
  obtain ⟨⟨b1, b2, b3, b4, b5, b6, b7⟩, ha, he⟩ := h
  refine ⟨⟨(q35 0 (by decide)).trans b1, (q37 0 (by decide)).trans b2, (q38 0 (by decide)).trans b3, (q39 0 (by decide)).trans b4, k60.trans b5, k61.trans b6, k92.trans b7⟩, fun p p0 p1 => (q36 p (by omega)).trans (ha p p0 p1), fun i i0 i1 => ?_⟩
  obtain ⟨g1, g2, g3, g4, g5⟩ := he i i0 i1
  unfold AMe
  rw [k59]
  exact ⟨(q35 _ (by omega)).trans g1, (q37 _ (by omega)).trans g2, (q38 _ (by omega)).trans g3, (q39 _ (by omega)).trans g4, fun p p0 p1 => (q36 _ (by omega)).trans (g5 p p0 p1)⟩
theorem AM.un1 {A P P1 : PH} (h : AM A P) (hB : BdM P) (hc : CY 1 0 P P1) (hf : FrM ([], [35, 36, 37, 38, 39, 40]) P P1) : AM A P1 := by
  obtain ⟨_, _, co, cq⟩ := hc
  have q := bl_35 (k := 0) hB
  have hb := h.b
  exact h.un (fun j hj => (co j hj).1) (fun j hj => (co j hj).2.1) (fun j hj => (co j hj).2.2.1) (fun j hj => (co j hj).2.2.2) (fun j hj => cq j (by omega)) (hf.1 59 rfl) (hf.1 60 rfl) (hf.1 61 rfl) (hf.1 92 rfl) (by omega) (b0_59 hB).1
theorem AM.un2 {A P P1 : PH} {a b : Int} (h : AM A P) (hB : BdM P) (xo : ∀ j : Int, j ≠ (12 * 1) + a → j ≠ (12 * 1) + b → P1 36 j = P 36 j) (ha : 0 ≤ a ∧ a ≤ 11) (hb2 : 0 ≤ b ∧ b ≤ 11) (hf : FrM ([], [36]) P P1) : AM A P1 := by
  have q := bl_35 (k := 0) hB
  have hb := h.b
  exact h.un (fun j _ => congrFun (hf.2 35 rfl rfl) j) (fun j _ => congrFun (hf.2 37 rfl rfl) j) (fun j _ => congrFun (hf.2 38 rfl rfl) j) (fun j _ => congrFun (hf.2 39 rfl rfl) j) (fun j hj => xo j (by omega) (by omega)) (hf.1 59 rfl) (hf.1 60 rfl) (hf.1 61 rfl) (hf.1 92 rfl) (by omega) (b0_59 hB).1
end
section
/-! Rows seen; an image that is read. -/
def sOk (T : TT) (M A : PH) (i : Int) : Prop := 256 * T.1 (3 * i) + T.1 (3 * i + 1) < M 0 1 ∧ (T.1 (3 * i + 2) = 255 ∨ T.1 (3 * i + 2) < A 0 0)
def sHd (T : TT) (M : PH) : Prop := 0 < M 0 0 ∧ 0 < T.2 ∧ T.2 % 3 = 0 ∧ T.2 ≤ 48
def seOk (T : TT) (M A : PH) : Prop := sHd T M ∧ ∀ i : Int, 0 ≤ i → 3 * i < T.2 → sOk T M A i
noncomputable def aSee (T : TT) (M A : PH) : PH := @ite PH (seOk T M A) (Classical.propDecidable _) (up A 0 6 (T.2 / 3)) A
theorem aSee_y {T : TT} {M A : PH} (h : seOk T M A) : aSee T M A = up A 0 6 (T.2 / 3) := by unfold aSee; rw [if_pos h]
theorem aSee_n {T : TT} {M A : PH} (h : ¬ seOk T M A) : aSee T M A = A := by unfold aSee; rw [if_neg h]
/-- what is known of the rows ahead of place k -/
def SEI (T : TT) (M A : PH) (k c : Int) : Prop := (c = 1 ∧ sHd T M ∧ ∀ i : Int, 0 ≤ i → 3 * i < k → sOk T M A i) ∨ (c = 0 ∧ ¬ seOk T M A)
theorem SEI.y {T : TT} {M A : PH} (h : sHd T M) : SEI T M A 0 1 := Or.inl ⟨rfl, h, fun i i0 i1 => by exfalso; omega⟩
theorem SEI.n {T : TT} {M A : PH} {k : Int} (h : ¬ sHd T M) : SEI T M A k 0 := Or.inr ⟨rfl, fun q => h q.1⟩
theorem SEI.go {T : TT} {M A : PH} {k : Int} (h : SEI T M A k 1) (hk : k % 3 = 0) (ho : sOk T M A (k / 3)) : SEI T M A (k + 3) 1 := by
  rcases h with ⟨_, h1, h2⟩ | ⟨h1, _⟩
  · refine Or.inl ⟨rfl, h1, fun i i0 i1 => ?_⟩
    rcases (show 3 * i < k ∨ i = k / 3 by omega) with q | q
    · exact h2 i i0 q
    · rw [q]; exact ho
  · exact absurd h1 (by decide)
theorem SEI.bad {T : TT} {M A : PH} {k : Int} (h0 : 0 ≤ k) (hk : k % 3 = 0) (hl : k < T.2) (ho : ¬ sOk T M A (k / 3)) : SEI T M A (k + 3) 0 := Or.inr ⟨rfl, fun q => ho (q.2 (k / 3) (by omega) (by omega))⟩
theorem SEI.end {T : TT} {M A : PH} {k : Int} (h : SEI T M A k 1) (hl : T.2 ≤ k) : seOk T M A := by
  rcases h with ⟨_, h1, h2⟩ | ⟨h1, _⟩
  · exact ⟨h1, fun i i0 i1 => h2 i i0 (by omega)⟩
  · exact absurd h1 (by decide)
theorem SEI.no {T : TT} {M A : PH} {k : Int} (h : SEI T M A k 0) : ¬ seOk T M A := by
  rcases h with ⟨h1, _⟩ | ⟨_, h2⟩
  · exact absurd h1 (by decide)
  · exact h2
theorem WA.see {k : Int} {T : TT} {M A : PH} (h : WA k A) : WA k (aSee T M A) := by
  rcases Classical.em (seOk T M A) with q | q
  · rw [aSee_y q]; exact h.u5 (Or.inr rfl)
  · rw [aSee_n q]; exact h
theorem AM.se {A P P1 : PH} {v : Int} {F : FS} (h : AM A P) (e92 : P1 0 92 = v) (hf : FrM F P P1) (hd : disF F ([59, 60, 61], [35, 36, 37, 38, 39]) = true) : AM (up A 0 6 v) P1 := by
  have hb := h.b
  exact AM.sc h (Or.inr (Or.inr rfl)) (by rw [up_k (by decide), disF_o hd hf (o := 39) (by decide) rfl]; exact hb.2.2.2.1) (by rw [up_k (by decide), disF_k hd hf (k := 61) (by decide)]; exact hb.2.2.2.2.2.1) (by rw [up_same]; exact e92) (disF_k hd hf (k := 59) (by decide)) (disF_k hd hf (k := 60) (by decide)) (fun q => congrFun (disF_o hd hf (o := 35) (by decide) rfl) q) (fun q => congrFun (disF_o hd hf (o := 36) (by decide) rfl) q) (fun q => congrFun (disF_o hd hf (o := 37) (by decide) rfl) q) (fun q => congrFun (disF_o hd hf (o := 38) (by decide) rfl) q) (fun q _ => congrFun (disF_o hd hf (o := 39) (by decide) rfl) q)
theorem AX.se {A P P1 : PH} {v : Int} {F : FSX} (h : AX A P) (e2 : P1 64 2 = v) (hf : FrX F P P1) (hd : disX F ([(0, 14), (14, 1), (14, 2), (14, 3), (16, 5), (16, 6), (16, 7)], [15, 21]) = true) : AX (up A 0 6 v) P1 := by
  have hb := h.b
  have k18 : kx 18 16 := ⟨by decide, rfl⟩
  refine AX.sc h (Or.inr (Or.inr rfl)) (by rw [up_k (by decide), disX_f hd hf (j := 5) k18 (by decide)]; exact hb.2.2.2.1) (by rw [up_k (by decide), disX_f hd hf (o := 0) (k := 0) (j := 14) ⟨by decide, rfl⟩ (by decide)]; exact hb.2.2.2.2.2.1) (by rw [up_same]; exact e2)
    (fun o ho => ⟨⟨disX_f hd hf (j := 1) ho (by decide), disX_f hd hf (j := 2) ho (by decide), disX_f hd hf (j := 3) ho (by decide)⟩, fun j => disX_a hd hf (ck_14_0 ho) (by decide) j⟩) (disX_f hd hf (j := 6) k18 (by decide)) (disX_f hd hf (j := 7) k18 (by decide)) (fun j => disX_a hd hf (o := 63) (k := 21) ⟨by decide, rfl⟩ (by decide) j)
/-! An image. -/
def hdF (T : TT) : Nat → Int
  | 0 => 0
  | n + 1 => ior (hdF T n) (ishl 1 (T.1 (1 + (n : Int))))
def ckF (T : TT) : Nat → Int
  | 0 => 199
  | n + 1 => (5 * ckF T n + T.1 (n : Int)) % 251
def oOk (T : TT) (M : PH) (p : Int) : Prop := T.1 (1 + p) < M 0 2 ∧ iand (ishr (hdF T p.toNat) (T.1 (1 + p))) 1 = 0
def oHd (T : TT) (M : PH) : Prop := 0 < M 0 0 ∧ 4 ≤ T.2 ∧ T.1 0 ≤ M 0 2 ∧ T.2 = T.1 0 + 4
def onOk (T : TT) (M : PH) : Prop := oHd T M ∧ ckF T (T.2 - 1).toNat = T.1 (T.2 - 1) ∧ T.1 (T.2 - 2) ≤ 3 ∧ ∀ p : Int, 0 ≤ p → p < T.1 0 → oOk T M p
def aLd (T : TT) (A : PH) : PH := fun o k => if o = 0 then (if k = 0 then T.1 0 else if k = 1 then T.1 (T.2 - 3) else if k = 2 then T.1 (T.2 - 2) else if k = 3 then 0 else if k = 4 then 0 else A 0 k) else if o = 1 then T.1 (1 + k) else A o k
noncomputable def aOn (T : TT) (M A : PH) : PH := @ite PH (onOk T M) (Classical.propDecidable _) (aLd T A) A
theorem aOn_y {T : TT} {M A : PH} (h : onOk T M) : aOn T M A = aLd T A := by unfold aOn; rw [if_pos h]
theorem aOn_n {T : TT} {M A : PH} (h : ¬ onOk T M) : aOn T M A = A := by unfold aOn; rw [if_neg h]
theorem WA.on {k : Int} {T : TT} {K M A : PH} (h : WA k A) (hv : AV K M) (hT : ∀ i : Int, 0 ≤ i → i < T.2 → 0 ≤ T.1 i) (hk : 0 ≤ k) : WA k (aOn T M A) := by
  rcases Classical.em (onOk T M) with q | q
  · rw [aOn_y q]
    obtain ⟨⟨q1, q2, q3, q4⟩, _⟩ := q
    obtain ⟨v1, v2, v3, v4, v5⟩ := hv
    have h0 := hT 0 (by decide) (by omega)
    exact ⟨⟨h0, by show T.1 0 ≤ 12; omega⟩, by show (0 : Int) ≤ 0 ∧ (0 : Int) ≤ 20; decide, by show (0 : Int) ≤ 0 ∧ (0 : Int) ≤ 40 * k; omega, fun i i0 i1 => absurd i1 (by show ¬ i < 0; omega)⟩
  · rw [aOn_n q]; exact h
theorem AM.ld {T : TT} {A P P1 : PH} (h : AM A P) (e1 : P1 35 0 = T.1 0) (e2 : P1 37 0 = T.1 (T.2 - 3)) (e3 : P1 38 0 = T.1 (T.2 - 2)) (e4 : P1 39 0 = 0) (e60 : P1 0 60 = 0) (ea : ∀ p : Int, 0 ≤ p → p < T.1 0 → P1 36 p = T.1 (1 + p)) (k61 : P1 0 61 = P 0 61) (k92 : P1 0 92 = P 0 92) : AM (aLd T A) P1 :=
  ⟨⟨e1, e2, e3, e4, e60, k61.trans h.b.2.2.2.2.2.1, k92.trans h.b.2.2.2.2.2.2⟩, ea, fun k k0 k1 => absurd k1 (by show ¬ k < 0; omega)⟩
theorem AX.ld {T : TT} {A P P1 : PH} (h : AX A P) (e1 : P1 14 1 = T.1 0) (e2 : P1 14 2 = T.1 (T.2 - 3)) (e3 : P1 14 3 = T.1 (T.2 - 2)) (e5 : P1 18 5 = 0) (e7 : P1 18 7 = 0) (ea : ∀ p : Int, 0 ≤ p → p < T.1 0 → P1 15 p = T.1 (1 + p)) (k0 : P1 0 14 = P 0 14) (k64 : P1 64 2 = P 64 2) : AX (aLd T A) P1 :=
  ⟨⟨e1, e2, e3, e5, e7, k0.trans h.b.2.2.2.2.2.1, k64.trans h.b.2.2.2.2.2.2⟩, ea, fun k q0 q1 => absurd q1 (by show ¬ k < 0; omega)⟩
/-- what is known ahead of place p -/
def OLI (T : TT) (M : PH) (p : Int) : Prop := ∀ q : Int, 0 ≤ q → q < p → oOk T M q
theorem OLI.z {T : TT} {M : PH} : OLI T M 0 := fun q q0 q1 => by exfalso; omega
theorem OLI.go {T : TT} {M : PH} {p : Int} (h : OLI T M p) (ho : oOk T M p) : OLI T M (p + 1) := fun q q0 q1 => by
  rcases (show q < p ∨ q = p by omega) with z | z
  · exact h q q0 z
  · rw [z]; exact ho
theorem ior_hl8 {x y : Int} (hx : 0 ≤ x ∧ x < 256) (hy : 0 ≤ y) (hr : y * 256 + x ≤ 2147483647) : ior (y * 256) x = y * 256 + x := ior_hl 8 hx hy hr
theorem SEI.hd {T : TT} {M A : PH} {k : Int} (h : SEI T M A k 1) : sHd T M := by
  rcases h with ⟨_, h1, _⟩ | ⟨h1, _⟩
  · exact h1
  · exact absurd h1 (by decide)
theorem SEI.on {T : TT} {M A : PH} {k c : Int} (h : SEI T M A k c) (hc : c = 1) : SEI T M A k 1 := by rw [hc] at h; exact h
theorem SEI.off {T : TT} {M A : PH} {k c : Int} (h : SEI T M A k c) (hc : c = 0) : ¬ seOk T M A := by rw [hc] at h; exact h.no
theorem SEI.st {T : TT} {M A : PH} {c : Int} (h : (c = 1 ∧ 0 < M 0 0 ∧ 0 < T.2 ∧ T.2 % 3 = 0 ∧ T.2 ≤ 48) ∨ (c = 0 ∧ (M 0 0 ≤ 0 ∨ T.2 ≤ 0 ∨ T.2 % 3 ≠ 0 ∨ 48 < T.2))) : SEI T M A 0 c := by
  rcases h with ⟨e, h1, h2, h3, h4⟩ | ⟨e, h⟩
  · rw [e]; exact SEI.y ⟨h1, h2, h3, h4⟩
  · rw [e]; exact SEI.n (fun q => by obtain ⟨q1, q2, q3, q4⟩ := q; omega)
theorem SEI.nx {T : TT} {M A : PH} {k c : Int} (h : SEI T M A k 1) (h0 : 0 ≤ k) (hk : k % 3 = 0) (hl : k < T.2) (hc : (c = 1 ∧ 256 * T.1 k + T.1 (k + 1) < M 0 1 ∧ (T.1 (k + 2) = 255 ∨ T.1 (k + 2) < A 0 0)) ∨ (c = 0 ∧ (M 0 1 ≤ 256 * T.1 k + T.1 (k + 1) ∨ (T.1 (k + 2) ≠ 255 ∧ A 0 0 ≤ T.1 (k + 2))))) : SEI T M A (k + 3) c := by
  have h3 : 3 * (k / 3) = k := by omega
  have ho : sOk T M A (k / 3) ↔ (256 * T.1 k + T.1 (k + 1) < M 0 1 ∧ (T.1 (k + 2) = 255 ∨ T.1 (k + 2) < A 0 0)) := by unfold sOk; rw [h3]
  rcases hc with ⟨e, h1, h2⟩ | ⟨e, h1⟩
  · rw [e]; exact h.go hk (ho.mpr ⟨h1, h2⟩)
  · rw [e]; exact SEI.bad h0 hk hl (fun q => by have q2 := ho.mp q; omega)
/-- the rows ahead of row n are good -/
def SLI (T : TT) (M A : PH) (n : Int) : Prop := ∀ i : Int, 0 ≤ i → i < n → sOk T M A i
theorem SLI.z {T : TT} {M A : PH} : SLI T M A 0 := fun i i0 i1 => by exfalso; omega
theorem SLI.go {T : TT} {M A : PH} {n : Int} (h : SLI T M A n) (ho : sOk T M A n) : SLI T M A (n + 1) := fun i i0 i1 => by
  rcases (show i < n ∨ i = n by omega) with z | z
  · exact h i i0 z
  · rw [z]; exact ho
end
end
