/-! Each arm stands at one place; the rule is one of four. -/
def IJ (n : Int) (f : IF) : Prop := ∀ p q : Int, 0 ≤ p → p < n → 0 ≤ q → q < n → f p = f q → p = q
theorem IJ.cg {n : Int} {f g : IF} (h : IJ n f) (e : ∀ p : Int, 0 ≤ p → p < n → g p = f p) : IJ n g := fun p q p0 p1 q0 q1 z => h p q p0 p1 q0 q1 (by rw [← e p p0 p1, ← e q q0 q1]; exact z)
def JA (A : PH) : Prop := (IJ (A 0 0) (A 1) ∧ 0 ≤ A 0 2 ∧ A 0 2 ≤ 3) ∧ ∀ i : Int, 0 ≤ i → i < A 0 4 → IJ (A 2 i) (fun p => A 6 (12 * i + p)) ∧ 0 ≤ A 4 i ∧ A 4 i ≤ 3
section JAS
variable {M A : PH} {k : Int}
theorem JA.now {n s : Int} (h : JA A) (hw : WA k A) (hn : 0 ≤ n) (hs : n + s = A 0 4) (s0 : 0 ≤ s) : JA (aNow A n s) := by
  refine ⟨?_, fun i i0 i1 => ?_⟩
  · rw [aNow_0, aNow_0, if_neg (by decide), if_neg (by decide)]
    exact ⟨h.1.1.cg (fun p _ _ => aNow_1 p), h.1.2⟩
  · rw [aNow_0, if_pos rfl] at i1
    rw [aNow_2, aNow_4]
    by_cases z : i = n
    · rw [if_pos z, if_pos z]
      refine ⟨h.1.1.cg (fun p p0 p1 => ?_), h.1.2⟩
      have w := hw.1
      show aNow A n s 6 (12 * i + p) = A 1 p
      rw [aNow_6, if_pos (by omega), show 12 * i + p - 12 * n = p by omega]
    · rw [if_neg z, if_neg z]
      have q := h.2 (i + s) (by omega) (by omega)
      have w := hw.2.2.2 (i + s) (by omega) (by omega)
      refine ⟨q.1.cg (fun p p0 p1 => ?_), q.2⟩
      show aNow A n s 6 (12 * i + p) = A 6 (12 * (i + s) + p)
      rw [aNow_6, if_neg (by omega), show 12 * i + p + 12 * s = 12 * (i + s) + p by omega]
theorem JA.push (h : JA A) (hw : WA k A) : JA (aPush A) := by
  have w := hw.2.1
  unfold aPush
  by_cases e : A 0 4 = 20
  · rw [if_pos e]; exact h.now hw (by decide) (by omega) (by decide)
  · rw [if_neg e]; exact h.now hw w.1 (by omega) (by decide)
theorem JA.pop (h : JA A) (h0 : 0 < A 0 4) : JA (aPop A) := by
  have q := h.2 (A 0 4 - 1) (by omega) (by omega)
  exact ⟨q, fun i i0 i1 => h.2 i i0 (by have i1 : i < A 0 4 - 1 := i1; omega)⟩
theorem JA.set {c n r : Int} {a : Int → Int} (h : JA A) (ha : IJ c a) (hr : 0 ≤ r ∧ r ≤ 3) : JA (aSet A c n r a) := ⟨⟨ha, hr⟩, h.2⟩
theorem JA.u0 {j z : Int} (h : JA A) (hj : j = 3 ∨ j = 5 ∨ j = 6) : JA (up A 0 j z) := by
  have e : ∀ q : Int, q ≠ 3 → q ≠ 5 → q ≠ 6 → up A 0 j z 0 q = A 0 q := fun q h3 h5 h6 => up_k (by omega)
  unfold JA
  rw [e 0 (by decide) (by decide) (by decide), e 2 (by decide) (by decide) (by decide), e 4 (by decide) (by decide) (by decide), up_row (by decide), up_row (by decide), up_row (by decide), up_row (by decide)]
  exact h
theorem JA.swap {a b : Int} (h : JA A) (hw : WA k A) : JA (aSwap A a b) := by
  by_cases q : (0 ≤ a ∧ a < A 0 0) ∧ (0 ≤ b ∧ b < A 0 0) ∧ a ≠ b
  · rw [aSwap_y q]
    refine (h.push hw).set (fun p r p0 p1 r0 r1 e => ?_) h.1.2
    have e : (if p = a then A 1 b else if p = b then A 1 a else A 1 p) = (if r = a then A 1 b else if r = b then A 1 a else A 1 r) := e
    have J := h.1.1
    by_cases pa : p = a
    · rw [if_pos pa] at e
      by_cases ra : r = a
      · omega
      · rw [if_neg ra] at e
        by_cases rb : r = b
        · rw [if_pos rb] at e
          have := J b a q.2.1.1 q.2.1.2 q.1.1 q.1.2 e
          omega
        · rw [if_neg rb] at e
          have := J b r q.2.1.1 q.2.1.2 r0 r1 e
          omega
    · rw [if_neg pa] at e
      by_cases pb : p = b
      · rw [if_pos pb] at e
        by_cases ra : r = a
        · rw [if_pos ra] at e
          have := J a b q.1.1 q.1.2 q.2.1.1 q.2.1.2 e
          omega
        · rw [if_neg ra] at e
          by_cases rb : r = b
          · omega
          · rw [if_neg rb] at e
            have := J a r q.1.1 q.1.2 r0 r1 e
            omega
      · rw [if_neg pb] at e
        by_cases ra : r = a
        · rw [if_pos ra] at e
          have := J p b p0 p1 q.2.1.1 q.2.1.2 e
          omega
        · rw [if_neg ra] at e
          by_cases rb : r = b
          · rw [if_pos rb] at e
            have := J p a p0 p1 q.1.1 q.1.2 e
            omega
          · rw [if_neg rb] at e
            exact J p r p0 p1 r0 r1 e
  · rw [aSwap_n q]; exact h
theorem JA.drop {p : Int} (h : JA A) (hw : WA k A) : JA (aDrop A p) := by
  by_cases q : 0 ≤ p ∧ p < A 0 0
  · rw [aDrop_y q]
    refine (h.push hw).set (fun i j i0 i1 j0 j1 e => ?_) h.1.2
    have e : (if i < p then A 1 i else A 1 (i + 1)) = (if j < p then A 1 j else A 1 (j + 1)) := e
    have J := h.1.1
    by_cases ip : i < p
    · rw [if_pos ip] at e
      by_cases jp : j < p
      · rw [if_pos jp] at e
        exact J i j i0 (by omega) j0 (by omega) e
      · rw [if_neg jp] at e
        have := J i (j + 1) i0 (by omega) (by omega) (by omega) e
        omega
    · rw [if_neg ip] at e
      by_cases jp : j < p
      · rw [if_pos jp] at e
        have := J (i + 1) j (by omega) (by omega) j0 (by omega) e
        omega
      · rw [if_neg jp] at e
        have := J (i + 1) (j + 1) (by omega) (by omega) (by omega) (by omega) e
        omega
  · rw [aDrop_n q]; exact h
theorem JA.turn {g : Int} (h : JA A) (hw : WA k A) : JA (aTurn A M g) := by
  by_cases q : 0 < M 0 0 ∧ 0 ≤ g ∧ g ≤ 7
  · rw [aTurn_y q]; exact (h.push hw).set h.1.1 h.1.2
  · rw [aTurn_n q]; exact h
theorem JA.rule {r : Int} (h : JA A) (hw : WA k A) : JA (aRule A M r) := by
  by_cases q : 0 < M 0 0 ∧ 0 ≤ r ∧ r ≤ 3 ∧ A 0 2 ≠ r
  · rw [aRule_y q]; exact (h.push hw).set h.1.1 ⟨q.2.1, q.2.2.1⟩
  · rw [aRule_n q]; exact h
theorem JA.seed {v : Int} (h : JA A) : JA (aSeed A v) := by
  by_cases q : 0 ≤ v
  · rw [aSeed_y q]; exact h.u0 (Or.inr (Or.inl rfl))
  · rw [aSeed_n (by omega)]; exact h
theorem JA.undo (h : JA A) : JA (aUndo A) := by
  by_cases q : 0 < A 0 4
  · rw [aUndo_y q]; exact h.pop q
  · rw [aUndo_n (by omega)]; exact h
theorem JA.run {r : Int} (h : JA A) (hw : WA k A) : JA (aRun A M r) := by
  by_cases q : 0 < M 0 0 ∧ 0 ≤ r ∧ r < M 0 1
  · rw [aRun_y q]; exact (h.push hw).u0 (Or.inl rfl)
  · rw [aRun_n q]; exact h
theorem JA.drs : ∀ (n : Nat) {A : PH}, JA A → JA (aDrs n A) := by
  intro n
  induction n with
  | zero => intro A h; exact h
  | succ n ih => intro A h; exact ((ih h).u0 (Or.inr (Or.inl rfl))).u0 (Or.inl rfl)
theorem JA.cha {n : Int} (h : JA A) (hw : WA k A) : JA (aCha A M n) := by
  by_cases q : 0 < M 0 0 ∧ 1 ≤ n ∧ n ≤ 40
  · rw [aCha_y q]; exact JA.drs _ (h.push hw)
  · rw [aCha_n q]; exact h
theorem JA.beg {c r : Int} (hr : 0 ≤ r ∧ r ≤ 3) : JA (aBeg A c r) := ⟨⟨fun p q _ _ _ _ e => e, hr⟩, fun i i0 i1 => absurd i1 (by show ¬ i < 0; omega)⟩
theorem JA.mat {T : TT} (h : JA A) (hr : (mlR T).1 = 0 → 0 ≤ (mlR T).2.2.2 0 3 ∧ (mlR T).2.2.2 0 3 ≤ 3) : JA (aMat T A) := by
  unfold aMat
  by_cases q : (mlR T).1 = 0
  · rw [if_pos q]; exact JA.beg (hr q)
  · rw [if_neg q]; exact h
theorem JA.see {T : TT} (h : JA A) : JA (aSee T M A) := by
  rcases Classical.em (seOk T M A) with q | q
  · rw [aSee_y q]; exact h.u0 (Or.inr (Or.inr rfl))
  · rw [aSee_n q]; exact h
/-- the arms of an image that were met -/
theorem hdF_t {T : TT} {m : Int} (hm : m ≤ 12) : ∀ n : Nat, (n : Int) ≤ 12 → (∀ i : Int, 0 ≤ i → i < (n : Int) → 0 ≤ T.1 (1 + i) ∧ T.1 (1 + i) < m) → (0 ≤ hdF T n ∧ hdF T n ≤ 4095) ∧ ∀ i : Int, 0 ≤ i → i < (n : Int) → tb (hdF T n) (T.1 (1 + i)) = true := by
  intro n
  induction n with
  | zero => intro _ _; exact ⟨by show (0 : Int) ≤ 0 ∧ (0 : Int) ≤ 4095; decide, fun i i0 i1 => by exfalso; have i1 : i < 0 := i1; omega⟩
  | succ n ih =>
    intro hn h
    obtain ⟨hb, ht⟩ := ih (by omega) (fun i i0 i1 => h i i0 (by omega))
    have hl := h (n : Int) (by omega) (by omega)
    have e : hdF T (n + 1) = ior (hdF T n) (ishl 1 (T.1 (1 + (n : Int)))) := rfl
    have hs := ishl1 11 (by decide) (y := T.1 (1 + (n : Int))) ⟨hl.1, by omega⟩
    have e11 : ((2 ^ 11 : Nat) : Int) = 2048 := rfl
    rw [e11] at hs
    have e12 : ((2 ^ 12 : Nat) : Int) = 4096 := rfl
    have hx := ior_b 12 (by decide) (x := hdF T n) (y := ishl 1 (T.1 (1 + (n : Int)))) ⟨hb.1, by rw [e12]; omega⟩ ⟨by omega, by rw [e12]; omega⟩
    rw [e12] at hx
    rw [e]
    refine ⟨by omega, fun i i0 i1 => ?_⟩
    have hq := h i i0 i1
    rw [tb_ior ⟨by omega, by omega⟩ ⟨by omega, by omega⟩]
    by_cases z : i = (n : Int)
    · rw [z, tb_one ⟨hl.1, by omega⟩ hl.1, decide_eq_true rfl, Bool.or_true]
    · rw [ht i i0 (by omega), Bool.true_or]
theorem JA.on {T : TT} (h : JA A) (hT : ∀ i : Int, 0 ≤ i → i < T.2 → 0 ≤ T.1 i) (hm : M 0 2 ≤ 12) : JA (aOn T M A) := by
  rcases Classical.em (onOk T M) with q | q
  · rw [aOn_y q]
    obtain ⟨⟨q1, q2, q3, q4⟩, _, q6, q7⟩ := q
    have hT0 := hT 0 (by decide) (by omega)
    have hT1 : ∀ i : Int, 0 ≤ i → i < T.1 0 → 0 ≤ T.1 (1 + i) ∧ T.1 (1 + i) < M 0 2 := fun i i0 i1 => ⟨hT _ (by omega) (by omega), (q7 i i0 i1).1⟩
    have key : ∀ i j : Int, 0 ≤ i → i < j → j < T.1 0 → T.1 (1 + i) ≠ T.1 (1 + j) := fun i j i0 ij j1 e => by
      have ej := q7 j (by omega) j1
      obtain ⟨hb, ht⟩ := hdF_t (T := T) hm j.toNat (by omega) (fun x x0 x1 => hT1 x x0 (by omega))
      have t := ht i i0 (by omega)
      rw [e] at t
      have w := hT1 j (by omega) j1
      have b := bit_is (x := hdF T j.toNat) (i := T.1 (1 + j)) ⟨by omega, by omega⟩ ⟨by omega, by omega⟩
      rw [if_pos t] at b
      have z := ej.2
      rw [b] at z
      exact absurd z (by decide)
    refine ⟨⟨fun i j i0 i1 j0 j1 e => ?_, ?_⟩, fun i i0 i1 => absurd i1 (by show ¬ i < 0; omega)⟩
    · have i1 : i < T.1 0 := i1
      have j1 : j < T.1 0 := j1
      have e : T.1 (1 + i) = T.1 (1 + j) := e
      rcases (show i < j ∨ j < i ∨ i = j by omega) with z | z | z
      · exact absurd e (key i j i0 z j1)
      · exact absurd e.symm (key j i j0 z i1)
      · exact z
    · show 0 ≤ T.1 (T.2 - 2) ∧ T.1 (T.2 - 2) ≤ 3
      exact ⟨hT _ (by omega) (by omega), q6⟩
  · rw [aOn_n q]; exact h
theorem JA.zero : JA A0 := ⟨⟨fun p q p0 p1 => absurd p1 (by show ¬ p < 0; omega), by show (0 : Int) ≤ 0; decide, by show (0 : Int) ≤ 3; decide⟩, fun i i0 i1 => absurd i1 (by show ¬ i < 0; omega)⟩
end JAS
