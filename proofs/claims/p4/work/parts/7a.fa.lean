/-! The tape on both sides: bytes behind one another. -/
def tadd (T : TT) (c : Int) : TT := (fun i => if i = T.2 then c else T.1 i, T.2 + 1)
def tput (T : TT) (a : Int) : Nat → TT
  | 0 => T
  | k + 1 => tadd (tput T a k) (iand (ishr a (24 - 8 * (k : Int))) 255)
def tfive (T : TT) (a b c d e : Int) : TT := tput (tput (tput (tput (tput T a 4) b 4) c 4) d 4) e 4
theorem tadd_2 (T : TT) (c : Int) : (tadd T c).2 = T.2 + 1 := rfl
theorem tput_2 (T : TT) (a : Int) : ∀ k : Nat, (tput T a k).2 = T.2 + k := by
  intro k
  induction k with
  | zero => show T.2 = T.2 + 0; omega
  | succ k ih =>
    show (tput T a k).2 + 1 = T.2 + ((k + 1 : Nat) : Int)
    rw [ih]
    omega
/-- the reference's tape -/
def CM (T : TT) (P : PH) : Prop := P 0 1 = T.2 ∧ ∀ i : Int, 0 ≤ i → i < T.2 → P 1 i = T.1 i
theorem CM.fr {T : TT} {P P1 : PH} {F : FS} (h : CM T P) (hf : FrM F P P1) (hd : disF F ([1], [1]) = true) : CM T P1 := by
  unfold CM at h ⊢
  rw [disF_k hd hf (k := 1) (by decide), disF_o hd hf (o := 1) (by decide) rfl]
  exact h
theorem CM.add {T : TT} {P P1 : PH} {c : Int} (h : CM T P) (h1 : P1 0 1 = P 0 1 + 1) (s1 : P1 1 (P 0 1) = c) (q1 : ∀ j : Int, j ≠ P 0 1 → P1 1 j = P 1 j) : CM (tadd T c) P1 := by
  refine ⟨by rw [tadd_2, h1, h.1], fun i i0 i1 => ?_⟩
  rw [tadd_2] at i1
  show _ = if i = T.2 then c else T.1 i
  by_cases e : i = T.2
  · rw [if_pos e, e, ← h.1, s1]
  · rw [if_neg e, q1 i (by rw [h.1]; exact e)]
    exact h.2 i i0 (by omega)
theorem CM.cut {T : TT} {P P1 : PH} {n : Int} (h : CM T P) (hn : n ≤ T.2) (h1 : P1 0 1 = n) (q1 : ∀ j : Int, P1 1 j = P 1 j) : CM (T.1, n) P1 := ⟨h1, fun i i0 i1 => by rw [q1]; exact h.2 i i0 (by have i1 : i < n := i1; omega)⟩
theorem CM.nil {P : PH} (h : P 0 1 = 0) : CM (fun _ => 0, 0) P := ⟨h, fun i i0 i1 => by exfalso; have i1 : i < 0 := i1; omega⟩
/-- the class's tape -/
def CX (T : TT) (P : PH) : Prop := P 1 1 = T.2 ∧ ∀ i : Int, 0 ≤ i → i < T.2 → P 2 i = T.1 i
theorem CX.fr {T : TT} {P P1 : PH} {F : FSX} (h : CX T P) (hf : FrX F P P1) (hd : disX F ([(1, 1)], [2]) = true) : CX T P1 := by
  refine ⟨by rw [disX_f hd hf (o := 1) (k := 1) (j := 1) ⟨by decide, rfl⟩ (by decide)]; exact h.1, fun i i0 i1 => ?_⟩
  rw [disX_a hd hf (o := 2) (k := 2) ⟨by decide, rfl⟩ (by decide)]
  exact h.2 i i0 i1
theorem CX.add {T : TT} {P P1 : PH} {c : Int} (h : CX T P) (h1 : P1 1 1 = P 1 1 + 1) (s1 : P1 2 (P 1 1) = c) (q1 : ∀ j : Int, j ≠ P 1 1 → P1 2 j = P 2 j) : CX (tadd T c) P1 := by
  refine ⟨by rw [tadd_2, h1, h.1], fun i i0 i1 => ?_⟩
  rw [tadd_2] at i1
  show _ = if i = T.2 then c else T.1 i
  by_cases e : i = T.2
  · rw [if_pos e, e, ← h.1, s1]
  · rw [if_neg e, q1 i (by rw [h.1]; exact e)]
    exact h.2 i i0 (by omega)
theorem CX.cut {T : TT} {P P1 : PH} {n : Int} (h : CX T P) (hn : n ≤ T.2) (h1 : P1 1 1 = n) (q1 : ∀ j : Int, P1 2 j = P 2 j) : CX (T.1, n) P1 := ⟨h1, fun i i0 i1 => by rw [q1]; exact h.2 i i0 (by have i1 : i < n := i1; omega)⟩
theorem CX.nil {P : PH} (h : P 1 1 = 0) : CX (fun _ => 0, 0) P := ⟨h, fun i i0 i1 => by exfalso; have i1 : i < 0 := i1; omega⟩
theorem ishr_0 {x : Int} (h : IR x) : ishr x 0 = x := by
  have := ishr_c 0 (by decide) h
  rw [show ((0 : Nat) : Int) = 0 from rfl, show ((2 ^ 0 : Nat) : Int) = 1 from rfl, Int.ediv_one] at this
  exact this
/-- four bytes, one behind the other -/
theorem tput_4 {T : TT} {a : Int} (h : IR a) : tput T a 4 = tadd (tadd (tadd (tadd T (iand (ishr a 24) 255)) (iand (ishr a 16) 255)) (iand (ishr a 8) 255)) (iand a 255) := by
  have e : tput T a 4 = tadd (tadd (tadd (tadd T (iand (ishr a 24) 255)) (iand (ishr a 16) 255)) (iand (ishr a 8) 255)) (iand (ishr a 0) 255) := rfl
  rw [e, ishr_0 h]
def ff (T : TT) (a b c d e : Int) : TT := if 1580 < T.2 then T else tfive T a b c d e
def fe (T : TT) (n : Int) : TT := if 0 ≤ n ∧ n ≤ T.2 then (T.1, n) else T
