/-! Texts: the constructor of a value; letters, numbers, values written one behind another. -/
def inC (K : PH) (k v c : Int) : Prop := 0 ≤ c ∧ c < K 0 1 ∧ K 5 c = k ∧ K 10 c ≤ v ∧ v < K 10 c + cpr K c
theorem inC.un {K : PH} (hb : AB K) {k v c d : Int} (h : inC K k v c) (h2 : inC K k v d) : c = d := by
  obtain ⟨a1, a2, a3, a4, a5⟩ := h
  obtain ⟨b1, b2, b3, b4, b5⟩ := h2
  by_cases e : c = d
  · exact e
  · exfalso
    by_cases z : c < d
    · have q := (hb c a1 a2).2.1 d z b2 (by omega); omega
    · have q := (hb d b1 b2).2.1 c (by omega) a2 (by omega); omega
noncomputable def cO (K : PH) (k v : Int) : Int := Classical.epsilon (inC K k v)
section VTS
variable {K : PH} {W : TT} {k v : Int}
end VTS
/-- no text is long -/
def vL : Nat → Int
  | 0 => 2
  | n + 1 => 2 * vL n + 9
/-! what lies written on both sides -/
def XW (W : TT) (P : PH) : Prop := P 3 1 = W.2 ∧ ∀ i : Int, 0 ≤ i → i < W.2 → P 4 i = W.1 i
def MW (W : TT) (P : PH) : Prop := P 0 70 = W.2 ∧ ∀ i : Int, 0 ≤ i → i < W.2 → P 46 i = W.1 i
theorem XW.fr {W : TT} {P P1 : PH} {F : FSX} (h : XW W P) (hf : FrX F P P1) (hd : disX F ([(3, 1)], [4]) = true) : XW W P1 := by
  unfold XW at h ⊢
  rw [disX_f hd hf (o := 3) (k := 3) (j := 1) ⟨by decide, rfl⟩ (by decide), disX_a hd hf (o := 4) (k := 4) ⟨by decide, rfl⟩ (by decide)]
  exact h
theorem MW.fr {W : TT} {P P1 : PH} {F : FS} (h : MW W P) (hf : FrM F P P1) (hd : disF F ([70], [46]) = true) : MW W P1 := by
  unfold MW at h ⊢
  rw [disF_k hd hf (k := 70) (by decide), disF_o hd hf (o := 46) (by decide) rfl]
  exact h
theorem XW.nil {P : PH} (h : P 3 1 = 0) : XW (fun _ => 0, 0) P := ⟨h, fun i i0 i1 => by exfalso; have i1 : i < 0 := i1; omega⟩
theorem MW.nil {P : PH} (h : P 0 70 = 0) : MW (fun _ => 0, 0) P := ⟨h, fun i i0 i1 => by exfalso; have i1 : i < 0 := i1; omega⟩
theorem XW.add {W : TT} {P P1 : PH} {c : Int} (h : XW W P) (h1 : P1 3 1 = P 3 1 + 1) (s1 : P1 4 (P 3 1) = c) (q1 : ∀ j : Int, j ≠ P 3 1 → P1 4 j = P 4 j) : XW (tadd W c) P1 := by
  refine ⟨by rw [tadd_2, h1, h.1], fun i i0 i1 => ?_⟩
  rw [tadd_2] at i1
  show _ = if i = W.2 then c else W.1 i
  by_cases e : i = W.2
  · rw [if_pos e, e, ← h.1, s1]
  · rw [if_neg e, q1 i (by rw [h.1]; exact e)]
    exact h.2 i i0 (by omega)
theorem MW.add {W : TT} {P P1 : PH} {c : Int} (h : MW W P) (h1 : P1 0 70 = P 0 70 + 1) (s1 : P1 46 (P 0 70) = c) (q1 : ∀ j : Int, j ≠ P 0 70 → P1 46 j = P 46 j) : MW (tadd W c) P1 := by
  refine ⟨by rw [tadd_2, h1, h.1], fun i i0 i1 => ?_⟩
  rw [tadd_2] at i1
  show _ = if i = W.2 then c else W.1 i
  by_cases e : i = W.2
  · rw [if_pos e, e, ← h.1, s1]
  · rw [if_neg e, q1 i (by rw [h.1]; exact e)]
    exact h.2 i i0 (by omega)
