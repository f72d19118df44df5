/-! What a node asks for: n places, f their arms, L the places left (of twelve), o the columns left, r the rule. -/
abbrev LB : Type := Int → Bool
def bI (b : Bool) : Int := if b = true then 1 else 0
def hdL (L : LB) : Int := fxi (fun p => bI (L p)) 1 12
/-- the unlike sets of a column, in their order -/
def DS (K M : PH) (F : FT) (c : Int) : List Int := dsl (mkf K M F c) (sz K (M 1 c)).toNat
def dsi (K M : PH) (F : FT) (c i : Int) : Int := (DS K M F c).getD i.toNat 0
def dln (K M : PH) (F : FT) (c : Int) : Int := ((DS K M F c).length : Int)
/-- whether an arm is full in a column -/
def fuA (K M : PH) (F : FT) (c a : Int) : Bool := (DS K M F c).all (fun s => tb s a)
/-- a branch by the number of its set -/
def stL (K M : PH) (F : FT) (n : Int) (f : IF) (L : LB) (c i : Int) : LB := fun p => decide (p < n) && (L p && tb (dsi K M F c i) (f p))
/-- whether the arm at a place is full in a column -/
def fuP (K M : PH) (F : FT) (n : Int) (f : IF) (c p : Int) : Bool := decide (p < n) && fuA K M F c (f p)
def samL (L1 L2 : LB) : Bool := (List.range 12).all (fun p => L1 (p : Int) == L2 (p : Int))
def newL (K M : PH) (F : FT) (n : Int) (f : IF) (L : LB) (c i : Int) : Bool := (List.range i.toNat).all (fun k => !samL (stL K M F n f L c (k : Int)) (stL K M F n f L c i))
def nbL (L : LB) : Int := smN (fun p => bI (L p)) 12
/-- how many branches, the first i sets seen -/
def cnB (K M : PH) (F : FT) (n : Int) (f : IF) (L : LB) (c : Int) (i : Nat) : Int := smN (fun i => bI (newL K M F n f L c i)) i
/-- the most arms of a branch, the first i sets seen -/
def mxB (K M : PH) (F : FT) (n : Int) (f : IF) (L : LB) (c : Int) : Nat → Int
  | 0 => 0
  | i + 1 => if mxB K M F n f L c i < nbL (stL K M F n f L c (i : Int)) then nbL (stL K M F n f L c (i : Int)) else mxB K M F n f L c i
/-- how many left are not full in a row, from a place on -/
def nfG (K M : PH) (F : FT) (n : Int) (f : IF) (L : LB) (c : Int) : Nat → Int → Int
  | 0, _ => 0
  | k + 1, p => if L p = true then (if fuP K M F n f c p = true then 0 else 1 + nfG K M F n f L c k (p + 1)) else nfG K M F n f L c k (p + 1)
def worL (K M : PH) (F : FT) (n : Int) (f : IF) (r : Int) (L : LB) (c : Int) : Int :=
  if r = 0 then 0 else if r = 1 then nfG K M F n f L c 12 0 else if r = 2 then -cnB K M F n f L c (DS K M F c).length else -mxB K M F n f L c (DS K M F c).length
/-- the best of the first c columns, how good it is -/
def askG (K M : PH) (F : FT) (n : Int) (f : IF) (r : Int) (L : LB) (o : Int) : Nat → Int × Int
  | 0 => (-1, 0)
  | c + 1 => if tb o (c : Int) = true ∧ fuP K M F n f (c : Int) (hdL L) = false ∧ ((askG K M F n f r L o c).1 = -1 ∨ (askG K M F n f r L o c).2 < worL K M F n f r L (c : Int)) then ((c : Int), worL K M F n f r L (c : Int)) else askG K M F n f r L o c
def ASK (K M : PH) (F : FT) (n : Int) (f : IF) (r : Int) (L : LB) (o : Int) : Int := if hdL L = -1 then -1 else (askG K M F n f r L o (M 0 0).toNat).1
/-- the reference's name for none -/
def ak4 (x : Int) : Int := if x = -1 then 4 else x
theorem ak4_s (x : Int) : (x = -1 ∧ ak4 x = 4) ∨ (x ≠ -1 ∧ ak4 x = x) := by
  unfold ak4
  by_cases h : x = -1
  · rw [if_pos h]; exact Or.inl ⟨h, rfl⟩
  · rw [if_neg h]; exact Or.inr ⟨h, rfl⟩
theorem bI_s (b : Bool) : (b = true ∧ bI b = 1) ∨ (b = false ∧ bI b = 0) := by
  cases b
  · exact Or.inr ⟨rfl, rfl⟩
  · exact Or.inl ⟨rfl, rfl⟩
theorem bI_1 {b : Bool} (h : b = true) : bI b = 1 := by rw [h]; rfl
theorem bI_0 {b : Bool} (h : b ≠ true) : bI b = 0 := by
  cases b
  · rfl
  · exact absurd rfl h
section LBS
variable {K M : PH} {F : FT} {n : Int} {f : IF} {L L1 L2 : LB} {c i r o p : Int}
theorem hdL_b : -1 ≤ hdL L ∧ (hdL L = -1 ∨ (0 ≤ hdL L ∧ hdL L < 12 ∧ L (hdL L) = true)) := by
  have b := fxi_b (fun p => bI (L p)) 1 12
  have e : hdL L = fxi (fun p => bI (L p)) 1 12 := rfl
  rw [← e] at b
  refine ⟨b.1, ?_⟩
  by_cases z : hdL L = -1
  · exact Or.inl z
  · refine Or.inr ⟨by omega, by omega, ?_⟩
    have q := b.2.2.resolve_left z
    have q : bI (L (hdL L)) = 1 := q
    rcases bI_s (L (hdL L)) with w | w
    · exact w.1
    · omega
theorem hdL_no (h : hdL L = -1) (p0 : 0 ≤ p) (p1 : p < 12) : L p = false := by
  have q := fxi_m1 (g := fun p => bI (L p)) (v := 1) 12 h p p0 (by omega)
  have q : bI (L p) ≠ 1 := q
  rcases bI_s (L p) with w | w
  · omega
  · exact w.1
theorem hdL_fst (p0 : 0 ≤ p) (p1 : p < hdL L) : L p = false := by
  by_cases z : hdL L = -1
  · omega
  · have q := fxi_fst (g := fun p => bI (L p)) (v := 1) 12 z p p0 p1
    have q : bI (L p) ≠ 1 := q
    rcases bI_s (L p) with w | w
    · omega
    · exact w.1
theorem hdL_is (p0 : 0 ≤ p) (p1 : p < 12) (h : L p = true) (hf : ∀ i : Int, 0 ≤ i → i < p → L i = false) : hdL L = p :=
  fxi_some p0 (bI_1 h) (fun i i0 i1 => by
    show bI (L i) ≠ 1
    rw [hf i i0 i1]
    decide) 12 (by omega)
theorem hdL_none (h : ∀ i : Int, 0 ≤ i → i < 12 → L i = false) : hdL L = -1 := fxi_none 12 (fun i i0 i1 => by
  show bI (L i) ≠ 1
  rw [h i i0 (by omega)]
  decide)
theorem hdL_cg (e : ∀ p : Int, 0 ≤ p → p < 12 → L1 p = L2 p) : hdL L1 = hdL L2 := fxi_cg 12 (fun i i0 i1 => by
  show bI (L1 i) = 1 ↔ bI (L2 i) = 1
  rw [e i i0 (by omega)])
theorem nbL_cg (e : ∀ p : Int, 0 ≤ p → p < 12 → L1 p = L2 p) : nbL L1 = nbL L2 := smN_cg 12 (fun i i0 i1 => by
  show bI (L1 i) = bI (L2 i)
  rw [e i i0 (by omega)])
theorem nbL_b : 0 ≤ nbL L ∧ nbL L ≤ 12 := by
  have h1 := smN_nn (g := fun p => bI (L p)) 12 (fun i _ _ => by
    show 0 ≤ bI (L i)
    rcases bI_s (L i) with w | w <;> omega)
  have h2 := smN_le (g := fun p => bI (L p)) (h := fun _ => 1) 12 (fun i _ _ => by
    show bI (L i) ≤ 1
    rcases bI_s (L i) with w | w <;> omega)
  have h3 : ∀ m : Nat, smN (fun _ => 1) m = (m : Int) := by
    intro m
    induction m with
    | zero => rfl
    | succ m ih => rw [smN_up1, ih]; omega
  rw [h3] at h2
  unfold nbL
  omega
theorem stL_cg (e : ∀ p : Int, 0 ≤ p → p < 12 → L1 p = L2 p) : ∀ p : Int, 0 ≤ p → p < 12 → stL K M F n f L1 c i p = stL K M F n f L2 c i p := fun p p0 p1 => by
  show (decide (p < n) && (L1 p && tb (dsi K M F c i) (f p))) = (decide (p < n) && (L2 p && tb (dsi K M F c i) (f p)))
  rw [e p p0 p1]
theorem samL_i : samL L1 L2 = true ↔ ∀ p : Int, 0 ≤ p → p < 12 → L1 p = L2 p := by
  unfold samL
  rw [List.all_eq_true]
  constructor
  · intro h p p0 p1
    have q := h p.toNat (List.mem_range.mpr (by omega))
    rw [show ((p.toNat : Nat) : Int) = p by omega] at q
    exact eq_of_beq q
  · intro h p hp
    have hp := List.mem_range.mp hp
    rw [h (p : Int) (by omega) (by omega)]
    exact beq_self_eq_true _
theorem newL_i (i0 : 0 ≤ i) : newL K M F n f L c i = true ↔ ∀ k : Int, 0 ≤ k → k < i → ¬ ∀ p : Int, 0 ≤ p → p < 12 → stL K M F n f L c k p = stL K M F n f L c i p := by
  unfold newL
  rw [List.all_eq_true]
  constructor
  · intro h k k0 k1 e
    have q := h k.toNat (List.mem_range.mpr (by omega))
    rw [show ((k.toNat : Nat) : Int) = k by omega, samL_i.mpr e] at q
    exact absurd q (by decide)
  · intro h k hk
    have hk := List.mem_range.mp hk
    have q := h (k : Int) (by omega) (by omega)
    cases z : samL (stL K M F n f L c (k : Int)) (stL K M F n f L c i) with
    | false => rfl
    | true => exact absurd (samL_i.mp z) q
theorem newL_cg (e : ∀ p : Int, 0 ≤ p → p < 12 → L1 p = L2 p) (i0 : 0 ≤ i) : newL K M F n f L1 c i = newL K M F n f L2 c i := by
  have q : newL K M F n f L1 c i = true ↔ newL K M F n f L2 c i = true := by
    rw [newL_i i0, newL_i i0]
    constructor
    · intro h k k0 k1 z
      refine h k k0 k1 (fun p p0 p1 => ?_)
      rw [stL_cg e p p0 p1, stL_cg e p p0 p1]
      exact z p p0 p1
    · intro h k k0 k1 z
      refine h k k0 k1 (fun p p0 p1 => ?_)
      rw [← stL_cg e p p0 p1, ← stL_cg e p p0 p1]
      exact z p p0 p1
  cases z : newL K M F n f L1 c i with
  | true => exact (q.mp z).symm
  | false =>
    cases w : newL K M F n f L2 c i with
    | false => rfl
    | true => rw [q.mpr w] at z; exact absurd z (by decide)
theorem cnB_cg (e : ∀ p : Int, 0 ≤ p → p < 12 → L1 p = L2 p) (k : Nat) : cnB K M F n f L1 c k = cnB K M F n f L2 c k := smN_cg k (fun i i0 _ => by
  show bI (newL K M F n f L1 c i) = bI (newL K M F n f L2 c i)
  rw [newL_cg e i0])
theorem mxB_cg (e : ∀ p : Int, 0 ≤ p → p < 12 → L1 p = L2 p) : ∀ k : Nat, mxB K M F n f L1 c k = mxB K M F n f L2 c k := by
  intro k
  induction k with
  | zero => rfl
  | succ k ih =>
    show (if mxB K M F n f L1 c k < nbL (stL K M F n f L1 c (k : Int)) then nbL (stL K M F n f L1 c (k : Int)) else mxB K M F n f L1 c k) = (if mxB K M F n f L2 c k < nbL (stL K M F n f L2 c (k : Int)) then nbL (stL K M F n f L2 c (k : Int)) else mxB K M F n f L2 c k)
    rw [ih, nbL_cg (stL_cg e)]
theorem nfG_cg (e : ∀ p : Int, 0 ≤ p → p < 12 → L1 p = L2 p) : ∀ (k : Nat) (p : Int), 0 ≤ p → p + (k : Int) ≤ 12 → nfG K M F n f L1 c k p = nfG K M F n f L2 c k p := by
  intro k
  induction k with
  | zero => intro p _ _; rfl
  | succ k ih =>
    intro p p0 p1
    show (if L1 p = true then _ else _) = (if L2 p = true then _ else _)
    rw [e p p0 (by omega), ih (p + 1) (by omega) (by omega)]
theorem worL_cg (e : ∀ p : Int, 0 ≤ p → p < 12 → L1 p = L2 p) : worL K M F n f r L1 c = worL K M F n f r L2 c := by
  unfold worL
  rw [nfG_cg e 12 0 (Int.le_refl 0) (by omega), cnB_cg e, mxB_cg e]
theorem askG_cg (e : ∀ p : Int, 0 ≤ p → p < 12 → L1 p = L2 p) : ∀ k : Nat, askG K M F n f r L1 o k = askG K M F n f r L2 o k := by
  intro k
  induction k with
  | zero => rfl
  | succ k ih =>
    show (if tb o (k : Int) = true ∧ fuP K M F n f (k : Int) (hdL L1) = false ∧ ((askG K M F n f r L1 o k).1 = -1 ∨ (askG K M F n f r L1 o k).2 < worL K M F n f r L1 (k : Int)) then ((k : Int), worL K M F n f r L1 (k : Int)) else askG K M F n f r L1 o k) = (if tb o (k : Int) = true ∧ fuP K M F n f (k : Int) (hdL L2) = false ∧ ((askG K M F n f r L2 o k).1 = -1 ∨ (askG K M F n f r L2 o k).2 < worL K M F n f r L2 (k : Int)) then ((k : Int), worL K M F n f r L2 (k : Int)) else askG K M F n f r L2 o k)
    rw [ih, hdL_cg e, worL_cg e]
theorem ASK_cg (e : ∀ p : Int, 0 ≤ p → p < 12 → L1 p = L2 p) : ASK K M F n f r L1 o = ASK K M F n f r L2 o := by
  unfold ASK
  rw [hdL_cg e, askG_cg e]
theorem askG_b : ∀ k : Nat, -1 ≤ (askG K M F n f r L o k).1 ∧ (askG K M F n f r L o k).1 < (k : Int) ∧ ((askG K M F n f r L o k).1 = -1 ∨ (tb o (askG K M F n f r L o k).1 = true ∧ fuP K M F n f (askG K M F n f r L o k).1 (hdL L) = false)) := by
  intro k
  induction k with
  | zero => exact ⟨by show (-1 : Int) ≤ -1; decide, by show (-1 : Int) < 0; decide, Or.inl rfl⟩
  | succ k ih =>
    have e : askG K M F n f r L o (k + 1) = if tb o (k : Int) = true ∧ fuP K M F n f (k : Int) (hdL L) = false ∧ ((askG K M F n f r L o k).1 = -1 ∨ (askG K M F n f r L o k).2 < worL K M F n f r L (k : Int)) then ((k : Int), worL K M F n f r L (k : Int)) else askG K M F n f r L o k := rfl
    rw [e]
    by_cases h : tb o (k : Int) = true ∧ fuP K M F n f (k : Int) (hdL L) = false ∧ ((askG K M F n f r L o k).1 = -1 ∨ (askG K M F n f r L o k).2 < worL K M F n f r L (k : Int))
    · rw [if_pos h]
      exact ⟨by show -1 ≤ (k : Int); omega, by show (k : Int) < ((k + 1 : Nat) : Int); omega, Or.inr ⟨h.1, h.2.1⟩⟩
    · rw [if_neg h]
      exact ⟨ih.1, by omega, ih.2.2⟩
theorem askG_y {k : Int} (k0 : 0 ≤ k) (h1 : tb o k = true) (h2 : fuP K M F n f k (hdL L) = false) (h3 : (askG K M F n f r L o k.toNat).1 = -1 ∨ (askG K M F n f r L o k.toNat).2 < worL K M F n f r L k) : askG K M F n f r L o (k + 1).toNat = (k, worL K M F n f r L k) := by
  rw [show (k + 1).toNat = k.toNat + 1 by omega]
  show (if _ then _ else _) = _
  rw [show ((k.toNat : Nat) : Int) = k by omega, if_pos ⟨h1, h2, h3⟩]
theorem askG_n {k : Int} (k0 : 0 ≤ k) (h : tb o k ≠ true ∨ fuP K M F n f k (hdL L) = true ∨ ((askG K M F n f r L o k.toNat).1 ≠ -1 ∧ worL K M F n f r L k ≤ (askG K M F n f r L o k.toNat).2)) : askG K M F n f r L o (k + 1).toNat = askG K M F n f r L o k.toNat := by
  rw [show (k + 1).toNat = k.toNat + 1 by omega]
  show (if _ then _ else _) = _
  rw [show ((k.toNat : Nat) : Int) = k by omega, if_neg]
  rintro ⟨a, b, d⟩
  rcases h with h | h | h
  · exact h a
  · rw [h] at b; exact absurd b (by decide)
  · rcases d with d | d
    · exact h.1 d
    · omega
theorem ASK_n (h : hdL L = -1) : ASK K M F n f r L o = -1 := by unfold ASK; rw [if_pos h]
theorem ASK_y (h : hdL L ≠ -1) : ASK K M F n f r L o = (askG K M F n f r L o (M 0 0).toNat).1 := by unfold ASK; rw [if_neg h]
theorem ASK_b (hm : 0 ≤ M 0 0) : -1 ≤ ASK K M F n f r L o ∧ ASK K M F n f r L o < M 0 0 ∧ (ASK K M F n f r L o = -1 ∨ (0 ≤ ASK K M F n f r L o ∧ tb o (ASK K M F n f r L o) = true ∧ hdL L ≠ -1)) := by
  by_cases h : hdL L = -1
  · rw [ASK_n h]; exact ⟨by decide, by omega, Or.inl rfl⟩
  · rw [ASK_y h]
    have b := askG_b (K := K) (M := M) (F := F) (n := n) (f := f) (r := r) (L := L) (o := o) (M 0 0).toNat
    refine ⟨b.1, by omega, ?_⟩
    rcases b.2.2 with q | q
    · exact Or.inl q
    · exact (Decidable.em ((askG K M F n f r L o (M 0 0).toNat).1 = -1)).elim Or.inl (fun z => Or.inr ⟨by omega, q.1, h⟩)
/-- no column's worth: a rule that weighs none -/
theorem worL_0 (h : r = 0) : worL K M F n f r L c = 0 := by unfold worL; rw [if_pos h]
theorem worL_1 (h : r = 1) : worL K M F n f r L c = nfG K M F n f L c 12 0 := by unfold worL; rw [if_neg (by omega), if_pos h]
theorem worL_2 (h : r = 2) : worL K M F n f r L c = -cnB K M F n f L c (DS K M F c).length := by unfold worL; rw [if_neg (by omega), if_neg (by omega), if_pos h]
theorem worL_3 (h : r = 3) : worL K M F n f r L c = -mxB K M F n f L c (DS K M F c).length := by unfold worL; rw [if_neg (by omega), if_neg (by omega), if_neg (by omega)]
/-- places that are not left are passed over -/
theorem nfG_skip : ∀ (k : Nat) (p q : Int), p ≤ q → (∀ i : Int, p ≤ i → i < q → L i = false) → nfG K M F n f L c (k + (q - p).toNat) p = nfG K M F n f L c k q := by
  intro k p q hpq h
  obtain ⟨m, hm⟩ : ∃ m : Nat, m = (q - p).toNat := ⟨_, rfl⟩
  rw [← hm]
  induction m generalizing p with
  | zero => rw [show p = q by omega]; rfl
  | succ m ih =>
    have e : nfG K M F n f L c (k + (m + 1)) p = if L p = true then (if fuP K M F n f c p = true then 0 else 1 + nfG K M F n f L c (k + m) (p + 1)) else nfG K M F n f L c (k + m) (p + 1) := rfl
    rw [e, h p (Int.le_refl _) (by omega), if_neg (by decide)]
    exact ih (p + 1) (by omega) (fun i a b => h i (by omega) b) (by omega)
theorem nfG_at {k : Int} (p0 : 0 ≤ p) (hk : 0 < k) : nfG K M F n f L c k.toNat p = if L p = true then (if fuP K M F n f c p = true then 0 else 1 + nfG K M F n f L c (k - 1).toNat (p + 1)) else nfG K M F n f L c (k - 1).toNat (p + 1) := by
  rw [show k.toNat = (k - 1).toNat + 1 by omega]
  rfl
theorem nfG_to {q : Int} (hpq : p ≤ q) (hq : q ≤ 12) (h : ∀ i : Int, p ≤ i → i < q → L i = false) : nfG K M F n f L c (12 - p).toNat p = nfG K M F n f L c (12 - q).toNat q := by
  have e := nfG_skip (K := K) (M := M) (F := F) (n := n) (f := f) (L := L) (c := c) (12 - q).toNat p q hpq h
  rw [show (12 - q).toNat + (q - p).toNat = (12 - p).toNat by omega] at e
  exact e
theorem cnB_up {k : Int} (k0 : 0 ≤ k) : cnB K M F n f L c (k + 1).toNat = cnB K M F n f L c k.toNat + bI (newL K M F n f L c k) := by
  rw [show (k + 1).toNat = k.toNat + 1 by omega]
  show cnB K M F n f L c k.toNat + bI (newL K M F n f L c ((k.toNat : Nat) : Int)) = _
  rw [show ((k.toNat : Nat) : Int) = k by omega]
theorem mxB_up {k : Int} (k0 : 0 ≤ k) : (mxB K M F n f L c k.toNat < nbL (stL K M F n f L c k) ∧ mxB K M F n f L c (k + 1).toNat = nbL (stL K M F n f L c k)) ∨ (nbL (stL K M F n f L c k) ≤ mxB K M F n f L c k.toNat ∧ mxB K M F n f L c (k + 1).toNat = mxB K M F n f L c k.toNat) := by
  rw [show (k + 1).toNat = k.toNat + 1 by omega]
  have e : mxB K M F n f L c (k.toNat + 1) = if mxB K M F n f L c k.toNat < nbL (stL K M F n f L c ((k.toNat : Nat) : Int)) then nbL (stL K M F n f L c ((k.toNat : Nat) : Int)) else mxB K M F n f L c k.toNat := rfl
  rw [e, show ((k.toNat : Nat) : Int) = k by omega]
  by_cases h : mxB K M F n f L c k.toNat < nbL (stL K M F n f L c k)
  · rw [if_pos h]; exact Or.inl ⟨h, rfl⟩
  · rw [if_neg h]; exact Or.inr ⟨by omega, rfl⟩
theorem mxB_mem : ∀ (m : Nat) (k : Int), 0 ≤ k → k < (m : Int) → nbL (stL K M F n f L c k) ≤ mxB K M F n f L c m := by
  intro m
  induction m with
  | zero => intro k k0 k1; exfalso; have k1 : k < 0 := k1; omega
  | succ m ih =>
    intro k k0 k1
    have u := mxB_up (K := K) (M := M) (F := F) (n := n) (f := f) (L := L) (c := c) (k := (m : Int)) (by omega)
    rw [show ((m : Int) + 1).toNat = m + 1 by omega, Int.toNat_natCast] at u
    by_cases e : k = (m : Int)
    · rw [e]; rcases u with u | u <;> omega
    · have q := ih k k0 (by omega)
      rcases u with u | u <;> omega
/-- a set that is there already has no more arms -/
theorem mxB_old {k : Int} (k0 : 0 ≤ k) (h : newL K M F n f L c k ≠ true) : mxB K M F n f L c (k + 1).toNat = mxB K M F n f L c k.toNat := by
  rw [Ne, newL_i k0] at h
  obtain ⟨j, h⟩ := Classical.not_forall.mp h
  obtain ⟨j0, h⟩ := Classical.not_forall.mp h
  obtain ⟨j1, h⟩ := Classical.not_forall.mp h
  have h := Classical.not_not.mp h
  have q := mxB_mem (K := K) (M := M) (F := F) (n := n) (f := f) (L := L) (c := c) k.toNat j j0 (by omega)
  rw [nbL_cg h] at q
  rcases mxB_up (K := K) (M := M) (F := F) (n := n) (f := f) (L := L) (c := c) k0 with u | u
  · omega
  · exact u.2
end LBS
/-! Which sets were met: times, the time now. -/
def MKd (t : Int → Int) (w : Int) (G : Int → Int) (i : Int) : Prop := (∀ s : Int, 0 ≤ s → s < 4096 → t s ≤ w) ∧ ∀ s : Int, 0 ≤ s → s < 4096 → (t s = w ↔ ∃ k : Int, 0 ≤ k ∧ k < i ∧ G k = s)
theorem MKd.start {t G : Int → Int} {w : Int} (h : ∀ s : Int, 0 ≤ s → s < 4096 → t s < w) : MKd t w G 0 :=
  ⟨fun s a b => by have := h s a b; omega, fun s a b => ⟨fun e => by have := h s a b; omega, fun ⟨k, k0, k1, _⟩ => by omega⟩⟩
theorem MKd.old {t t1 G : Int → Int} {w i : Int} (h : MKd t w G i) (i0 : 0 ≤ i) (hs : 0 ≤ G i ∧ G i < 4096) (e : t (G i) = w) (e1 : ∀ s, t1 s = t s) : MKd t1 w G (i + 1) := by
  refine ⟨fun s a b => by rw [e1]; exact h.1 s a b, fun s a b => ?_⟩
  rw [e1, h.2 s a b]
  constructor
  · rintro ⟨k, k0, k1, k2⟩; exact ⟨k, k0, by omega, k2⟩
  · rintro ⟨k, k0, k1, k2⟩
    by_cases z : k = i
    · rw [z] at k2
      rw [k2] at e
      exact (h.2 s a b).mp e
    · exact ⟨k, k0, by omega, k2⟩
theorem MKd.new {t t1 G : Int → Int} {w i : Int} (h : MKd t w G i) (i0 : 0 ≤ i) (e : t1 (G i) = w) (e1 : ∀ s : Int, s ≠ G i → t1 s = t s) : MKd t1 w G (i + 1) := by
  refine ⟨fun s a b => ?_, fun s a b => ?_⟩
  · by_cases z : s = G i
    · rw [z, e]; exact Int.le_refl _
    · rw [e1 s z]; exact h.1 s a b
  · by_cases z : s = G i
    · rw [z, e]
      exact ⟨fun _ => ⟨i, i0, by omega, rfl⟩, fun _ => rfl⟩
    · rw [e1 s z, h.2 s a b]
      constructor
      · rintro ⟨k, k0, k1, k2⟩; exact ⟨k, k0, by omega, k2⟩
      · rintro ⟨k, k0, k1, k2⟩
        exact ⟨k, k0, by by_cases q : k = i; · rw [q] at k2; exact absurd k2.symm z
                         · omega, k2⟩
/-! Sets of places as numbers. -/
theorem tb_ext {x y : Int} (hx : 0 ≤ x) (hy : 0 ≤ y) (h : ∀ p : Int, 0 ≤ p → tb x p = tb y p) : x = y := by
  have q : x.toNat = y.toNat := Nat.eq_of_testBit_eq (fun i => by
    have w := h (i : Int) (by omega)
    unfold tb at w
    rw [Int.toNat_natCast] at w
    exact w)
  omega
theorem tb_12 {x p : Int} (hx : 0 ≤ x ∧ x ≤ 4095) (hp : 12 ≤ p) : tb x p = false := tb_big (n := 12) ⟨hx.1, by show x < 4096; omega⟩ (by show (12 : Int) ≤ p; exact hp)
theorem tb_eq {x y : Int} (hx : 0 ≤ x ∧ x ≤ 4095) (hy : 0 ≤ y ∧ y ≤ 4095) : x = y ↔ ∀ p : Int, 0 ≤ p → p < 12 → tb x p = tb y p := by
  constructor
  · intro e p _ _; rw [e]
  · intro e
    refine tb_ext hx.1 hy.1 (fun p p0 => ?_)
    by_cases q : p < 12
    · exact e p p0 q
    · rw [tb_12 hx (by omega), tb_12 hy (by omega)]
/-- the lowest of a set is its head -/
theorem low_hd {y r : Int} (hy : 0 ≤ y ∧ y ≤ 4095) (l1 : (y = 0 ∧ r = -1) ∨ (y ≠ 0 ∧ 0 ≤ r)) (l2 : r = -1 ∨ tb y r = true) (l3 : ∀ i : Int, 0 ≤ i → i < r → tb y i = false) : r = hdL (tb y) := by
  rcases l1 with ⟨a, b⟩ | ⟨a, b⟩
  · rw [b, a]
    exact (hdL_none (fun i _ _ => tb_0 i)).symm
  · have l2 := l2.resolve_left (by omega)
    have r12 : r < 12 := by
      by_cases z : r < 12
      · exact z
      · rw [tb_12 hy (by omega)] at l2; exact absurd l2 (by decide)
    exact (hdL_is b r12 l2 l3).symm
/-- a set of places cut with a column's set -/
theorem tb_st {K M : PH} {F : FT} {n : Int} {f : IF} {c i y z : Int} (hz : PLs n f (dsi K M F c i) z) (by_ : 0 ≤ y ∧ y ≤ 4095) (bz : 0 ≤ z ∧ z ≤ 4095) {p : Int} (p0 : 0 ≤ p) : tb (iand z y) p = stL K M F n f (tb y) c i p := by
  rw [tb_iand ⟨by omega, by omega⟩ ⟨by omega, by omega⟩, hz p p0]
  show _ = (decide (p < n) && (tb y p && tb (dsi K M F c i) (f p)))
  cases decide (p < n) <;> cases tb y p <;> cases tb (dsi K M F c i) (f p) <;> rfl
def lowB (x p : Nat) : Bool := !(x.testBit p) || (List.range p).any (fun j => x.testBit j) || (List.range 12).all (fun i => (x &&& (x - 1)).testBit i == (x.testBit i && decide (i ≠ p)))
theorem low_all : ∀ a : Nat, a < 64 → ∀ b : Nat, b < 64 → ∀ p : Nat, p < 12 → lowB (64 * a + b) p = true := by decide +kernel
theorem low_at {x p : Nat} (hx : x < 4096) (hp : p < 12) (h1 : x.testBit p = true) (h2 : ∀ j : Nat, j < p → x.testBit j = false) {i : Nat} (hi : i < 12) : (x &&& (x - 1)).testBit i = (x.testBit i && decide (i ≠ p)) := by
  have q := low_all (x / 64) (by omega) (x % 64) (by omega) p hp
  rw [show 64 * (x / 64) + x % 64 = x by omega] at q
  unfold lowB at q
  have e : (List.range p).any (fun j => x.testBit j) = false := by
    rw [List.any_eq_false]
    intro j hj
    rw [h2 j (List.mem_range.mp hj)]
    decide
  rw [h1, e, Bool.not_true, Bool.false_or, Bool.false_or, List.all_eq_true] at q
  exact eq_of_beq (q i (List.mem_range.mpr hi))
/-- the lowest taken out -/
theorem tb_low {x p : Int} (hx : 1 ≤ x ∧ x ≤ 4095) (p0 : 0 ≤ p) (hp : tb x p = true) (hf : ∀ i : Int, 0 ≤ i → i < p → tb x i = false) {i : Int} (i0 : 0 ≤ i) : tb (iand x (x - 1)) i = (tb x i && decide (i ≠ p)) := by
  have p12 : p < 12 := by
    by_cases z : p < 12
    · exact z
    · have q := tb_big (x := x) (i := p) (n := 12) ⟨by omega, by show x < 4096; omega⟩ (by show (12 : Int) ≤ p; omega)
      rw [q] at hp; exact absurd hp (by decide)
  by_cases i12 : i < 12
  · have q := low_at (x := x.toNat) (p := p.toNat) (by omega) (by omega) hp (fun j hj => by
      have w := hf (j : Int) (by omega) (by omega)
      unfold tb at w
      rw [Int.toNat_natCast] at w
      exact w) (i := i.toNat) (by omega)
    unfold tb
    rw [iand_nat ⟨by omega, by omega⟩ ⟨by omega, by omega⟩, Int.toNat_natCast, show (x - 1).toNat = x.toNat - 1 by omega, q]
    by_cases e : i = p
    · rw [e]; simp
    · have : ¬ i.toNat = p.toNat := by omega
      simp [e, this]
  · have q := tb_big (x := x) (i := i) (n := 12) ⟨by omega, by show x < 4096; omega⟩ (by show (12 : Int) ≤ i; omega)
    rw [tb_iand ⟨by omega, by omega⟩ ⟨by omega, by omega⟩, q]
    rfl
/-- how many bits -/
def pc12 (x : Int) : Int := smN (fun i => bI (tb x i)) 12
theorem tb_half {x i : Int} (hx : 0 ≤ x) (i0 : 0 ≤ i) : tb (x / 2) i = tb x (i + 1) := by
  unfold tb
  rw [show (x / 2).toNat = x.toNat / 2 by omega, show (i + 1).toNat = i.toNat + 1 by omega, Nat.testBit_succ]
theorem tb_odd {x : Int} (hx : 0 ≤ x) : bI (tb x 0) = x % 2 := by
  have q := tb_div (x := x) (i := 0) hx
  have e : ((2 ^ (0 : Int).toNat : Nat) : Int) = 1 := rfl
  rw [e, Int.ediv_one] at q
  rcases bI_s (tb x 0) with w | w
  · rw [w.2]; exact (q.mp w.1).symm
  · rw [w.2]
    have : ¬ x % 2 = 1 := fun z => by rw [q.mpr z] at w; exact absurd w.1 (by decide)
    omega
theorem pc12_half {x : Int} (hx : 0 ≤ x ∧ x ≤ 4095) : pc12 x = x % 2 + pc12 (x / 2) := by
  have h13 : smN (fun i => bI (tb x i)) 13 = pc12 x := by
    show smN (fun i => bI (tb x i)) 12 + bI (tb x 12) = _
    rw [tb_big (x := x) (i := 12) (n := 12) ⟨by omega, by show x < 4096; omega⟩ (by show (12 : Int) ≤ 12; omega)]
    show pc12 x + 0 = pc12 x
    omega
  have hs := smN_split (g := fun i => bI (tb x i)) (a := 1) 12
  rw [show 1 + 12 = 13 from rfl, h13] at hs
  have h1 : smN (fun i => bI (tb x i)) 1 = bI (tb x 0) := by
    show 0 + bI (tb x 0) = _
    omega
  have h2 : smN (fun i => bI (tb x (((1 : Nat) : Int) + i))) 12 = pc12 (x / 2) := smN_cg 12 (fun i i0 _ => by
    show bI (tb x (1 + i)) = bI (tb (x / 2) i)
    rw [tb_half hx.1 i0, show 1 + i = i + 1 by omega])
  rw [h1, h2, tb_odd hx.1] at hs
  exact hs
theorem pc12_0 : pc12 0 = 0 := by
  have e : pc12 0 = smN (fun _ => 0) 12 := smN_cg 12 (fun i _ _ => by
    show bI (tb 0 i) = 0
    rw [tb_0]; rfl)
  rw [e, smN_0]
