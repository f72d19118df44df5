/-! Own words; what a reader of the text answers: a fault's kind (0: none) with the place where it goes on, or the fault's place. -/
theorem oWF_r (v : Int) : ∀ n : Nat, -1 ≤ oWF v n ∧ oWF v n < (n : Int) := by
  intro n
  induction n with
  | zero => exact ⟨Int.le_refl _, show (-1 : Int) < 0 by decide⟩
  | succ n ih =>
    show -1 ≤ (if o27 n = v then (n : Int) else oWF v n) ∧ (if o27 n = v then (n : Int) else oWF v n) < ((n + 1 : Nat) : Int)
    split <;> omega
theorem oWF_v (v : Int) : ∀ (n k : Nat), oWF v n = (k : Int) → o27 k = v := by
  intro n
  induction n with
  | zero => intro k h; exfalso; have h : (-1 : Int) = (k : Int) := h; omega
  | succ n ih =>
    intro k h
    have h : (if o27 n = v then (n : Int) else oWF v n) = (k : Int) := h
    by_cases e : o27 n = v
    · rw [if_pos e] at h
      rw [← show n = k by omega]
      exact e
    · rw [if_neg e] at h
      exact ih k h
theorem oWF_n (v : Int) : ∀ (n : Nat), oWF v n = -1 → ∀ k : Nat, k < n → o27 k ≠ v := by
  intro n
  induction n with
  | zero => intro _ k hk; exact absurd hk (Nat.not_lt_zero _)
  | succ n ih =>
    intro h k hk
    have h : (if o27 n = v then (n : Int) else oWF v n) = -1 := h
    by_cases e : o27 n = v
    · rw [if_pos e] at h; omega
    · rw [if_neg e] at h
      by_cases e2 : k = n
      · rw [e2]; exact e
      · exact ih h k (by omega)
theorem o27_inj : ∀ i : Nat, i < 11 → ∀ j : Nat, j < 11 → o27 i = o27 j → i = j := by decide +kernel
theorem oWI_is {v : Int} {k : Nat} (hk : k < 11) : oWI v = (k : Int) ↔ v = o27 k := by
  constructor
  · intro h; exact (oWF_v v 11 k h).symm
  · intro h
    have hr := oWF_r v 11
    rcases (show oWF v 11 = -1 ∨ 0 ≤ oWF v 11 by omega) with h1 | h1
    · exact absurd h.symm (oWF_n v 11 h1 k hk)
    · have e : oWF v 11 = ((oWF v 11).toNat : Int) := (Int.toNat_of_nonneg h1).symm
      have h2 := oWF_v v 11 _ e
      have h3 := o27_inj (oWF v 11).toNat (by omega) k hk (by rw [h2, h])
      show oWF v 11 = _
      omega
theorem tO_r (T : TT) (p : Int) : -1 ≤ tO T p ∧ tO T p ≤ 10 ∧ (tO T p = -1 ∨ tK T p = 1) := by
  unfold tO
  have hr := oWF_r (tV T p) 11
  by_cases h : tK T p = 1
  · rw [if_pos h]
    unfold oWI
    exact ⟨by omega, by omega, Or.inr h⟩
  · rw [if_neg h]
    exact ⟨Int.le_refl _, by omega, Or.inl rfl⟩
theorem own_is {T : TT} {p : Int} (k : Nat) (hk : k < 11) (w : Int) (hw : o56 k = w) : (tK T p = 1 ∧ tW T p = w) ↔ tO T p = (k : Int) := by
  subst hw
  constructor
  · intro h
    unfold tO
    rw [if_pos h.1]
    exact (oWI_is hk).mpr (((NW.tok h.1).inj (NW.own k hk)).mpr h.2)
  · intro h
    have h1 : tK T p = 1 := by
      rcases (tO_r T p).2.2 with q | q
      · omega
      · exact q
    refine ⟨h1, ((NW.tok h1).inj (NW.own k hk)).mp ?_⟩
    unfold tO at h
    rw [if_pos h1] at h
    exact (oWI_is hk).mp h
def oWS (w : Int) : Prop := ∃ k : Nat, k < 11 ∧ w = o56 k
theorem own_any {T : TT} {p : Int} (h : tK T p = 1) : oWS (tW T p) ↔ tO T p ≠ -1 := by
  have hr := tO_r T p
  constructor
  · intro ⟨k, hk, e⟩ q
    have := (own_is (T := T) (p := p) k hk _ rfl).mp ⟨h, e⟩
    omega
  · intro q
    refine ⟨(tO T p).toNat, by omega, ?_⟩
    exact ((own_is (T := T) (p := p) (tO T p).toNat (by omega) _ rfl).mpr (by omega)).2
theorem oWS_t {w : Int} (h : w = 1802071652 ∨ w = 6516590 ∨ w = 469786452840 ∨ w = 6386285 ∨ w = 2003330414 ∨ w = 1920298085 ∨ w = 108256335193460 ∨ w = 7239021 ∨ w = 6385273 ∨ w = 28530 ∨ w = 29807) : oWS w := by
  rcases h with h | h | h | h | h | h | h | h | h | h | h
  · exact ⟨0, by decide, h.trans (by decide +kernel)⟩
  · exact ⟨1, by decide, h.trans (by decide +kernel)⟩
  · exact ⟨2, by decide, h.trans (by decide +kernel)⟩
  · exact ⟨3, by decide, h.trans (by decide +kernel)⟩
  · exact ⟨4, by decide, h.trans (by decide +kernel)⟩
  · exact ⟨5, by decide, h.trans (by decide +kernel)⟩
  · exact ⟨6, by decide, h.trans (by decide +kernel)⟩
  · exact ⟨7, by decide, h.trans (by decide +kernel)⟩
  · exact ⟨8, by decide, h.trans (by decide +kernel)⟩
  · exact ⟨9, by decide, h.trans (by decide +kernel)⟩
  · exact ⟨10, by decide, h.trans (by decide +kernel)⟩
theorem o56_v : o56 0 = 1802071652 ∧ o56 1 = 6516590 ∧ o56 2 = 469786452840 ∧ o56 3 = 6386285 ∧ o56 4 = 2003330414 ∧ o56 5 = 1920298085 ∧ o56 6 = 108256335193460 ∧ o56 7 = 7239021 ∧ o56 8 = 6385273 ∧ o56 9 = 28530 ∧ o56 10 = 29807 := by decide +kernel
theorem oWS_f {w : Int} (h : w ≠ 1802071652 ∧ w ≠ 6516590 ∧ w ≠ 469786452840 ∧ w ≠ 6386285 ∧ w ≠ 2003330414 ∧ w ≠ 1920298085 ∧ w ≠ 108256335193460 ∧ w ≠ 7239021 ∧ w ≠ 6385273 ∧ w ≠ 28530 ∧ w ≠ 29807) : ¬ oWS w := by
  intro ⟨k, hk, e⟩
  have hv := o56_v
  rcases (show k = 0 ∨ k = 1 ∨ k = 2 ∨ k = 3 ∨ k = 4 ∨ k = 5 ∨ k = 6 ∨ k = 7 ∨ k = 8 ∨ k = 9 ∨ k = 10 by omega) with q | q | q | q | q | q | q | q | q | q | q <;> (rw [q] at e; omega)
/-- where a fault of a token itself is told -/
def fh (T : TT) (p : Int) : Int := if tK T p = 4 then tS T p else tA T p
theorem fh_s (T : TT) (p : Int) : (tK T p = 4 ∧ fh T p = tS T p) ∨ (tK T p ≠ 4 ∧ fh T p = tA T p) := by
  unfold fh
  by_cases h : tK T p = 4
  · rw [if_pos h]; exact Or.inl ⟨h, rfl⟩
  · rw [if_neg h]; exact Or.inr ⟨h, rfl⟩
/-- a sign -/
def sgn (T : TT) (c p : Int) : Int × Int := if tK T p = 3 ∧ tV T p = c then (0, tE T p) else (1, fh T p)
theorem sgn_s (T : TT) (c p : Int) : (tK T p = 3 ∧ tV T p = c ∧ (sgn T c p).1 = 0 ∧ (sgn T c p).2 = tE T p) ∨ ((tK T p ≠ 3 ∨ tV T p ≠ c) ∧ (sgn T c p).1 = 1 ∧ (sgn T c p).2 = fh T p) := by
  unfold sgn
  by_cases h : tK T p = 3 ∧ tV T p = c
  · rw [if_pos h]; exact Or.inl ⟨h.1, h.2, rfl, rfl⟩
  · rw [if_neg h]; exact Or.inr ⟨by omega, rfl, rfl⟩
/-- a number between two -/
def num (T : TT) (lo hi p : Int) : Int × Int := if tK T p = 2 then (if lo ≤ tV T p ∧ tV T p ≤ hi then (0, tE T p) else (4, tA T p)) else (1, fh T p)
theorem num_s (T : TT) (lo hi p : Int) : (tK T p = 2 ∧ lo ≤ tV T p ∧ tV T p ≤ hi ∧ (num T lo hi p).1 = 0 ∧ (num T lo hi p).2 = tE T p) ∨ (tK T p = 2 ∧ (tV T p < lo ∨ hi < tV T p) ∧ (num T lo hi p).1 = 4 ∧ (num T lo hi p).2 = tA T p) ∨ (tK T p ≠ 2 ∧ (num T lo hi p).1 = 1 ∧ (num T lo hi p).2 = fh T p) := by
  unfold num
  by_cases h : tK T p = 2
  · rw [if_pos h]
    by_cases h2 : lo ≤ tV T p ∧ tV T p ≤ hi
    · rw [if_pos h2]; exact Or.inl ⟨h, h2.1, h2.2, rfl, rfl⟩
    · rw [if_neg h2]; exact Or.inr (Or.inl ⟨h, by omega, rfl, rfl⟩)
  · rw [if_neg h]; exact Or.inr (Or.inr ⟨h, rfl, rfl⟩)
/-- the first place of a value in a row -/
def fxi (g : Int → Int) (v : Int) : Nat → Int
  | 0 => -1
  | n + 1 => if fxi g v n ≠ -1 then fxi g v n else if g n = v then n else -1
theorem fxi_b (g : Int → Int) (v : Int) : ∀ n : Nat, -1 ≤ fxi g v n ∧ fxi g v n < n ∧ (fxi g v n = -1 ∨ g (fxi g v n) = v) := by
  intro n
  induction n with
  | zero => exact ⟨Int.le_refl _, by show (-1 : Int) < 0; omega, Or.inl rfl⟩
  | succ n ih =>
    show -1 ≤ (if fxi g v n ≠ -1 then fxi g v n else if g n = v then (n : Int) else -1) ∧ (if fxi g v n ≠ -1 then fxi g v n else if g n = v then (n : Int) else -1) < ((n + 1 : Nat) : Int) ∧ ((if fxi g v n ≠ -1 then fxi g v n else if g n = v then (n : Int) else -1) = -1 ∨ g (if fxi g v n ≠ -1 then fxi g v n else if g n = v then (n : Int) else -1) = v)
    by_cases h : fxi g v n ≠ -1
    · rw [if_pos h]
      exact ⟨ih.1, by omega, ih.2.2⟩
    · rw [if_neg h]
      by_cases h2 : g n = v
      · rw [if_pos h2]; exact ⟨by omega, by omega, Or.inr h2⟩
      · rw [if_neg h2]; exact ⟨Int.le_refl _, by omega, Or.inl rfl⟩
theorem fxi_none {g : Int → Int} {v : Int} : ∀ n : Nat, (∀ i : Int, 0 ≤ i → i < n → g i ≠ v) → fxi g v n = -1 := by
  intro n
  induction n with
  | zero => intro _; rfl
  | succ n ih =>
    intro h
    show (if fxi g v n ≠ -1 then fxi g v n else if g n = v then (n : Int) else -1) = -1
    rw [if_neg (fun q => q (ih (fun i h1 h2 => h i h1 (by omega)))), if_neg (h n (by omega) (by omega))]
theorem fxi_some {g : Int → Int} {v r : Int} (h0 : 0 ≤ r) (hr : g r = v) (hf : ∀ i : Int, 0 ≤ i → i < r → g i ≠ v) : ∀ n : Nat, r < n → fxi g v n = r := by
  intro n
  induction n with
  | zero => intro h; exfalso; have h : r < 0 := h; omega
  | succ n ih =>
    intro h
    show (if fxi g v n ≠ -1 then fxi g v n else if g n = v then (n : Int) else -1) = r
    by_cases e : r < n
    · rw [ih e, if_pos (by omega)]
    · have e : r = n := by omega
      rw [if_neg (fun q => q (fxi_none n (fun i h1 h2 => hf i h1 (by omega)))), if_pos (by rw [← e]; exact hr)]
      exact e.symm
theorem fxi_cg {g h : Int → Int} {v w : Int} : ∀ n : Nat, (∀ i : Int, 0 ≤ i → i < n → (g i = v ↔ h i = w)) → fxi g v n = fxi h w n := by
  intro n
  induction n with
  | zero => intro _; rfl
  | succ n ih =>
    intro e
    show (if fxi g v n ≠ -1 then fxi g v n else if g n = v then (n : Int) else -1) = (if fxi h w n ≠ -1 then fxi h w n else if h n = w then (n : Int) else -1)
    rw [ih (fun i h1 h2 => e i h1 (by omega))]
    by_cases q : g n = v
    · rw [if_pos q, if_pos ((e n (by omega) (by omega)).mp q)]
    · rw [if_neg q, if_neg (fun z => q ((e n (by omega) (by omega)).mpr z))]
/-! The tables told: K (kinds): 0 [kinds, cons], 1 names, 2 values, 3 constructors, 9 the first one; of constructors 4 names, 5 kind, 6 how many fields, 7 and 8 their kinds (-1: num), 10 the first value. M (the match): 0 [columns, rows, arms, rule, budget], 1 kinds of columns, 2 guards. -/
def kNm (K : PH) (v : Int) : Int := fxi (K 1) v (K 0 0).toNat
def cNm (K : PH) (v : Int) : Int := fxi (K 4) v (K 0 1).toNat
/-- a new name -/
def fre (T : TT) (K : PH) (p : Int) : Int × Int := if tK T p = 1 ∧ tO T p = -1 then (if kNm K (tV T p) = -1 ∧ cNm K (tV T p) = -1 then (0, tE T p) else (2, tA T p)) else (1, fh T p)
theorem fre_s (T : TT) (K : PH) (p : Int) : (tK T p = 1 ∧ tO T p = -1 ∧ kNm K (tV T p) = -1 ∧ cNm K (tV T p) = -1 ∧ (fre T K p).1 = 0 ∧ (fre T K p).2 = tE T p) ∨ (tK T p = 1 ∧ tO T p = -1 ∧ (kNm K (tV T p) ≠ -1 ∨ cNm K (tV T p) ≠ -1) ∧ (fre T K p).1 = 2 ∧ (fre T K p).2 = tA T p) ∨ ((tK T p ≠ 1 ∨ tO T p ≠ -1) ∧ (fre T K p).1 = 1 ∧ (fre T K p).2 = fh T p) := by
  unfold fre
  by_cases h : tK T p = 1 ∧ tO T p = -1
  · rw [if_pos h]
    by_cases h2 : kNm K (tV T p) = -1 ∧ cNm K (tV T p) = -1
    · rw [if_pos h2]; exact Or.inl ⟨h.1, h.2, h2.1, h2.2, rfl, rfl⟩
    · rw [if_neg h2]; exact Or.inr (Or.inl ⟨h.1, h.2, by omega, rfl, rfl⟩)
  · rw [if_neg h]; exact Or.inr (Or.inr ⟨by omega, rfl, rfl⟩)
def kNew (K : PH) (v : Int) : PH := up (up (up (up (up K 1 (K 0 0) v) 2 (K 0 0) 0) 3 (K 0 0) 0) 9 (K 0 0) (K 0 1)) 0 0 (K 0 0 + 1)
/-- kind NAME -/
def sKi (T : TT) (K M : PH) (p : Int) : Int × Int := if 0 < M 0 0 then (1, tA T p) else if 4 ≤ K 0 0 then (6, tA T p) else fre T K (tE T p)
theorem sKi_s (T : TT) (K M : PH) (p : Int) : (0 < M 0 0 ∧ (sKi T K M p).1 = 1 ∧ (sKi T K M p).2 = tA T p) ∨ (M 0 0 ≤ 0 ∧ 4 ≤ K 0 0 ∧ (sKi T K M p).1 = 6 ∧ (sKi T K M p).2 = tA T p) ∨ (M 0 0 ≤ 0 ∧ K 0 0 ≤ 3 ∧ (sKi T K M p).1 = (fre T K (tE T p)).1 ∧ (sKi T K M p).2 = (fre T K (tE T p)).2) := by
  unfold sKi
  by_cases h : 0 < M 0 0
  · rw [if_pos h]; exact Or.inl ⟨h, rfl, rfl⟩
  · rw [if_neg h]
    by_cases h2 : 4 ≤ K 0 0
    · rw [if_pos h2]; exact Or.inr (Or.inl ⟨by omega, h2, rfl, rfl⟩)
    · rw [if_neg h2]; exact Or.inr (Or.inr ⟨by omega, by omega, rfl, rfl⟩)
/-- the kind that a word names: num -1 -/
def kHe (T : TT) (K : PH) (p : Int) : Int := if tO T p = 7 then -1 else kNm K (tV T p)
theorem kHe_s (T : TT) (K : PH) (p : Int) : (tO T p = 7 ∧ kHe T K p = -1) ∨ (tO T p ≠ 7 ∧ kHe T K p = kNm K (tV T p)) := by
  unfold kHe
  by_cases h : tO T p = 7
  · rw [if_pos h]; exact Or.inl ⟨h, rfl⟩
  · rw [if_neg h]; exact Or.inr ⟨h, rfl⟩
def sz (K : PH) (k : Int) : Int := if k = -1 then 20 else K 2 k
theorem sz_s (K : PH) (k : Int) : (k = -1 ∧ sz K k = 20) ∨ (k ≠ -1 ∧ sz K k = K 2 k) := by
  unfold sz
  by_cases h : k = -1
  · rw [if_pos h]; exact Or.inl ⟨h, rfl⟩
  · rw [if_neg h]; exact Or.inr ⟨h, rfl⟩
/-- a field: 0 it stands here and is good, 1 no word of a kind, else the fault -/
def kGo (T : TT) (K : PH) (but n many of its most p : Int) : Int :=
  if tK T p = 1 ∧ (tO T p = -1 ∨ tO T p = 7) then
    (if many ≤ n then 6 else if tO T p ≠ 7 ∧ (kHe T K p = -1 ∨ kHe T K p = but ∨ K 3 (kHe T K p) ≤ 0) then 3 else if most < of + its * sz K (kHe T K p) then 4 else 0) else 1
theorem kGo_s (T : TT) (K : PH) (but n many of its most p : Int) :
    ((tK T p ≠ 1 ∨ (tO T p ≠ -1 ∧ tO T p ≠ 7)) ∧ kGo T K but n many of its most p = 1) ∨
    (tK T p = 1 ∧ (tO T p = -1 ∨ tO T p = 7) ∧ many ≤ n ∧ kGo T K but n many of its most p = 6) ∨
    (tK T p = 1 ∧ tO T p = -1 ∧ n < many ∧ (kHe T K p = -1 ∨ kHe T K p = but ∨ K 3 (kHe T K p) ≤ 0) ∧ kGo T K but n many of its most p = 3) ∨
    (tK T p = 1 ∧ (tO T p = -1 ∨ tO T p = 7) ∧ n < many ∧ (tO T p = 7 ∨ (kHe T K p ≠ -1 ∧ kHe T K p ≠ but ∧ 1 ≤ K 3 (kHe T K p))) ∧ most < of + its * sz K (kHe T K p) ∧ kGo T K but n many of its most p = 4) ∨
    (tK T p = 1 ∧ (tO T p = -1 ∨ tO T p = 7) ∧ n < many ∧ (tO T p = 7 ∨ (kHe T K p ≠ -1 ∧ kHe T K p ≠ but ∧ 1 ≤ K 3 (kHe T K p))) ∧ of + its * sz K (kHe T K p) ≤ most ∧ kGo T K but n many of its most p = 0) := by
  unfold kGo
  by_cases h : tK T p = 1 ∧ (tO T p = -1 ∨ tO T p = 7)
  · rw [if_pos h]
    by_cases h2 : many ≤ n
    · rw [if_pos h2]; exact Or.inr (Or.inl ⟨h.1, h.2, h2, rfl⟩)
    · rw [if_neg h2]
      by_cases h3 : tO T p ≠ 7 ∧ (kHe T K p = -1 ∨ kHe T K p = but ∨ K 3 (kHe T K p) ≤ 0)
      · rw [if_pos h3]; exact Or.inr (Or.inr (Or.inl ⟨h.1, by omega, by omega, h3.2, rfl⟩))
      · rw [if_neg h3]
        by_cases h4 : most < of + its * sz K (kHe T K p)
        · rw [if_pos h4]; exact Or.inr (Or.inr (Or.inr (Or.inl ⟨h.1, h.2, by omega, by omega, h4, rfl⟩)))
        · rw [if_neg h4]; exact Or.inr (Or.inr (Or.inr (Or.inr ⟨h.1, h.2, by omega, by omega, by omega, rfl⟩)))
  · rw [if_neg h]; exact Or.inl ⟨by omega, rfl⟩
/-- the fields of a constructor: fault, place, how many, kinds, values -/
def fld (T : TT) (K : PH) : Nat → Int → Int → Int → Int → Int → Int × Int × Int × Int × Int × Int
  | 0, n, a, b, i, p => (if kGo T K (K 0 0 - 1) n 2 (K 2 (K 0 0 - 1)) i 2000 p = 1 then 0 else kGo T K (K 0 0 - 1) n 2 (K 2 (K 0 0 - 1)) i 2000 p, if kGo T K (K 0 0 - 1) n 2 (K 2 (K 0 0 - 1)) i 2000 p = 1 then p else tA T p, n, a, b, i)
  | r + 1, n, a, b, i, p =>
    if kGo T K (K 0 0 - 1) n 2 (K 2 (K 0 0 - 1)) i 2000 p = 0 then fld T K r (n + 1) (if n = 0 then kHe T K p else a) (if n = 0 then b else kHe T K p) (i * sz K (kHe T K p)) (tE T p)
    else (if kGo T K (K 0 0 - 1) n 2 (K 2 (K 0 0 - 1)) i 2000 p = 1 then 0 else kGo T K (K 0 0 - 1) n 2 (K 2 (K 0 0 - 1)) i 2000 p, if kGo T K (K 0 0 - 1) n 2 (K 2 (K 0 0 - 1)) i 2000 p = 1 then p else tA T p, n, a, b, i)
theorem fld_end {T : TT} {K : PH} {r : Nat} {n a b i p : Int} (h : kGo T K (K 0 0 - 1) n 2 (K 2 (K 0 0 - 1)) i 2000 p = 1) : fld T K r n a b i p = (0, p, n, a, b, i) := by
  cases r with
  | zero => show (_, _, n, a, b, i) = _; rw [if_pos h, if_pos h]
  | succ r => show (if _ then _ else (_, _, n, a, b, i)) = _; rw [if_neg (by omega), if_pos h, if_pos h]
theorem fld_bad {T : TT} {K : PH} {r : Nat} {n a b i p : Int} (h : kGo T K (K 0 0 - 1) n 2 (K 2 (K 0 0 - 1)) i 2000 p ≠ 1) (h0 : kGo T K (K 0 0 - 1) n 2 (K 2 (K 0 0 - 1)) i 2000 p ≠ 0) : fld T K r n a b i p = (kGo T K (K 0 0 - 1) n 2 (K 2 (K 0 0 - 1)) i 2000 p, tA T p, n, a, b, i) := by
  cases r with
  | zero => show (_, _, n, a, b, i) = _; rw [if_neg h, if_neg h]
  | succ r => show (if _ then _ else (_, _, n, a, b, i)) = _; rw [if_neg h0, if_neg h, if_neg h]
theorem fld_go {T : TT} {K : PH} {r : Nat} {n a b i p : Int} (h0 : kGo T K (K 0 0 - 1) n 2 (K 2 (K 0 0 - 1)) i 2000 p = 0) : fld T K (r + 1) n a b i p = fld T K r (n + 1) (if n = 0 then kHe T K p else a) (if n = 0 then b else kHe T K p) (i * sz K (kHe T K p)) (tE T p) := by
  show (if _ then _ else _) = _
  rw [if_pos h0]
def fldX (T : TT) (K : PH) (p : Int) : Int × Int × Int × Int × Int × Int := fld T K 2 0 (-1) (-1) 1 p
def cNew (K : PH) (v n a b i : Int) : PH :=
  up (up (up (up (up (up (up (up (up K 4 (K 0 1) v) 5 (K 0 1) (K 0 0 - 1)) 6 (K 0 1) n) 7 (K 0 1) a) 8 (K 0 1) b) 10 (K 0 1) (K 2 (K 0 0 - 1))) 2 (K 0 0 - 1) (K 2 (K 0 0 - 1) + i)) 3 (K 0 0 - 1) (K 3 (K 0 0 - 1) + 1)) 0 1 (K 0 1 + 1)
/-- con NAME fields -/
def sCo (T : TT) (K M : PH) (p : Int) : Int × Int := if 0 < M 0 0 ∨ K 0 0 ≤ 0 then (1, tA T p) else if 6 ≤ K 3 (K 0 0 - 1) then (6, tA T p) else if (fre T K (tE T p)).1 = 0 then ((fldX T K (fre T K (tE T p)).2).1, (fldX T K (fre T K (tE T p)).2).2.1) else fre T K (tE T p)
theorem sCo_s (T : TT) (K M : PH) (p : Int) : ((0 < M 0 0 ∨ K 0 0 ≤ 0) ∧ (sCo T K M p).1 = 1 ∧ (sCo T K M p).2 = tA T p) ∨ (M 0 0 ≤ 0 ∧ 1 ≤ K 0 0 ∧ 6 ≤ K 3 (K 0 0 - 1) ∧ (sCo T K M p).1 = 6 ∧ (sCo T K M p).2 = tA T p) ∨ (M 0 0 ≤ 0 ∧ 1 ≤ K 0 0 ∧ K 3 (K 0 0 - 1) ≤ 5 ∧ (fre T K (tE T p)).1 ≠ 0 ∧ (sCo T K M p).1 = (fre T K (tE T p)).1 ∧ (sCo T K M p).2 = (fre T K (tE T p)).2) ∨ (M 0 0 ≤ 0 ∧ 1 ≤ K 0 0 ∧ K 3 (K 0 0 - 1) ≤ 5 ∧ (fre T K (tE T p)).1 = 0 ∧ (sCo T K M p).1 = (fldX T K (fre T K (tE T p)).2).1 ∧ (sCo T K M p).2 = (fldX T K (fre T K (tE T p)).2).2.1) := by
  unfold sCo
  by_cases h : 0 < M 0 0 ∨ K 0 0 ≤ 0
  · rw [if_pos h]; exact Or.inl ⟨h, rfl, rfl⟩
  · rw [if_neg h]
    by_cases h2 : 6 ≤ K 3 (K 0 0 - 1)
    · rw [if_pos h2]; exact Or.inr (Or.inl ⟨by omega, by omega, h2, rfl, rfl⟩)
    · rw [if_neg h2]
      by_cases h3 : (fre T K (tE T p)).1 = 0
      · rw [if_pos h3]; exact Or.inr (Or.inr (Or.inr ⟨by omega, by omega, by omega, h3, rfl, rfl⟩))
      · rw [if_neg h3]; exact Or.inr (Or.inr (Or.inl ⟨by omega, by omega, by omega, h3, rfl, rfl⟩))
def kCo (T : TT) (K : PH) (p : Int) : PH := cNew K (tV T (tE T p)) (fldX T K (tE T (tE T p))).2.2.1 (fldX T K (tE T (tE T p))).2.2.2.1 (fldX T K (tE T (tE T p))).2.2.2.2.1 (fldX T K (tE T (tE T p))).2.2.2.2.2
/-- columns: fault, place, the match -/
def mCol (M : PH) (k rows : Int) : PH := up (up (up M 1 (M 0 0) k) 0 0 (M 0 0 + 1)) 0 1 rows
def col (T : TT) (K : PH) : Nat → PH → Int → Int → Int × Int × PH
  | 0, M, i, p => (if kGo T K (-1) (M 0 0) 4 0 i 20000 p = 1 then 0 else kGo T K (-1) (M 0 0) 4 0 i 20000 p, if kGo T K (-1) (M 0 0) 4 0 i 20000 p = 1 then p else tA T p, M)
  | r + 1, M, i, p =>
    if kGo T K (-1) (M 0 0) 4 0 i 20000 p = 0 then col T K r (mCol M (kHe T K p) (i * sz K (kHe T K p))) (i * sz K (kHe T K p)) (tE T p)
    else (if kGo T K (-1) (M 0 0) 4 0 i 20000 p = 1 then 0 else kGo T K (-1) (M 0 0) 4 0 i 20000 p, if kGo T K (-1) (M 0 0) 4 0 i 20000 p = 1 then p else tA T p, M)
theorem col_end {T : TT} {K : PH} {r : Nat} {M : PH} {i p : Int} (h : kGo T K (-1) (M 0 0) 4 0 i 20000 p = 1) : col T K r M i p = (0, p, M) := by
  cases r with
  | zero => show (_, _, M) = _; rw [if_pos h, if_pos h]
  | succ r => show (if _ then _ else (_, _, M)) = _; rw [if_neg (by omega), if_pos h, if_pos h]
theorem col_bad {T : TT} {K : PH} {r : Nat} {M : PH} {i p : Int} (h : kGo T K (-1) (M 0 0) 4 0 i 20000 p ≠ 1) (h0 : kGo T K (-1) (M 0 0) 4 0 i 20000 p ≠ 0) : col T K r M i p = (kGo T K (-1) (M 0 0) 4 0 i 20000 p, tA T p, M) := by
  cases r with
  | zero => show (_, _, M) = _; rw [if_neg h, if_neg h]
  | succ r => show (if _ then _ else (_, _, M)) = _; rw [if_neg h0, if_neg h, if_neg h]
theorem col_go {T : TT} {K : PH} {r : Nat} {M : PH} {i p : Int} (h0 : kGo T K (-1) (M 0 0) 4 0 i 20000 p = 0) : col T K (r + 1) M i p = col T K r (mCol M (kHe T K p) (i * sz K (kHe T K p))) (i * sz K (kHe T K p)) (tE T p) := by
  show (if _ then _ else _) = _
  rw [if_pos h0]
/-- match KIND .. -/
def sMa (T : TT) (K M : PH) (p : Int) : Int × Int × PH := if 0 < M 0 0 then (6, tA T p, M) else if tK T (tE T p) = 1 ∧ (tO T (tE T p) = -1 ∨ tO T (tE T p) = 7) then col T K 4 M 1 (tE T p) else (1, fh T (tE T p), M)
theorem sMa_s (T : TT) (K M : PH) (p : Int) : (0 < M 0 0 ∧ (sMa T K M p).1 = 6 ∧ (sMa T K M p).2.1 = tA T p) ∨ (M 0 0 ≤ 0 ∧ (tK T (tE T p) ≠ 1 ∨ (tO T (tE T p) ≠ -1 ∧ tO T (tE T p) ≠ 7)) ∧ (sMa T K M p).1 = 1 ∧ (sMa T K M p).2.1 = fh T (tE T p)) ∨ (M 0 0 ≤ 0 ∧ tK T (tE T p) = 1 ∧ (tO T (tE T p) = -1 ∨ tO T (tE T p) = 7) ∧ (sMa T K M p).1 = (col T K 4 M 1 (tE T p)).1 ∧ (sMa T K M p).2.1 = (col T K 4 M 1 (tE T p)).2.1) := by
  unfold sMa
  by_cases h : 0 < M 0 0
  · rw [if_pos h]; exact Or.inl ⟨h, rfl, rfl⟩
  · rw [if_neg h]
    by_cases h2 : tK T (tE T p) = 1 ∧ (tO T (tE T p) = -1 ∨ tO T (tE T p) = 7)
    · rw [if_pos h2]; exact Or.inr (Or.inr ⟨by omega, h2.1, h2.2, rfl, rfl⟩)
    · rw [if_neg h2]; exact Or.inr (Or.inl ⟨by omega, by omega, rfl, rfl⟩)
theorem sMa_M {T : TT} {K M : PH} {p : Int} (h : M 0 0 ≤ 0) (h2 : tK T (tE T p) = 1 ∧ (tO T (tE T p) = -1 ∨ tO T (tE T p) = 7)) : sMa T K M p = col T K 4 M 1 (tE T p) := by
  unfold sMa
  rw [if_neg (by omega), if_pos h2]
