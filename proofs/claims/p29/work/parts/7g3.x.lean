section
/-! Letters of names; how many values a kind has: what is answered. -/
def vls (K M : PH) (x : Int) : Int := if 0 < M 0 0 ∧ -1 ≤ x ∧ x < K 0 0 then sz K x else -1
theorem vls_s (K M : PH) (x : Int) : (0 < M 0 0 ∧ -1 ≤ x ∧ x < K 0 0 ∧ vls K M x = sz K x) ∨ ((M 0 0 ≤ 0 ∨ x < -1 ∨ K 0 0 ≤ x) ∧ vls K M x = -1) := by
  unfold vls
  by_cases h : 0 < M 0 0 ∧ -1 ≤ x ∧ x < K 0 0
  · rw [if_pos h]; exact Or.inl ⟨h.1, h.2.1, h.2.2, rfl⟩
  · rw [if_neg h]; exact Or.inr ⟨by omega, rfl⟩
def lr (v : Int) : Nat → Int
  | 0 => v
  | n + 1 => lr v n / 27
/-- letter k of a name by 27 -/
def lt (v k : Int) : Int := lr v (5 - k).toNat % 27
theorem lr_b {v : Int} (h : 0 ≤ v) : ∀ n : Nat, 0 ≤ lr v n ∧ lr v n ≤ v := by
  intro n
  induction n with
  | zero => exact ⟨h, Int.le_refl _⟩
  | succ n ih =>
    show 0 ≤ lr v n / 27 ∧ lr v n / 27 ≤ v
    omega
theorem e27_dn {h : Nat → Int} {n : Nat} (hb : ∀ i, i < n + 1 → 0 ≤ h i ∧ h i ≤ 26) : e27 h (n + 1) / 27 = e27 h n := by
  have b := hb n (Nat.lt_succ_self n)
  show (e27 h n * 27 + h n) / 27 = e27 h n
  omega
theorem lr_e27 {h : Nat → Int} (hb : ∀ i, i < 6 → 0 ≤ h i ∧ h i ≤ 26) : ∀ j : Nat, j ≤ 6 → lr (e27 h 6) j = e27 h (6 - j) := by
  intro j
  induction j with
  | zero => intro _; rfl
  | succ j ih =>
    intro hj
    show lr (e27 h 6) j / 27 = _
    rw [ih (by omega), show 6 - j = (6 - (j + 1)) + 1 by omega]
    exact e27_dn (fun i hi => hb i (by omega))
theorem lt_g {g : Nat → Int} {L : Nat} (hL : L ≤ 6) (hg : ∀ i, i < L → 1 ≤ g i ∧ g i ≤ 26) {k : Int} (hk : 0 ≤ k ∧ k ≤ 5) : (k < (L : Int) ∧ lt (e27 g L * p27 (6 - L)) k = g k.toNat) ∨ ((L : Int) ≤ k ∧ lt (e27 g L * p27 (6 - L)) k = 0) := by
  have e1 : e27 (tPad g L) 6 = e27 g L * p27 (6 - L) := by rw [← e27_pad g L (6 - L), show L + (6 - L) = 6 by omega]
  have pg : ∀ i, i < 6 → 0 ≤ tPad g L i ∧ tPad g L i ≤ 26 := by
    intro i _
    unfold tPad
    by_cases q : i < L
    · rw [if_pos q]; have := hg i q; omega
    · rw [if_neg q]; omega
  have e2 : lt (e27 g L * p27 (6 - L)) k = tPad g L k.toNat := by
    unfold lt
    rw [← e1, lr_e27 pg (5 - k).toNat (by omega), show 6 - (5 - k).toNat = k.toNat + 1 by omega]
    show (e27 (tPad g L) k.toNat * 27 + tPad g L k.toNat) % 27 = _
    have b := pg k.toNat (by omega)
    omega
  rw [e2]
  unfold tPad
  by_cases q : k.toNat < L
  · rw [if_pos q]; exact Or.inl ⟨by omega, rfl⟩
  · rw [if_neg q]; exact Or.inr ⟨by omega, rfl⟩
theorem e56_dn {g : Nat → Int} {n : Nat} (hb : 1 ≤ g n ∧ g n ≤ 26) : e56 g (n + 1) / 256 = e56 g n ∧ e56 g (n + 1) % 256 = 96 + g n := by
  have e : e56 g (n + 1) = e56 g n * 256 + (96 + g n) := rfl
  rw [e]
  omega
theorem l64_smod8 {j : Nat} (hj : j ≤ 6) : ((((Int32.ofInt (((8 * j : Nat)) : Int)).toInt64 &&& 63).toBitVec.smod 64)).toNat = 8 * j := by
  have : ∀ j : Nat, j < 7 → ((((Int32.ofInt (((8 * j : Nat)) : Int)).toInt64 &&& 63).toBitVec.smod 64)).toNat = 8 * j := by decide
  exact this j (by omega)
theorem llshr_8 (j : Nat) (hj : j ≤ 6) {x : Int} (h : LR x) : llshr x ((8 * j : Nat) : Int) = x / ((2 ^ (8 * j) : Nat) : Int) := by
  unfold llshr
  have e0 : ∀ y : Int64, y.toInt = y.toBitVec.toInt := fun _ => rfl
  rw [e0, Int64.toBitVec_shiftRight, BitVec.toInt_sshiftRight', l64_smod8 hj]
  have h1 : (Int64.ofInt x).toBitVec.toInt = x := oL h
  rw [h1, Int.shiftRight_eq_div_pow]
theorem e56_sh {g : Nat → Int} {L : Nat} (hg : ∀ i, i < L → 1 ≤ g i ∧ g i ≤ 26) : ∀ j : Nat, j ≤ L → e56 g L / ((2 ^ (8 * j) : Nat) : Int) = e56 g (L - j) := by
  intro j
  induction j with
  | zero => intro _; show e56 g L / 1 = e56 g L; exact Int.ediv_one _
  | succ j ih =>
    intro hj
    have e := ih (by omega)
    have hp : ((2 ^ (8 * (j + 1)) : Nat) : Int) = ((2 ^ (8 * j) : Nat) : Int) * 256 := by
      rw [show 8 * (j + 1) = 8 * j + 8 by omega, Nat.pow_add, Int.natCast_mul]
      rfl
    rw [hp, ← Int.ediv_ediv_of_nonneg (Int.natCast_nonneg _), e, show L - j = (L - (j + 1)) + 1 by omega]
    exact (e56_dn (hg _ (by omega))).1
theorem lland_255 {x : Int} (hx : 0 ≤ x ∧ x ≤ 9223372036854775807) : lland x 255 = x % 256 := by
  have e4 : ((x.toNat : Nat) : Int) = x := Int.toNat_of_nonneg hx.1
  unfold lland
  rw [l64_bv, Int64.toBitVec_and]
  have e1 := bv64_of (z := x) hx
  have e2 := bv64_of (z := 255) ⟨by decide, by decide⟩
  have hv : ((Int64.ofInt x).toBitVec &&& (Int64.ofInt 255).toBitVec).toNat = x.toNat % 256 := by
    rw [BitVec.toNat_and, e1, e2]
    exact Nat.and_two_pow_sub_one_eq_mod x.toNat 8
  rw [BitVec.toInt_eq_toNat_cond, hv, if_pos (by omega)]
  omega
/-- a letter of a kind's name (0), of a constructor's (1) -/
def ltr (K : PH) (s x k : Int) : Int := if 0 ≤ k ∧ k ≤ 5 ∧ ((s = 0 ∧ 0 ≤ x ∧ x < K 0 0) ∨ (s = 1 ∧ 0 ≤ x ∧ x < K 0 1)) then lt (if s = 0 then K 1 x else K 4 x) k else -1
theorem ltr_s (K : PH) (s x k : Int) : (0 ≤ k ∧ k ≤ 5 ∧ s = 0 ∧ 0 ≤ x ∧ x < K 0 0 ∧ ltr K s x k = lt (K 1 x) k) ∨ (0 ≤ k ∧ k ≤ 5 ∧ s = 1 ∧ 0 ≤ x ∧ x < K 0 1 ∧ ltr K s x k = lt (K 4 x) k) ∨ ((k < 0 ∨ 5 < k ∨ ((s ≠ 0 ∨ x < 0 ∨ K 0 0 ≤ x) ∧ (s ≠ 1 ∨ x < 0 ∨ K 0 1 ≤ x))) ∧ ltr K s x k = -1) := by
  unfold ltr
  by_cases h : 0 ≤ k ∧ k ≤ 5 ∧ ((s = 0 ∧ 0 ≤ x ∧ x < K 0 0) ∨ (s = 1 ∧ 0 ≤ x ∧ x < K 0 1))
  · rw [if_pos h]
    by_cases h2 : s = 0
    · rw [if_pos h2]; exact Or.inl ⟨h.1, h.2.1, h2, by omega, by omega, rfl⟩
    · rw [if_neg h2]; exact Or.inr (Or.inl ⟨h.1, h.2.1, by omega, by omega, by omega, rfl⟩)
  · rw [if_neg h]; exact Or.inr (Or.inr ⟨by omega, rfl⟩)
/-- the names told are words -/
def AN (K : PH) : Prop := (∀ k : Int, 0 ≤ k → k < K 0 0 → 0 ≤ K 1 k) ∧ ∀ c : Int, 0 ≤ c → c < K 0 1 → 0 ≤ K 4 c
theorem MKB.an {K P : PH} (h : MKB K P) : AN K := ⟨fun _ k0 k1 => (h.k k0 k1).1.b.1, fun _ c0 c1 => (h.c c0 c1).b.1⟩
end
section
/-! The acts told: A: 0 [arms in order, guards on, rule, rows kept, acts to undo, seed, rows seen], 1 arms by place; of what can be undone (0 the eldest): 2 arms in order, 3 guards on, 4 rules, 5 rows kept, 6 arms by place (12 each). -/
def A0 : PH := fun o k => if o = 0 ∧ k = 5 then 1 else 0
/-- the state now is written down at place n, those above it s places further down -/
def aNow (A : PH) (n s : Int) : PH := fun o k =>
  if o = 0 then (if k = 4 then n + 1 else A 0 k)
  else if o = 2 then (if k = n then A 0 0 else A 2 (k + s))
  else if o = 3 then (if k = n then A 0 1 else A 3 (k + s))
  else if o = 4 then (if k = n then A 0 2 else A 4 (k + s))
  else if o = 5 then (if k = n then A 0 3 else A 5 (k + s))
  else if o = 6 then (if 12 * n ≤ k ∧ k < 12 * n + 12 then A 1 (k - 12 * n) else A 6 (k + 12 * s))
  else A o k
def aPush (A : PH) : PH := if A 0 4 = 20 then aNow A 19 1 else aNow A (A 0 4) 0
def aPop (A : PH) : PH := fun o k =>
  if o = 0 then (if k = 0 then A 2 (A 0 4 - 1) else if k = 1 then A 3 (A 0 4 - 1) else if k = 2 then A 4 (A 0 4 - 1) else if k = 3 then A 5 (A 0 4 - 1) else if k = 4 then A 0 4 - 1 else A 0 k)
  else if o = 1 then A 6 (12 * (A 0 4 - 1) + k)
  else A o k
/-- another order now -/
def aSet (A : PH) (c n r : Int) (a : Int → Int) : PH := fun o k =>
  if o = 0 then (if k = 0 then c else if k = 1 then n else if k = 2 then r else A 0 k)
  else if o = 1 then a k
  else A o k
section AN
variable {A : PH} {n s : Int}
theorem aNow_0 (k : Int) : aNow A n s 0 k = if k = 4 then n + 1 else A 0 k := rfl
theorem aNow_1 (k : Int) : aNow A n s 1 k = A 1 k := rfl
theorem aNow_2 (k : Int) : aNow A n s 2 k = if k = n then A 0 0 else A 2 (k + s) := rfl
theorem aNow_3 (k : Int) : aNow A n s 3 k = if k = n then A 0 1 else A 3 (k + s) := rfl
theorem aNow_4 (k : Int) : aNow A n s 4 k = if k = n then A 0 2 else A 4 (k + s) := rfl
theorem aNow_5 (k : Int) : aNow A n s 5 k = if k = n then A 0 3 else A 5 (k + s) := rfl
theorem aNow_6 (k : Int) : aNow A n s 6 k = if 12 * n ≤ k ∧ k < 12 * n + 12 then A 1 (k - 12 * n) else A 6 (k + 12 * s) := rfl
end AN
theorem aPush_0 (A : PH) (k : Int) (hk : k ≠ 4) : aPush A 0 k = A 0 k := by
  unfold aPush
  by_cases h : A 0 4 = 20
  · rw [if_pos h, aNow_0, if_neg hk]
  · rw [if_neg h, aNow_0, if_neg hk]
theorem aPush_1 (A : PH) (k : Int) : aPush A 1 k = A 1 k := by
  unfold aPush
  by_cases h : A 0 4 = 20
  · rw [if_pos h, aNow_1]
  · rw [if_neg h, aNow_1]
def m40 (x : Int) : Int := if x ≤ 40 then x else 40
theorem m40_s (x : Int) : (x ≤ 40 ∧ m40 x = x) ∨ (40 < x ∧ m40 x = 40) := by
  unfold m40
  by_cases h : x ≤ 40
  · rw [if_pos h]; exact Or.inl ⟨h, rfl⟩
  · rw [if_neg h]; exact Or.inr ⟨by omega, rfl⟩
/-- what the acts' numbers keep to behind k calls -/
def WA (k : Int) (A : PH) : Prop := (0 ≤ A 0 0 ∧ A 0 0 ≤ 12) ∧ (0 ≤ A 0 4 ∧ A 0 4 ≤ 20) ∧ (0 ≤ A 0 3 ∧ A 0 3 ≤ 40 * k) ∧ ∀ i : Int, 0 ≤ i → i < A 0 4 → (0 ≤ A 5 i ∧ A 5 i ≤ 40 * k) ∧ 0 ≤ A 2 i ∧ A 2 i ≤ 12
theorem WA.zero : WA 0 A0 := ⟨by decide, by decide, by decide, fun i h0 h1 => absurd h1 (by show ¬ i < 0; omega)⟩
theorem WA.mono {k k1 : Int} {A : PH} (h : WA k A) (hk : k ≤ k1) : WA k1 A := by
  obtain ⟨h1, h2, h3, h4⟩ := h
  exact ⟨h1, h2, by omega, fun i i0 i1 => by have q := h4 i i0 i1; omega⟩
theorem WA.push {k : Int} {A : PH} (h : WA k A) : WA k (aPush A) := by
  obtain ⟨h1, h2, h3, h4⟩ := h
  unfold aPush
  by_cases e : A 0 4 = 20
  · rw [if_pos e]
    refine ⟨by rw [aNow_0]; exact h1, by rw [aNow_0, if_pos rfl]; decide, by rw [aNow_0]; exact h3, fun i i0 i1 => ?_⟩
    rw [aNow_0, if_pos rfl] at i1
    rw [aNow_5, aNow_2]
    by_cases z : i = 19
    · rw [if_pos z, if_pos z]; exact ⟨h3, h1⟩
    · rw [if_neg z, if_neg z]; exact h4 (i + 1) (by omega) (by omega)
  · rw [if_neg e]
    refine ⟨by rw [aNow_0]; exact h1, by rw [aNow_0, if_pos rfl]; omega, by rw [aNow_0]; exact h3, fun i i0 i1 => ?_⟩
    rw [aNow_0, if_pos rfl] at i1
    rw [aNow_5, aNow_2]
    by_cases z : i = A 0 4
    · rw [if_pos z, if_pos z]; exact ⟨h3, h1⟩
    · rw [if_neg z, if_neg z, Int.add_zero]; exact h4 i i0 (by omega)
theorem WA.pop {k : Int} {A : PH} (h : WA k A) (h0 : 0 < A 0 4) : WA k (aPop A) := by
  obtain ⟨h1, h2, h3, h4⟩ := h
  have q := h4 (A 0 4 - 1) (by omega) (by omega)
  exact ⟨q.2, ⟨by show 0 ≤ A 0 4 - 1; omega, by show A 0 4 - 1 ≤ 20; omega⟩, q.1, fun i i0 i1 => h4 i i0 (by have i1 : i < A 0 4 - 1 := i1; omega)⟩
theorem WA.set {k c n r : Int} {A : PH} {a : Int → Int} (h : WA k A) (hc : 0 ≤ c ∧ c ≤ 12) : WA k (aSet A c n r a) := ⟨hc, h.2.1, h.2.2.1, h.2.2.2⟩
theorem WA.u5 {k j z : Int} {A : PH} (h : WA k A) (hj : j = 5 ∨ j = 6) : WA k (up A 0 j z) := by
  obtain ⟨h1, h2, h3, h4⟩ := h
  have e : ∀ q : Int, q < 5 → up A 0 j z 0 q = A 0 q := fun q hq => up_k (by omega)
  have e2 : ∀ o : Nat, o ≠ 0 → ∀ q : Int, up A 0 j z o q = A o q := fun o ho q => up_o ho
  exact ⟨by rw [e 0 (by decide)]; exact h1, by rw [e 4 (by decide)]; exact h2, by rw [e 3 (by decide)]; exact h3, fun i i0 i1 => by rw [e 4 (by decide)] at i1; rw [e2 5 (by decide), e2 2 (by decide)]; exact h4 i i0 i1⟩
/-! The reference's acts. -/
def AMe (A P : PH) (k s : Int) : Prop := P 35 s = A 2 k ∧ P 37 s = A 3 k ∧ P 38 s = A 4 k ∧ P 39 s = m40 (A 5 k) ∧ ∀ p : Int, 0 ≤ p → p < A 2 k → P 36 (12 * s + p) = A 6 (12 * k + p)
def AM (A P : PH) : Prop := (P 35 0 = A 0 0 ∧ P 37 0 = A 0 1 ∧ P 38 0 = A 0 2 ∧ P 39 0 = m40 (A 0 3) ∧ P 0 60 = A 0 4 ∧ P 0 61 = A 0 5 ∧ P 0 92 = A 0 6) ∧ (∀ p : Int, 0 ≤ p → p < A 0 0 → P 36 p = A 1 p) ∧ ∀ k : Int, 0 ≤ k → k < A 0 4 → AMe A P k (2 + (P 0 59 + k) % 20)
theorem AM.b {A P : PH} (h : AM A P) : P 35 0 = A 0 0 ∧ P 37 0 = A 0 1 ∧ P 38 0 = A 0 2 ∧ P 39 0 = m40 (A 0 3) ∧ P 0 60 = A 0 4 ∧ P 0 61 = A 0 5 ∧ P 0 92 = A 0 6 := h.1
theorem AM.fr {A P P1 : PH} {F : FS} (h : AM A P) (hf : FrM F P P1) (hd : disF F ([59, 60, 61, 92], [35, 36, 37, 38, 39]) = true) : AM A P1 := by
  unfold AM AMe at h ⊢
  rw [disF_k hd hf (k := 59) (by decide), disF_k hd hf (k := 60) (by decide), disF_k hd hf (k := 61) (by decide), disF_k hd hf (k := 92) (by decide), disF_o hd hf (o := 35) (by decide) rfl, disF_o hd hf (o := 36) (by decide) rfl, disF_o hd hf (o := 37) (by decide) rfl, disF_o hd hf (o := 38) (by decide) rfl, disF_o hd hf (o := 39) (by decide) rfl]
  exact h
/-- a row of acts is copied to place t from place f -/
def CY (t f : Int) (P P1 : PH) : Prop := (P1 35 t = P 35 f ∧ P1 37 t = P 37 f ∧ P1 38 t = P 38 f ∧ P1 39 t = P 39 f) ∧ (∀ p : Int, 0 ≤ p → p < 12 → P1 36 (12 * t + p) = P 36 (12 * f + p)) ∧
  (∀ j : Int, j ≠ t → P1 35 j = P 35 j ∧ P1 37 j = P 37 j ∧ P1 38 j = P 38 j ∧ P1 39 j = P 39 j) ∧ ∀ j : Int, j < 12 * t ∨ 12 * t + 12 ≤ j → P1 36 j = P 36 j
theorem AM.push {A P P1 : PH} {k : Int} (h : AM A P) (hw : WA k A) (hu : 0 ≤ P 0 59 ∧ P 0 59 ≤ 19) {t : Int} (hc : CY t 0 P P1)
    (ht : (A 0 4 = 20 ∧ P1 0 59 = (P 0 59 + 1) % 20 ∧ P1 0 60 = 20 ∧ t = 2 + (P1 0 59 + 19) % 20) ∨ (A 0 4 ≠ 20 ∧ P1 0 59 = P 0 59 ∧ P1 0 60 = A 0 4 + 1 ∧ t = 2 + (P 0 59 + A 0 4) % 20))
    (k61 : P1 0 61 = P 0 61) (k92 : P1 0 92 = P 0 92) : AM (aPush A) P1 := by
  obtain ⟨⟨b1, b2, b3, b4, b5, b6, b7⟩, ha, he⟩ := h
  obtain ⟨⟨c1, c2, c3, c4⟩, cp, co, cq⟩ := hc
  obtain ⟨w1, w2, w3, w4⟩ := hw
  have t2 : 2 ≤ t ∧ t ≤ 21 := by rcases ht with z | z <;> omega
  obtain ⟨o1, o2, o3, o4⟩ := co 0 (by omega)
  have o5 : ∀ p : Int, 0 ≤ p → p < 12 → P1 36 p = P 36 p := fun p p0 p1 => cq p (by omega)
  unfold aPush
  rcases ht with ⟨e, f1, f2, f3⟩ | ⟨e, f1, f2, f3⟩
  · rw [if_pos e]
    refine ⟨⟨by rw [o1]; exact b1, by rw [o2]; exact b2, by rw [o3]; exact b3, by rw [o4]; exact b4, by rw [f2]; rfl, by rw [k61]; exact b6, by rw [k92]; exact b7⟩, fun p p0 p1 => by rw [o5 p p0 (by have p1 : p < A 0 0 := p1; omega)]; exact ha p p0 p1, fun i i0 i1 => ?_⟩
    have i1 : i < 20 := i1
    unfold AMe
    rw [aNow_2, aNow_3, aNow_4, aNow_5]
    by_cases z : i = 19
    · rw [if_pos z, if_pos z, if_pos z, if_pos z, show 2 + (P1 0 59 + i) % 20 = t by rw [z]; exact f3.symm]
      refine ⟨c1.trans b1, c2.trans b2, c3.trans b3, c4.trans b4, fun p p0 p1 => ?_⟩
      rw [aNow_6, if_pos (by omega), cp p p0 (by omega), show 12 * 0 + p = p by omega, show 12 * i + p - 12 * 19 = p by omega]
      exact ha p p0 p1
    · rw [if_neg z, if_neg z, if_neg z, if_neg z]
      have hs : 2 + (P1 0 59 + i) % 20 = 2 + (P 0 59 + (i + 1)) % 20 := by rw [f1]; omega
      have hn : 2 + (P 0 59 + (i + 1)) % 20 ≠ t := by rw [f3, f1]; omega
      rw [hs]
      obtain ⟨g1, g2, g3, g4⟩ := co _ hn
      obtain ⟨d1, d2, d3, d4, d5⟩ := he (i + 1) (by omega) (by omega)
      refine ⟨g1.trans d1, g2.trans d2, g3.trans d3, g4.trans d4, fun p p0 p1 => ?_⟩
      have p2 := (w4 (i + 1) (by omega) (by omega)).2.2
      rw [aNow_6, if_neg (by omega), cq _ (by omega), show 12 * i + p + 12 * 1 = 12 * (i + 1) + p by omega]
      exact d5 p p0 p1
  · rw [if_neg e]
    refine ⟨⟨by rw [o1]; exact b1, by rw [o2]; exact b2, by rw [o3]; exact b3, by rw [o4]; exact b4, by rw [f2]; rfl, by rw [k61]; exact b6, by rw [k92]; exact b7⟩, fun p p0 p1 => by rw [o5 p p0 (by have p1 : p < A 0 0 := p1; omega)]; exact ha p p0 p1, fun i i0 i1 => ?_⟩
    have i1 : i < A 0 4 + 1 := i1
    unfold AMe
    rw [aNow_2, aNow_3, aNow_4, aNow_5, f1]
    by_cases z : i = A 0 4
    · rw [if_pos z, if_pos z, if_pos z, if_pos z, show 2 + (P 0 59 + i) % 20 = t by rw [z]; exact f3.symm]
      refine ⟨c1.trans b1, c2.trans b2, c3.trans b3, c4.trans b4, fun p p0 p1 => ?_⟩
      rw [aNow_6, if_pos (by omega), cp p p0 (by omega), show 12 * 0 + p = p by omega, show 12 * i + p - 12 * A 0 4 = p by omega]
      exact ha p p0 p1
    · rw [if_neg z, if_neg z, if_neg z, if_neg z, Int.add_zero]
      have hn : 2 + (P 0 59 + i) % 20 ≠ t := by rw [f3]; omega
      obtain ⟨g1, g2, g3, g4⟩ := co _ hn
      obtain ⟨d1, d2, d3, d4, d5⟩ := he i i0 (by omega)
      refine ⟨g1.trans d1, g2.trans d2, g3.trans d3, g4.trans d4, fun p p0 p1 => ?_⟩
      have p2 := (w4 i i0 (by omega)).2.2
      rw [aNow_6, if_neg (by omega), cq _ (by omega), show 12 * i + p + 12 * 0 = 12 * i + p by omega]
      exact d5 p p0 p1
theorem AM.pop {A P P1 : PH} {k : Int} (h : AM A P) (hw : WA k A) (h0 : 0 < A 0 4) (hu : 0 ≤ P 0 59 ∧ P 0 59 ≤ 19) (hc : CY 0 (2 + (P 0 59 + (A 0 4 - 1)) % 20) P P1) (k59 : P1 0 59 = P 0 59) (k60 : P1 0 60 = A 0 4 - 1) (k61 : P1 0 61 = P 0 61) (k92 : P1 0 92 = P 0 92) : AM (aPop A) P1 := by
  obtain ⟨⟨b1, b2, b3, b4, b5, b6, b7⟩, ha, he⟩ := h
  obtain ⟨⟨c1, c2, c3, c4⟩, cp, co, cq⟩ := hc
  obtain ⟨w1, w2, w3, w4⟩ := hw
  obtain ⟨d1, d2, d3, d4, d5⟩ := he (A 0 4 - 1) (by omega) (by omega)
  have p2 := (w4 (A 0 4 - 1) (by omega) (by omega)).2
  refine ⟨⟨c1.trans d1, c2.trans d2, c3.trans d3, c4.trans d4, k60, k61.trans b6, k92.trans b7⟩, fun p p0 p1 => ?_, fun i i0 i1 => ?_⟩
  · have p1 : p < A 2 (A 0 4 - 1) := p1
    have q := cp p p0 (by omega)
    rw [show 12 * 0 + p = p by omega] at q
    rw [q]
    exact d5 p p0 p1
  · have i1 : i < A 0 4 - 1 := i1
    obtain ⟨g1, g2, g3, g4, g5⟩ := he i i0 (by omega)
    obtain ⟨o1, o2, o3, o4⟩ := co (2 + (P 0 59 + i) % 20) (by omega)
    unfold AMe
    rw [k59]
    have p3 := (w4 i i0 (by omega)).2
    exact ⟨o1.trans g1, o2.trans g2, o3.trans g3, o4.trans g4, fun p p0 p1 => (cq _ (by omega)).trans (g5 p p0 p1)⟩
/-- another order now -/
theorem AM.set {A P P1 : PH} {k c n r : Int} {a : Int → Int} (h : AM A P) (hw : WA k A) (hu : 0 ≤ P 0 59 ∧ P 0 59 ≤ 19) (e1 : P1 35 0 = c) (e2 : P1 37 0 = n) (e3 : P1 38 0 = r) (ea : ∀ p : Int, 0 ≤ p → p < c → P1 36 p = a p)
    (k35 : ∀ j : Int, j ≠ 0 → P1 35 j = P 35 j) (k37 : ∀ j : Int, j ≠ 0 → P1 37 j = P 37 j) (k38 : ∀ j : Int, j ≠ 0 → P1 38 j = P 38 j) (k39 : ∀ j : Int, P1 39 j = P 39 j) (k36 : ∀ j : Int, 12 ≤ j → P1 36 j = P 36 j)
    (k59 : P1 0 59 = P 0 59) (k60 : P1 0 60 = P 0 60) (k61 : P1 0 61 = P 0 61) (k92 : P1 0 92 = P 0 92) : AM (aSet A c n r a) P1 := by
  obtain ⟨⟨b1, b2, b3, b4, b5, b6, b7⟩, ha, he⟩ := h
  refine ⟨⟨e1, e2, e3, (k39 0).trans b4, k60.trans b5, k61.trans b6, k92.trans b7⟩, ea, fun i i0 i1 => ?_⟩
  have w2 := hw.2.1
  have i1 : i < A 0 4 := i1
  obtain ⟨g1, g2, g3, g4, g5⟩ := he i i0 i1
  unfold AMe
  rw [k59]
  exact ⟨(k35 _ (by omega)).trans g1, (k37 _ (by omega)).trans g2, (k38 _ (by omega)).trans g3, (k39 _).trans g4, fun p p0 p1 => (k36 _ (by omega)).trans (g5 p p0 p1)⟩
theorem CY.row {t f : Int} {P P1 Q : PH} (h : CY t f P P1) (q35 : ∀ j : Int, P 35 j = Q 35 j) (q36 : ∀ j : Int, P 36 j = Q 36 j) (q37 : ∀ j : Int, P 37 j = Q 37 j) (q38 : ∀ j : Int, P 38 j = Q 38 j) (q39 : ∀ j : Int, P 39 j = Q 39 j) : CY t f Q P1 := by
  obtain ⟨⟨c1, c2, c3, c4⟩, cp, co, cq⟩ := h
  exact ⟨⟨c1.trans (q35 _), c2.trans (q37 _), c3.trans (q38 _), c4.trans (q39 _)⟩, fun p p0 p1 => (cp p p0 p1).trans (q36 _), fun j hj => ⟨(co j hj).1.trans (q35 _), (co j hj).2.1.trans (q37 _), (co j hj).2.2.1.trans (q38 _), (co j hj).2.2.2.trans (q39 _)⟩, fun j hj => (cq j hj).trans (q36 _)⟩
theorem CY.r0 {t f k z : Int} {P P1 : PH} (h : CY t f P P1) : CY t f P (up P1 0 k z) := by
  obtain ⟨⟨c1, c2, c3, c4⟩, cp, co, cq⟩ := h
  exact ⟨⟨(up_o (by decide)).trans c1, (up_o (by decide)).trans c2, (up_o (by decide)).trans c3, (up_o (by decide)).trans c4⟩, fun p p0 p1 => (up_o (by decide)).trans (cp p p0 p1), fun j hj => ⟨(up_o (by decide)).trans (co j hj).1, (up_o (by decide)).trans (co j hj).2.1, (up_o (by decide)).trans (co j hj).2.2.1, (up_o (by decide)).trans (co j hj).2.2.2⟩, fun j hj => (up_o (by decide)).trans (cq j hj)⟩
/-- scalars alone -/
theorem AM.sc {A P P1 : PH} {j z : Int} (h : AM A P) (hj : j = 3 ∨ j = 5 ∨ j = 6) (e39 : P1 39 0 = m40 (up A 0 j z 0 3)) (e61 : P1 0 61 = up A 0 j z 0 5) (e92 : P1 0 92 = up A 0 j z 0 6) (k59 : P1 0 59 = P 0 59) (k60 : P1 0 60 = P 0 60)
    (k35 : ∀ q : Int, P1 35 q = P 35 q) (k36 : ∀ q : Int, P1 36 q = P 36 q) (k37 : ∀ q : Int, P1 37 q = P 37 q) (k38 : ∀ q : Int, P1 38 q = P 38 q) (k39 : ∀ q : Int, q ≠ 0 → P1 39 q = P 39 q) : AM (up A 0 j z) P1 := by
  obtain ⟨⟨b1, b2, b3, b4, b5, b6, b7⟩, ha, he⟩ := h
  have e : ∀ q : Int, q ≠ j → up A 0 j z 0 q = A 0 q := fun q hq => up_k hq
  have e2 : ∀ o : Nat, o ≠ 0 → ∀ q : Int, up A 0 j z o q = A o q := fun o ho q => up_o ho
  refine ⟨⟨by rw [k35, e 0 (by omega)]; exact b1, by rw [k37, e 1 (by omega)]; exact b2, by rw [k38, e 2 (by omega)]; exact b3, e39, by rw [k60, e 4 (by omega)]; exact b5, e61, e92⟩, fun p p0 p1 => by rw [e 0 (by omega)] at p1; rw [k36, e2 1 (by decide)]; exact ha p p0 p1, fun i i0 i1 => ?_⟩
  rw [e 4 (by omega)] at i1
  obtain ⟨g1, g2, g3, g4, g5⟩ := he i i0 i1
  unfold AMe
  rw [k59, e2 2 (by decide), e2 3 (by decide), e2 4 (by decide), e2 5 (by decide)]
  refine ⟨(k35 _).trans g1, (k37 _).trans g2, (k38 _).trans g3, (k39 _ (by omega)).trans g4, fun p p0 p1 => ?_⟩
  rw [k36, e2 6 (by decide)]
  exact g5 p p0 p1
/-! What each act makes of them. -/
def aBeg (A : PH) (c r : Int) : PH := fun o k => if o = 0 then (if k = 0 then c else if k = 1 then 255 else if k = 2 then r else if k = 5 then A 0 5 else 0) else if o = 1 then k else A o k
noncomputable def aSwap (A : PH) (a b : Int) : PH := if (0 ≤ a ∧ a < A 0 0) ∧ (0 ≤ b ∧ b < A 0 0) ∧ a ≠ b then aSet (aPush A) (A 0 0) (A 0 1) (A 0 2) (fun p => if p = a then A 1 b else if p = b then A 1 a else A 1 p) else A
noncomputable def aDrop (A : PH) (p : Int) : PH := if 0 ≤ p ∧ p < A 0 0 then aSet (aPush A) (A 0 0 - 1) (A 0 1) (A 0 2) (fun q => if q < p then A 1 q else A 1 (q + 1)) else A
noncomputable def aTurn (A M : PH) (g : Int) : PH := if 0 < M 0 0 ∧ 0 ≤ g ∧ g ≤ 7 then aSet (aPush A) (A 0 0) (ixor (A 0 1) (ishl 1 g)) (A 0 2) (A 1) else A
noncomputable def aRule (A M : PH) (r : Int) : PH := if 0 < M 0 0 ∧ 0 ≤ r ∧ r ≤ 3 ∧ A 0 2 ≠ r then aSet (aPush A) (A 0 0) (A 0 1) r (A 1) else A
def aSeed (A : PH) (v : Int) : PH := if 0 ≤ v then up A 0 5 v else A
noncomputable def aUndo (A : PH) : PH := if A 0 4 ≤ 0 then A else aPop A
theorem aSwap_y {A : PH} {a b : Int} (h : (0 ≤ a ∧ a < A 0 0) ∧ (0 ≤ b ∧ b < A 0 0) ∧ a ≠ b) : aSwap A a b = aSet (aPush A) (A 0 0) (A 0 1) (A 0 2) (fun p => if p = a then A 1 b else if p = b then A 1 a else A 1 p) := by unfold aSwap; rw [if_pos h]
theorem aSwap_n {A : PH} {a b : Int} (h : ¬ ((0 ≤ a ∧ a < A 0 0) ∧ (0 ≤ b ∧ b < A 0 0) ∧ a ≠ b)) : aSwap A a b = A := by unfold aSwap; rw [if_neg h]
theorem aDrop_y {A : PH} {p : Int} (h : 0 ≤ p ∧ p < A 0 0) : aDrop A p = aSet (aPush A) (A 0 0 - 1) (A 0 1) (A 0 2) (fun q => if q < p then A 1 q else A 1 (q + 1)) := by unfold aDrop; rw [if_pos h]
theorem aDrop_n {A : PH} {p : Int} (h : ¬ (0 ≤ p ∧ p < A 0 0)) : aDrop A p = A := by unfold aDrop; rw [if_neg h]
theorem aTurn_y {A M : PH} {g : Int} (h : 0 < M 0 0 ∧ 0 ≤ g ∧ g ≤ 7) : aTurn A M g = aSet (aPush A) (A 0 0) (ixor (A 0 1) (ishl 1 g)) (A 0 2) (A 1) := by unfold aTurn; rw [if_pos h]
theorem aTurn_n {A M : PH} {g : Int} (h : ¬ (0 < M 0 0 ∧ 0 ≤ g ∧ g ≤ 7)) : aTurn A M g = A := by unfold aTurn; rw [if_neg h]
theorem aRule_y {A M : PH} {r : Int} (h : 0 < M 0 0 ∧ 0 ≤ r ∧ r ≤ 3 ∧ A 0 2 ≠ r) : aRule A M r = aSet (aPush A) (A 0 0) (A 0 1) r (A 1) := by unfold aRule; rw [if_pos h]
theorem aRule_n {A M : PH} {r : Int} (h : ¬ (0 < M 0 0 ∧ 0 ≤ r ∧ r ≤ 3 ∧ A 0 2 ≠ r)) : aRule A M r = A := by unfold aRule; rw [if_neg h]
theorem aSeed_y {A : PH} {v : Int} (h : 0 ≤ v) : aSeed A v = up A 0 5 v := by unfold aSeed; rw [if_pos h]
theorem aSeed_n {A : PH} {v : Int} (h : v < 0) : aSeed A v = A := by unfold aSeed; rw [if_neg (by omega)]
theorem aUndo_y {A : PH} (h : 0 < A 0 4) : aUndo A = aPop A := by unfold aUndo; rw [if_neg (by omega)]
theorem aUndo_n {A : PH} (h : A 0 4 ≤ 0) : aUndo A = A := by unfold aUndo; rw [if_pos h]
theorem WA.swap {k a b : Int} {A : PH} (h : WA k A) : WA k (aSwap A a b) := by
  unfold aSwap; split
  · exact WA.set h.push h.1
  · exact h
theorem WA.drop {k p : Int} {A : PH} (h : WA k A) : WA k (aDrop A p) := by
  unfold aDrop; split
  · have q := h.1; exact WA.set h.push (by omega)
  · exact h
theorem WA.turn {k g : Int} {A M : PH} (h : WA k A) : WA k (aTurn A M g) := by
  unfold aTurn; split
  · exact WA.set h.push h.1
  · exact h
theorem WA.rule {k r : Int} {A M : PH} (h : WA k A) : WA k (aRule A M r) := by
  unfold aRule; split
  · exact WA.set h.push h.1
  · exact h
theorem WA.seed {k v : Int} {A : PH} (h : WA k A) : WA k (aSeed A v) := by
  unfold aSeed; split
  · exact h.u5 (Or.inl rfl)
  · exact h
theorem WA.undo {k : Int} {A : PH} (h : WA k A) : WA k (aUndo A) := by
  unfold aUndo; split
  · exact h
  · exact h.pop (by omega)
theorem WA.beg {k c r : Int} {A : PH} (hc : 0 ≤ c ∧ c ≤ 12) (hk : 0 ≤ k) : WA k (aBeg A c r) := ⟨hc, by show (0 : Int) ≤ 0 ∧ (0 : Int) ≤ 20; decide, by show (0 : Int) ≤ 0 ∧ (0 : Int) ≤ 40 * k; omega, fun i h0 h1 => absurd h1 (by show ¬ i < 0; omega)⟩
section AMS
variable {A M P P1 : PH} {k : Int}
theorem AM.sw {a b : Int} (h : AM (aPush A) P) (hw : WA k A) (hu : 0 ≤ P 0 59 ∧ P 0 59 ≤ 19) (hab : (0 ≤ a ∧ a < A 0 0) ∧ (0 ≤ b ∧ b < A 0 0) ∧ a ≠ b) (x1 : P1 36 ((12 * 0) + a) = P 36 ((12 * 0) + b)) (x2 : P1 36 ((12 * 0) + b) = P 36 ((12 * 0) + a)) (xo : ∀ j : Int, j ≠ (12 * 0) + a → j ≠ (12 * 0) + b → P1 36 j = P 36 j) (hf : FrM ([], [36]) P P1) : AM (aSwap A a b) P1 := by
  rw [aSwap_y hab]
  have w1 := hw.1
  have hb := h.b
  have ha : ∀ p : Int, 0 ≤ p → p < A 0 0 → P 36 p = A 1 p := fun p p0 p1 => (h.2.1 p p0 (by rw [aPush_0 A 0 (by decide)]; exact p1)).trans (aPush_1 A p)
  have e : ∀ z : Int, 12 * 0 + z = z := fun z => by omega
  rw [e, e] at x1 x2
  refine AM.set h hw.push hu ((congrFun (hf.2 35 rfl rfl) 0).trans (hb.1.trans (aPush_0 A 0 (by decide)))) ((congrFun (hf.2 37 rfl rfl) 0).trans (hb.2.1.trans (aPush_0 A 1 (by decide)))) ((congrFun (hf.2 38 rfl rfl) 0).trans (hb.2.2.1.trans (aPush_0 A 2 (by decide)))) (fun p p0 p1 => ?_) (fun j _ => congrFun (hf.2 35 rfl rfl) j) (fun j _ => congrFun (hf.2 37 rfl rfl) j) (fun j _ => congrFun (hf.2 38 rfl rfl) j) (fun j => congrFun (hf.2 39 rfl rfl) j) (fun j hj => xo j (by omega) (by omega)) (hf.1 59 rfl) (hf.1 60 rfl) (hf.1 61 rfl) (hf.1 92 rfl)
  show P1 36 p = if p = a then A 1 b else if p = b then A 1 a else A 1 p
  by_cases z : p = a
  · rw [if_pos z, z, x1]; exact ha b hab.2.1.1 hab.2.1.2
  · rw [if_neg z]
    by_cases z2 : p = b
    · rw [if_pos z2, z2, x2]; exact ha a hab.1.1 hab.1.2
    · rw [if_neg z2, xo p (by omega) (by omega)]; exact ha p p0 p1
theorem AM.dr {p : Int} (h : AM (aPush A) P) (hw : WA k A) (hu : 0 ≤ P 0 59 ∧ P 0 59 ≤ 19) (hp : 0 ≤ p ∧ p < A 0 0) (e35 : P1 35 0 = P 35 0 - 1) (k35 : ∀ j : Int, j ≠ 0 → P1 35 j = P 35 j) (el : ∀ q : Int, q < p → P1 36 q = P 36 q) (er : ∀ q : Int, p ≤ q → q + 1 < P 35 0 → P1 36 q = P 36 (q + 1)) (k36 : ∀ j : Int, 12 ≤ j → P1 36 j = P 36 j) (hf : FrM ([], [35, 36]) P P1) : AM (aDrop A p) P1 := by
  rw [aDrop_y hp]
  have w1 := hw.1
  have hb := h.b
  have h35 : P 35 0 = A 0 0 := hb.1.trans (aPush_0 A 0 (by decide))
  have ha : ∀ q : Int, 0 ≤ q → q < A 0 0 → P 36 q = A 1 q := fun q q0 q1 => (h.2.1 q q0 (by rw [aPush_0 A 0 (by decide)]; exact q1)).trans (aPush_1 A q)
  refine AM.set h hw.push hu (by omega) ((congrFun (hf.2 37 rfl rfl) 0).trans (hb.2.1.trans (aPush_0 A 1 (by decide)))) ((congrFun (hf.2 38 rfl rfl) 0).trans (hb.2.2.1.trans (aPush_0 A 2 (by decide)))) (fun q q0 q1 => ?_) k35 (fun j _ => congrFun (hf.2 37 rfl rfl) j) (fun j _ => congrFun (hf.2 38 rfl rfl) j) (fun j => congrFun (hf.2 39 rfl rfl) j) k36 (hf.1 59 rfl) (hf.1 60 rfl) (hf.1 61 rfl) (hf.1 92 rfl)
  show P1 36 q = if q < p then A 1 q else A 1 (q + 1)
  by_cases z : q < p
  · rw [if_pos z, el q z]; exact ha q q0 (by omega)
  · rw [if_neg z, er q (by omega) (by omega)]; exact ha (q + 1) (by omega) (by omega)
theorem AM.on {c : Int} (h : AM (aPush A) P) (hw : WA k A) (hu : 0 ≤ P 0 59 ∧ P 0 59 ≤ 19) (e37 : P1 37 0 = c) (k37 : ∀ j : Int, j ≠ 0 → P1 37 j = P 37 j) (hf : FrM ([], [37]) P P1) : AM (aSet (aPush A) (A 0 0) c (A 0 2) (A 1)) P1 := by
  have hb := h.b
  exact AM.set h hw.push hu ((congrFun (hf.2 35 rfl rfl) 0).trans (hb.1.trans (aPush_0 A 0 (by decide)))) e37 ((congrFun (hf.2 38 rfl rfl) 0).trans (hb.2.2.1.trans (aPush_0 A 2 (by decide)))) (fun p p0 p1 => (congrFun (hf.2 36 rfl rfl) p).trans ((h.2.1 p p0 (by rw [aPush_0 A 0 (by decide)]; exact p1)).trans (aPush_1 A p))) (fun j _ => congrFun (hf.2 35 rfl rfl) j) k37 (fun j _ => congrFun (hf.2 38 rfl rfl) j) (fun j => congrFun (hf.2 39 rfl rfl) j) (fun j _ => congrFun (hf.2 36 rfl rfl) j) (hf.1 59 rfl) (hf.1 60 rfl) (hf.1 61 rfl) (hf.1 92 rfl)
theorem AM.ru {c : Int} (h : AM (aPush A) P) (hw : WA k A) (hu : 0 ≤ P 0 59 ∧ P 0 59 ≤ 19) (e38 : P1 38 0 = c) (k38 : ∀ j : Int, j ≠ 0 → P1 38 j = P 38 j) (hf : FrM ([], [38]) P P1) : AM (aSet (aPush A) (A 0 0) (A 0 1) c (A 1)) P1 := by
  have hb := h.b
  exact AM.set h hw.push hu ((congrFun (hf.2 35 rfl rfl) 0).trans (hb.1.trans (aPush_0 A 0 (by decide)))) ((congrFun (hf.2 37 rfl rfl) 0).trans (hb.2.1.trans (aPush_0 A 1 (by decide)))) e38 (fun p p0 p1 => (congrFun (hf.2 36 rfl rfl) p).trans ((h.2.1 p p0 (by rw [aPush_0 A 0 (by decide)]; exact p1)).trans (aPush_1 A p))) (fun j _ => congrFun (hf.2 35 rfl rfl) j) (fun j _ => congrFun (hf.2 37 rfl rfl) j) k38 (fun j => congrFun (hf.2 39 rfl rfl) j) (fun j _ => congrFun (hf.2 36 rfl rfl) j) (hf.1 59 rfl) (hf.1 60 rfl) (hf.1 61 rfl) (hf.1 92 rfl)
end AMS
theorem AM.sd {A P P1 : PH} {v : Int} (h : AM A P) (e61 : P1 0 61 = v) (hf : FrM ([61], []) P P1) : AM (up A 0 5 v) P1 := by
  have hb := h.b
  exact AM.sc h (Or.inr (Or.inl rfl)) (by rw [up_k (by decide), hf.2 39 rfl rfl]; exact hb.2.2.2.1) (by rw [up_same]; exact e61) (by rw [up_k (by decide)]; exact (hf.1 92 rfl).trans hb.2.2.2.2.2.2) (hf.1 59 rfl) (hf.1 60 rfl) (fun q => congrFun (hf.2 35 rfl rfl) q) (fun q => congrFun (hf.2 36 rfl rfl) q) (fun q => congrFun (hf.2 37 rfl rfl) q) (fun q => congrFun (hf.2 38 rfl rfl) q) (fun q _ => congrFun (hf.2 39 rfl rfl) q)
end
section
/-! Which order an object is part of; what a method leaves of the others. -/
def orX (x : Nat) : Nat := if x = 14 ∨ x = 15 then 14 else if x = 16 ∨ x = 17 then 16 else if 23 ≤ x ∧ x ≤ 62 then 23 + 2 * ((x - 23) / 2) else 0
def KO (t : Nat) (P P1 : PH) : Prop := ∀ x : Nat, x < 154 → orX x ≠ 0 → orX x ≠ t → ∀ j : Int, P1 x j = P x j
theorem KO.rf {t : Nat} {P : PH} : KO t P P := fun _ _ _ _ _ => rfl
theorem KO.w {t : Nat} {P P1 : PH} {x : Nat} {j z : Int} (h : KO t P P1) (hx : orX x = t ∨ orX x = 0) : KO t P (up P1 x j z) := fun y h1 h2 h3 k => by
  have hne : y ≠ x := fun e => by
    subst e
    rcases hx with q | q
    · exact h3 q
    · exact h2 q
  rw [up_o hne]
  exact h y h1 h2 h3 k
theorem KO.t {t : Nat} {P P1 P2 : PH} (h : KO t P P1) (h2 : KO t P1 P2) : KO t P P2 := fun x a b c j => (h2 x a b c j).trans (h x a b c j)
def nO (F : FSX) : Bool := F.1.all (fun q => !(q.1 == 14) && !(q.1 == 15)) && F.2.all (fun k => !(k == 14) && !(k == 15))
theorem or_kd : ∀ x : Nat, x < 154 → orX x ≠ 0 → kdX x = 14 ∨ kdX x = 15 := by decide +kernel
theorem nO_in {F : FSX} (h : nO F = true) {k : Nat} (hk : k = 14 ∨ k = 15) (j : Int) : inF F k j = false := by
  unfold nO at h
  rw [Bool.and_eq_true] at h
  unfold inF
  rw [Bool.or_eq_false_iff]
  refine ⟨?_, ?_⟩
  · cases e : F.2.contains k with
    | false => rfl
    | true =>
      exfalso
      have q := List.all_eq_true.mp h.2 k (List.contains_iff_mem.mp e)
      rcases hk with z | z <;> (subst z; exact absurd q (by decide))
  · cases e : F.1.any fun q => q.1 == k && q.2 == j with
    | false => rfl
    | true =>
      exfalso
      obtain ⟨q, hq, he⟩ := List.any_eq_true.mp e
      have w := List.all_eq_true.mp h.1 q hq
      rw [Bool.and_eq_true, beq_iff_eq] at he
      rw [he.1] at w
      rcases hk with z | z <;> (subst z; exact absurd w (by decide))
theorem KO.fr {t : Nat} {P P1 P2 : PH} {F : FSX} (h : KO t P P1) (hf : FrX F P1 P2) (hd : nO F = true) : KO t P P2 := fun x a b c j => (hf x j a (nO_in hd (or_kd x a b) j)).trans (h x a b c j)
theorem or14 {o : Nat} (h : kx o 14) : orX o = o ∧ o ≠ 0 ∧ orX (crX o 0) = o ∧ crX o 0 < 154 := (show ∀ o : Nat, o < 154 → kdX o = 14 → orX o = o ∧ o ≠ 0 ∧ orX (crX o 0) = o ∧ crX o 0 < 154 by decide +kernel) o h.1 h.2
theorem OB.c {t x : Nat} (h : orX x = t) (hx : kx x 14) : orX (crX x 0) = t ∨ orX (crX x 0) = 0 := Or.inl (by rw [(or14 hx).2.2.1, ← (or14 hx).1]; exact h)
theorem OB.no {t x k : Nat} (h : kx x k) (hk : k ≠ 14 ∧ k ≠ 15) : orX x = t ∨ orX x = 0 := by
  by_cases e : orX x = 0
  · exact Or.inr e
  · exfalso
    have q := or_kd x h.1 e
    rw [h.2] at q
    omega
theorem KO.o {t o : Nat} {P P1 : PH} (h : KO t P P1) (ho : kx o 14) (hn : o ≠ t) (j : Int) : P1 o j = P o j := h o ho.1 (by rw [(or14 ho).1]; exact (or14 ho).2.1) (by rw [(or14 ho).1]; exact hn) j
theorem KO.a {t o : Nat} {P P1 : PH} (h : KO t P P1) (ho : kx o 14) (hn : o ≠ t) (j : Int) : P1 (crX o 0) j = P (crX o 0) j := h _ (or14 ho).2.2.2 (by rw [(or14 ho).2.2.1]; exact (or14 ho).2.1) (by rw [(or14 ho).2.2.1]; exact hn) j
theorem ah_k : ∀ s : Nat, s < 20 → crX 22 s = 23 + 2 * s ∧ kdX (crX 22 s) = 14 ∧ crX 22 s < 154 ∧ crX (crX 22 s) 0 = 24 + 2 * s := by decide +kernel
theorem ah {s : Nat} (h : s < 20) : crX 22 s = 23 + 2 * s ∧ kx (crX 22 s) 14 := ⟨(ah_k s h).1, (ah_k s h).2.2.1, (ah_k s h).2.1⟩
/-! The class's acts. -/
def AXe (A P : PH) (k s : Int) : Prop := P (crX 22 s.toNat) 1 = A 2 k ∧ P (crX 22 s.toNat) 2 = A 3 k ∧ P (crX 22 s.toNat) 3 = A 4 k ∧ P 63 s = A 5 k ∧ ∀ p : Int, 0 ≤ p → p < A 2 k → P (crX (crX 22 s.toNat) 0) p = A 6 (12 * k + p)
def AX (A P : PH) : Prop := (P 14 1 = A 0 0 ∧ P 14 2 = A 0 1 ∧ P 14 3 = A 0 2 ∧ P 18 5 = A 0 3 ∧ P 18 7 = A 0 4 ∧ P 0 14 = A 0 5 ∧ P 64 2 = A 0 6) ∧ (∀ p : Int, 0 ≤ p → p < A 0 0 → P 15 p = A 1 p) ∧ ∀ k : Int, 0 ≤ k → k < A 0 4 → AXe A P k ((P 18 6 - P 18 7 + k) % 20)
theorem AX.b {A P : PH} (h : AX A P) : P 14 1 = A 0 0 ∧ P 14 2 = A 0 1 ∧ P 14 3 = A 0 2 ∧ P 18 5 = A 0 3 ∧ P 18 7 = A 0 4 ∧ P 0 14 = A 0 5 ∧ P 64 2 = A 0 6 := h.1
/-- from what is left of the acts' own cells -/
theorem AX.same {A P P1 : PH} (h : AX A P) (q14 : ∀ x : Nat, x < 154 → orX x ≠ 0 → orX x ≠ 16 → ∀ j : Int, P1 x j = P x j) (q5 : P1 18 5 = P 18 5) (q6 : P1 18 6 = P 18 6) (q7 : P1 18 7 = P 18 7) (q0 : P1 0 14 = P 0 14) (q64 : P1 64 2 = P 64 2) (q63 : ∀ j : Int, P1 63 j = P 63 j) : AX A P1 := by
  obtain ⟨⟨b1, b2, b3, b4, b5, b6, b7⟩, ha, he⟩ := h
  have r14 : ∀ j : Int, P1 14 j = P 14 j := q14 14 (by decide) (by decide) (by decide)
  have r15 : ∀ j : Int, P1 15 j = P 15 j := q14 15 (by decide) (by decide) (by decide)
  refine ⟨⟨by rw [r14]; exact b1, by rw [r14]; exact b2, by rw [r14]; exact b3, by rw [q5]; exact b4, by rw [q7]; exact b5, by rw [q0]; exact b6, by rw [q64]; exact b7⟩, fun p p0 p1 => by rw [r15]; exact ha p p0 p1, fun k k0 k1 => ?_⟩
  rw [q6, q7]
  have hs : (P 18 6 - P 18 7 + k) % 20 < 20 ∧ 0 ≤ (P 18 6 - P 18 7 + k) % 20 := by omega
  have hk := ah (s := ((P 18 6 - P 18 7 + k) % 20).toNat) (by omega)
  have hn : crX 22 ((P 18 6 - P 18 7 + k) % 20).toNat ≠ 16 := by omega
  obtain ⟨d1, d2, d3, d4, d5⟩ := he k k0 k1
  have ho := or14 hk.2
  have ro : ∀ j : Int, P1 (crX 22 ((P 18 6 - P 18 7 + k) % 20).toNat) j = P (crX 22 ((P 18 6 - P 18 7 + k) % 20).toNat) j := q14 _ hk.2.1 (by rw [ho.1]; exact ho.2.1) (by rw [ho.1]; exact hn)
  have ra : ∀ j : Int, P1 (crX (crX 22 ((P 18 6 - P 18 7 + k) % 20).toNat) 0) j = P (crX (crX 22 ((P 18 6 - P 18 7 + k) % 20).toNat) 0) j := q14 _ ho.2.2.2 (by rw [ho.2.2.1]; exact ho.2.1) (by rw [ho.2.2.1]; exact hn)
  exact ⟨(ro 1).trans d1, (ro 2).trans d2, (ro 3).trans d3, (q63 _).trans d4, fun p p0 p1 => (ra p).trans (d5 p p0 p1)⟩
theorem AX.fr {A P P1 : PH} {F : FSX} (h : AX A P) (hf : FrX F P P1) (hd : disX F ([(0, 14), (14, 1), (14, 2), (14, 3), (16, 5), (16, 6), (16, 7), (22, 2)], [15, 21]) = true) : AX A P1 := by
  obtain ⟨⟨b1, b2, b3, b4, b5, b6, b7⟩, ha, he⟩ := h
  have e14 : ∀ o : Nat, kx o 14 → P1 o 1 = P o 1 ∧ P1 o 2 = P o 2 ∧ P1 o 3 = P o 3 := fun o ho => ⟨disX_f hd hf (j := 1) ho (by decide), disX_f hd hf (j := 2) ho (by decide), disX_f hd hf (j := 3) ho (by decide)⟩
  have e18 : P1 18 5 = P 18 5 ∧ P1 18 6 = P 18 6 ∧ P1 18 7 = P 18 7 := ⟨disX_f hd hf (o := 18) (k := 16) (j := 5) ⟨by decide, rfl⟩ (by decide), disX_f hd hf (o := 18) (k := 16) (j := 6) ⟨by decide, rfl⟩ (by decide), disX_f hd hf (o := 18) (k := 16) (j := 7) ⟨by decide, rfl⟩ (by decide)⟩
  have ea : ∀ o : Nat, kx o 14 → ∀ j : Int, P1 (crX o 0) j = P (crX o 0) j := fun o ho j => disX_a hd hf (o := crX o 0) (k := 15) (ck_14_0 ho) (by decide) j
  have e63 : ∀ j : Int, P1 63 j = P 63 j := fun j => disX_a hd hf (o := 63) (k := 21) ⟨by decide, rfl⟩ (by decide) j
  have k14 : kx 14 14 := ⟨by decide, rfl⟩
  have a14 := e14 14 k14
  refine ⟨⟨a14.1.trans b1, a14.2.1.trans b2, a14.2.2.trans b3, e18.1.trans b4, e18.2.2.trans b5, (disX_f hd hf (o := 0) (k := 0) (j := 14) ⟨by decide, rfl⟩ (by decide)).trans b6, (disX_f hd hf (o := 64) (k := 22) (j := 2) ⟨by decide, rfl⟩ (by decide)).trans b7⟩, fun p p0 p1 => (ea 14 k14 p).trans (ha p p0 p1), fun k k0 k1 => ?_⟩
  rw [e18.2.1, e18.2.2]
  have hs : (P 18 6 - P 18 7 + k) % 20 < 20 ∧ 0 ≤ (P 18 6 - P 18 7 + k) % 20 := by omega
  have hk := ah (s := ((P 18 6 - P 18 7 + k) % 20).toNat) (by omega)
  obtain ⟨d1, d2, d3, d4, d5⟩ := he k k0 k1
  have q := e14 _ hk.2
  exact ⟨q.1.trans d1, q.2.1.trans d2, q.2.2.trans d3, (e63 _).trans d4, fun p p0 p1 => (ea _ hk.2 p).trans (d5 p p0 p1)⟩
theorem AX.push {A P P1 : PH} {k s : Int} (h : AX A P) (hw : WA k A) (hn : 0 ≤ P 18 6 ∧ P 18 6 ≤ 20) (hs : s = P 18 6 % 20) (e5 : P1 18 5 = P 18 5) (e6 : P1 18 6 = s + 1) (e7 : (P 18 7 ≤ 19 ∧ P1 18 7 = P 18 7 + 1) ∨ (20 ≤ P 18 7 ∧ P1 18 7 = 20)) (e63 : P1 63 s = P 18 5) (k63 : ∀ j : Int, j ≠ s → P1 63 j = P 63 j)
    (c1 : P1 (crX 22 s.toNat) 1 = P 14 1) (c2 : P1 (crX 22 s.toNat) 2 = P 14 2) (c3 : P1 (crX 22 s.toNat) 3 = P 14 3) (ca : ∀ p : Int, 0 ≤ p → p < 12 → P1 (crX (crX 22 s.toNat) 0) p = P 15 p) (ko : KO (crX 22 s.toNat) P P1) (k0 : P1 0 14 = P 0 14) (k64 : P1 64 2 = P 64 2) : AX (aPush A) P1 := by
  obtain ⟨⟨b1, b2, b3, b4, b5, b6, b7⟩, ha, he⟩ := h
  obtain ⟨w1, w2, w3, w4⟩ := hw
  have s20 : 0 ≤ s ∧ s < 20 := by omega
  have hk := ah (s := s.toNat) (by omega)
  have k14 : kx 14 14 := ⟨by decide, rfl⟩
  have n14 : 14 ≠ crX 22 s.toNat := by omega
  have o14 : ∀ j : Int, P1 14 j = P 14 j := ko.o k14 n14
  have o15 : ∀ j : Int, P1 15 j = P 15 j := ko.a k14 n14
  have oth : ∀ t : Int, 0 ≤ t → t < 20 → t ≠ s → (∀ j : Int, P1 (crX 22 t.toNat) j = P (crX 22 t.toNat) j) ∧ ∀ j : Int, P1 (crX (crX 22 t.toNat) 0) j = P (crX (crX 22 t.toNat) 0) j := fun t t0 t1 t2 => by
    have ht := ah (s := t.toNat) (by omega)
    have nt : crX 22 t.toNat ≠ crX 22 s.toNat := by omega
    exact ⟨ko.o ht.2 nt, ko.a ht.2 nt⟩
  unfold aPush
  by_cases e : A 0 4 = 20
  · rw [if_pos e]
    refine ⟨⟨by rw [o14]; exact b1, by rw [o14]; exact b2, by rw [o14]; exact b3, by rw [e5]; exact b4, by rw [aNow_0, if_pos rfl]; omega, by rw [k0]; exact b6, by rw [k64]; exact b7⟩, fun p p0 p1 => by rw [o15]; exact ha p p0 p1, fun i i0 i1 => ?_⟩
    have i1 : i < 20 := i1
    unfold AXe
    rw [aNow_2, aNow_3, aNow_4, aNow_5]
    by_cases z : i = 19
    · rw [if_pos z, if_pos z, if_pos z, if_pos z, show (P1 18 6 - P1 18 7 + i) % 20 = s by omega]
      refine ⟨c1.trans b1, c2.trans b2, c3.trans b3, e63.trans b4, fun p p0 p1 => ?_⟩
      rw [aNow_6, if_pos (by omega), ca p p0 (by omega), show 12 * i + p - 12 * 19 = p by omega]
      exact ha p p0 p1
    · rw [if_neg z, if_neg z, if_neg z, if_neg z]
      have hs2 : (P1 18 6 - P1 18 7 + i) % 20 = (P 18 6 - P 18 7 + (i + 1)) % 20 := by omega
      rw [hs2]
      obtain ⟨g1, g2⟩ := oth ((P 18 6 - P 18 7 + (i + 1)) % 20) (by omega) (by omega) (by omega)
      obtain ⟨d1, d2, d3, d4, d5⟩ := he (i + 1) (by omega) (by omega)
      refine ⟨(g1 1).trans d1, (g1 2).trans d2, (g1 3).trans d3, (k63 _ (by omega)).trans d4, fun p p0 p1 => ?_⟩
      have p2 := (w4 (i + 1) (by omega) (by omega)).2.2
      rw [aNow_6, if_neg (by omega), g2, show 12 * i + p + 12 * 1 = 12 * (i + 1) + p by omega]
      exact d5 p p0 p1
  · rw [if_neg e]
    refine ⟨⟨by rw [o14]; exact b1, by rw [o14]; exact b2, by rw [o14]; exact b3, by rw [e5]; exact b4, by rw [aNow_0, if_pos rfl]; omega, by rw [k0]; exact b6, by rw [k64]; exact b7⟩, fun p p0 p1 => by rw [o15]; exact ha p p0 p1, fun i i0 i1 => ?_⟩
    have i1 : i < A 0 4 + 1 := i1
    unfold AXe
    rw [aNow_2, aNow_3, aNow_4, aNow_5]
    by_cases z : i = A 0 4
    · rw [if_pos z, if_pos z, if_pos z, if_pos z, show (P1 18 6 - P1 18 7 + i) % 20 = s by omega]
      refine ⟨c1.trans b1, c2.trans b2, c3.trans b3, e63.trans b4, fun p p0 p1 => ?_⟩
      rw [aNow_6, if_pos (by omega), ca p p0 (by omega), show 12 * i + p - 12 * A 0 4 = p by omega]
      exact ha p p0 p1
    · rw [if_neg z, if_neg z, if_neg z, if_neg z, Int.add_zero]
      have hs2 : (P1 18 6 - P1 18 7 + i) % 20 = (P 18 6 - P 18 7 + i) % 20 := by omega
      rw [hs2]
      obtain ⟨g1, g2⟩ := oth ((P 18 6 - P 18 7 + i) % 20) (by omega) (by omega) (by omega)
      obtain ⟨d1, d2, d3, d4, d5⟩ := he i i0 (by omega)
      refine ⟨(g1 1).trans d1, (g1 2).trans d2, (g1 3).trans d3, (k63 _ (by omega)).trans d4, fun p p0 p1 => ?_⟩
      have p2 := (w4 i i0 (by omega)).2.2
      rw [aNow_6, if_neg (by omega), g2, show 12 * i + p + 12 * 0 = 12 * i + p by omega]
      exact d5 p p0 p1
theorem AX.pop {A P P1 : PH} {k s : Int} (h : AX A P) (hw : WA k A) (h0 : 0 < A 0 4) (hn : 0 ≤ P 18 6 ∧ P 18 6 ≤ 20) (hs : s = (P 18 6 - 1) % 20) (e5 : P1 18 5 = P 63 s) (e6 : P1 18 6 = s) (e7 : P1 18 7 = P 18 7 - 1) (k63 : ∀ j : Int, P1 63 j = P 63 j)
    (c1 : P1 14 1 = P (crX 22 s.toNat) 1) (c2 : P1 14 2 = P (crX 22 s.toNat) 2) (c3 : P1 14 3 = P (crX 22 s.toNat) 3) (ca : ∀ p : Int, 0 ≤ p → p < 12 → P1 15 p = P (crX (crX 22 s.toNat) 0) p) (ko : KO 14 P P1) (k0 : P1 0 14 = P 0 14) (k64 : P1 64 2 = P 64 2) : AX (aPop A) P1 := by
  obtain ⟨⟨b1, b2, b3, b4, b5, b6, b7⟩, ha, he⟩ := h
  obtain ⟨w1, w2, w3, w4⟩ := hw
  have s20 : 0 ≤ s ∧ s < 20 := by omega
  have hl := he (A 0 4 - 1) (by omega) (by omega)
  rw [show (P 18 6 - P 18 7 + (A 0 4 - 1)) % 20 = s by omega] at hl
  obtain ⟨d1, d2, d3, d4, d5⟩ := hl
  have p2 := (w4 (A 0 4 - 1) (by omega) (by omega)).2
  refine ⟨⟨c1.trans d1, c2.trans d2, c3.trans d3, e5.trans d4, by show P1 18 7 = A 0 4 - 1; omega, k0.trans b6, k64.trans b7⟩, fun p p0 p1 => ?_, fun i i0 i1 => ?_⟩
  · have p1 : p < A 2 (A 0 4 - 1) := p1
    rw [ca p p0 (by omega)]
    exact d5 p p0 p1
  · have i1 : i < A 0 4 - 1 := i1
    have hs2 : (P1 18 6 - P1 18 7 + i) % 20 = (P 18 6 - P 18 7 + i) % 20 := by omega
    rw [hs2]
    have ht := ah (s := ((P 18 6 - P 18 7 + i) % 20).toNat) (by omega)
    have nt : crX 22 ((P 18 6 - P 18 7 + i) % 20).toNat ≠ 14 := by omega
    obtain ⟨g1, g2, g3, g4, g5⟩ := he i i0 (by omega)
    exact ⟨(ko.o ht.2 nt 1).trans g1, (ko.o ht.2 nt 2).trans g2, (ko.o ht.2 nt 3).trans g3, (k63 _).trans g4, fun p p0 p1 => (ko.a ht.2 nt p).trans (g5 p p0 p1)⟩
/-- another order now -/
theorem AX.set {A P P1 : PH} {c n r : Int} {a : Int → Int} (h : AX A P) (e1 : P1 14 1 = c) (e2 : P1 14 2 = n) (e3 : P1 14 3 = r) (ea : ∀ p : Int, 0 ≤ p → p < c → P1 15 p = a p) (ko : KO 14 P P1)
    (q5 : P1 18 5 = P 18 5) (q6 : P1 18 6 = P 18 6) (q7 : P1 18 7 = P 18 7) (q63 : ∀ j : Int, P1 63 j = P 63 j) (k0 : P1 0 14 = P 0 14) (k64 : P1 64 2 = P 64 2) : AX (aSet A c n r a) P1 := by
  obtain ⟨⟨b1, b2, b3, b4, b5, b6, b7⟩, ha, he⟩ := h
  refine ⟨⟨e1, e2, e3, q5.trans b4, q7.trans b5, k0.trans b6, k64.trans b7⟩, ea, fun i i0 i1 => ?_⟩
  have i1 : i < A 0 4 := i1
  rw [q6, q7]
  have ht := ah (s := ((P 18 6 - P 18 7 + i) % 20).toNat) (by omega)
  have nt : crX 22 ((P 18 6 - P 18 7 + i) % 20).toNat ≠ 14 := by omega
  obtain ⟨g1, g2, g3, g4, g5⟩ := he i i0 i1
  exact ⟨(ko.o ht.2 nt 1).trans g1, (ko.o ht.2 nt 2).trans g2, (ko.o ht.2 nt 3).trans g3, (q63 _).trans g4, fun p p0 p1 => (ko.a ht.2 nt p).trans (g5 p p0 p1)⟩
theorem irem_q {x y : Int} (hx : IR x) (hy : 0 < y ∧ y ≤ 2147483647) : ∃ q : Int, x = irem x y + y * q := by
  have hne : Int32.ofInt y ≠ -1 := fun q => by
    have := congrArg Int32.toInt q
    rw [oI ⟨by omega, hy.2⟩] at this
    have e : (-1 : Int32).toInt = -1 := by decide
    omega
  have hd : idiv x y = x.tdiv y := by
    unfold idiv
    rw [Int32.toInt_div_of_ne_right _ _ hne, oI hx, oI ⟨by omega, hy.2⟩]
  have e1 : Int32.ofInt x / Int32.ofInt y = Int32.ofInt (x.tdiv y) := by rw [← hd]; exact (Int32.ofInt_toInt _).symm
  have h3 : x - x.tdiv y * y = x.tmod y := by have := Int.mul_tdiv_add_tmod x y; rw [Int.mul_comm] at this; omega
  have h4 := Int.tmod_lt_of_pos x hy.1
  have h5 := Int.neg_tmod x y
  have h6 := Int.tmod_lt_of_pos (-x) hy.1
  have e2 : irem x y = x.tmod y := by
    unfold irem
    rw [e1, ← Int32.ofInt_mul, ← Int32.ofInt_sub, h3, oI ⟨by omega, by omega⟩]
  exact ⟨x.tdiv y, by rw [e2]; have := Int.mul_tdiv_add_tmod x y; omega⟩
theorem emod_u {x y r q : Int} (h : x = r + y * q) (h0 : 0 ≤ r) (h1 : r < y) : r = x % y := by
  rw [h, Int.add_mul_emod_self_left, Int.emod_eq_of_lt h0 h1]
section AXS
variable {A M P P1 : PH} {k : Int}
theorem k14_14 : kx 14 14 := ⟨by decide, rfl⟩
theorem AX.sw {a b : Int} (h : AX (aPush A) P) (hw : WA k A) (hab : (0 ≤ a ∧ a < A 0 0) ∧ (0 ≤ b ∧ b < A 0 0) ∧ a ≠ b) (x1 : P1 15 a = P 15 b) (x2 : P1 15 b = P 15 a) (xo : ∀ j : Int, j ≠ a → j ≠ b → P1 15 j = P 15 j) (ko : KO 14 P P1) (hf : FrX ([], [15]) P P1) : AX (aSwap A a b) P1 := by
  rw [aSwap_y hab]
  have hb := h.b
  have ha : ∀ p : Int, 0 ≤ p → p < A 0 0 → P 15 p = A 1 p := fun p p0 p1 => (h.2.1 p p0 (by rw [aPush_0 A 0 (by decide)]; exact p1)).trans (aPush_1 A p)
  refine AX.set h ((hf.g k14_14 rfl).trans (hb.1.trans (aPush_0 A 0 (by decide)))) ((hf.g k14_14 rfl).trans (hb.2.1.trans (aPush_0 A 1 (by decide)))) ((hf.g k14_14 rfl).trans (hb.2.2.1.trans (aPush_0 A 2 (by decide)))) (fun p p0 p1 => ?_) ko (hf.g (k := 16) ⟨by decide, rfl⟩ rfl) (hf.g (k := 16) ⟨by decide, rfl⟩ rfl) (hf.g (k := 16) ⟨by decide, rfl⟩ rfl) (fun j => hf.g (k := 21) ⟨by decide, rfl⟩ rfl) (hf.g (k := 0) ⟨by decide, rfl⟩ rfl) (hf.g (k := 22) ⟨by decide, rfl⟩ rfl)
  show P1 15 p = if p = a then A 1 b else if p = b then A 1 a else A 1 p
  by_cases z : p = a
  · rw [if_pos z, z, x1]; exact ha b hab.2.1.1 hab.2.1.2
  · rw [if_neg z]
    by_cases z2 : p = b
    · rw [if_pos z2, z2, x2]; exact ha a hab.1.1 hab.1.2
    · rw [if_neg z2, xo p z z2]; exact ha p p0 p1
theorem AX.dr {p : Int} (h : AX (aPush A) P) (hp : 0 ≤ p ∧ p < A 0 0) (e1 : P1 14 1 = P 14 1 - 1) (el : ∀ q : Int, q < p → P1 15 q = P 15 q) (er : ∀ q : Int, p ≤ q → q + 1 < P 14 1 → P1 15 q = P 15 (q + 1)) (ko : KO 14 P P1) (hf : FrX ([(14, 1)], [15]) P P1) : AX (aDrop A p) P1 := by
  rw [aDrop_y hp]
  have hb := h.b
  have h14 : P 14 1 = A 0 0 := hb.1.trans (aPush_0 A 0 (by decide))
  have ha : ∀ q : Int, 0 ≤ q → q < A 0 0 → P 15 q = A 1 q := fun q q0 q1 => (h.2.1 q q0 (by rw [aPush_0 A 0 (by decide)]; exact q1)).trans (aPush_1 A q)
  refine AX.set h (by omega) ((hf.g k14_14 rfl).trans (hb.2.1.trans (aPush_0 A 1 (by decide)))) ((hf.g k14_14 rfl).trans (hb.2.2.1.trans (aPush_0 A 2 (by decide)))) (fun q q0 q1 => ?_) ko (hf.g (k := 16) ⟨by decide, rfl⟩ rfl) (hf.g (k := 16) ⟨by decide, rfl⟩ rfl) (hf.g (k := 16) ⟨by decide, rfl⟩ rfl) (fun j => hf.g (k := 21) ⟨by decide, rfl⟩ rfl) (hf.g (k := 0) ⟨by decide, rfl⟩ rfl) (hf.g (k := 22) ⟨by decide, rfl⟩ rfl)
  show P1 15 q = if q < p then A 1 q else A 1 (q + 1)
  by_cases z : q < p
  · rw [if_pos z, el q z]; exact ha q q0 (by omega)
  · rw [if_neg z, er q (by omega) (by omega)]; exact ha (q + 1) (by omega) (by omega)
theorem AX.on {c : Int} (h : AX (aPush A) P) (e2 : P1 14 2 = c) (e1 : P1 14 1 = P 14 1) (e3 : P1 14 3 = P 14 3) (ko : KO 14 P P1) (hf : FrX ([(14, 2)], []) P P1) : AX (aSet (aPush A) (A 0 0) c (A 0 2) (A 1)) P1 := by
  have hb := h.b
  exact AX.set h (e1.trans (hb.1.trans (aPush_0 A 0 (by decide)))) e2 (e3.trans (hb.2.2.1.trans (aPush_0 A 2 (by decide)))) (fun p p0 p1 => (hf.g (k := 15) ⟨by decide, rfl⟩ rfl).trans ((h.2.1 p p0 (by rw [aPush_0 A 0 (by decide)]; exact p1)).trans (aPush_1 A p))) ko (hf.g (k := 16) ⟨by decide, rfl⟩ rfl) (hf.g (k := 16) ⟨by decide, rfl⟩ rfl) (hf.g (k := 16) ⟨by decide, rfl⟩ rfl) (fun j => hf.g (k := 21) ⟨by decide, rfl⟩ rfl) (hf.g (k := 0) ⟨by decide, rfl⟩ rfl) (hf.g (k := 22) ⟨by decide, rfl⟩ rfl)
theorem AX.ru {c : Int} (h : AX (aPush A) P) (e3 : P1 14 3 = c) (e1 : P1 14 1 = P 14 1) (e2 : P1 14 2 = P 14 2) (ko : KO 14 P P1) (hf : FrX ([(14, 3)], []) P P1) : AX (aSet (aPush A) (A 0 0) (A 0 1) c (A 1)) P1 := by
  have hb := h.b
  exact AX.set h (e1.trans (hb.1.trans (aPush_0 A 0 (by decide)))) (e2.trans (hb.2.1.trans (aPush_0 A 1 (by decide)))) e3 (fun p p0 p1 => (hf.g (k := 15) ⟨by decide, rfl⟩ rfl).trans ((h.2.1 p p0 (by rw [aPush_0 A 0 (by decide)]; exact p1)).trans (aPush_1 A p))) ko (hf.g (k := 16) ⟨by decide, rfl⟩ rfl) (hf.g (k := 16) ⟨by decide, rfl⟩ rfl) (hf.g (k := 16) ⟨by decide, rfl⟩ rfl) (fun j => hf.g (k := 21) ⟨by decide, rfl⟩ rfl) (hf.g (k := 0) ⟨by decide, rfl⟩ rfl) (hf.g (k := 22) ⟨by decide, rfl⟩ rfl)
theorem AX.sc {j z : Int} (h : AX A P) (hj : j = 3 ∨ j = 5 ∨ j = 6) (e5 : P1 18 5 = up A 0 j z 0 3) (e0 : P1 0 14 = up A 0 j z 0 5) (e64 : P1 64 2 = up A 0 j z 0 6) (q14 : ∀ o : Nat, kx o 14 → (P1 o 1 = P o 1 ∧ P1 o 2 = P o 2 ∧ P1 o 3 = P o 3) ∧ ∀ j : Int, P1 (crX o 0) j = P (crX o 0) j) (q6 : P1 18 6 = P 18 6) (q7 : P1 18 7 = P 18 7) (q63 : ∀ j : Int, P1 63 j = P 63 j) : AX (up A 0 j z) P1 := by
  obtain ⟨⟨b1, b2, b3, b4, b5, b6, b7⟩, ha, he⟩ := h
  have e : ∀ q : Int, q ≠ j → up A 0 j z 0 q = A 0 q := fun q hq => up_k hq
  have e2 : ∀ o : Nat, o ≠ 0 → ∀ q : Int, up A 0 j z o q = A o q := fun o ho q => up_o ho
  have r14 := (q14 14 k14_14).1
  have r15 : ∀ j : Int, P1 15 j = P 15 j := (q14 14 k14_14).2
  refine ⟨⟨by rw [r14.1, e 0 (by omega)]; exact b1, by rw [r14.2.1, e 1 (by omega)]; exact b2, by rw [r14.2.2, e 2 (by omega)]; exact b3, e5, by rw [q7, e 4 (by omega)]; exact b5, e0, e64⟩, fun p p0 p1 => by rw [e 0 (by omega)] at p1; rw [r15, e2 1 (by decide)]; exact ha p p0 p1, fun i i0 i1 => ?_⟩
  rw [e 4 (by omega)] at i1
  rw [q6, q7]
  have hk := ah (s := ((P 18 6 - P 18 7 + i) % 20).toNat) (by omega)
  obtain ⟨d1, d2, d3, d4, d5⟩ := he i i0 i1
  unfold AXe
  rw [e2 2 (by decide), e2 3 (by decide), e2 4 (by decide), e2 5 (by decide)]
  have ro := q14 _ hk.2
  refine ⟨ro.1.1.trans d1, ro.1.2.1.trans d2, ro.1.2.2.trans d3, (q63 _).trans d4, fun p p0 p1 => ?_⟩
  rw [e2 6 (by decide)]
  exact (ro.2 p).trans (d5 p p0 p1)
theorem AX.sd {v : Int} (h : AX A P) (e0 : P1 0 14 = v) (hf : FrX ([(0, 14)], []) P P1) : AX (up A 0 5 v) P1 := by
  have hb := h.b
  exact AX.sc h (Or.inr (Or.inl rfl)) (by rw [up_k (by decide)]; exact (hf.g (k := 16) ⟨by decide, rfl⟩ rfl).trans hb.2.2.2.1) (by rw [up_same]; exact e0) (by rw [up_k (by decide)]; exact (hf.g (k := 22) ⟨by decide, rfl⟩ rfl).trans hb.2.2.2.2.2.2) (fun o ho => ⟨⟨hf.g ho rfl, hf.g ho rfl, hf.g ho rfl⟩, fun j => hf.g (ck_14_0 ho) rfl⟩) (hf.g (k := 16) ⟨by decide, rfl⟩ rfl) (hf.g (k := 16) ⟨by decide, rfl⟩ rfl) (fun j => hf.g (k := 21) ⟨by decide, rfl⟩ rfl)
end AXS
end
section
/-! The rows of a match: the product of its columns' values. -/
def pG (K M : PH) : Nat → Int
  | 0 => 1
  | n + 1 => pG K M n * sz K (M 1 (n : Int))
theorem pG_cg {K K1 M M1 : PH} : ∀ n : Nat, (∀ c : Int, 0 ≤ c → c < (n : Int) → sz K1 (M1 1 c) = sz K (M 1 c)) → pG K1 M1 n = pG K M n := by
  intro n
  induction n with
  | zero => intro _; rfl
  | succ n ih =>
    intro h
    show pG K1 M1 n * sz K1 (M1 1 (n : Int)) = pG K M n * sz K (M 1 (n : Int))
    rw [ih (fun c c0 c1 => h c c0 (by omega)), h (n : Int) (by omega) (by omega)]
def AR (K M : PH) : Prop := M 0 0 = 0 ∨ M 0 1 = pG K M (M 0 0).toNat
theorem AR.zero : AR K0 M0 := Or.inl (by decide)
theorem col_r {T : TT} {K : PH} : ∀ (r : Nat) (M : PH) (i p : Int), M 0 0 + r = 4 → 0 ≤ M 0 0 → i = pG K M (M 0 0).toNat → AR K M → AR K (col T K r M i p).2.2 := by
  intro r
  induction r with
  | zero =>
    intro M i p hr h0 hi hv
    exact hv
  | succ r ih =>
    intro M i p hr h0 hi hv
    by_cases e : kGo T K (-1) (M 0 0) 4 0 i 20000 p = 0
    · rw [col_go e]
      have hp : pG K (mCol M (kHe T K p) (i * sz K (kHe T K p))) (M 0 0 + 1).toNat = i * sz K (kHe T K p) := by
        rw [show (M 0 0 + 1).toNat = (M 0 0).toNat + 1 by omega]
        show pG K (mCol M (kHe T K p) (i * sz K (kHe T K p))) (M 0 0).toNat * sz K (mCol M (kHe T K p) (i * sz K (kHe T K p)) 1 (((M 0 0).toNat : Nat) : Int)) = _
        rw [pG_cg (K := K) (K1 := K) (M := M) (M1 := mCol M (kHe T K p) (i * sz K (kHe T K p))) (M 0 0).toNat (fun c c0 c1 => by rw [mCol_1, if_neg (by omega)])]
        rw [mCol_1, if_pos (by omega), ← hi]
      refine ih _ _ _ (by rw [mCol_0.1]; omega) (by rw [mCol_0.1]; omega) (by rw [mCol_0.1]; exact hp.symm) (Or.inr (by rw [mCol_0.1, mCol_0.2.1]; exact hp.symm))
    · by_cases e1 : kGo T K (-1) (M 0 0) 4 0 i 20000 p = 1
      · rw [col_end e1]; exact hv
      · rw [col_bad e1 e]; exact hv
theorem aNew_01 {M : PH} {g : Int} : aNew M g 0 1 = M 0 1 := by simp [aNew, up]
theorem AR.st {T : TT} {K M : PH} {p : Int} (hv : AV K M) (h : AR K M) (hs : (sSt T K M p).1 = 0) : AR (kSt T K p) (mSt T K M p) := by
  have v1 := hv.1
  unfold sSt at hs
  unfold mSt kSt
  by_cases h0 : tO T p = 0
  · rw [if_pos h0] at hs
    have q := sKi_s T K M p
    rw [if_pos h0, if_neg (by omega), if_neg (by omega), if_neg (by omega), if_neg (by omega)]
    exact Or.inl (by omega)
  · rw [if_neg h0] at hs ⊢
    by_cases h1 : tO T p = 1
    · rw [if_pos h1] at hs
      have q := sCo_s T K M p
      rw [if_pos h1, if_neg (by omega), if_neg (by omega), if_neg (by omega), if_neg (by omega)]
      exact Or.inl (by omega)
    · rw [if_neg h1] at hs ⊢
      by_cases h2 : tO T p = 2
      · rw [if_pos h2] at hs ⊢
        have hs : (sMa T K M p).1 = 0 := hs
        have q := sMa_s T K M p
        have e := sMa_M (T := T) (K := K) (M := M) (p := p) (by omega) (by omega)
        rw [e]
        have hz : M 0 0 = 0 := by omega
        exact col_r 4 M 1 (tE T p) (by omega) (by omega) (by rw [hz]; rfl) h
      · rw [if_neg h2] at hs ⊢
        by_cases h3 : tO T p = 3
        · rw [if_pos h3]
          unfold mAr AR
          rw [aNew_0.1, aNew_01]
          rcases h with z | z
          · exact Or.inl z
          · exact Or.inr (z.trans (pG_cg _ (fun c _ _ => by rw [aNew_1])).symm)
        · rw [if_neg h3]
          by_cases h5 : tO T p = 5
          · rw [if_pos h5]
            unfold AR
            rw [up_k (by decide), up_k (by decide)]
            rcases h with z | z
            · exact Or.inl z
            · exact Or.inr (z.trans (pG_cg _ (fun c _ _ => by rw [up_row (by decide)])).symm)
          · rw [if_neg h5]
            by_cases h6 : tO T p = 6
            · rw [if_pos h6]
              unfold AR
              rw [up_k (by decide), up_k (by decide)]
              rcases h with z | z
              · exact Or.inl z
              · exact Or.inr (z.trans (pG_cg _ (fun c _ _ => by rw [up_row (by decide)])).symm)
            · rw [if_neg h6]
              exact h
theorem mlo_r {T : TT} : ∀ (r : Nat) (n : Int) (K M : PH) (p : Int), AW K → AV K M → AR K M → (mlo T r n K M p).1 = 0 → AR (mlo T r n K M p).2.2.1 (mlo T r n K M p).2.2.2 := by
  intro r
  induction r with
  | zero =>
    intro n K M p hw hv ha h0
    by_cases e : tK T p = 0
    · rw [mlo_end e]; exact ha
    · rw [mlo_much e] at h0
      exact absurd h0 (show (6 : Int) ≠ 0 by decide)
  | succ r ih =>
    intro n K M p hw hv ha h0
    by_cases e : tK T p = 0
    · rw [mlo_end e]; exact ha
    · by_cases h1 : (sSt T K M p).1 = 0
      · by_cases h2 : (sgn T 59 (sSt T K M p).2).1 = 0
        · rw [mlo_go e h1 h2] at h0 ⊢
          exact ih _ _ _ _ (hw.st h1) (hv.st hw h1) (ha.st hv h1) h0
        · rw [mlo_eF e h1 h2] at h0
          exact absurd h0 h2
      · rw [mlo_sF e h1] at h0
        exact absurd h0 h1
theorem mlR_r {T : TT} (h : (mlR T).1 = 0) : AR (mlR T).2.2.1 (mlR T).2.2.2 := mlo_r 60 0 K0 M0 0 AW.zero AV.zero AR.zero h
/-- the reference's product is this one -/
theorem prd_G {K M P : PH} {b : Int} (hk : MKb b K P) (hm : MMb b M P) (hv : AV K M) : ∀ n : Nat, (n : Int) ≤ M 0 0 → prdU P b n = pG K M n := by
  intro n
  induction n with
  | zero => intro _; rfl
  | succ n ih =>
    intro h
    show prdU P b n * vals P b (P 12 (4 * b + (n : Int))) = pG K M n * sz K (M 1 (n : Int))
    rw [ih (by omega)]
    congr 1
    have hc := hm.2.2.2.2.1 (n : Int) (by omega) (by omega)
    have hb := hv.2.2.2.2 (n : Int) (by omega) (by omega)
    unfold vals sz
    rcases hc with ⟨c1, c2⟩ | ⟨c1, c2, c3⟩
    · rw [if_pos c1, if_pos c2]
    · rw [if_neg (by omega), if_neg (by omega), ← c3]
      exact (hk.2.2.1 _ (by omega) (by omega)).2.1
/-- the reference's rows -/
def MR (M P : PH) : Prop := M 0 0 = 0 ∨ P 0 52 = M 0 1
theorem MR.fr {M P P1 : PH} {F : FS} (h : MR M P) (hf : FrM F P P1) (hd : disF F ([52], []) = true) : MR M P1 := by
  unfold MR at h ⊢
  rw [disF_k hd hf (k := 52) (by decide)]
  exact h
end
section
/-! Draws; rows that are run; a row seen; an image read. -/
def drw (s : Int) : Int := (1103515245 * s + 12345) % 2147483648
theorem drw_b (s : Int) : 0 ≤ drw s ∧ drw s ≤ 2147483647 := by unfold drw; omega
theorem iand_31 {x z : Int} (h : Int32.ofInt x = Int32.ofInt z) : iand x 2147483647 = z % 2147483648 := by
  unfold iand
  rw [h, i32_bv, Int32.toBitVec_and]
  have e1 : (Int32.ofInt z).toBitVec = BitVec.ofInt 32 z := rfl
  have e2 : (Int32.ofInt 2147483647).toBitVec.toNat = 2 ^ 31 - 1 := by decide
  have e3 : ((Int32.ofInt z).toBitVec &&& (Int32.ofInt 2147483647).toBitVec).toNat = (z % 4294967296).toNat % 2147483648 := by
    rw [BitVec.toNat_and, e2, Nat.and_two_pow_sub_one_eq_mod, e1, BitVec.toNat_ofInt]
    rfl
  have hl : (z % 4294967296).toNat % 2147483648 < 2147483648 := Nat.mod_lt _ (by decide)
  rw [bv_small (n := 2147483648) (by rw [e3]; exact hl) (by decide), e3]
  omega
theorem drw_i {s r x : Int} (h1 : Int32.ofInt (1103515245 * s) = Int32.ofInt r) (h2 : Int32.ofInt (r + 12345) = Int32.ofInt x) : iand x 2147483647 = drw s := by
  have e : Int32.ofInt x = Int32.ofInt (1103515245 * s + 12345) := by rw [← h2, Int32.ofInt_add, ← h1, ← Int32.ofInt_add]
  exact iand_31 e
/-- one row is run -/
def aDr (A : PH) : PH := up (up A 0 5 (drw (A 0 5))) 0 3 (A 0 3 + 1)
def aDrs : Nat → PH → PH
  | 0, A => A
  | n + 1, A => aDr (aDrs n A)
theorem aDr_o (A : PH) {o : Nat} (ho : o ≠ 0) (j : Int) : aDr A o j = A o j := by unfold aDr; rw [up_o ho, up_o ho]
theorem aDr_0 (A : PH) {j : Int} (h3 : j ≠ 3) (h5 : j ≠ 5) : aDr A 0 j = A 0 j := by unfold aDr; rw [up_k h3, up_k h5]
theorem aDr_3 (A : PH) : aDr A 0 3 = A 0 3 + 1 := by unfold aDr; rw [up_same]
theorem aDrs_o (A : PH) {o : Nat} (ho : o ≠ 0) (j : Int) : ∀ n : Nat, aDrs n A o j = A o j := by
  intro n
  induction n with
  | zero => rfl
  | succ n ih => show aDr (aDrs n A) o j = _; rw [aDr_o _ ho, ih]
theorem aDrs_0 (A : PH) {j : Int} (h3 : j ≠ 3) (h5 : j ≠ 5) : ∀ n : Nat, aDrs n A 0 j = A 0 j := by
  intro n
  induction n with
  | zero => rfl
  | succ n ih => show aDr (aDrs n A) 0 j = _; rw [aDr_0 _ h3 h5, ih]
theorem aDrs_3 (A : PH) : ∀ n : Nat, aDrs n A 0 3 = A 0 3 + (n : Int) := by
  intro n
  induction n with
  | zero => show A 0 3 = _; omega
  | succ n ih => show aDr (aDrs n A) 0 3 = _; rw [aDr_3, ih]; omega
noncomputable def aRun (A M : PH) (r : Int) : PH := if 0 < M 0 0 ∧ 0 ≤ r ∧ r < M 0 1 then up (aPush A) 0 3 (A 0 3 + 1) else A
noncomputable def aCha (A M : PH) (n : Int) : PH := if 0 < M 0 0 ∧ 1 ≤ n ∧ n ≤ 40 then aDrs n.toNat (aPush A) else A
theorem aRun_y {A M : PH} {r : Int} (h : 0 < M 0 0 ∧ 0 ≤ r ∧ r < M 0 1) : aRun A M r = up (aPush A) 0 3 (A 0 3 + 1) := by unfold aRun; rw [if_pos h]
theorem aRun_n {A M : PH} {r : Int} (h : ¬ (0 < M 0 0 ∧ 0 ≤ r ∧ r < M 0 1)) : aRun A M r = A := by unfold aRun; rw [if_neg h]
theorem aCha_y {A M : PH} {n : Int} (h : 0 < M 0 0 ∧ 1 ≤ n ∧ n ≤ 40) : aCha A M n = aDrs n.toNat (aPush A) := by unfold aCha; rw [if_pos h]
theorem aCha_n {A M : PH} {n : Int} (h : ¬ (0 < M 0 0 ∧ 1 ≤ n ∧ n ≤ 40)) : aCha A M n = A := by unfold aCha; rw [if_neg h]
theorem WA.k3 {k z : Int} {A : PH} (h : WA k A) (hz : A 0 3 ≤ z) (hk : z ≤ 40 * (k + 1)) : WA (k + 1) (up A 0 3 z) := by
  obtain ⟨h1, h2, h3, h4⟩ := h
  have e2 : ∀ o : Nat, o ≠ 0 → ∀ q : Int, up A 0 3 z o q = A o q := fun o ho q => up_o ho
  exact ⟨by rw [up_k (by decide)]; exact h1, by rw [up_k (by decide)]; exact h2, by rw [up_same]; omega, fun i i0 i1 => by rw [up_k (by decide)] at i1; rw [e2 5 (by decide), e2 2 (by decide)]; have q := h4 i i0 i1; omega⟩
theorem WA.run {k r : Int} {A M : PH} (h : WA k A) (hk : 0 ≤ k) : WA (k + 1) (aRun A M r) := by
  unfold aRun; split
  · have e := aPush_0 A 3 (by decide); have q := h.2.2.1; exact WA.k3 h.push (by omega) (by omega)
  · exact h.mono (by omega)
theorem WA.cha {k n : Int} {A M : PH} (h : WA k A) (hk : 0 ≤ k) : WA (k + 1) (aCha A M n) := by
  unfold aCha
  by_cases hc : 0 < M 0 0 ∧ 1 ≤ n ∧ n ≤ 40
  · rw [if_pos hc]
    obtain ⟨h1, h2, h3, h4⟩ := h.push
    have q3 := aDrs_3 (aPush A) n.toNat
    exact ⟨by rw [aDrs_0 _ (by decide) (by decide)]; exact h1, by rw [aDrs_0 _ (by decide) (by decide)]; exact h2, by omega, fun i i0 i1 => by rw [aDrs_0 _ (by decide) (by decide)] at i1; rw [aDrs_o _ (by decide), aDrs_o _ (by decide)]; have q := h4 i i0 i1; omega⟩
  · rw [if_neg hc]
    exact h.mono (by omega)
theorem m40_1 (x : Int) : (40 ≤ x ∧ m40 (x + 1) = 40) ∨ (x ≤ 39 ∧ m40 (x + 1) = x + 1) := by
  rcases m40_s (x + 1) with q | q <;> omega
theorem of_inj {z x : Int} (h : Int32.ofInt z = Int32.ofInt x) (hz : IR z) (hx : IR x) : x = z := by
  have q := congrArg Int32.toInt h
  rw [oI hz, oI hx] at q
  exact q.symm
theorem AX.k3 {A P P1 : PH} {F : FSX} (h : AX A P) (e5 : P1 18 5 = P 18 5 + 1) (hf : FrX F P P1) (hd : disX F ([(0, 14), (14, 1), (14, 2), (14, 3), (16, 6), (16, 7), (22, 2)], [15, 21]) = true) : AX (up A 0 3 (A 0 3 + 1)) P1 := by
  have hb := h.b
  have k18 : kx 18 16 := ⟨by decide, rfl⟩
  refine AX.sc h (Or.inl rfl) (by rw [up_same, e5, hb.2.2.2.1]) (by rw [up_k (by decide), disX_f hd hf (o := 0) (k := 0) (j := 14) ⟨by decide, rfl⟩ (by decide)]; exact hb.2.2.2.2.2.1) (by rw [up_k (by decide), disX_f hd hf (o := 64) (k := 22) (j := 2) ⟨by decide, rfl⟩ (by decide)]; exact hb.2.2.2.2.2.2)
    (fun o ho => ⟨⟨disX_f hd hf (j := 1) ho (by decide), disX_f hd hf (j := 2) ho (by decide), disX_f hd hf (j := 3) ho (by decide)⟩, fun j => disX_a hd hf (ck_14_0 ho) (by decide) j⟩) (disX_f hd hf (j := 6) k18 (by decide)) (disX_f hd hf (j := 7) k18 (by decide)) (fun j => disX_a hd hf (o := 63) (k := 21) ⟨by decide, rfl⟩ (by decide) j)
theorem AX.beg {A P P1 : PH} {c r : Int} (h : AX A P) (c1 : P1 14 1 = c) (c2 : P1 14 2 = 255) (c3 : P1 14 3 = r) (ca : ∀ q : Int, 0 ≤ q → q < c → P1 15 q = q) (e5 : P1 18 5 = 0) (e7 : P1 18 7 = 0) (e64 : P1 64 2 = 0) (e0 : P1 0 14 = P 0 14) : AX (aBeg A c r) P1 :=
  ⟨⟨c1, c2, c3, e5, e7, e0.trans h.b.2.2.2.2.2.1, e64⟩, ca, fun k k0 k1 => absurd k1 (by show ¬ k < 0; omega)⟩
theorem AM.beg {A P P1 : PH} {c r : Int} (h : AM A P) (c1 : P1 35 0 = c) (c2 : P1 37 0 = 255) (c3 : P1 38 0 = r) (ca : ∀ q : Int, 0 ≤ q → q < c → P1 36 q = q) (e5 : P1 39 0 = 0) (e7 : P1 0 60 = 0) (e64 : P1 0 92 = 0) (e0 : P1 0 61 = P 0 61) : AM (aBeg A c r) P1 :=
  ⟨⟨c1, c2, c3, e5, e7, e0.trans h.b.2.2.2.2.2.1, e64⟩, ca, fun k k0 k1 => absurd k1 (by show ¬ k < 0; omega)⟩
noncomputable def aMat (T : TT) (A : PH) : PH := if (mlR T).1 = 0 then aBeg A ((mlR T).2.2.2 0 2) ((mlR T).2.2.2 0 3) else A
theorem aMat_0 {T : TT} {A : PH} (h : (mlR T).1 = 0) : aMat T A = aBeg A ((mlR T).2.2.2 0 2) ((mlR T).2.2.2 0 3) := by unfold aMat; rw [if_pos h]
theorem aMat_1 {T : TT} {A : PH} (h : (mlR T).1 ≠ 0) : aMat T A = A := by unfold aMat; rw [if_neg h]
theorem WA.mat {k : Int} {T : TT} {A : PH} (h : WA k A) (hk : 0 ≤ k) : WA k (aMat T A) := by
  by_cases e : (mlR T).1 = 0
  · rw [aMat_0 e]
    have q := (mlR_w e).2.1
    exact WA.beg ⟨q.2.2.1, q.2.2.2.1⟩ hk
  · rw [aMat_1 e]; exact h
noncomputable def hasV (K M A : PH) (w : Int) : Int := if w = 0 then K 0 0 else if w = 1 then K 0 1 else if w = 2 then M 0 0 else if w = 3 then M 0 1 else if w = 4 then A 0 0 else if w = 5 then A 0 1 else if w = 6 then A 0 2 else if w = 7 then m40 (A 0 3) else if w = 8 then A 0 6 else if w = 9 then A 0 4 else if w = 10 then A 0 5 else -1
/-- what is tried lies in a row of its own -/
theorem AM.un {A P P1 : PH} (h : AM A P) (q35 : ∀ j : Int, j ≠ 1 → P1 35 j = P 35 j) (q37 : ∀ j : Int, j ≠ 1 → P1 37 j = P 37 j) (q38 : ∀ j : Int, j ≠ 1 → P1 38 j = P 38 j) (q39 : ∀ j : Int, j ≠ 1 → P1 39 j = P 39 j) (q36 : ∀ j : Int, j < 12 ∨ 24 ≤ j → P1 36 j = P 36 j)
    (k59 : P1 0 59 = P 0 59) (k60 : P1 0 60 = P 0 60) (k61 : P1 0 61 = P 0 61) (k92 : P1 0 92 = P 0 92) (hc : A 0 0 ≤ 12) (hu : 0 ≤ P 0 59) : AM A P1 := by
  obtain ⟨⟨b1, b2, b3, b4, b5, b6, b7⟩, ha, he⟩ := h
  refine ⟨⟨(q35 0 (by decide)).trans b1, (q37 0 (by decide)).trans b2, (q38 0 (by decide)).trans b3, (q39 0 (by decide)).trans b4, k60.trans b5, k61.trans b6, k92.trans b7⟩, fun p p0 p1 => (q36 p (by omega)).trans (ha p p0 p1), fun i i0 i1 => ?_⟩
  obtain ⟨g1, g2, g3, g4, g5⟩ := he i i0 i1
  unfold AMe
  rw [k59]
  exact ⟨(q35 _ (by omega)).trans g1, (q37 _ (by omega)).trans g2, (q38 _ (by omega)).trans g3, (q39 _ (by omega)).trans g4, fun p p0 p1 => (q36 _ (by omega)).trans (g5 p p0 p1)⟩
theorem AM.un1 {A P P1 : PH} (h : AM A P) (hB : BdM P) (hc : CY 1 0 P P1) (hf : FrM ([], [35, 36, 37, 38, 39, 40]) P P1) : AM A P1 := by
  obtain ⟨_, _, co, cq⟩ := hc
  have q := bl_35 (k := 0) hB
  have hb := h.b
  exact h.un (fun j hj => (co j hj).1) (fun j hj => (co j hj).2.1) (fun j hj => (co j hj).2.2.1) (fun j hj => (co j hj).2.2.2) (fun j hj => cq j (by omega)) (hf.1 59 rfl) (hf.1 60 rfl) (hf.1 61 rfl) (hf.1 92 rfl) (by omega) (b0_59 hB).1
theorem AM.un2 {A P P1 : PH} {a b : Int} (h : AM A P) (hB : BdM P) (xo : ∀ j : Int, j ≠ (12 * 1) + a → j ≠ (12 * 1) + b → P1 36 j = P 36 j) (ha : 0 ≤ a ∧ a ≤ 11) (hb2 : 0 ≤ b ∧ b ≤ 11) (hf : FrM ([], [36]) P P1) : AM A P1 := by
  have q := bl_35 (k := 0) hB
  have hb := h.b
  exact h.un (fun j _ => congrFun (hf.2 35 rfl rfl) j) (fun j _ => congrFun (hf.2 37 rfl rfl) j) (fun j _ => congrFun (hf.2 38 rfl rfl) j) (fun j _ => congrFun (hf.2 39 rfl rfl) j) (fun j hj => xo j (by omega) (by omega)) (hf.1 59 rfl) (hf.1 60 rfl) (hf.1 61 rfl) (hf.1 92 rfl) (by omega) (b0_59 hB).1
end
