/-! Longs: a byte more. The reference's token ahead, made. -/
theorem l64_bv (x : Int64) : x.toInt = x.toBitVec.toInt := rfl
theorem llshl8 {x : Int} (h : LR (x * 256)) : llshl x 8 = x * 256 := by
  have e : Int64.ofInt x <<< ((Int32.ofInt (8 : Int)).toInt64 &&& 63) = Int64.ofInt (x * 256) := by
    apply Int64.toBitVec.inj
    rw [Int64.toBitVec_shiftLeft, BitVec.shiftLeft_eq', show ((((Int32.ofInt (8 : Int)).toInt64 &&& 63).toBitVec.smod 64)).toNat = 8 from l64_smod (c := 8) (by decide)]
    have h1 : (Int64.ofInt x).toBitVec = BitVec.ofInt 64 x := rfl
    have h2 : (Int64.ofInt (x * 256)).toBitVec = BitVec.ofInt 64 (x * 256) := rfl
    rw [h1, h2, BitVec.shiftLeft_eq_mul_twoPow, BitVec.ofInt_mul]
    rfl
  unfold llshl
  rw [e, oL h]
theorem bv64_of {z : Int} (h : 0 ≤ z ∧ z ≤ 9223372036854775807) : (Int64.ofInt z).toBitVec.toNat = z.toNat := by
  have h1 : (Int64.ofInt z).toBitVec = BitVec.ofInt 64 z := rfl
  rw [h1, BitVec.toNat_ofInt]
  omega
theorem llor8 {x c : Int} (hx : 0 ≤ x ∧ x ≤ 36028797018963967) (hc : 0 ≤ c ∧ c < 256) : llor (x * 256) c = x * 256 + c := by
  have e4 : ((x.toNat : Nat) : Int) = x := Int.toNat_of_nonneg hx.1
  have e3 : ((c.toNat : Nat) : Int) = c := Int.toNat_of_nonneg hc.1
  unfold llor
  rw [l64_bv, Int64.toBitVec_or]
  have e1 := bv64_of (z := x * 256) ⟨by omega, by omega⟩
  have e2 := bv64_of (z := c) ⟨hc.1, by omega⟩
  have hv : ((Int64.ofInt (x * 256)).toBitVec ||| (Int64.ofInt c).toBitVec).toNat = x.toNat * 2 ^ 8 + c.toNat := by
    rw [BitVec.toNat_or, e1, e2, show (x * 256).toNat = x.toNat * 2 ^ 8 by omega, ← Nat.shiftLeft_eq, Nat.shiftLeft_add_eq_or_of_lt (by omega)]
  rw [BitVec.toInt_eq_toNat_cond, hv, if_pos (by omega)]
  omega
def p256 : Nat → Int
  | 0 => 1
  | k + 1 => p256 k * 256
theorem e56_lt {g : Nat → Int} : ∀ (k : Nat), (∀ i, i < k → 1 ≤ g i ∧ g i ≤ 26) → e56 g k < p256 k := by
  intro k
  induction k with
  | zero => intro _; show (0 : Int) < 1; omega
  | succ k ih =>
    intro h
    have h1 := ih (fun i hi => h i (by omega))
    have h2 := h k (by omega)
    show e56 g k * 256 + (96 + g k) < p256 k * 256
    omega
theorem e56_r {g : Nat → Int} {k : Nat} (hk : k ≤ 6) (h : ∀ i, i < k → 1 ≤ g i ∧ g i ≤ 26) : 0 ≤ e56 g k ∧ e56 g k < 281474976710656 := by
  have h0 := e56_b k h
  have h1 := e56_lt k h
  have h2 : ∀ k : Nat, k < 7 → p256 k ≤ 281474976710656 := by decide
  have := h2 k (by omega)
  omega
/-- a letter more -/
theorem e56_one {T : TT} {a w c : Int} {n : Nat} (h : w = e56 (tL T a) n) (hn : n ≤ 5) (hl : ∀ i, i < n → 1 ≤ tL T a i ∧ tL T a i ≤ 26) (hc : c = T.1 (a + n)) (hr : 97 ≤ c ∧ c ≤ 122) : llor (llshl w 8) c = e56 (tL T a) (n + 1) := by
  have hb := e56_r (by omega) hl
  rw [← h] at hb
  rw [llshl8 ⟨by omega, by omega⟩, llor8 ⟨by omega, by omega⟩ ⟨by omega, by omega⟩]
  show w * 256 + c = e56 (tL T a) n * 256 + (96 + (T.1 (a + n) - 96))
  rw [← h, ← hc]
  omega
theorem e10_b {T : TT} {a : Int} : ∀ (n : Nat), n ≤ 4 → (∀ i : Nat, i < n → 48 ≤ T.1 (a + i) ∧ T.1 (a + i) ≤ 57) → 0 ≤ e10 (tD T a) n ∧ e10 (tD T a) n ≤ 9999 ∧ (n ≤ 3 → e10 (tD T a) n ≤ 999) ∧ (n ≤ 2 → e10 (tD T a) n ≤ 99) ∧ (n ≤ 1 → e10 (tD T a) n ≤ 9) ∧ (n = 0 → e10 (tD T a) n = 0) := by
  intro n
  induction n with
  | zero => intro _ _; exact ⟨Int.le_refl _, by show (0 : Int) ≤ 9999; omega, fun _ => by show (0 : Int) ≤ 999; omega, fun _ => by show (0 : Int) ≤ 99; omega, fun _ => by show (0 : Int) ≤ 9; omega, fun _ => rfl⟩
  | succ n ih =>
    intro hn h
    have h1 := ih (by omega) (fun i hi => h i (by omega))
    have h2 := h n (by omega)
    have e : e10 (tD T a) (n + 1) = e10 (tD T a) n * 10 + (T.1 (a + n) - 48) := rfl
    rw [e]
    omega
theorem tE_0 {T : TT} {p : Int} (h : tK T p = 0) : tE T p = tA T p := by
  unfold tE
  rw [if_neg (by omega), if_neg (by omega), if_neg (by omega)]
/-- the kind of a token, by what stands there -/
theorem tK_0 {T : TT} {p : Int} (h : T.2 ≤ tA T p) : tK T p = 0 := by unfold tK; rw [if_pos h]
theorem tK_3 {T : TT} {p : Int} (h : tA T p < T.2) (hl : bL (T.1 (tA T p)) = false) (hn : bN (T.1 (tA T p)) = false) : tK T p = 3 := by
  unfold tK
  rw [if_neg (by omega), if_pos ⟨hl, hn⟩]
theorem tK_j {T : TT} {p : Int} (h : tA T p < T.2) (hl : bL (T.1 (tA T p)) = true ∨ bN (T.1 (tA T p)) = true) (hj : tJ T p = true) : tK T p = 4 := by
  unfold tK
  rw [if_neg (by omega), if_neg (fun q => by rcases hl with z | z <;> (rw [z] at q; simp at q)), if_pos hj]
theorem tK_w {T : TT} {p : Int} (h : tA T p < T.2) (hl : bL (T.1 (tA T p)) = true) (hj : tJ T p = false) : tK T p = if rE bL T (tA T p) - tA T p ≤ 6 then 1 else 4 := by
  unfold tK
  rw [if_neg (by omega), if_neg (fun q => by rw [hl] at q; simp at q), if_neg (by rw [hj]; simp), if_pos hl]
theorem tK_n {T : TT} {p : Int} (h : tA T p < T.2) (hl : bL (T.1 (tA T p)) = false) (hn : bN (T.1 (tA T p)) = true) (hj : tJ T p = false) : tK T p = if rE bN T (tA T p) - tA T p ≤ 4 then 2 else 4 := by
  unfold tK
  rw [if_neg (by omega), if_neg (fun q => by rw [hn] at q; simp at q), if_neg (by rw [hj]; simp), if_neg (by rw [hl]; simp)]
theorem bL_f {c : Int} (h : c < 97 ∨ 122 < c) : bL c = false := by
  cases e : bL c with
  | false => rfl
  | true => have := bL_t.mp e; omega
theorem bN_f {c : Int} (h : c < 48 ∨ 57 < c) : bN c = false := by
  cases e : bN c with
  | false => rfl
  | true => have := bN_t.mp e; omega
/-- a letter or a digit just ahead of the token: as the reference looks -/
theorem tJ_t {T : TT} {p : Int} (h0 : 0 ≤ p) (h : 0 < tA T p ∧ ((97 ≤ T.1 (tA T p - 1) ∧ T.1 (tA T p - 1) ≤ 122) ∨ (48 ≤ T.1 (tA T p - 1) ∧ T.1 (tA T p - 1) ≤ 57))) : tJ T p = true := by
  have e : tA T p = p := by
    have hg := tA_ge T p
    rcases (show tA T p = p ∨ p < tA T p by omega) with q | q
    · exact q
    · exfalso
      have hi := rE_in (f := bW) (T := T) (p := p) (i := tA T p - 1) (by omega) (by show _ < tA T p; omega)
      have := bW_t.mp hi.2
      omega
  unfold tJ
  rw [Bool.and_eq_true, Bool.or_eq_true, decide_eq_true_iff]
  rw [e] at h
  refine ⟨⟨e, by omega⟩, ?_⟩
  rcases h.2 with q | q
  · exact Or.inl (bL_t.mpr q)
  · exact Or.inr (bN_t.mpr q)
theorem tJ_f {T : TT} {p : Int} (h : tA T p ≤ 0 ∨ ((T.1 (tA T p - 1) < 97 ∨ 122 < T.1 (tA T p - 1)) ∧ (T.1 (tA T p - 1) < 48 ∨ 57 < T.1 (tA T p - 1)))) : tJ T p = false := by
  cases e : tJ T p with
  | false => rfl
  | true =>
    exfalso
    unfold tJ at e
    rw [Bool.and_eq_true, Bool.or_eq_true, decide_eq_true_iff] at e
    obtain ⟨⟨e1, e2⟩, e3⟩ := e
    rw [e1] at h
    rcases h with h | h
    · omega
    · rcases e3 with q | q
      · have := bL_t.mp q; omega
      · have := bN_t.mp q; omega
/-- as a number -/
def tJn (T : TT) (p : Int) : Int := if tJ T p = true then 1 else 0
theorem tJn_1 {T : TT} {p : Int} (h : tJ T p = true) : tJn T p = 1 := by unfold tJn; rw [if_pos h]
theorem tJn_0 {T : TT} {p : Int} (h : tJ T p = false) : tJn T p = 0 := by unfold tJn; rw [if_neg (by rw [h]; simp)]
theorem tJn_t {T : TT} {p : Int} (h : tJn T p = 1) : tJ T p = true := by
  cases e : tJ T p with
  | true => rfl
  | false => rw [tJn_0 e] at h; omega
theorem tJn_f {T : TT} {p : Int} (h : tJn T p = 0) : tJ T p = false := by
  cases e : tJ T p with
  | false => rfl
  | true => rw [tJn_1 e] at h; omega
theorem MS.end {T : TT} {p : Int} {P : PH} (hp : 0 ≤ p ∧ p ≤ T.2) (h4 : P 0 4 = tA T p) (hn : T.2 ≤ tA T p) (h3 : P 0 3 = 0) (h12 : P 0 12 = -1) (h5 : P 0 5 = tA T p) : MS T p P := by
  have hk := tK_0 hn
  refine ⟨h4, hp.1, hp.2, fun q => by omega, fun _ => ⟨h12, by omega, by rw [tE_0 hk]; exact h5⟩, fun q => by omega, fun q => by omega⟩
theorem MS.sig {T : TT} {p : Int} {P : PH} (hp : 0 ≤ p ∧ p ≤ T.2) (h4 : P 0 4 = tA T p) (hn : tA T p < T.2) (hl : T.1 (tA T p) < 97 ∨ 122 < T.1 (tA T p)) (hd : T.1 (tA T p) < 48 ∨ 57 < T.1 (tA T p)) (h3 : P 0 3 = 3) (h12 : P 0 12 = -1) (h5 : P 0 5 = tA T p + 1) (h6 : P 0 6 = T.1 (tA T p)) : MS T p P := by
  have hk := tK_3 hn (bL_f hl) (bN_f hd)
  have h9 := tK3 hk
  refine ⟨h4, hp.1, hp.2, fun q => by omega, fun _ => ⟨h12, by omega, by omega⟩, fun _ => by rw [h9.2.2.2]; exact h6, fun q => by omega⟩
theorem MS.wor {T : TT} {p : Int} {P : PH} (hp : 0 ≤ p ∧ p ≤ T.2) (h4 : P 0 4 = tA T p) (hn : tA T p < T.2) (hl : 97 ≤ T.1 (tA T p) ∧ T.1 (tA T p) ≤ 122) (h3 : P 0 3 = 1) (h5 : P 0 5 = rE bL T (tA T p))
    (hx : (tJn T p = 1 ∧ P 0 12 = tA T p) ∨ (tJn T p = 0 ∧ ((rE bL T (tA T p) - tA T p ≤ 6 ∧ P 0 12 = -1) ∨ (6 < rE bL T (tA T p) - tA T p ∧ P 0 12 = tA T p + 6)))) (hw : rE bL T (tA T p) - tA T p ≤ 6 → P 0 7 = e56 (tL T (tA T p)) (rE bL T (tA T p) - tA T p).toNat) : MS T p P := by
  have hl1 := bL_t.mpr hl
  have hg := tA_ge T p
  rcases hx with ⟨hj, h12⟩ | ⟨hj, hx⟩
  · have hj := tJn_t hj
    have hk := tK_j hn (Or.inl hl1) hj
    refine ⟨h4, hp.1, hp.2, fun _ => ⟨?_, by omega, by omega⟩, fun q => by omega, fun q => by omega, fun q => by omega⟩
    unfold tS
    rw [if_pos hj]
    exact h12
  · have hj := tJn_f hj
    have hk := tK_w hn hl1 hj
    rcases hx with ⟨hle, h12⟩ | ⟨hle, h12⟩
    · rw [if_pos hle] at hk
      refine ⟨h4, hp.1, hp.2, fun q => by omega, fun _ => ⟨h12, by omega, ?_⟩, fun q => by omega, fun _ => hw hle⟩
      unfold tE
      rw [if_neg (by omega), if_pos hk]
      exact h5
    · rw [if_neg (by omega)] at hk
      refine ⟨h4, hp.1, hp.2, fun _ => ⟨?_, by omega, by omega⟩, fun q => by omega, fun q => by omega, fun q => by omega⟩
      unfold tS
      rw [if_neg (by rw [hj]; simp), if_pos hl1]
      exact h12
theorem MS.nu {T : TT} {p : Int} {P : PH} (hp : 0 ≤ p ∧ p ≤ T.2) (h4 : P 0 4 = tA T p) (hn : tA T p < T.2) (hl : 48 ≤ T.1 (tA T p) ∧ T.1 (tA T p) ≤ 57) (h3 : P 0 3 = 2) (h5 : P 0 5 = rE bN T (tA T p))
    (hx : (tJn T p = 1 ∧ P 0 12 = tA T p) ∨ (tJn T p = 0 ∧ ((rE bN T (tA T p) - tA T p ≤ 4 ∧ P 0 12 = -1) ∨ (4 < rE bN T (tA T p) - tA T p ∧ P 0 12 = tA T p + 4)))) (hw : rE bN T (tA T p) - tA T p ≤ 4 → P 0 6 = e10 (tD T (tA T p)) (rE bN T (tA T p) - tA T p).toNat) : MS T p P := by
  have hl1 := bN_t.mpr hl
  have hl0 : bL (T.1 (tA T p)) = false := bL_f (by omega)
  have hg := tA_ge T p
  rcases hx with ⟨hj, h12⟩ | ⟨hj, hx⟩
  · have hj := tJn_t hj
    have hk := tK_j hn (Or.inr hl1) hj
    refine ⟨h4, hp.1, hp.2, fun _ => ⟨?_, by omega, by omega⟩, fun q => by omega, fun q => by omega, fun q => by omega⟩
    unfold tS
    rw [if_pos hj]
    exact h12
  · have hj := tJn_f hj
    have hk := tK_n hn hl0 hl1 hj
    rcases hx with ⟨hle, h12⟩ | ⟨hle, h12⟩
    · rw [if_pos hle] at hk
      refine ⟨h4, hp.1, hp.2, fun q => by omega, fun _ => ⟨h12, by omega, ?_⟩, fun _ => ?_, fun q => by omega⟩
      · unfold tE
        rw [if_neg (by omega), if_neg (by omega), if_pos hk]
        exact h5
      · unfold tV
        rw [if_neg (by omega), if_neg (by omega), if_pos hk]
        exact hw hle
    · rw [if_neg (by omega)] at hk
      refine ⟨h4, hp.1, hp.2, fun _ => ⟨?_, by omega, by omega⟩, fun q => by omega, fun q => by omega, fun q => by omega⟩
      unfold tS
      rw [if_neg (by rw [hj]; simp), if_neg (by rw [hl0]; simp)]
      exact h12
/-- what the run so far holds -/
theorem run_l {T : TT} {a b : Int} (h : rE bL T a = rE bL T b) (hb : a ≤ b) (hg : b ≤ rE bL T a) : ∀ i : Nat, a + i < b → 1 ≤ tL T a i ∧ tL T a i ≤ 26 := by
  intro i hi
  have := bL_t.mp (rE_in (f := bL) (T := T) (p := a) (i := a + i) (by omega) (by omega)).2
  unfold tL
  omega
theorem run_d {T : TT} {a b : Int} (hb : a ≤ b) (hg : b ≤ rE bN T a) : ∀ i : Nat, a + i < b → 48 ≤ T.1 (a + i) ∧ T.1 (a + i) ≤ 57 := by
  intro i hi
  exact bN_t.mp (rE_in (f := bN) (T := T) (p := a) (i := a + i) (by omega) (by omega)).2
theorem own_r {T : TT} {p r w : Int} (hg : (r = 1 ∧ oWS w) ∨ (r = 0 ∧ ¬ oWS w)) (hw : tK T p = 1 → w = tW T p) (h1 : tK T p = 1) : (r = 1 ∧ tO T p ≠ -1) ∨ (r = 0 ∧ tO T p = -1) := by
  have ha := own_any h1
  rw [hw h1] at hg
  rcases hg with ⟨e, q⟩ | ⟨e, q⟩
  · exact Or.inl ⟨e, ha.mp q⟩
  · by_cases z : tO T p = -1
    · exact Or.inr ⟨e, z⟩
    · exact absurd (ha.mpr z) q
