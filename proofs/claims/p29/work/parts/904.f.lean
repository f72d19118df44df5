/-! Sets as numbers: their bits. -/
def tb (x i : Int) : Bool := x.toNat.testBit i.toNat
theorem tb_div {x i : Int} (hx : 0 ≤ x) : tb x i = true ↔ x / ((2 ^ i.toNat : Nat) : Int) % 2 = 1 := by
  unfold tb
  rw [Nat.testBit_eq_decide_div_mod_eq, decide_eq_true_iff]
  have e : x / ((2 ^ i.toNat : Nat) : Int) % 2 = ((x.toNat / 2 ^ i.toNat % 2 : Nat) : Int) := by
    have h := Int.toNat_of_nonneg hx
    rw [← h, Int.toNat_natCast]
    rfl
  rw [e]
  generalize x.toNat / 2 ^ i.toNat % 2 = m
  omega
theorem bit_is {x i : Int} (hx : 0 ≤ x ∧ x ≤ 2147483647) (hi : 0 ≤ i ∧ i ≤ 31) : iand (ishr x i) 1 = if tb x i = true then 1 else 0 := by
  have hi2 : ((i.toNat : Nat) : Int) = i := by omega
  have hs := ishr_c i.toNat (by omega) (x := x) ⟨by omega, by omega⟩
  rw [hi2] at hs
  have hq : 0 ≤ x / ((2 ^ i.toNat : Nat) : Int) := Int.ediv_nonneg hx.1 (Int.natCast_nonneg _)
  have hq2 : x / ((2 ^ i.toNat : Nat) : Int) ≤ x := Int.ediv_le_self _ hx.1
  have hm : iand (x / ((2 ^ i.toNat : Nat) : Int)) 1 = x / ((2 ^ i.toNat : Nat) : Int) % 2 := iand_mask 1 (by decide) ⟨hq, by omega⟩
  rw [hs, hm]
  have q := tb_div (x := x) (i := i) hx.1
  by_cases h : tb x i = true
  · rw [if_pos h]; exact q.mp h
  · rw [if_neg h]
    have : x / ((2 ^ i.toNat : Nat) : Int) % 2 ≠ 1 := fun z => h (q.mpr z)
    omega
theorem tb_iand {x y i : Int} (hx : 0 ≤ x ∧ x ≤ 2147483647) (hy : 0 ≤ y ∧ y ≤ 2147483647) : tb (iand x y) i = (tb x i && tb y i) := by
  unfold tb
  rw [iand_nat hx hy, Int.toNat_natCast, Nat.testBit_and]
theorem ior_nat {x y : Int} (hx : 0 ≤ x ∧ x ≤ 2147483647) (hy : 0 ≤ y ∧ y ≤ 2147483647) : ior x y = ((x.toNat ||| y.toNat : Nat) : Int) := by
  unfold ior
  rw [i32_bv, Int32.toBitVec_or]
  have e1 := bv_of (z := x) hx
  have e2 := bv_of (z := y) hy
  have hv : ((Int32.ofInt x).toBitVec ||| (Int32.ofInt y).toBitVec).toNat = x.toNat ||| y.toNat := by
    rw [BitVec.toNat_or, e1, e2]
  have hle : x.toNat ||| y.toNat < 2 ^ 31 := Nat.or_lt_two_pow (by omega) (by omega)
  rw [bv_small (n := 2147483648) (by rw [hv]; exact hle) (by omega), hv]
theorem tb_ior {x y i : Int} (hx : 0 ≤ x ∧ x ≤ 2147483647) (hy : 0 ≤ y ∧ y ≤ 2147483647) : tb (ior x y) i = (tb x i || tb y i) := by
  unfold tb
  rw [ior_nat hx hy, Int.toNat_natCast, Nat.testBit_or]
theorem tb_0 (i : Int) : tb 0 i = false := by
  unfold tb
  exact Nat.zero_testBit _
theorem tb_one {a i : Int} (ha : 0 ≤ a ∧ a ≤ 30) (hi : 0 ≤ i) : tb (ishl 1 a) i = decide (a = i) := by
  have q := ishl1_all a.toNat (by omega)
  rw [show ((a.toNat : Nat) : Int) = a by omega] at q
  unfold tb
  rw [q, Int.toNat_natCast, Nat.testBit_two_pow]
  by_cases e : a = i
  · rw [e]; simp
  · have : ¬ a.toNat = i.toNat := by omega
    simp [e, this]
/-- all of the first n -/
theorem tb_all {n i : Int} (hn : 0 ≤ n ∧ n ≤ 30) (hi : 0 ≤ i) : tb (ishl 1 n - 1) i = decide (i < n) := by
  have q := ishl1_all n.toNat (by omega)
  rw [show ((n.toNat : Nat) : Int) = n by omega] at q
  unfold tb
  rw [q]
  have e : ((((2 ^ n.toNat : Nat) : Int)) - 1).toNat = 2 ^ n.toNat - 1 := by
    have : 1 ≤ 2 ^ n.toNat := Nat.one_le_two_pow
    omega
  rw [e, Nat.testBit_two_pow_sub_one]
  by_cases z : i < n
  · have : i.toNat < n.toNat := by omega
    simp [z, this]
  · have : ¬ i.toNat < n.toNat := by omega
    simp [z, this]
theorem tb_big {x i : Int} {n : Nat} (hx : 0 ≤ x ∧ x < ((2 ^ n : Nat) : Int)) (hi : (n : Int) ≤ i) : tb x i = false := by
  unfold tb
  refine Nat.testBit_lt_two_pow ?_
  have h1 : x.toNat < 2 ^ n := by omega
  exact Nat.lt_of_lt_of_le h1 (Nat.pow_le_pow_right (by decide) (by omega))
theorem tb_msk {K : PH} {F : FT} {c v a : Int} {n : Nat} (ha : 0 ≤ a) (hn : a < (n : Int)) : tb (msk K F c v n) a = decide (tv K (F a c) v = 1) := by
  have hr := msk_r (K := K) (F := F) (c := c) (v := v) n
  have q := msk_b (K := K) (F := F) (c := c) (v := v) (a := a.toNat) n (by omega)
  rw [show ((a.toNat : Nat) : Int) = a by omega] at q
  have d := tb_div (x := msk K F c v n) (i := a) hr.1
  have e2 : ((2 ^ a.toNat : Nat) : Int) = (2 : Int) ^ a.toNat := by rw [Int.natCast_pow]; rfl
  rw [e2, q] at d
  by_cases h : tv K (F a c) v = 1
  · rw [if_pos h] at d
    rw [d.mpr rfl]
    simp [h]
  · rw [if_neg h] at d
    have : tb (msk K F c v n) a ≠ true := fun z => absurd (d.mp z) (by decide)
    simp only [Bool.not_eq_true] at this
    rw [this]
    simp [h]
/-! which arm takes a row -/
def gB (M : PH) (on a : Int) : Bool := decide (M 2 a = -1) || tb on (M 2 a)
/-- whether an arm's first n patterns fit a row -/
def fitN (K M : PH) (F : FT) (r a : Int) : Nat → Bool
  | 0 => true
  | n + 1 => fitN K M F r a n && decide (tv K (F a (n : Int)) (vIn K M r (n : Int)) = 1)
def fitB (K M : PH) (F : FT) (r a : Int) : Bool := fitN K M F r a (M 0 0).toNat
theorem fitN_i {K M : PH} {F : FT} {r a : Int} : ∀ n : Nat, fitN K M F r a n = true ↔ ∀ c : Int, 0 ≤ c → c < (n : Int) → tv K (F a c) (vIn K M r c) = 1 := by
  intro n
  induction n with
  | zero => exact ⟨fun _ c c0 c1 => by omega, fun _ => rfl⟩
  | succ n ih =>
    show (fitN K M F r a n && decide _) = true ↔ _
    rw [Bool.and_eq_true, ih, decide_eq_true_iff]
    constructor
    · intro h c c0 c1
      by_cases e : c = (n : Int)
      · rw [e]; exact h.2
      · exact h.1 c c0 (by omega)
    · intro h
      exact ⟨fun c c0 c1 => h c c0 (by omega), h (n : Int) (by omega) (by omega)⟩
theorem fitB_i {K M : PH} {F : FT} {r a : Int} (h : 0 ≤ M 0 0) : fitB K M F r a = true ↔ ∀ c : Int, 0 ≤ c → c < M 0 0 → tv K (F a c) (vIn K M r c) = 1 := by
  unfold fitB
  rw [fitN_i, show (((M 0 0).toNat : Nat) : Int) = M 0 0 by omega]
def takF (K M : PH) (F : FT) (A : PH) (on r : Int) : Int → Int := fun p => if (fitB K M F r (A 1 p) && gB M on (A 1 p)) = true then 1 else 0
/-- the place of the arm that takes a row -/
def tak (K M : PH) (F : FT) (A : PH) (on r : Int) : Int := fxi (takF K M F A on r) 1 (A 0 0).toNat
/-- arms told are told -/
def GA (M A : PH) : Prop := (∀ p : Int, 0 ≤ p → p < A 0 0 → 0 ≤ A 1 p ∧ A 1 p < M 0 2) ∧ (0 ≤ A 0 1 ∧ A 0 1 ≤ 255) ∧ ∀ i : Int, 0 ≤ i → i < A 0 4 → (0 ≤ A 3 i ∧ A 3 i ≤ 255) ∧ ∀ p : Int, 0 ≤ p → p < A 2 i → 0 ≤ A 6 (12 * i + p) ∧ A 6 (12 * i + p) < M 0 2
theorem fxi_m1 {g : Int → Int} {v : Int} : ∀ n : Nat, fxi g v n = -1 → ∀ i : Int, 0 ≤ i → i < (n : Int) → g i ≠ v := by
  intro n
  induction n with
  | zero => intro _ i i0 i1; exfalso; have i1 : i < 0 := i1; omega
  | succ n ih =>
    intro h i i0 i1
    have h : (if fxi g v n ≠ -1 then fxi g v n else if g n = v then (n : Int) else -1) = -1 := h
    by_cases q : fxi g v n ≠ -1
    · rw [if_pos q] at h; exact absurd h q
    · rw [if_neg q] at h
      by_cases z : g n = v
      · rw [if_pos z] at h; omega
      · by_cases e : i = (n : Int)
        · rw [e]; exact z
        · exact ih (Decidable.not_not.mp q) i i0 (by omega)
theorem fxi_fst {g : Int → Int} {v : Int} : ∀ n : Nat, fxi g v n ≠ -1 → ∀ i : Int, 0 ≤ i → i < fxi g v n → g i ≠ v := by
  intro n
  induction n with
  | zero => intro h; exact absurd rfl h
  | succ n ih =>
    intro h i i0 i1
    have e : fxi g v (n + 1) = (if fxi g v n ≠ -1 then fxi g v n else if g n = v then (n : Int) else -1) := rfl
    rw [e] at h i1
    by_cases q : fxi g v n ≠ -1
    · rw [if_pos q] at i1; exact ih q i i0 i1
    · rw [if_neg q] at h i1
      by_cases z : g n = v
      · rw [if_pos z] at i1; exact fxi_m1 n (Decidable.not_not.mp q) i i0 i1
      · rw [if_neg z] at h; exact absurd rfl h
theorem fxi_ext {g : Int → Int} {v : Int} {n : Nat} : ∀ m : Nat, (∀ i : Int, (n : Int) ≤ i → g i ≠ v) → fxi g v (n + m) = fxi g v n := by
  intro m h
  by_cases e : fxi g v n = -1
  · rw [e]
    refine fxi_none (n + m) (fun i i0 i1 => ?_)
    by_cases q : i < (n : Int)
    · intro z
      have hf : ∀ j : Int, 0 ≤ j → j < (n : Int) → g j ≠ v := fxi_m1 n e
      exact hf i i0 q z
    · exact h i (by omega)
  · have b := fxi_b g v n
    have s := b.2.2.resolve_left e
    have f : ∀ i : Int, 0 ≤ i → i < fxi g v n → g i ≠ v := fxi_fst n e
    exact fxi_some (by omega) s f (n + m) (by omega)
