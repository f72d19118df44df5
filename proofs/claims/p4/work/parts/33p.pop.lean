/-! The weight of a node: how many arms and columns are left. -/
def popN : Nat → Nat → Nat
  | 0, _ => 0
  | f + 1, n => n % 2 + popN f (n / 2)
theorem popN_and (f : Nat) : ∀ x y : Nat, popN f (x &&& y) ≤ popN f x := by
  induction f with
  | zero => intro x y; exact Nat.le_refl _
  | succ f ih =>
    intro x y
    unfold popN
    have h1 : (x &&& y) / 2 = x / 2 &&& y / 2 := Nat.and_div_two
    have h2 : (x &&& y) % 2 ≤ x % 2 := by
      have h := Nat.testBit_and x y 0
      simp only [Nat.testBit_zero] at h
      rcases Nat.mod_two_eq_zero_or_one (x &&& y) with e | e
      · omega
      · rcases Nat.mod_two_eq_zero_or_one x with e1 | e1
        · rw [e, e1] at h; simp at h
        · omega
    rw [h1]
    have := ih (x / 2) (y / 2)
    omega
theorem popN_le (f : Nat) : ∀ x : Nat, popN f x ≤ f := by
  induction f with
  | zero => intro x; exact Nat.le_refl _
  | succ f ih => intro x; unfold popN; have := ih (x / 2); omega
def pop (z : Int) : Int := (popN 12 z.toNat : Nat)
theorem pop_b (z : Int) : 0 ≤ pop z ∧ pop z ≤ 12 := by unfold pop; have := popN_le 12 z.toNat; omega
theorem iand_nat {x y : Int} (hx : 0 ≤ x ∧ x ≤ 2147483647) (hy : 0 ≤ y ∧ y ≤ 2147483647) : iand x y = ((x.toNat &&& y.toNat : Nat) : Int) := by
  unfold iand
  rw [i32_bv, Int32.toBitVec_and]
  have e1 := bv_of (z := x) hx
  have e2 := bv_of (z := y) hy
  have hv : ((Int32.ofInt x).toBitVec &&& (Int32.ofInt y).toBitVec).toNat = x.toNat &&& y.toNat := by
    rw [BitVec.toNat_and, e1, e2]
  have hle : x.toNat &&& y.toNat ≤ x.toNat := Nat.and_le_left
  rw [bv_small (n := 2147483648) (by rw [hv]; omega) (by omega), hv]
theorem pop_and {x y : Int} (hx : 0 ≤ x ∧ x ≤ 2147483647) (hy : 0 ≤ y ∧ y ≤ 2147483647) : pop (iand x y) ≤ pop x := by
  rw [iand_nat hx hy]
  unfold pop
  rw [Int.toNat_natCast]
  have := popN_and 12 x.toNat y.toNat
  omega
theorem pop_low_all : ∀ a : Nat, a < 64 → ∀ b : Nat, b < 64 → 64 * a + b = 0 ∨ popN 12 ((64 * a + b) &&& (64 * a + b - 1)) + 1 ≤ popN 12 (64 * a + b) := by decide +kernel
theorem pop_low {x : Int} (hx : 1 ≤ x ∧ x ≤ 4095) : pop (iand x (x - 1)) + 1 ≤ pop x := by
  rw [iand_nat ⟨by omega, by omega⟩ ⟨by omega, by omega⟩]
  have h := pop_low_all (x.toNat / 64) (by omega) (x.toNat % 64) (by omega)
  rw [show 64 * (x.toNat / 64) + x.toNat % 64 = x.toNat by omega] at h
  unfold pop
  rw [Int.toNat_natCast, show (x - 1).toNat = x.toNat - 1 by omega]
  omega
theorem pop_clr_all : ∀ a : Nat, a < 16 → ∀ c : Nat, c < 4 → iand (ishr (a : Int) (c : Int)) 1 = 1 → pop (iand (a : Int) (ixor (ishl 1 (c : Int)) (-1))) + 1 ≤ pop (a : Int) := by decide +kernel
theorem pop_clr {a c : Int} (ha : 0 ≤ a ∧ a ≤ 15) (hc : 0 ≤ c ∧ c ≤ 3) (h : iand (ishr a c) 1 = 1) : pop (iand a (ixor (ishl 1 c) (-1))) + 1 ≤ pop a := by
  have e1 : ((a.toNat : Nat) : Int) = a := Int.toNat_of_nonneg ha.1
  have e2 : ((c.toNat : Nat) : Int) = c := Int.toNat_of_nonneg hc.1
  have := pop_clr_all a.toNat (by omega) c.toNat (by omega)
  rw [e1, e2] at this
  exact this h
def wgt (l : Int) : Int := pop (l % 4096) + pop (l / 4096)
theorem wgt_b (l : Int) : 0 ≤ wgt l ∧ wgt l ≤ 24 := by unfold wgt; have := pop_b (l % 4096); have := pop_b (l / 4096); omega
theorem wgt_of {r a c : Int} (hr : r = a + 4096 * c) (ha : 0 ≤ a ∧ a ≤ 4095) : wgt r = pop a + pop c := by
  unfold wgt
  rw [show r % 4096 = a by omega, show r / 4096 = c by omega]
/-- the committed budget is one -/
def okB (P : PH) : Prop := P 0 44 = 0 ∨ (1 ≤ P 16 (P 0 13) ∧ P 16 (P 0 13) ≤ 999)
theorem okB.fr {P P1 : PH} {F : FS} (h : okB P) (hf : FrM F P P1) (hd : disF F ([13, 44], [16]) = true) : okB P1 := by
  unfold disF at hd
  simp only [List.all_cons, List.all_nil, Bool.and_true, Bool.and_eq_true, Bool.not_eq_true'] at hd
  unfold okB at h ⊢
  rw [hf.1 13 hd.1.1, hf.1 44 hd.1.2, hf.2 16 rfl hd.2]
  exact h
