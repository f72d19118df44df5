/-! More of bits: longs above 0; a bit that is shifted. -/
theorem ishl01_all : ∀ y : Nat, y < 31 → ishl 0 (y : Int) = 0 := by decide +kernel
theorem ishl01 (n : Nat) (hn : n ≤ 30) {x y : Int} (hx : 0 ≤ x ∧ x ≤ 1) (h : 0 ≤ y ∧ y ≤ (n : Int)) : 0 ≤ ishl x y ∧ ishl x y ≤ ((2 ^ n : Nat) : Int) := by
  rcases (show x = 0 ∨ x = 1 by omega) with rfl | rfl
  · have e : ((y.toNat : Nat) : Int) = y := Int.toNat_of_nonneg h.1
    have h1 := ishl01_all y.toNat (by omega)
    rw [e] at h1
    rw [h1]
    exact ⟨by decide, Int.natCast_nonneg _⟩
  · have h1 := ishl1 n hn h
    exact ⟨by omega, h1.2.2⟩
theorem lldiv_p {x y : Int} (hx : 0 ≤ x ∧ x ≤ 9223372036854775807) (hy : 0 < y ∧ y ≤ 9223372036854775807) : lldiv x y = x / y := by
  unfold lldiv
  rw [Int64.toInt_div_of_ne_right _ _ (fun q => by have := congrArg Int64.toInt q; rw [oL ⟨by omega, hy.2⟩] at this; have e : (-1 : Int64).toInt = -1 := by decide
                                                   omega), oL ⟨by omega, hx.2⟩, oL ⟨by omega, hy.2⟩, Int.tdiv_eq_ediv_of_nonneg hx.1]
theorem llrem_p {x y : Int} (hx : 0 ≤ x ∧ x ≤ 9223372036854775807) (hy : 0 < y ∧ y ≤ 9223372036854775807) : llrem x y = x % y := by
  have hd := lldiv_p hx hy
  have e1 : Int64.ofInt x / Int64.ofInt y = Int64.ofInt (x / y) := by rw [← hd]; exact (Int64.ofInt_toInt _).symm
  unfold llrem
  rw [e1, ← Int64.ofInt_mul, ← Int64.ofInt_sub]
  have h1 := Int.emod_nonneg x (show y ≠ 0 by omega)
  have h2 := Int.emod_lt_of_pos x hy.1
  have h3 : x - x / y * y = x % y := by have := Int.mul_ediv_add_emod x y; rw [Int.mul_comm] at this; omega
  rw [h3, oL ⟨by omega, by omega⟩]
theorem lldiv_b {x y : Int} (hx : 0 ≤ x ∧ x ≤ 9223372036854775807) (hy : 0 < y ∧ y ≤ 9223372036854775807) : 0 ≤ lldiv x y ∧ lldiv x y ≤ x := by
  rw [lldiv_p hx hy]
  exact ⟨Int.ediv_nonneg hx.1 (by omega), Int.ediv_le_self _ hx.1⟩
theorem llrem_b {x y : Int} (hx : 0 ≤ x ∧ x ≤ 9223372036854775807) (hy : 0 < y ∧ y ≤ 9223372036854775807) : 0 ≤ llrem x y ∧ llrem x y < y := by
  rw [llrem_p hx hy]
  exact ⟨Int.emod_nonneg x (by omega), Int.emod_lt_of_pos x hy.1⟩
theorem i64_and_r {a b : Int64} (h : 0 ≤ b.toInt) : 0 ≤ (a &&& b).toInt ∧ (a &&& b).toInt ≤ b.toInt := by
  have e : ∀ x : Int64, x.toInt = x.toBitVec.toInt := fun _ => rfl
  rw [e] at h
  rw [e, e, Int64.toBitVec_and]
  have hb : b.toBitVec.msb = false := by
    rw [BitVec.msb_eq_toInt]
    simpa using h
  have hab : (a.toBitVec &&& b.toBitVec).msb = false := by rw [BitVec.msb_and, hb, Bool.and_false]
  rw [BitVec.toInt_eq_toNat_of_msb hb, BitVec.toInt_eq_toNat_of_msb hab, BitVec.toNat_and]
  have := @Nat.and_le_right a.toBitVec.toNat b.toBitVec.toNat
  omega
theorem lland_r {x y : Int} (hy : 0 ≤ y ∧ y ≤ 9223372036854775807) : 0 ≤ lland x y ∧ lland x y ≤ y := by
  unfold lland
  have e : (Int64.ofInt y).toInt = y := oL ⟨by omega, hy.2⟩
  have h := i64_and_r (a := Int64.ofInt x) (b := Int64.ofInt y) (by rw [e]; exact hy.1)
  rw [e] at h
  exact h
theorem l64_smod {c : Nat} (hc : c ≤ 31) : ((((Int32.ofInt (c : Int)).toInt64 &&& 63).toBitVec.smod 64)).toNat = c := by
  have : ∀ c : Nat, c < 32 → ((((Int32.ofInt (c : Int)).toInt64 &&& 63).toBitVec.smod 64)).toNat = c := by decide
  exact this c (by omega)
/-- a shift of a long to the right by a number that is known -/
theorem llshr_c (c : Nat) (hc : c ≤ 31) {x : Int} (h : LR x) : llshr x (c : Int) = x / ((2 ^ c : Nat) : Int) := by
  unfold llshr
  have e0 : ∀ y : Int64, y.toInt = y.toBitVec.toInt := fun _ => rfl
  rw [e0, Int64.toBitVec_shiftRight, BitVec.toInt_sshiftRight', l64_smod hc]
  have h1 : (Int64.ofInt x).toBitVec.toInt = x := oL h
  rw [h1, Int.shiftRight_eq_div_pow]
/-- the lowest bit of a set of twelve -/
theorem low12a : ∀ a : Nat, a < 64 → ∀ b : Nat, b < 64 → (∀ q : Nat, q < 12 → iand (ishr ((64 * a + b : Nat) : Int) (q : Int)) 1 = 0) → 64 * a + b = 0 := by decide +kernel
theorem low12 (x : Nat) (hx : x < 4096) (h : ∀ q : Nat, q < 12 → iand (ishr (x : Int) (q : Int)) 1 = 0) : x = 0 := by
  have e : 64 * (x / 64) + x % 64 = x := Nat.div_add_mod x 64
  have := low12a (x / 64) (by omega) (x % 64) (by omega) (by rw [e]; exact h)
  omega
theorem low12' {x : Int} (hx : 0 ≤ x ∧ x ≤ 4095) (h : ∀ q : Nat, q < 12 → iand (ishr x (q : Int)) 1 = 0) : x = 0 := by
  have e : ((x.toNat : Nat) : Int) = x := Int.toNat_of_nonneg hx.1
  have := low12 x.toNat (by omega) (by rw [e]; exact h)
  omega
theorem up_cs {P : PH} {o : Nat} {k k1 z : Int} : (k1 = k ∧ up P o k z o k1 = z) ∨ (k1 ≠ k ∧ up P o k z o k1 = P o k1) := by
  by_cases h : k1 = k
  · exact Or.inl ⟨h, by rw [h, up_same]⟩
  · exact Or.inr ⟨h, up_k h⟩
