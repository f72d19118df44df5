/-! What is known of the machine's bits, as ints. -/
theorem i32_and_r {a b : Int32} (h : 0 ≤ b.toInt) : 0 ≤ (a &&& b).toInt ∧ (a &&& b).toInt ≤ b.toInt := by
  have e : ∀ x : Int32, x.toInt = x.toBitVec.toInt := fun _ => rfl
  rw [e] at h
  rw [e, e, Int32.toBitVec_and]
  have hb : b.toBitVec.msb = false := by
    rw [BitVec.msb_eq_toInt]
    simpa using h
  have hab : (a.toBitVec &&& b.toBitVec).msb = false := by rw [BitVec.msb_and, hb, Bool.and_false]
  rw [BitVec.toInt_eq_toNat_of_msb hb, BitVec.toInt_eq_toNat_of_msb hab, BitVec.toNat_and]
  have := @Nat.and_le_right a.toBitVec.toNat b.toBitVec.toNat
  omega
theorem iand_r {x y : Int} (hy : 0 ≤ y ∧ y ≤ 2147483647) : 0 ≤ iand x y ∧ iand x y ≤ y := by
  unfold iand
  have e : (Int32.ofInt y).toInt = y := oI ⟨by omega, hy.2⟩
  have h := i32_and_r (a := Int32.ofInt x) (b := Int32.ofInt y) (by rw [e]; exact hy.1)
  rw [e] at h
  exact h
theorem iand_comm (x y : Int) : iand x y = iand y x := by unfold iand; rw [Int32.and_comm]
theorem iand_l {x y : Int} (hx : 0 ≤ x ∧ x ≤ 2147483647) : 0 ≤ iand x y ∧ iand x y ≤ x := by rw [iand_comm]; exact iand_r hx
theorem i32_bv (x : Int32) : x.toInt = x.toBitVec.toInt := rfl
theorem bv_of {z : Int} (h : 0 ≤ z ∧ z ≤ 2147483647) : (Int32.ofInt z).toBitVec.toNat = z.toNat := by
  have h1 : (Int32.ofInt z).toBitVec = BitVec.ofInt 32 z := rfl
  rw [h1, BitVec.toNat_ofInt]
  omega
theorem bv_small {v : BitVec 32} {n : Nat} (h : v.toNat < n) (hn : n ≤ 2147483648) : v.toInt = (v.toNat : Int) := by
  rw [BitVec.toInt_eq_toNat_cond, if_pos (by omega)]
theorem ior_b (k : Nat) (hk : k ≤ 30) {x y : Int} (hx : 0 ≤ x ∧ x < ((2 ^ k : Nat) : Int)) (hy : 0 ≤ y ∧ y < ((2 ^ k : Nat) : Int)) : 0 ≤ ior x y ∧ ior x y < ((2 ^ k : Nat) : Int) := by
  have hp : (2 ^ k : Nat) ≤ 2 ^ 30 := Nat.pow_le_pow_right (by decide) hk
  have h30 : (2 : Nat) ^ 30 = 1073741824 := by decide
  unfold ior
  rw [i32_bv, Int32.toBitVec_or]
  have e1 := bv_of (z := x) ⟨hx.1, by omega⟩
  have e2 := bv_of (z := y) ⟨hy.1, by omega⟩
  have hlt : ((Int32.ofInt x).toBitVec ||| (Int32.ofInt y).toBitVec).toNat < 2 ^ k := by
    rw [BitVec.toNat_or]
    exact Nat.or_lt_two_pow (by rw [e1]; omega) (by rw [e2]; omega)
  rw [bv_small hlt (by omega)]
  omega
theorem ixor_b (k : Nat) (hk : k ≤ 30) {x y : Int} (hx : 0 ≤ x ∧ x < ((2 ^ k : Nat) : Int)) (hy : 0 ≤ y ∧ y < ((2 ^ k : Nat) : Int)) : 0 ≤ ixor x y ∧ ixor x y < ((2 ^ k : Nat) : Int) := by
  have hp : (2 ^ k : Nat) ≤ 2 ^ 30 := Nat.pow_le_pow_right (by decide) hk
  have h30 : (2 : Nat) ^ 30 = 1073741824 := by decide
  unfold ixor
  rw [i32_bv, Int32.toBitVec_xor]
  have e1 := bv_of (z := x) ⟨hx.1, by omega⟩
  have e2 := bv_of (z := y) ⟨hy.1, by omega⟩
  have hlt : ((Int32.ofInt x).toBitVec ^^^ (Int32.ofInt y).toBitVec).toNat < 2 ^ k := by
    rw [BitVec.toNat_xor]
    exact Nat.xor_lt_two_pow (by rw [e1]; omega) (by rw [e2]; omega)
  rw [bv_small hlt (by omega)]
  omega
theorem i32_sh {c : Nat} (hc : c ≤ 31) : ((Int32.ofInt (c : Int)) &&& 31).toBitVec.toNat = c := by
  have : ∀ c : Nat, c < 32 → ((Int32.ofInt (c : Int)) &&& 31).toBitVec.toNat = c := by decide
  exact this c (by omega)
theorem i32_smod {c : Nat} (hc : c ≤ 31) : ((((Int32.ofInt (c : Int)) &&& 31).toBitVec.smod 32)).toNat = c := by
  have : ∀ c : Nat, c < 32 → ((((Int32.ofInt (c : Int)) &&& 31).toBitVec.smod 32)).toNat = c := by decide
  exact this c (by omega)
/-- a shift to the left by a number that is known -/
theorem ishl_c (c : Nat) (hc : c ≤ 31) {x : Int} (h : IR (x * ((2 ^ c : Nat) : Int))) : ishl x (c : Int) = x * ((2 ^ c : Nat) : Int) := by
  have e : Int32.ofInt x <<< (Int32.ofInt (c : Int) &&& 31) = Int32.ofInt (x * ((2 ^ c : Nat) : Int)) := by
    apply Int32.toBitVec.inj
    rw [Int32.toBitVec_shiftLeft, BitVec.shiftLeft_eq', i32_smod hc]
    have h1 : (Int32.ofInt x).toBitVec = BitVec.ofInt 32 x := rfl
    have h2 : (Int32.ofInt (x * ((2 ^ c : Nat) : Int))).toBitVec = BitVec.ofInt 32 (x * ((2 ^ c : Nat) : Int)) := rfl
    rw [h1, h2, BitVec.shiftLeft_eq_mul_twoPow, BitVec.ofInt_mul]
    congr 1
    apply BitVec.eq_of_toNat_eq
    rw [BitVec.toNat_twoPow, BitVec.toNat_ofInt]
    have : ∀ c : Nat, c < 32 → 2 ^ c % 2 ^ 32 = ((((2 ^ c : Nat) : Int)) % ((2 ^ 32 : Nat) : Int)).toNat := by decide
    exact this c (by omega)
  unfold ishl
  rw [e, oI h]
/-- a shift to the right by a number that is known -/
theorem ishr_c (c : Nat) (hc : c ≤ 31) {x : Int} (h : IR x) : ishr x (c : Int) = x / ((2 ^ c : Nat) : Int) := by
  unfold ishr
  rw [i32_bv, Int32.toBitVec_shiftRight, BitVec.toInt_sshiftRight', i32_smod hc]
  have h1 : (Int32.ofInt x).toBitVec.toInt = x := oI h
  rw [h1, Int.shiftRight_eq_div_pow]
theorem ishr_ir (x y : Int) : IR (ishr x y) := rgI _
theorem ishl_ir (x y : Int) : IR (ishl x y) := rgI _
theorem iand_ir (x y : Int) : IR (iand x y) := rgI _
theorem ior_ir (x y : Int) : IR (ior x y) := rgI _
theorem ixor_ir (x y : Int) : IR (ixor x y) := rgI _
theorem idiv_ir (x y : Int) : IR (idiv x y) := rgI _
theorem irem_ir (x y : Int) : IR (irem x y) := rgI _
theorem iushr_ir (x y : Int) : IR (iushr x y) := rgI _
theorem lland_ir (x y : Int) : LR (lland x y) := rgL _
theorem llor_ir (x y : Int) : LR (llor x y) := rgL _
theorem llshl_ir (x y : Int) : LR (llshl x y) := rgL _
theorem llshr_ir (x y : Int) : LR (llshr x y) := rgL _
theorem llushr_ir (x y : Int) : LR (llushr x y) := rgL _
theorem lldiv_ir (x y : Int) : LR (lldiv x y) := rgL _
theorem llrem_ir (x y : Int) : LR (llrem x y) := rgL _
theorem lcmpv_b (x y : Int) : -1 ≤ lcmpv x y ∧ lcmpv x y ≤ 1 := by unfold lcmpv; split <;> (try split) <;> decide
theorem lcmpv_0 {x y : Int} : lcmpv x y = 0 ↔ x = y := by
  unfold lcmpv
  by_cases h1 : y < x
  · rw [if_pos h1]; omega
  · rw [if_neg h1]; by_cases h2 : x = y
    · simp [h2]
    · rw [if_neg h2]; omega
theorem lcmpv_lt {x y : Int} : lcmpv x y < 0 ↔ x < y := by unfold lcmpv; split <;> (try split) <;> omega
theorem lcmpv_gt {x y : Int} : 0 < lcmpv x y ↔ y < x := by unfold lcmpv; split <;> (try split) <;> omega
theorem ishl1_all : ∀ y : Nat, y < 31 → ishl 1 (y : Int) = ((2 ^ y : Nat) : Int) := by decide +kernel
/-- 1 << y -/
theorem ishl1 (n : Nat) (hn : n ≤ 30) {y : Int} (h : 0 ≤ y ∧ y ≤ (n : Int)) : ishl 1 y = ((2 ^ y.toNat : Nat) : Int) ∧ 1 ≤ ishl 1 y ∧ ishl 1 y ≤ ((2 ^ n : Nat) : Int) := by
  have e : ((y.toNat : Nat) : Int) = y := Int.toNat_of_nonneg h.1
  have h1 := ishl1_all y.toNat (by omega)
  rw [e] at h1
  have h2 : 2 ^ y.toNat ≤ 2 ^ n := Nat.pow_le_pow_right (by decide) (by omega)
  have h3 : 1 ≤ 2 ^ y.toNat := Nat.one_le_two_pow
  exact ⟨h1, by rw [h1]; omega, by rw [h1]; omega⟩
theorem idiv_p {x y : Int} (hx : 0 ≤ x ∧ x ≤ 2147483647) (hy : 0 < y ∧ y ≤ 2147483647) : idiv x y = x / y := by
  unfold idiv
  rw [Int32.toInt_div_of_ne_right _ _ (fun q => by have := congrArg Int32.toInt q; rw [oI ⟨by omega, hy.2⟩] at this; have e : (-1 : Int32).toInt = -1 := by decide
                                                   omega), oI ⟨by omega, hx.2⟩, oI ⟨by omega, hy.2⟩, Int.tdiv_eq_ediv_of_nonneg hx.1]
theorem irem_p {x y : Int} (hx : 0 ≤ x ∧ x ≤ 2147483647) (hy : 0 < y ∧ y ≤ 2147483647) : irem x y = x % y := by
  have hd := idiv_p hx hy
  have e1 : Int32.ofInt x / Int32.ofInt y = Int32.ofInt (x / y) := by rw [← hd]; exact (Int32.ofInt_toInt _).symm
  unfold irem
  rw [e1, ← Int32.ofInt_mul, ← Int32.ofInt_sub]
  have h1 := Int.emod_nonneg x (show y ≠ 0 by omega)
  have h2 := Int.emod_lt_of_pos x hy.1
  have h3 : x - x / y * y = x % y := by have := Int.mul_ediv_add_emod x y; rw [Int.mul_comm] at this; omega
  rw [h3, oI ⟨by omega, by omega⟩]
theorem idiv_b {x y : Int} (hx : 0 ≤ x ∧ x ≤ 2147483647) (hy : 0 < y ∧ y ≤ 2147483647) : 0 ≤ idiv x y ∧ idiv x y ≤ x := by
  rw [idiv_p hx hy]
  exact ⟨Int.ediv_nonneg hx.1 (by omega), Int.ediv_le_self _ hx.1⟩
theorem irem_b {x y : Int} (hx : 0 ≤ x ∧ x ≤ 2147483647) (hy : 0 < y ∧ y ≤ 2147483647) : 0 ≤ irem x y ∧ irem x y < y := by
  rw [irem_p hx hy]
  exact ⟨Int.emod_nonneg x (by omega), Int.emod_lt_of_pos x hy.1⟩
/-- a remainder by a number above 0, of any number -/
theorem irem_any {x y : Int} (hx : IR x) (hy : 0 < y ∧ y ≤ 2147483647) : -y < irem x y ∧ irem x y < y := by
  have hne : Int32.ofInt y ≠ -1 := fun q => by
    have := congrArg Int32.toInt q
    rw [oI ⟨by omega, hy.2⟩] at this
    have e : (-1 : Int32).toInt = -1 := by decide
    omega
  have hd : idiv x y = x.tdiv y := by
    unfold idiv
    rw [Int32.toInt_div_of_ne_right _ _ hne, oI hx, oI ⟨by omega, hy.2⟩]
  have e1 : Int32.ofInt x / Int32.ofInt y = Int32.ofInt (x.tdiv y) := by rw [← hd]; exact (Int32.ofInt_toInt _).symm
  unfold irem
  rw [e1, ← Int32.ofInt_mul, ← Int32.ofInt_sub]
  have h3 : x - x.tdiv y * y = x.tmod y := by have := Int.mul_tdiv_add_tmod x y; rw [Int.mul_comm] at this; omega
  have h4 := Int.tmod_lt_of_pos x hy.1
  have h5 : -y < x.tmod y := by
    have := Int.neg_tmod x y
    have h6 := Int.tmod_lt_of_pos (-x) hy.1
    omega
  rw [h3, oI ⟨by omega, by omega⟩]
  exact ⟨h5, h4⟩
