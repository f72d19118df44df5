section
/-! Calls in the layer Go, by what comes back; a name for a value. -/
section GC
variable {S : WS} {G : GT} {d : Nat} {i : MI} {pc : Nat} {ls : List (Nat × PV)} {st : List PV} {P : PH} {Q : Option PV → PH → Prop}
theorem g_nm {z : Int} {t : Nat} (k : ∀ x : Int, x = z → Go S G d i pc ls ((t, x) :: st) P Q) : Go S G d i pc ls ((t, z) :: st) P Q := k z rfl
theorem g_vI {j : MI} {av st0 : List PV} {o n d1 idx ci N : Nat} {C1 : String} {T1 : u_T} (hC : Ct S G d1 j (vR o :: av) P (fun v P1 => ∃ r : Int, v = some (vI r) ∧ Go S G d i (pc + 3) ls (vI r :: st) P1 Q)) (hF : CFV j n) (hw : Cond.methodLink i.1.cls idx j.1 ∈ WT) (hn : av.length = n) (ho : o < S.1) (hsh : S.2.2.1 (S.2.1 o) = (0, ci, N)) (hcl : vwCl[ci]? = some (C1, T1, N)) (hC1 : j.1.cls = C1) (hcat : (st.map fun v => if v.1 == 1 then 2 else 1).sum ≤ 8) (hdp : d1 + 1 ≤ d) (hst : st0 = av.reverse ++ vR o :: st) (hd : decode i.2.1 pc = .ok (.invokevirtual idx, 3)) : Go S G d i pc ls st0 P Q :=
  g_callV hC hF hw hn ho hsh hcl hC1 hcat hdp hst hd (fun v P1 h => by obtain ⟨r, rfl, h⟩ := h; exact h)
theorem g_vL {j : MI} {av st0 : List PV} {o n d1 idx ci N : Nat} {C1 : String} {T1 : u_T} (hC : Ct S G d1 j (vR o :: av) P (fun v P1 => ∃ r : Int, v = some (vL r) ∧ Go S G d i (pc + 3) ls (vL r :: st) P1 Q)) (hF : CFV j n) (hw : Cond.methodLink i.1.cls idx j.1 ∈ WT) (hn : av.length = n) (ho : o < S.1) (hsh : S.2.2.1 (S.2.1 o) = (0, ci, N)) (hcl : vwCl[ci]? = some (C1, T1, N)) (hC1 : j.1.cls = C1) (hcat : (st.map fun v => if v.1 == 1 then 2 else 1).sum ≤ 8) (hdp : d1 + 1 ≤ d) (hst : st0 = av.reverse ++ vR o :: st) (hd : decode i.2.1 pc = .ok (.invokevirtual idx, 3)) : Go S G d i pc ls st0 P Q :=
  g_callV hC hF hw hn ho hsh hcl hC1 hcat hdp hst hd (fun v P1 h => by obtain ⟨r, rfl, h⟩ := h; exact h)
theorem g_vR {j : MI} {av st0 : List PV} {o n d1 idx ci N : Nat} {C1 : String} {T1 : u_T} (hC : Ct S G d1 j (vR o :: av) P (fun v P1 => ∃ r : Nat, v = some (vR r) ∧ Go S G d i (pc + 3) ls (vR r :: st) P1 Q)) (hF : CFV j n) (hw : Cond.methodLink i.1.cls idx j.1 ∈ WT) (hn : av.length = n) (ho : o < S.1) (hsh : S.2.2.1 (S.2.1 o) = (0, ci, N)) (hcl : vwCl[ci]? = some (C1, T1, N)) (hC1 : j.1.cls = C1) (hcat : (st.map fun v => if v.1 == 1 then 2 else 1).sum ≤ 8) (hdp : d1 + 1 ≤ d) (hst : st0 = av.reverse ++ vR o :: st) (hd : decode i.2.1 pc = .ok (.invokevirtual idx, 3)) : Go S G d i pc ls st0 P Q :=
  g_callV hC hF hw hn ho hsh hcl hC1 hcat hdp hst hd (fun v P1 h => by obtain ⟨r, rfl, h⟩ := h; exact h)
theorem g_vV {j : MI} {av st0 : List PV} {o n d1 idx ci N : Nat} {C1 : String} {T1 : u_T} (hC : Ct S G d1 j (vR o :: av) P (fun v P1 => v = none ∧ Go S G d i (pc + 3) ls st P1 Q)) (hF : CFV j n) (hw : Cond.methodLink i.1.cls idx j.1 ∈ WT) (hn : av.length = n) (ho : o < S.1) (hsh : S.2.2.1 (S.2.1 o) = (0, ci, N)) (hcl : vwCl[ci]? = some (C1, T1, N)) (hC1 : j.1.cls = C1) (hcat : (st.map fun v => if v.1 == 1 then 2 else 1).sum ≤ 8) (hdp : d1 + 1 ≤ d) (hst : st0 = av.reverse ++ vR o :: st) (hd : decode i.2.1 pc = .ok (.invokevirtual idx, 3)) : Go S G d i pc ls st0 P Q :=
  g_callV hC hF hw hn ho hsh hcl hC1 hcat hdp hst hd (fun v P1 h => by obtain ⟨rfl, h⟩ := h; exact h)
theorem g_sI {j : MI} {av st0 : List PV} {n d1 idx : Nat} (hC : Ct S G d1 j av P (fun v P1 => ∃ r : Int, v = some (vI r) ∧ Go S G d i (pc + 3) ls (vI r :: st) P1 Q)) (hF : CFS j n) (hw : Cond.methodLink i.1.cls idx j.1 ∈ WT) (hn : av.length = n) (hcat : (st.map fun v => if v.1 == 1 then 2 else 1).sum ≤ 8) (hdp : d1 + 1 ≤ d) (hst : st0 = av.reverse ++ st) (hd : decode i.2.1 pc = .ok (.invokestatic idx, 3)) : Go S G d i pc ls st0 P Q :=
  g_callS hC hF hw hn hcat hdp hst hd (fun v P1 h => by obtain ⟨r, rfl, h⟩ := h; exact h)
theorem g_sL {j : MI} {av st0 : List PV} {n d1 idx : Nat} (hC : Ct S G d1 j av P (fun v P1 => ∃ r : Int, v = some (vL r) ∧ Go S G d i (pc + 3) ls (vL r :: st) P1 Q)) (hF : CFS j n) (hw : Cond.methodLink i.1.cls idx j.1 ∈ WT) (hn : av.length = n) (hcat : (st.map fun v => if v.1 == 1 then 2 else 1).sum ≤ 8) (hdp : d1 + 1 ≤ d) (hst : st0 = av.reverse ++ st) (hd : decode i.2.1 pc = .ok (.invokestatic idx, 3)) : Go S G d i pc ls st0 P Q :=
  g_callS hC hF hw hn hcat hdp hst hd (fun v P1 h => by obtain ⟨r, rfl, h⟩ := h; exact h)
theorem g_sV {j : MI} {av st0 : List PV} {n d1 idx : Nat} (hC : Ct S G d1 j av P (fun v P1 => v = none ∧ Go S G d i (pc + 3) ls st P1 Q)) (hF : CFS j n) (hw : Cond.methodLink i.1.cls idx j.1 ∈ WT) (hn : av.length = n) (hcat : (st.map fun v => if v.1 == 1 then 2 else 1).sum ≤ 8) (hdp : d1 + 1 ≤ d) (hst : st0 = av.reverse ++ st) (hd : decode i.2.1 pc = .ok (.invokestatic idx, 3)) : Go S G d i pc ls st0 P Q :=
  g_callS hC hF hw hn hcat hdp hst hd (fun v P1 h => by obtain ⟨rfl, h⟩ := h; exact h)
theorem g_nI {j : MI} {av st0 : List PV} {n d1 idx : Nat} {host : String} (hC : Ct S G d1 j av P (fun v P1 => ∃ r : Int, v = some (vI r) ∧ Go S G d i (pc + 3) ls (vI r :: st) P1 Q)) (hF : CFS j n) (hw : ∀ U : State, nX U → va_Nw (.methodLinkNest i.1.cls idx j.1 host) U) (hn : av.length = n) (hcat : (st.map fun v => if v.1 == 1 then 2 else 1).sum ≤ 8) (hdp : d1 + 1 ≤ d) (hst : st0 = av.reverse ++ st) (hd : decode i.2.1 pc = .ok (.invokestatic idx, 3)) : Go S G d i pc ls st0 P Q :=
  g_callSN hC hF hw hn hcat hdp hst hd (fun v P1 h => by obtain ⟨r, rfl, h⟩ := h; exact h)
end GC
end
section
/-! More of bits: longs above 0; a bit that is shifted. -/
theorem ishl01_all : ∀ y : Nat, y < 31 → ishl 0 (y : Int) = 0 := by decide +kernel
theorem ishl01 (n : Nat) (hn : n ≤ 30) {x y : Int} (hx : 0 ≤ x ∧ x ≤ 1) (h : 0 ≤ y ∧ y ≤ (n : Int)) : 0 ≤ ishl x y ∧ ishl x y ≤ ((2 ^ n : Nat) : Int) := by
  rcases (show x = 0 ∨ x = 1 by omega) with rfl | rfl
  · have e : ((y.toNat : Nat) : Int) = y := Int.toNat_of_nonneg h.1
    have h1 := ishl01_all y.toNat (by omega)
    rw [e] at h1
    rw [h1]
    exact ⟨by decide, Int.natCast_nonneg _⟩
  · have h1 := ishl1 n hn h
    exact ⟨by omega, h1.2.2⟩
theorem lldiv_p {x y : Int} (hx : 0 ≤ x ∧ x ≤ 9223372036854775807) (hy : 0 < y ∧ y ≤ 9223372036854775807) : lldiv x y = x / y := by
  unfold lldiv
  rw [Int64.toInt_div_of_ne_right _ _ (fun q => by have := congrArg Int64.toInt q; rw [oL ⟨by omega, hy.2⟩] at this; have e : (-1 : Int64).toInt = -1 := by decide
                                                   omega), oL ⟨by omega, hx.2⟩, oL ⟨by omega, hy.2⟩, Int.tdiv_eq_ediv_of_nonneg hx.1]
theorem llrem_p {x y : Int} (hx : 0 ≤ x ∧ x ≤ 9223372036854775807) (hy : 0 < y ∧ y ≤ 9223372036854775807) : llrem x y = x % y := by
  have hd := lldiv_p hx hy
  have e1 : Int64.ofInt x / Int64.ofInt y = Int64.ofInt (x / y) := by rw [← hd]; exact (Int64.ofInt_toInt _).symm
  unfold llrem
  rw [e1, ← Int64.ofInt_mul, ← Int64.ofInt_sub]
  have h1 := Int.emod_nonneg x (show y ≠ 0 by omega)
  have h2 := Int.emod_lt_of_pos x hy.1
  have h3 : x - x / y * y = x % y := by have := Int.mul_ediv_add_emod x y; rw [Int.mul_comm] at this; omega
  rw [h3, oL ⟨by omega, by omega⟩]
theorem llrem_b {x y : Int} (hx : 0 ≤ x ∧ x ≤ 9223372036854775807) (hy : 0 < y ∧ y ≤ 9223372036854775807) : 0 ≤ llrem x y ∧ llrem x y < y := by
  rw [llrem_p hx hy]
  exact ⟨Int.emod_nonneg x (by omega), Int.emod_lt_of_pos x hy.1⟩
theorem i64_and_r {a b : Int64} (h : 0 ≤ b.toInt) : 0 ≤ (a &&& b).toInt ∧ (a &&& b).toInt ≤ b.toInt := by
  have e : ∀ x : Int64, x.toInt = x.toBitVec.toInt := fun _ => rfl
  rw [e] at h
  rw [e, e, Int64.toBitVec_and]
  have hb : b.toBitVec.msb = false := by
    rw [BitVec.msb_eq_toInt]
    simpa using h
  have hab : (a.toBitVec &&& b.toBitVec).msb = false := by rw [BitVec.msb_and, hb, Bool.and_false]
  rw [BitVec.toInt_eq_toNat_of_msb hb, BitVec.toInt_eq_toNat_of_msb hab, BitVec.toNat_and]
  have := @Nat.and_le_right a.toBitVec.toNat b.toBitVec.toNat
  omega
theorem lland_r {x y : Int} (hy : 0 ≤ y ∧ y ≤ 9223372036854775807) : 0 ≤ lland x y ∧ lland x y ≤ y := by
  unfold lland
  have e : (Int64.ofInt y).toInt = y := oL ⟨by omega, hy.2⟩
  have h := i64_and_r (a := Int64.ofInt x) (b := Int64.ofInt y) (by rw [e]; exact hy.1)
  rw [e] at h
  exact h
theorem l64_smod {c : Nat} (hc : c ≤ 31) : ((((Int32.ofInt (c : Int)).toInt64 &&& 63).toBitVec.smod 64)).toNat = c := by
  have : ∀ c : Nat, c < 32 → ((((Int32.ofInt (c : Int)).toInt64 &&& 63).toBitVec.smod 64)).toNat = c := by decide
  exact this c (by omega)
/-- a shift of a long to the right by a number that is known -/
theorem llshr_c (c : Nat) (hc : c ≤ 31) {x : Int} (h : LR x) : llshr x (c : Int) = x / ((2 ^ c : Nat) : Int) := by
  unfold llshr
  have e0 : ∀ y : Int64, y.toInt = y.toBitVec.toInt := fun _ => rfl
  rw [e0, Int64.toBitVec_shiftRight, BitVec.toInt_sshiftRight', l64_smod hc]
  have h1 : (Int64.ofInt x).toBitVec.toInt = x := oL h
  rw [h1, Int.shiftRight_eq_div_pow]
/-- the lowest bit of a set of twelve -/
theorem low12a : ∀ a : Nat, a < 64 → ∀ b : Nat, b < 64 → (∀ q : Nat, q < 12 → iand (ishr ((64 * a + b : Nat) : Int) (q : Int)) 1 = 0) → 64 * a + b = 0 := by decide +kernel
theorem low12 (x : Nat) (hx : x < 4096) (h : ∀ q : Nat, q < 12 → iand (ishr (x : Int) (q : Int)) 1 = 0) : x = 0 := by
  have e : 64 * (x / 64) + x % 64 = x := Nat.div_add_mod x 64
  have := low12a (x / 64) (by omega) (x % 64) (by omega) (by rw [e]; exact h)
  omega
theorem low12' {x : Int} (hx : 0 ≤ x ∧ x ≤ 4095) (h : ∀ q : Nat, q < 12 → iand (ishr x (q : Int)) 1 = 0) : x = 0 := by
  have e : ((x.toNat : Nat) : Int) = x := Int.toNat_of_nonneg hx.1
  have := low12 x.toNat (by omega) (by rw [e]; exact h)
  omega
theorem up_cs {P : PH} {o : Nat} {k k1 z : Int} : (k1 = k ∧ up P o k z o k1 = z) ∨ (k1 ≠ k ∧ up P o k z o k1 = P o k1) := by
  by_cases h : k1 = k
  · exact Or.inl ⟨h, by rw [h, up_same]⟩
  · exact Or.inr ⟨h, up_k h⟩
end
section
/-! Invariants of the reference. -/
def disF (F s : FS) : Bool := s.1.all (fun k => !F.1.contains k) && s.2.all (fun k => !F.2.contains k)
/-- which column a node may ask for: none, or one that is left there -/
def mok (left c : Int) : Prop := c = 4 ∨ (0 ≤ c ∧ c ≤ 3 ∧ iand (ishr (left / 4096) c) 1 = 1)
def okC (P : PH) : Prop := ∀ c : Int, 0 ≤ c → c < P 11 (P 0 13) → P 12 ((4 * P 0 13) + c) = 4 ∨ 1 ≤ P 3 ((4 * P 0 13) + P 12 ((4 * P 0 13) + c))
theorem okC.fr {P P1 : PH} {F : FS} (h : okC P) (hf : FrM F P P1) (hd : disF F ([13], [3, 11, 12]) = true) : okC P1 := by
  unfold disF at hd
  simp only [List.all_cons, List.all_nil, Bool.and_true, Bool.and_eq_true, Bool.not_eq_true'] at hd
  unfold okC at h ⊢
  rw [hf.1 13 hd.1, hf.2 3 rfl hd.2.1, hf.2 11 rfl hd.2.2.1, hf.2 12 rfl hd.2.2.2]
  exact h
def okR (P : PH) : Prop := P 0 44 = 0 ∨ 1 ≤ P 0 52
theorem okR.fr {P P1 : PH} {F : FS} (h : okR P) (hf : FrM F P P1) (hd : disF F ([44, 52], []) = true) : okR P1 := by
  unfold disF at hd
  simp only [List.all_cons, List.all_nil, Bool.and_true, Bool.and_eq_true, Bool.not_eq_true'] at hd
  unfold okR at h ⊢
  rw [hf.1 44 hd.1, hf.1 52 hd.2]
  exact h
def MV (P : PH) : Prop := ∀ k : Int, 0 ≤ P 49 k ∧ P 49 k / 8 ≤ P 0 74 ∧ (P 49 k / 8 = P 0 74 → mok k (P 49 k % 8))
theorem MV.fr {P P1 : PH} {F : FS} (h : MV P) (hf : FrM F P P1) (hd : disF F ([74], [49]) = true) : MV P1 := by
  unfold disF at hd
  simp only [List.all_cons, List.all_nil, Bool.and_true, Bool.and_eq_true, Bool.not_eq_true'] at hd
  unfold MV at h ⊢
  rw [hf.1 74 hd.1, hf.2 49 rfl hd.2]
  exact h
def RE (P : PH) : Prop := ∀ k : Int, P 51 k ≤ P 0 74
theorem RE.fr {P P1 : PH} {F : FS} (h : RE P) (hf : FrM F P P1) (hd : disF F ([74], [51]) = true) : RE P1 := by
  unfold disF at hd
  simp only [List.all_cons, List.all_nil, Bool.and_true, Bool.and_eq_true, Bool.not_eq_true'] at hd
  unfold RE at h ⊢
  rw [hf.1 74 hd.1, hf.2 51 rfl hd.2]
  exact h
theorem MV.next {P P1 : PH} {F : FS} (h : MV P) (hf : FrM F P P1) (h49 : F.2.contains 49 = false) (hs : P1 0 74 = P 0 74 + 1) : MV P1 := by
  intro k
  have e := hf.2 49 rfl h49
  have h1 := h k
  rw [e, hs]
  exact ⟨h1.1, by omega, fun q => by omega⟩
theorem RE.next {P P1 : PH} {F : FS} (h : RE P) (hf : FrM F P P1) (h51 : F.2.contains 51 = false) (hs : P1 0 74 = P 0 74 + 1) : RE P1 := by
  intro k
  have e := hf.2 51 rfl h51
  have h1 := h k
  rw [e, hs]
  omega
end
section
/-! What the trees' numbers are: arms and columns left, packed. -/
theorem iand_mask (k : Nat) (hk : k ≤ 30) {x : Int} (hx : 0 ≤ x ∧ x ≤ 2147483647) : iand x (((2 ^ k - 1 : Nat)) : Int) = x % ((2 ^ k : Nat) : Int) := by
  have hp : (2 ^ k : Nat) ≤ 2 ^ 30 := Nat.pow_le_pow_right (by decide) hk
  have h30 : (2 : Nat) ^ 30 = 1073741824 := by decide
  have hpos : 0 < 2 ^ k := Nat.two_pow_pos k
  unfold iand
  rw [i32_bv, Int32.toBitVec_and]
  have e1 := bv_of (z := x) hx
  have e2 := bv_of (z := ((2 ^ k - 1 : Nat) : Int)) ⟨by omega, by omega⟩
  have hv : ((Int32.ofInt x).toBitVec &&& (Int32.ofInt ((2 ^ k - 1 : Nat) : Int)).toBitVec).toNat = x.toNat % 2 ^ k := by
    rw [BitVec.toNat_and, e1, e2, Int.toNat_natCast, Nat.and_two_pow_sub_one_eq_mod]
  have hlt : x.toNat % 2 ^ k < 2 ^ k := Nat.mod_lt _ hpos
  rw [bv_small (n := 2 ^ k) (by rw [hv]; exact hlt) (by omega), hv]
  have e3 : ((x.toNat : Nat) : Int) = x := Int.toNat_of_nonneg hx.1
  rw [Int.natCast_emod, e3]
theorem iand7 {x : Int} (hx : 0 ≤ x ∧ x ≤ 2147483647) : iand x 7 = x % 8 := iand_mask 3 (by decide) hx
theorem iand4095 {x : Int} (hx : 0 ≤ x ∧ x ≤ 2147483647) : iand x 4095 = x % 4096 := iand_mask 12 (by decide) hx
theorem ior_hl (k : Nat) {x y : Int} (hx : 0 ≤ x ∧ x < ((2 ^ k : Nat) : Int)) (hy : 0 ≤ y) (hr : y * ((2 ^ k : Nat) : Int) + x ≤ 2147483647) : ior (y * ((2 ^ k : Nat) : Int)) x = y * ((2 ^ k : Nat) : Int) + x := by
  have e4 : ((y.toNat : Nat) : Int) = y := Int.toNat_of_nonneg hy
  have e3 : ((x.toNat : Nat) : Int) = x := Int.toNat_of_nonneg hx.1
  have ey : (y * ((2 ^ k : Nat) : Int)) = ((y.toNat * 2 ^ k : Nat) : Int) := by rw [Int.natCast_mul, e4]
  have hy0 : 0 ≤ y * ((2 ^ k : Nat) : Int) := by rw [ey]; exact Int.natCast_nonneg _
  unfold ior
  rw [i32_bv, Int32.toBitVec_or]
  have e1 := bv_of (z := y * ((2 ^ k : Nat) : Int)) ⟨hy0, by omega⟩
  have e2 := bv_of (z := x) ⟨hx.1, by omega⟩
  have hlt : x.toNat < 2 ^ k := by omega
  have hv : ((Int32.ofInt (y * ((2 ^ k : Nat) : Int))).toBitVec ||| (Int32.ofInt x).toBitVec).toNat = y.toNat * 2 ^ k + x.toNat := by
    rw [BitVec.toNat_or, e1, e2, ey, Int.toNat_natCast, ← Nat.shiftLeft_eq, Nat.shiftLeft_add_eq_or_of_lt hlt]
  have hle : y.toNat * 2 ^ k + x.toNat < 2147483648 := by
    have : ((y.toNat * 2 ^ k + x.toNat : Nat) : Int) = y * ((2 ^ k : Nat) : Int) + x := by rw [Int.natCast_add, ← ey, e3]
    omega
  rw [bv_small (n := 2147483648) (by rw [hv]; exact hle) (by omega), hv, Int.natCast_add, ← ey, e3]
theorem ior_comm (x y : Int) : ior x y = ior y x := by unfold ior; rw [Int32.or_comm]
theorem ior_hl3 {x y : Int} (hx : 0 ≤ x ∧ x < 8) (hy : 0 ≤ y) (hr : y * 8 + x ≤ 2147483647) : ior (y * 8) x = y * 8 + x := ior_hl 3 hx hy hr
theorem ior_hl12 {x y : Int} (hx : 0 ≤ x ∧ x < 4096) (hy : 0 ≤ y) (hr : y * 4096 + x ≤ 2147483647) : ior x (y * 4096) = y * 4096 + x := by
  rw [ior_comm]
  exact ior_hl 12 hx hy hr
theorem bclr_all : ∀ a : Nat, a < 16 → ∀ c : Nat, c < 4 → iand (ishr (a : Int) (c : Int)) 1 = 1 → iand (a : Int) (ixor (ishl 1 (c : Int)) (-1)) ≤ (a : Int) - 1 := by decide +kernel
theorem bclr {a c : Int} (ha : 0 ≤ a ∧ a ≤ 15) (hc : 0 ≤ c ∧ c ≤ 3) (h : iand (ishr a c) 1 = 1) : iand a (ixor (ishl 1 c) (-1)) ≤ a - 1 := by
  have e1 : ((a.toNat : Nat) : Int) = a := Int.toNat_of_nonneg ha.1
  have e2 : ((c.toNat : Nat) : Int) = c := Int.toNat_of_nonneg hc.1
  have := bclr_all a.toNat (by omega) c.toNat (by omega)
  rw [e1, e2] at this
  exact this h
theorem MV.set {P P1 : PH} {F : FS} {left z b : Int} (h : MV P) (hf : FrM F P P1) (hd : disF F ([74], [49]) = true) (hz : z = 8 * P 0 74 + b) (hb : 0 ≤ b ∧ b ≤ 7) (hs : 0 ≤ P 0 74) (hm : mok left b) : MV (up P1 49 left z) := by
  have h1 := MV.fr h hf hd
  have e74 : P1 0 74 = P 0 74 := by
    unfold disF at hd
    simp only [List.all_cons, List.all_nil, Bool.and_true, Bool.and_eq_true, Bool.not_eq_true'] at hd
    exact hf.1 74 hd.1
  intro k
  have h2 := h1 k
  rw [up_o (o := 49) (o1 := 0) (by decide)]
  by_cases e : k = left
  · subst e
    rw [up_same, e74]
    exact ⟨by omega, by omega, fun _ => by rw [show z % 8 = b by omega]; exact hm⟩
  · rw [up_k e]
    exact h2
/-- how many of the first n are s -/
def cnt (f : Int → Int) (s : Int) : Nat → Int
  | 0 => 0
  | n + 1 => cnt f s n + (if f (n : Int) = s then 1 else 0)
theorem cnt_le (f : Int → Int) (s : Int) (n : Nat) : 0 ≤ cnt f s n ∧ cnt f s n ≤ (n : Int) := by
  induction n with
  | zero => exact ⟨Int.le_refl _, Int.le_refl _⟩
  | succ n ih => unfold cnt; split <;> omega
theorem cnt_lt {f : Int → Int} {s : Int} (n k : Nat) (hk : k < n) (h : f (k : Int) ≠ s) : cnt f s n ≤ (n : Int) - 1 := by
  induction n with
  | zero => omega
  | succ n ih =>
    have := cnt_le f s n
    by_cases e : k = n
    · subst e; unfold cnt; rw [if_neg h]; omega
    · have := ih (by omega); unfold cnt; split <;> omega
theorem cnt_0 {f : Int → Int} {s : Int} (n : Nat) (h : ∀ k : Int, f k < s) : cnt f s n = 0 := by
  induction n with
  | zero => rfl
  | succ n ih => unfold cnt; rw [ih, if_neg (by have := h (n : Int); omega)]; rfl
theorem cnt_same {f g : Int → Int} {s : Int} (n : Nat) (h : ∀ j : Nat, j < n → f (j : Int) = g (j : Int)) : cnt f s n = cnt g s n := by
  induction n with
  | zero => rfl
  | succ n ih => unfold cnt; rw [ih (fun j hj => h j (by omega)), h n (by omega)]
theorem cnt_up {f g : Int → Int} {s : Int} (n k : Nat) (hk : k < n) (h0 : f (k : Int) ≠ s) (h1 : g (k : Int) = s) (h : ∀ j : Int, j ≠ (k : Int) → g j = f j) : cnt g s n = cnt f s n + 1 := by
  induction n with
  | zero => omega
  | succ n ih =>
    by_cases e : k = n
    · subst e
      unfold cnt
      rw [if_pos h1, if_neg h0, cnt_same (f := g) (g := f) k (fun j hj => h _ (by omega))]
      omega
    · unfold cnt
      rw [ih (by omega), h (n : Int) (by omega)]
      omega
/-- all marks are older than now -/
def RLt (P : PH) : Prop := ∀ k : Int, P 51 k < P 0 74
theorem RLt.fr {P P1 : PH} {F : FS} (h : RLt P) (hf : FrM F P P1) (hd : disF F ([74], [51]) = true) : RLt P1 := by
  unfold disF at hd
  simp only [List.all_cons, List.all_nil, Bool.and_true, Bool.and_eq_true, Bool.not_eq_true'] at hd
  unfold RLt at h ⊢
  rw [hf.1 74 hd.1, hf.2 51 rfl hd.2]
  exact h
theorem RE.nextL {P P1 : PH} {F : FS} (h : RE P) (hf : FrM F P P1) (h51 : F.2.contains 51 = false) (hs : P1 0 74 = P 0 74 + 1) : RLt P1 := by
  intro k
  have e := hf.2 51 rfl h51
  have h1 := h k
  rw [e, hs]
  omega
theorem RLt.RE {P : PH} (h : RLt P) : RE P := fun k => Int.le_of_lt (h k)
/-- the states told are as many as the marks of now -/
def CN (P : PH) : Prop := P 0 81 = cnt (P 51) (P 0 74) 65536
theorem CN.fr {P P1 : PH} {F : FS} (h : CN P) (hf : FrM F P P1) (hd : disF F ([74, 81], [51]) = true) : CN P1 := by
  unfold disF at hd
  simp only [List.all_cons, List.all_nil, Bool.and_true, Bool.and_eq_true, Bool.not_eq_true'] at hd
  unfold CN at h ⊢
  rw [hf.1 74 hd.1.1, hf.1 81 hd.1.2, hf.2 51 rfl hd.2]
  exact h
theorem CN.lt {P : PH} {k : Int} (h : CN P) (hk : 0 ≤ k ∧ k ≤ 65535) (hn : P 51 k ≠ P 0 74) : P 0 81 ≤ 65535 := by
  have e : ((k.toNat : Nat) : Int) = k := Int.toNat_of_nonneg hk.1
  have := cnt_lt (f := P 51) (s := P 0 74) 65536 k.toNat (by omega) (by rw [e]; exact hn)
  unfold CN at h
  omega
theorem CN.zero {P P1 : PH} {F : FS} (h : RLt P) (hf : FrM F P P1) (hd : disF F ([74], [51]) = true) (h0 : P1 0 81 = 0) : CN P1 := by
  have h1 := RLt.fr h hf hd
  unfold CN
  rw [h0, cnt_0 65536 h1]
/-- one more is marked and told -/
theorem CN.step {P P1 : PH} {k : Int} (h : CN P) (hk : 0 ≤ k ∧ k ≤ 65535) (hn : P 51 k ≠ P 0 74) (e74 : P1 0 74 = P 0 74) (e81 : P1 0 81 = P 0 81 + 1) (e51 : P1 51 k = P 0 74) (eo : ∀ j : Int, j ≠ k → P1 51 j = P 51 j) : CN P1 := by
  have e : ((k.toNat : Nat) : Int) = k := Int.toNat_of_nonneg hk.1
  unfold CN at h ⊢
  rw [e81, e74, cnt_up (f := P 51) (g := P1 51) 65536 k.toNat (by omega) (by rw [e]; exact hn) (by rw [e]; exact e51) (by rw [e]; exact eo), h]
theorem RE.step {P P1 : PH} {k : Int} (h : RE P) (e74 : P1 0 74 = P 0 74) (e51 : P1 51 k = P 0 74) (eo : ∀ j : Int, j ≠ k → P1 51 j = P 51 j) : RE P1 := by
  intro j
  rw [e74]
  by_cases e : j = k
  · rw [e, e51]; exact Int.le_refl _
  · rw [eo j e]; exact h j
end
