/-! Rows for numbers within bounds: each result a new number, known by its toInt. -/
theorem bm {z : Int} (h1 : -2147483648 ≤ z) (h2 : z ≤ 2147483647) : z.bmod (2 ^ 32) = z := by
  have e : ((2 ^ 32 : Nat) : Int) = 4294967296 := by decide
  unfold Int.bmod
  rw [e]
  simp only
  split <;> omega
section AR
variable {p : Program} {l : Launch} {e : Env} {R : Room} {s : State} {m : MethodId} {args : Array Value} {below : List Frame} {meth : Method} {c : Code} {H : Heap} {locs : List Loc} {cells slots : Nat} {Q : State → Prop}
variable {cc : ByteArray} {pc : Nat} {ls : Array Slot} {rest : List Value}
theorem b_iadd (hx : p.tables.exec = Jvm.exec) (hb : c.code = cc) {x y : Int32} (h : -2147483648 ≤ x.toInt + y.toInt ∧ x.toInt + y.toInt ≤ 2147483647) (hdg : decode cc pc = .ok (.iadd, 1)) (k : ∀ z : Int32, z.toInt = x.toInt + y.toInt → W p l e R s m args below meth c H locs cells slots Q (F0 m (pc + 1) ls (.int z :: rest))) : W p l e R s m args below meth c H locs cells slots Q (F0 m pc ls (.int y :: .int x :: rest)) := lv_iadd hx hb hdg (k _ (by rw [Int32.toInt_add]; exact bm h.1 h.2))
theorem b_isub (hx : p.tables.exec = Jvm.exec) (hb : c.code = cc) {x y : Int32} (h : -2147483648 ≤ x.toInt - y.toInt ∧ x.toInt - y.toInt ≤ 2147483647) (hdg : decode cc pc = .ok (.isub, 1)) (k : ∀ z : Int32, z.toInt = x.toInt - y.toInt → W p l e R s m args below meth c H locs cells slots Q (F0 m (pc + 1) ls (.int z :: rest))) : W p l e R s m args below meth c H locs cells slots Q (F0 m pc ls (.int y :: .int x :: rest)) := lv_isub hx hb hdg (k _ (by rw [Int32.toInt_sub]; exact bm h.1 h.2))
theorem b_imul (hx : p.tables.exec = Jvm.exec) (hb : c.code = cc) {x y : Int32} (h : -2147483648 ≤ x.toInt * y.toInt ∧ x.toInt * y.toInt ≤ 2147483647) (hdg : decode cc pc = .ok (.imul, 1)) (k : ∀ z : Int32, z.toInt = x.toInt * y.toInt → W p l e R s m args below meth c H locs cells slots Q (F0 m (pc + 1) ls (.int z :: rest))) : W p l e R s m args below meth c H locs cells slots Q (F0 m pc ls (.int y :: .int x :: rest)) := lv_imul hx hb hdg (k _ (by rw [Int32.toInt_mul]; exact bm h.1 h.2))
theorem b_in {x : Int32} {n : Nat} (h : 0 ≤ x.toInt ∧ x.toInt < n) : vp_in x n := vp_in_iff.mpr h
theorem b_lt {x y : Int32} (h : x < y) : x.toInt < y.toInt := Int32.lt_iff_toInt_lt.mp h
theorem b_nlt {x y : Int32} (h : ¬ x < y) : y.toInt ≤ x.toInt := by
  have g : ¬ x.toInt < y.toInt := fun q => h (Int32.lt_iff_toInt_lt.mpr q)
  omega
theorem b_le {x y : Int32} (h : x ≤ y) : x.toInt ≤ y.toInt := Int32.le_iff_toInt_le.mp h
theorem b_nle {x y : Int32} (h : ¬ x ≤ y) : y.toInt < x.toInt := by
  have g : ¬ x.toInt ≤ y.toInt := fun q => h (Int32.le_iff_toInt_le.mpr q)
  omega
theorem b_eq {x y : Int32} (h : x = y) : x.toInt = y.toInt := congrArg Int32.toInt h
theorem b_ne {x y : Int32} (h : ¬ x = y) : ¬ x.toInt = y.toInt := fun q => h (Int32.toInt_inj.mp q)
theorem b_rng (x : Int32) : -2147483648 ≤ x.toInt ∧ x.toInt ≤ 2147483647 := by
  have h1 := Int32.le_toInt x
  have h2 := Int32.toInt_lt x
  have e : (2 : Int) ^ 31 = 2147483648 := by decide
  rw [e] at h1 h2
  omega
theorem b_iinc (hx : p.tables.exec = Jvm.exec) (hb : c.code = cc) {i nL k : Nat} {n : Int} {x : Int32} {lv : List (Nat × Value)} (hdg : decode cc pc = .ok (.iinc i n, 3)) (h : lv_has ls nL lv) (hk : lv[k]? = some (i, .int x)) (hn : i < nL) {z : Int32} (hz : x + Int32.ofInt n = z) (hv : -2147483648 ≤ x.toInt + n ∧ x.toInt + n ≤ 2147483647) (hm : -2147483648 ≤ n ∧ n ≤ 2147483647) : z.toInt = x.toInt + n := by
  subst hz
  rw [Int32.toInt_add, Int32.toInt_ofInt, bm hm.1 hm.2]
  exact bm hv.1 hv.2
end AR
