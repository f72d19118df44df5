/-! Signs, for the JDK's floorMod. -/
theorem irem_sgn {x y : Int} (hx : IR x) (hy : 0 < y ∧ y ≤ 2147483647) : (0 ≤ x → 0 ≤ irem x y) ∧ (x ≤ 0 → irem x y ≤ 0) := by
  have hne : Int32.ofInt y ≠ -1 := fun q => by
    have := congrArg Int32.toInt q
    rw [oI ⟨by omega, hy.2⟩] at this
    have e : (-1 : Int32).toInt = -1 := by decide
    omega
  have hd : idiv x y = x.tdiv y := by
    unfold idiv
    rw [Int32.toInt_div_of_ne_right _ _ hne, oI hx, oI ⟨by omega, hy.2⟩]
  have e1 : Int32.ofInt x / Int32.ofInt y = Int32.ofInt (x.tdiv y) := by rw [← hd]; exact (Int32.ofInt_toInt _).symm
  have h3 : x - x.tdiv y * y = x.tmod y := by have := Int.mul_tdiv_add_tmod x y; rw [Int.mul_comm] at this; omega
  have h4 := Int.tmod_lt_of_pos x hy.1
  have h5 := Int.neg_tmod x y
  have h6 := Int.tmod_lt_of_pos (-x) hy.1
  have e2 : irem x y = x.tmod y := by
    unfold irem
    rw [e1, ← Int32.ofInt_mul, ← Int32.ofInt_sub, h3, oI ⟨by omega, by omega⟩]
  rw [e2]
  refine ⟨fun h => Int.tmod_nonneg _ h, fun h => ?_⟩
  have h7 := Int.tmod_nonneg y (show 0 ≤ -x by omega)
  omega
theorem ixor_sgn {x y : Int} (hx : IR x) (hy : 0 ≤ y ∧ y ≤ 2147483647) : ixor x y < 0 ↔ x < 0 := by
  unfold ixor
  rw [i32_bv, Int32.toBitVec_xor]
  have e1 : (Int32.ofInt x).toBitVec.toInt = x := oI hx
  have e2 : (Int32.ofInt y).toBitVec.toInt = y := oI ⟨by omega, hy.2⟩
  have m1 : (Int32.ofInt x).toBitVec.msb = decide (x < 0) := by rw [BitVec.msb_eq_toInt, e1]
  have m2 : (Int32.ofInt y).toBitVec.msb = false := by rw [BitVec.msb_eq_toInt, e2]; simpa using hy.1
  have m3 : ((Int32.ofInt x).toBitVec ^^^ (Int32.ofInt y).toBitVec).msb = decide (x < 0) := by rw [BitVec.msb_xor, m1, m2, Bool.xor_false]
  rw [BitVec.msb_eq_toInt] at m3
  exact decide_eq_decide.mp m3
/-- a contract of a JDK method whose class has rows of natives, but none for it -/
theorem Ct.ofF {S : WS} {G : GT} {d : Nat} {i : MI} {P : PH} {Q : Option PV → PH → Prop} {av : List PV} {l0 : List (Nat × PV)} (hy : plainFor i.1 = true) (hl0 : ga 0 av = l0) (hsz : (av.map fun v => if v.1 == 1 then 2 else 1).sum ≤ i.2.2.1) (k : Go S G d i 0 l0 [] P Q) : Ct S G d i av P Q := by
  unfold Ct Met
  refine MetFree.of_bodySF (code := i.2.1) (maxLocals := i.2.2.1) (ret := i.2.2.2) hy ?_ ?_
  · intro args s m h hn
    obtain ⟨meth, c, h1, h2, h3, h4, h5, h6, -, -⟩ := Cond.code_spec hn (atoms_spec (ws := (.code i.1 i.2.1 i.2.2.1 i.2.2.2 :: WT)) h _ List.mem_cons_self)
    exact ⟨meth, c, h1, h2, h3, h4, h5, h6⟩
  · intro p e s m args below meth c s₁ B hml hv _
    have hh0 : s₁.heap = s.heap := by rw [B.state]; rfl
    obtain ⟨rfl, hP, hK, hi⟩ := hv
    have hts1 := atoms_spec (ws := (.code i.1 i.2.1 i.2.2.1 i.2.2.2 :: WT)) B.pre
    have hts : ∀ w ∈ WT, w.before (av.map (gv G.2.2.2.2)).toArray s = true := fun w h => hts1 w (List.mem_cons_of_mem _ h)
    have hown : s.vm.findClass i.1.cls = some m.cls := findClass_of_methodNamed B.named
    have hl := lv_entry (av.map (gv G.2.2.2.2)) (n := i.2.2.1) (by rw [sl_len]; exact hsz)
    rw [ga_args, hl0] at hl
    have K := k p e { frames := d, cells := 0, slots := 0, locals := 60 * d } s m _ below meth c s.heap [] _ ⟨B.exec, B.bytes, hml, B.returns, B.notSynchronized, hown, hts, hK, hi, Nat.le_refl _, Nat.le_refl _⟩ hP va_S.rf hl
    rw [show F0 m 0 _ (gs G []) = entryFrame m (av.map (gv G.2.2.2.2)).toArray i.2.2.1 from (lg_entry_eq m _ _).symm] at K
    obtain ⟨t, a1, o, b1, b2, b3⟩ := K s₁ hh0 (Stand.of_body B)
    exact ⟨t, o, a1, b1, b2, ⟨b3.1, b3.2⟩⟩
