section
/-! Signs, for the JDK's floorMod. -/
theorem irem_sgn {x y : Int} (hx : IR x) (hy : 0 < y ∧ y ≤ 2147483647) : (0 ≤ x → 0 ≤ irem x y) ∧ (x ≤ 0 → irem x y ≤ 0) := by
  have hne : Int32.ofInt y ≠ -1 := fun q => by
    have := congrArg Int32.toInt q
    rw [oI ⟨by omega, hy.2⟩] at this
    have e : (-1 : Int32).toInt = -1 := by decide
    omega
  have hd : idiv x y = x.tdiv y := by
    unfold idiv
    rw [Int32.toInt_div_of_ne_right _ _ hne, oI hx, oI ⟨by omega, hy.2⟩]
  have e1 : Int32.ofInt x / Int32.ofInt y = Int32.ofInt (x.tdiv y) := by rw [← hd]; exact (Int32.ofInt_toInt _).symm
  have h3 : x - x.tdiv y * y = x.tmod y := by have := Int.mul_tdiv_add_tmod x y; rw [Int.mul_comm] at this; omega
  have h4 := Int.tmod_lt_of_pos x hy.1
  have h5 := Int.neg_tmod x y
  have h6 := Int.tmod_lt_of_pos (-x) hy.1
  have e2 : irem x y = x.tmod y := by
    unfold irem
    rw [e1, ← Int32.ofInt_mul, ← Int32.ofInt_sub, h3, oI ⟨by omega, by omega⟩]
  rw [e2]
  refine ⟨fun h => Int.tmod_nonneg _ h, fun h => ?_⟩
  have h7 := Int.tmod_nonneg y (show 0 ≤ -x by omega)
  omega
theorem ixor_sgn {x y : Int} (hx : IR x) (hy : 0 ≤ y ∧ y ≤ 2147483647) : ixor x y < 0 ↔ x < 0 := by
  unfold ixor
  rw [i32_bv, Int32.toBitVec_xor]
  have e1 : (Int32.ofInt x).toBitVec.toInt = x := oI hx
  have e2 : (Int32.ofInt y).toBitVec.toInt = y := oI ⟨by omega, hy.2⟩
  have m1 : (Int32.ofInt x).toBitVec.msb = decide (x < 0) := by rw [BitVec.msb_eq_toInt, e1]
  have m2 : (Int32.ofInt y).toBitVec.msb = false := by rw [BitVec.msb_eq_toInt, e2]; simpa using hy.1
  have m3 : ((Int32.ofInt x).toBitVec ^^^ (Int32.ofInt y).toBitVec).msb = decide (x < 0) := by rw [BitVec.msb_xor, m1, m2, Bool.xor_false]
  rw [BitVec.msb_eq_toInt] at m3
  exact decide_eq_decide.mp m3
/-- a contract of a JDK method whose class has rows of natives, but none for it -/
theorem Ct.ofF {S : WS} {G : GT} {d : Nat} {i : MI} {P : PH} {Q : Option PV → PH → Prop} {av : List PV} {l0 : List (Nat × PV)} (hy : plainFor i.1 = true) (hl0 : ga 0 av = l0) (hsz : (av.map fun v => if v.1 == 1 then 2 else 1).sum ≤ i.2.2.1) (k : Go S G d i 0 l0 [] P Q) : Ct S G d i av P Q := by
  unfold Ct Met
  refine MetFree.of_bodySF (code := i.2.1) (maxLocals := i.2.2.1) (ret := i.2.2.2) hy ?_ ?_
  · intro args s m h hn
    obtain ⟨meth, c, h1, h2, h3, h4, h5, h6, -, -⟩ := Cond.code_spec hn (atoms_spec (ws := (.code i.1 i.2.1 i.2.2.1 i.2.2.2 :: WT)) h _ List.mem_cons_self)
    exact ⟨meth, c, h1, h2, h3, h4, h5, h6⟩
  · intro p e s m args below meth c s₁ B hml hv _
    have hh0 : s₁.heap = s.heap := by rw [B.state]; rfl
    obtain ⟨rfl, hP, hK, hi⟩ := hv
    have hts1 := atoms_spec (ws := (.code i.1 i.2.1 i.2.2.1 i.2.2.2 :: WT)) B.pre
    have hts : ∀ w ∈ WT, w.before (av.map (gv G.2.2.2.2)).toArray s = true := fun w h => hts1 w (List.mem_cons_of_mem _ h)
    have hown : s.vm.findClass i.1.cls = some m.cls := findClass_of_methodNamed B.named
    have hl := lv_entry (av.map (gv G.2.2.2.2)) (n := i.2.2.1) (by rw [sl_len]; exact hsz)
    rw [ga_args, hl0] at hl
    have K := k p e { frames := d, cells := 0, slots := 0, locals := 60 * d } s m _ below meth c s.heap [] _ ⟨B.exec, B.bytes, hml, B.returns, B.notSynchronized, hown, hts, hK, hi, Nat.le_refl _, Nat.le_refl _⟩ hP va_S.rf hl
    rw [show F0 m 0 _ (gs G []) = entryFrame m (av.map (gv G.2.2.2.2)).toArray i.2.2.1 from (lg_entry_eq m _ _).symm] at K
    obtain ⟨t, a1, o, b1, b2, b3⟩ := K s₁ hh0 (Stand.of_body B)
    exact ⟨t, o, a1, b1, b2, ⟨b3.1, b3.2⟩⟩
end
section
/-! The class in the layer Go: 154 objects of 56 kinds. -/
def kdX : Nat → Nat := fun o => match o with
  | 0 => 0
  | 1 => 1
  | 2 => 2
  | 3 => 3
  | 4 => 4
  | 5 => 5
  | 6 => 6
  | 7 => 7
  | 8 => 8
  | 9 => 9
  | 10 => 10
  | 11 => 8
  | 12 => 9
  | 13 => 10
  | 14 => 14
  | 15 => 15
  | 16 => 14
  | 17 => 15
  | 18 => 16
  | 19 => 17
  | 20 => 18
  | 21 => 19
  | 22 => 20
  | 23 => 14
  | 24 => 15
  | 25 => 14
  | 26 => 15
  | 27 => 14
  | 28 => 15
  | 29 => 14
  | 30 => 15
  | 31 => 14
  | 32 => 15
  | 33 => 14
  | 34 => 15
  | 35 => 14
  | 36 => 15
  | 37 => 14
  | 38 => 15
  | 39 => 14
  | 40 => 15
  | 41 => 14
  | 42 => 15
  | 43 => 14
  | 44 => 15
  | 45 => 14
  | 46 => 15
  | 47 => 14
  | 48 => 15
  | 49 => 14
  | 50 => 15
  | 51 => 14
  | 52 => 15
  | 53 => 14
  | 54 => 15
  | 55 => 14
  | 56 => 15
  | 57 => 14
  | 58 => 15
  | 59 => 14
  | 60 => 15
  | 61 => 14
  | 62 => 15
  | 63 => 21
  | 64 => 22
  | 65 => 23
  | 66 => 24
  | 67 => 25
  | 68 => 26
  | 69 => 27
  | 70 => 28
  | 71 => 29
  | 72 => 30
  | 73 => 31
  | 74 => 32
  | 75 => 33
  | 76 => 34
  | 77 => 35
  | 78 => 36
  | 79 => 37
  | 80 => 38
  | 81 => 39
  | 82 => 40
  | 83 => 41
  | 84 => 42
  | 85 => 43
  | 86 => 44
  | 87 => 44
  | 88 => 44
  | 89 => 44
  | 90 => 28
  | 91 => 29
  | 92 => 30
  | 93 => 31
  | 94 => 32
  | 95 => 33
  | 96 => 34
  | 97 => 35
  | 98 => 36
  | 99 => 37
  | 100 => 38
  | 101 => 39
  | 102 => 40
  | 103 => 41
  | 104 => 42
  | 105 => 43
  | 106 => 44
  | 107 => 44
  | 108 => 44
  | 109 => 44
  | 110 => 45
  | 111 => 46
  | 112 => 47
  | 113 => 48
  | 114 => 49
  | 115 => 50
  | 116 => 50
  | 117 => 50
  | 118 => 50
  | 119 => 50
  | 120 => 50
  | 121 => 50
  | 122 => 50
  | 123 => 50
  | 124 => 50
  | 125 => 51
  | 126 => 52
  | 127 => 53
  | 128 => 11
  | 129 => 12
  | 130 => 13
  | 131 => 11
  | 132 => 12
  | 133 => 13
  | 134 => 11
  | 135 => 12
  | 136 => 13
  | 137 => 11
  | 138 => 12
  | 139 => 13
  | 140 => 11
  | 141 => 12
  | 142 => 13
  | 143 => 11
  | 144 => 12
  | 145 => 13
  | 146 => 11
  | 147 => 12
  | 148 => 13
  | 149 => 11
  | 150 => 12
  | 151 => 13
  | 152 => 54
  | 153 => 55
  | _ => 99
def shX : Nat → Nat × Nat × Nat := fun k => match k with
  | 0 => (0, 11, 15)
  | 1 => (0, 1, 2)
  | 2 => (1, 0, 1600)
  | 3 => (0, 1, 2)
  | 4 => (1, 0, 1024)
  | 5 => (0, 4, 3)
  | 6 => (1, 0, 4096)
  | 7 => (1, 0, 4096)
  | 8 => (0, 2, 4)
  | 9 => (1, 0, 4096)
  | 10 => (1, 0, 4096)
  | 11 => (0, 2, 4)
  | 12 => (1, 0, 2048)
  | 13 => (1, 0, 2048)
  | 14 => (0, 5, 4)
  | 15 => (1, 0, 12)
  | 16 => (0, 0, 8)
  | 17 => (1, 0, 1024)
  | 18 => (1, 0, 1024)
  | 19 => (1, 0, 1024)
  | 20 => (3, 3, 20)
  | 21 => (1, 0, 20)
  | 22 => (0, 8, 6)
  | 23 => (1, 0, 16)
  | 24 => (1, 0, 16)
  | 25 => (1, 0, 256)
  | 26 => (1, 0, 13)
  | 27 => (1, 0, 6)
  | 28 => (0, 9, 11)
  | 29 => (0, 3, 11)
  | 30 => (1, 0, 4)
  | 31 => (1, 0, 4)
  | 32 => (1, 0, 4)
  | 33 => (1, 0, 4)
  | 34 => (1, 0, 24)
  | 35 => (1, 0, 24)
  | 36 => (1, 0, 24)
  | 37 => (1, 0, 24)
  | 38 => (1, 0, 24)
  | 39 => (1, 0, 4)
  | 40 => (1, 0, 4)
  | 41 => (1, 0, 4)
  | 42 => (1, 0, 12)
  | 43 => (3, 4, 4)
  | 44 => (1, 0, 2048)
  | 45 => (0, 6, 5)
  | 46 => (0, 7, 9)
  | 47 => (1, 0, 11)
  | 48 => (1, 0, 0)
  | 49 => (3, 4, 10)
  | 50 => (1, 0, 2048)
  | 51 => (0, 10, 15)
  | 52 => (3, 2, 4)
  | 53 => (3, 2, 4)
  | 54 => (2, 0, 65536)
  | 55 => (1, 0, 999)
  | _ => (9, 0, 0)
def ftX : Nat → Nat → Nat := fun k f => match k, f with
  | 0, 0 => 3
  | 0, 1 => 3
  | 0, 2 => 3
  | 0, 3 => 3
  | 0, 4 => 3
  | 0, 5 => 3
  | 0, 6 => 3
  | 0, 7 => 3
  | 0, 8 => 3
  | 0, 9 => 3
  | 0, 10 => 2
  | 0, 11 => 2
  | 0, 12 => 3
  | 0, 13 => 3
  | 1, 0 => 3
  | 3, 0 => 3
  | 5, 0 => 3
  | 5, 1 => 3
  | 8, 0 => 3
  | 8, 1 => 3
  | 8, 2 => 3
  | 11, 0 => 3
  | 11, 1 => 3
  | 11, 2 => 3
  | 14, 0 => 3
  | 16, 0 => 3
  | 16, 1 => 3
  | 16, 2 => 3
  | 16, 3 => 3
  | 16, 4 => 3
  | 22, 0 => 3
  | 22, 1 => 3
  | 22, 3 => 3
  | 22, 5 => 3
  | 28, 0 => 3
  | 28, 1 => 3
  | 28, 2 => 3
  | 28, 3 => 3
  | 28, 4 => 3
  | 28, 5 => 3
  | 29, 0 => 3
  | 29, 1 => 3
  | 29, 2 => 3
  | 29, 3 => 3
  | 29, 4 => 3
  | 29, 5 => 3
  | 29, 6 => 3
  | 29, 7 => 3
  | 29, 8 => 3
  | 45, 0 => 3
  | 45, 1 => 3
  | 45, 2 => 2
  | 46, 0 => 3
  | 46, 1 => 2
  | 51, 0 => 3
  | 51, 1 => 3
  | 51, 2 => 3
  | 51, 3 => 3
  | 51, 6 => 3
  | 51, 13 => 2
  | 51, 14 => 2
  | _, _ => 0
def crX : Nat → Nat → Nat := fun o f => match o, f with
  | 0, 0 => 1
  | 0, 1 => 3
  | 0, 2 => 5
  | 0, 3 => 8
  | 0, 4 => 11
  | 0, 5 => 14
  | 0, 6 => 16
  | 0, 7 => 18
  | 0, 8 => 64
  | 0, 9 => 69
  | 0, 12 => 110
  | 0, 13 => 125
  | 1, 0 => 2
  | 3, 0 => 4
  | 5, 0 => 6
  | 5, 1 => 7
  | 8, 0 => 9
  | 8, 1 => 10
  | 8, 2 => 5
  | 11, 0 => 12
  | 11, 1 => 13
  | 11, 2 => 5
  | 14, 0 => 15
  | 16, 0 => 17
  | 18, 0 => 19
  | 18, 1 => 20
  | 18, 2 => 21
  | 18, 3 => 22
  | 18, 4 => 63
  | 22, 0 => 23
  | 22, 1 => 25
  | 22, 2 => 27
  | 22, 3 => 29
  | 22, 4 => 31
  | 22, 5 => 33
  | 22, 6 => 35
  | 22, 7 => 37
  | 22, 8 => 39
  | 22, 9 => 41
  | 22, 10 => 43
  | 22, 11 => 45
  | 22, 12 => 47
  | 22, 13 => 49
  | 22, 14 => 51
  | 22, 15 => 53
  | 22, 16 => 55
  | 22, 17 => 57
  | 22, 18 => 59
  | 22, 19 => 61
  | 23, 0 => 24
  | 25, 0 => 26
  | 27, 0 => 28
  | 29, 0 => 30
  | 31, 0 => 32
  | 33, 0 => 34
  | 35, 0 => 36
  | 37, 0 => 38
  | 39, 0 => 40
  | 41, 0 => 42
  | 43, 0 => 44
  | 45, 0 => 46
  | 47, 0 => 48
  | 49, 0 => 50
  | 51, 0 => 52
  | 53, 0 => 54
  | 55, 0 => 56
  | 57, 0 => 58
  | 59, 0 => 60
  | 61, 0 => 62
  | 64, 0 => 65
  | 64, 1 => 66
  | 64, 3 => 67
  | 64, 5 => 68
  | 70, 0 => 71
  | 70, 1 => 81
  | 70, 2 => 82
  | 70, 3 => 83
  | 70, 4 => 84
  | 70, 5 => 85
  | 71, 0 => 72
  | 71, 1 => 73
  | 71, 2 => 74
  | 71, 3 => 75
  | 71, 4 => 76
  | 71, 5 => 77
  | 71, 6 => 78
  | 71, 7 => 79
  | 71, 8 => 80
  | 85, 0 => 86
  | 85, 1 => 87
  | 85, 2 => 88
  | 85, 3 => 89
  | 90, 0 => 91
  | 90, 1 => 101
  | 90, 2 => 102
  | 90, 3 => 103
  | 90, 4 => 104
  | 90, 5 => 105
  | 91, 0 => 92
  | 91, 1 => 93
  | 91, 2 => 94
  | 91, 3 => 95
  | 91, 4 => 96
  | 91, 5 => 97
  | 91, 6 => 98
  | 91, 7 => 99
  | 91, 8 => 100
  | 105, 0 => 106
  | 105, 1 => 107
  | 105, 2 => 108
  | 105, 3 => 109
  | 110, 0 => 111
  | 110, 1 => 114
  | 111, 0 => 112
  | 114, 0 => 115
  | 114, 1 => 116
  | 114, 2 => 117
  | 114, 3 => 118
  | 114, 4 => 119
  | 114, 5 => 120
  | 114, 6 => 121
  | 114, 7 => 122
  | 114, 8 => 123
  | 114, 9 => 124
  | 125, 0 => 126
  | 125, 1 => 127
  | 125, 2 => 5
  | 125, 3 => 152
  | 125, 6 => 153
  | 126, 0 => 128
  | 126, 1 => 134
  | 126, 2 => 140
  | 126, 3 => 146
  | 127, 0 => 131
  | 127, 1 => 137
  | 127, 2 => 143
  | 127, 3 => 149
  | 128, 0 => 129
  | 128, 1 => 130
  | 128, 2 => 5
  | 131, 0 => 132
  | 131, 1 => 133
  | 131, 2 => 5
  | 134, 0 => 135
  | 134, 1 => 136
  | 134, 2 => 5
  | 137, 0 => 138
  | 137, 1 => 139
  | 137, 2 => 5
  | 140, 0 => 141
  | 140, 1 => 142
  | 140, 2 => 5
  | 143, 0 => 144
  | 143, 1 => 145
  | 143, 2 => 5
  | 146, 0 => 147
  | 146, 1 => 148
  | 146, 2 => 5
  | 149, 0 => 150
  | 149, 1 => 151
  | 149, 2 => 5
  | _, _ => 0
def WSX : WS := (154, kdX, shX, ftX, crX, [.int, .long, .object RX2, .object RX5, .array .int])
/-- object o is of kind k -/
def kx (o k : Nat) : Prop := o < 154 ∧ kdX o = k
theorem kx.sh {o k : Nat} {s : Nat × Nat × Nat} (h : kx o k) (hs : shX k = s) : WSX.2.2.1 (WSX.2.1 o) = s := by show shX (kdX o) = s; rw [h.2]; exact hs
theorem kx.ft {o k f t : Nat} (h : kx o k) (hs : ftX k f = t) : WSX.2.2.2.1 (WSX.2.1 o) f = t := by show ftX (kdX o) f = t; rw [h.2]; exact hs
theorem kx.ne {o o1 k k1 : Nat} (h : kx o k) (h1 : kx o1 k1) (hk : (k == k1) = false) : o ≠ o1 := fun e => by rw [e] at h; rw [h.2.symm.trans h1.2] at hk; simp at hk
theorem ck_8_0 {o : Nat} (h : kx o 8) : kx (crX o 0) 9 := (show ∀ o : Nat, o < 154 → kdX o = 8 → crX o 0 < 154 ∧ kdX (crX o 0) = 9 by decide +kernel) o h.1 h.2
theorem ck_8_1 {o : Nat} (h : kx o 8) : kx (crX o 1) 10 := (show ∀ o : Nat, o < 154 → kdX o = 8 → crX o 1 < 154 ∧ kdX (crX o 1) = 10 by decide +kernel) o h.1 h.2
theorem cq_8_2 {o : Nat} (h : kx o 8) : crX o 2 = 5 := (show ∀ o : Nat, o < 154 → kdX o = 8 → crX o 2 = 5 by decide +kernel) o h.1 h.2
theorem ck_11_0 {o : Nat} (h : kx o 11) : kx (crX o 0) 12 := (show ∀ o : Nat, o < 154 → kdX o = 11 → crX o 0 < 154 ∧ kdX (crX o 0) = 12 by decide +kernel) o h.1 h.2
theorem ck_11_1 {o : Nat} (h : kx o 11) : kx (crX o 1) 13 := (show ∀ o : Nat, o < 154 → kdX o = 11 → crX o 1 < 154 ∧ kdX (crX o 1) = 13 by decide +kernel) o h.1 h.2
theorem cq_11_2 {o : Nat} (h : kx o 11) : crX o 2 = 5 := (show ∀ o : Nat, o < 154 → kdX o = 11 → crX o 2 = 5 by decide +kernel) o h.1 h.2
theorem ck_14_0 {o : Nat} (h : kx o 14) : kx (crX o 0) 15 := (show ∀ o : Nat, o < 154 → kdX o = 14 → crX o 0 < 154 ∧ kdX (crX o 0) = 15 by decide +kernel) o h.1 h.2
theorem ce_20 {o j : Nat} (h : kx o 20) (hj : j < 20) : kx (crX o j) 14 := (show ∀ o : Nat, o < 154 → kdX o = 20 → ∀ j : Nat, j < 20 → crX o j < 154 ∧ kdX (crX o j) = 14 by decide +kernel) o h.1 h.2 j hj
theorem ck_28_0 {o : Nat} (h : kx o 28) : kx (crX o 0) 29 := (show ∀ o : Nat, o < 154 → kdX o = 28 → crX o 0 < 154 ∧ kdX (crX o 0) = 29 by decide +kernel) o h.1 h.2
theorem ck_28_1 {o : Nat} (h : kx o 28) : kx (crX o 1) 39 := (show ∀ o : Nat, o < 154 → kdX o = 28 → crX o 1 < 154 ∧ kdX (crX o 1) = 39 by decide +kernel) o h.1 h.2
theorem ck_28_2 {o : Nat} (h : kx o 28) : kx (crX o 2) 40 := (show ∀ o : Nat, o < 154 → kdX o = 28 → crX o 2 < 154 ∧ kdX (crX o 2) = 40 by decide +kernel) o h.1 h.2
theorem ck_28_3 {o : Nat} (h : kx o 28) : kx (crX o 3) 41 := (show ∀ o : Nat, o < 154 → kdX o = 28 → crX o 3 < 154 ∧ kdX (crX o 3) = 41 by decide +kernel) o h.1 h.2
theorem ck_28_4 {o : Nat} (h : kx o 28) : kx (crX o 4) 42 := (show ∀ o : Nat, o < 154 → kdX o = 28 → crX o 4 < 154 ∧ kdX (crX o 4) = 42 by decide +kernel) o h.1 h.2
theorem ck_28_5 {o : Nat} (h : kx o 28) : kx (crX o 5) 43 := (show ∀ o : Nat, o < 154 → kdX o = 28 → crX o 5 < 154 ∧ kdX (crX o 5) = 43 by decide +kernel) o h.1 h.2
theorem ck_29_0 {o : Nat} (h : kx o 29) : kx (crX o 0) 30 := (show ∀ o : Nat, o < 154 → kdX o = 29 → crX o 0 < 154 ∧ kdX (crX o 0) = 30 by decide +kernel) o h.1 h.2
theorem ck_29_1 {o : Nat} (h : kx o 29) : kx (crX o 1) 31 := (show ∀ o : Nat, o < 154 → kdX o = 29 → crX o 1 < 154 ∧ kdX (crX o 1) = 31 by decide +kernel) o h.1 h.2
theorem ck_29_2 {o : Nat} (h : kx o 29) : kx (crX o 2) 32 := (show ∀ o : Nat, o < 154 → kdX o = 29 → crX o 2 < 154 ∧ kdX (crX o 2) = 32 by decide +kernel) o h.1 h.2
theorem ck_29_3 {o : Nat} (h : kx o 29) : kx (crX o 3) 33 := (show ∀ o : Nat, o < 154 → kdX o = 29 → crX o 3 < 154 ∧ kdX (crX o 3) = 33 by decide +kernel) o h.1 h.2
theorem ck_29_4 {o : Nat} (h : kx o 29) : kx (crX o 4) 34 := (show ∀ o : Nat, o < 154 → kdX o = 29 → crX o 4 < 154 ∧ kdX (crX o 4) = 34 by decide +kernel) o h.1 h.2
theorem ck_29_5 {o : Nat} (h : kx o 29) : kx (crX o 5) 35 := (show ∀ o : Nat, o < 154 → kdX o = 29 → crX o 5 < 154 ∧ kdX (crX o 5) = 35 by decide +kernel) o h.1 h.2
theorem ck_29_6 {o : Nat} (h : kx o 29) : kx (crX o 6) 36 := (show ∀ o : Nat, o < 154 → kdX o = 29 → crX o 6 < 154 ∧ kdX (crX o 6) = 36 by decide +kernel) o h.1 h.2
theorem ck_29_7 {o : Nat} (h : kx o 29) : kx (crX o 7) 37 := (show ∀ o : Nat, o < 154 → kdX o = 29 → crX o 7 < 154 ∧ kdX (crX o 7) = 37 by decide +kernel) o h.1 h.2
theorem ck_29_8 {o : Nat} (h : kx o 29) : kx (crX o 8) 38 := (show ∀ o : Nat, o < 154 → kdX o = 29 → crX o 8 < 154 ∧ kdX (crX o 8) = 38 by decide +kernel) o h.1 h.2
theorem ce_43 {o j : Nat} (h : kx o 43) (hj : j < 4) : kx (crX o j) 44 := (show ∀ o : Nat, o < 154 → kdX o = 43 → ∀ j : Nat, j < 4 → crX o j < 154 ∧ kdX (crX o j) = 44 by decide +kernel) o h.1 h.2 j hj
theorem ce_49 {o j : Nat} (h : kx o 49) (hj : j < 10) : kx (crX o j) 50 := (show ∀ o : Nat, o < 154 → kdX o = 49 → ∀ j : Nat, j < 10 → crX o j < 154 ∧ kdX (crX o j) = 50 by decide +kernel) o h.1 h.2 j hj
theorem ce_52 {o j : Nat} (h : kx o 52) (hj : j < 4) : kx (crX o j) 11 := (show ∀ o : Nat, o < 154 → kdX o = 52 → ∀ j : Nat, j < 4 → crX o j < 154 ∧ kdX (crX o j) = 11 by decide +kernel) o h.1 h.2 j hj
theorem ce_53 {o j : Nat} (h : kx o 53) (hj : j < 4) : kx (crX o j) 11 := (show ∀ o : Nat, o < 154 → kdX o = 53 → ∀ j : Nat, j < 4 → crX o j < 154 ∧ kdX (crX o j) = 11 by decide +kernel) o h.1 h.2 j hj
theorem hiX0 : ∀ w ∈ u_ws RX0 TX0 8, w ∈ WT := by
  intro w h
  obtain ⟨k, hk, rfl⟩ := List.mem_map.mp h
  have hk := List.mem_range.mp hk
  rcases (show k = 0 ∨ k = 1 ∨ k = 2 ∨ k = 3 ∨ k = 4 ∨ k = 5 ∨ k = 6 ∨ k = 7 by omega) with rfl | rfl | rfl | rfl | rfl | rfl | rfl | rfl
  · exact t_266
  · exact t_268
  · exact t_270
  · exact t_272
  · exact t_274
  · exact t_276
  · exact t_278
  · exact t_280
theorem teX0 : ∃ ty0 : Nat → FieldType, ∀ k, k < 8 → parseFieldDescriptor (TX0 k).2.2.1 = some (ty0 k) := by
  have h : ∀ k, k < 8 → (parseFieldDescriptor (TX0 k).2.2.1).isSome = true := by decide +kernel
  exact ⟨fun k => (parseFieldDescriptor (TX0 k).2.2.1).getD .int, fun k hk => by
    have h1 := h k hk
    cases h2 : parseFieldDescriptor (TX0 k).2.2.1 with
    | none => rw [h2] at h1; cases h1
    | some x => show some x = some ((parseFieldDescriptor (TX0 k).2.2.1).getD .int); rw [h2]; rfl⟩
theorem nnX0 : ∀ a, a < 8 → ∀ b, b < 8 → a ≠ b → (TX0 a).2.1 ≠ (TX0 b).2.1 := by decide +kernel
theorem hiX1 : ∀ w ∈ u_ws RX1 TX1 2, w ∈ WT := by
  intro w h
  obtain ⟨k, hk, rfl⟩ := List.mem_map.mp h
  have hk := List.mem_range.mp hk
  rcases (show k = 0 ∨ k = 1 by omega) with rfl | rfl
  · exact t_172
  · exact t_174
theorem teX1 : ∃ ty0 : Nat → FieldType, ∀ k, k < 2 → parseFieldDescriptor (TX1 k).2.2.1 = some (ty0 k) := by
  have h : ∀ k, k < 2 → (parseFieldDescriptor (TX1 k).2.2.1).isSome = true := by decide +kernel
  exact ⟨fun k => (parseFieldDescriptor (TX1 k).2.2.1).getD .int, fun k hk => by
    have h1 := h k hk
    cases h2 : parseFieldDescriptor (TX1 k).2.2.1 with
    | none => rw [h2] at h1; cases h1
    | some x => show some x = some ((parseFieldDescriptor (TX1 k).2.2.1).getD .int); rw [h2]; rfl⟩
theorem nnX1 : ∀ a, a < 2 → ∀ b, b < 2 → a ≠ b → (TX1 a).2.1 ≠ (TX1 b).2.1 := by decide +kernel
theorem hiX2 : ∀ w ∈ u_ws RX2 TX2 4, w ∈ WT := by
  intro w h
  obtain ⟨k, hk, rfl⟩ := List.mem_map.mp h
  have hk := List.mem_range.mp hk
  rcases (show k = 0 ∨ k = 1 ∨ k = 2 ∨ k = 3 by omega) with rfl | rfl | rfl | rfl
  · exact t_212
  · exact t_214
  · exact t_216
  · exact t_218
theorem teX2 : ∃ ty0 : Nat → FieldType, ∀ k, k < 4 → parseFieldDescriptor (TX2 k).2.2.1 = some (ty0 k) := by
  have h : ∀ k, k < 4 → (parseFieldDescriptor (TX2 k).2.2.1).isSome = true := by decide +kernel
  exact ⟨fun k => (parseFieldDescriptor (TX2 k).2.2.1).getD .int, fun k hk => by
    have h1 := h k hk
    cases h2 : parseFieldDescriptor (TX2 k).2.2.1 with
    | none => rw [h2] at h1; cases h1
    | some x => show some x = some ((parseFieldDescriptor (TX2 k).2.2.1).getD .int); rw [h2]; rfl⟩
theorem nnX2 : ∀ a, a < 4 → ∀ b, b < 4 → a ≠ b → (TX2 a).2.1 ≠ (TX2 b).2.1 := by decide +kernel
theorem hiX3 : ∀ w ∈ u_ws RX3 TX3 11, w ∈ WT := by
  intro w h
  obtain ⟨k, hk, rfl⟩ := List.mem_map.mp h
  have hk := List.mem_range.mp hk
  rcases (show k = 0 ∨ k = 1 ∨ k = 2 ∨ k = 3 ∨ k = 4 ∨ k = 5 ∨ k = 6 ∨ k = 7 ∨ k = 8 ∨ k = 9 ∨ k = 10 by omega) with rfl | rfl | rfl | rfl | rfl | rfl | rfl | rfl | rfl | rfl | rfl
  · exact t_347
  · exact t_349
  · exact t_351
  · exact t_353
  · exact t_355
  · exact t_357
  · exact t_359
  · exact t_361
  · exact t_363
  · exact t_365
  · exact t_367
theorem teX3 : ∃ ty0 : Nat → FieldType, ∀ k, k < 11 → parseFieldDescriptor (TX3 k).2.2.1 = some (ty0 k) := by
  have h : ∀ k, k < 11 → (parseFieldDescriptor (TX3 k).2.2.1).isSome = true := by decide +kernel
  exact ⟨fun k => (parseFieldDescriptor (TX3 k).2.2.1).getD .int, fun k hk => by
    have h1 := h k hk
    cases h2 : parseFieldDescriptor (TX3 k).2.2.1 with
    | none => rw [h2] at h1; cases h1
    | some x => show some x = some ((parseFieldDescriptor (TX3 k).2.2.1).getD .int); rw [h2]; rfl⟩
theorem nnX3 : ∀ a, a < 11 → ∀ b, b < 11 → a ≠ b → (TX3 a).2.1 ≠ (TX3 b).2.1 := by decide +kernel
theorem hiX4 : ∀ w ∈ u_ws RX4 TX4 3, w ∈ WT := by
  intro w h
  obtain ⟨k, hk, rfl⟩ := List.mem_map.mp h
  have hk := List.mem_range.mp hk
  rcases (show k = 0 ∨ k = 1 ∨ k = 2 by omega) with rfl | rfl | rfl
  · exact t_188
  · exact t_190
  · exact t_192
theorem teX4 : ∃ ty0 : Nat → FieldType, ∀ k, k < 3 → parseFieldDescriptor (TX4 k).2.2.1 = some (ty0 k) := by
  have h : ∀ k, k < 3 → (parseFieldDescriptor (TX4 k).2.2.1).isSome = true := by decide +kernel
  exact ⟨fun k => (parseFieldDescriptor (TX4 k).2.2.1).getD .int, fun k hk => by
    have h1 := h k hk
    cases h2 : parseFieldDescriptor (TX4 k).2.2.1 with
    | none => rw [h2] at h1; cases h1
    | some x => show some x = some ((parseFieldDescriptor (TX4 k).2.2.1).getD .int); rw [h2]; rfl⟩
theorem nnX4 : ∀ a, a < 3 → ∀ b, b < 3 → a ≠ b → (TX4 a).2.1 ≠ (TX4 b).2.1 := by decide +kernel
theorem hiX5 : ∀ w ∈ u_ws RX5 TX5 4, w ∈ WT := by
  intro w h
  obtain ⟨k, hk, rfl⟩ := List.mem_map.mp h
  have hk := List.mem_range.mp hk
  rcases (show k = 0 ∨ k = 1 ∨ k = 2 ∨ k = 3 by omega) with rfl | rfl | rfl | rfl
  · exact t_239
  · exact t_241
  · exact t_243
  · exact t_245
theorem teX5 : ∃ ty0 : Nat → FieldType, ∀ k, k < 4 → parseFieldDescriptor (TX5 k).2.2.1 = some (ty0 k) := by
  have h : ∀ k, k < 4 → (parseFieldDescriptor (TX5 k).2.2.1).isSome = true := by decide +kernel
  exact ⟨fun k => (parseFieldDescriptor (TX5 k).2.2.1).getD .int, fun k hk => by
    have h1 := h k hk
    cases h2 : parseFieldDescriptor (TX5 k).2.2.1 with
    | none => rw [h2] at h1; cases h1
    | some x => show some x = some ((parseFieldDescriptor (TX5 k).2.2.1).getD .int); rw [h2]; rfl⟩
theorem nnX5 : ∀ a, a < 4 → ∀ b, b < 4 → a ≠ b → (TX5 a).2.1 ≠ (TX5 b).2.1 := by decide +kernel
theorem hiX6 : ∀ w ∈ u_ws RX6 TX6 5, w ∈ WT := by
  intro w h
  obtain ⟨k, hk, rfl⟩ := List.mem_map.mp h
  have hk := List.mem_range.mp hk
  rcases (show k = 0 ∨ k = 1 ∨ k = 2 ∨ k = 3 ∨ k = 4 by omega) with rfl | rfl | rfl | rfl | rfl
  · exact t_540
  · exact t_542
  · exact t_544
  · exact t_546
  · exact t_548
theorem teX6 : ∃ ty0 : Nat → FieldType, ∀ k, k < 5 → parseFieldDescriptor (TX6 k).2.2.1 = some (ty0 k) := by
  have h : ∀ k, k < 5 → (parseFieldDescriptor (TX6 k).2.2.1).isSome = true := by decide +kernel
  exact ⟨fun k => (parseFieldDescriptor (TX6 k).2.2.1).getD .int, fun k hk => by
    have h1 := h k hk
    cases h2 : parseFieldDescriptor (TX6 k).2.2.1 with
    | none => rw [h2] at h1; cases h1
    | some x => show some x = some ((parseFieldDescriptor (TX6 k).2.2.1).getD .int); rw [h2]; rfl⟩
theorem nnX6 : ∀ a, a < 5 → ∀ b, b < 5 → a ≠ b → (TX6 a).2.1 ≠ (TX6 b).2.1 := by decide +kernel
theorem hiX7 : ∀ w ∈ u_ws RX7 TX7 9, w ∈ WT := by
  intro w h
  obtain ⟨k, hk, rfl⟩ := List.mem_map.mp h
  have hk := List.mem_range.mp hk
  rcases (show k = 0 ∨ k = 1 ∨ k = 2 ∨ k = 3 ∨ k = 4 ∨ k = 5 ∨ k = 6 ∨ k = 7 ∨ k = 8 by omega) with rfl | rfl | rfl | rfl | rfl | rfl | rfl | rfl | rfl
  · exact t_512
  · exact t_514
  · exact t_516
  · exact t_518
  · exact t_520
  · exact t_522
  · exact t_524
  · exact t_526
  · exact t_528
theorem teX7 : ∃ ty0 : Nat → FieldType, ∀ k, k < 9 → parseFieldDescriptor (TX7 k).2.2.1 = some (ty0 k) := by
  have h : ∀ k, k < 9 → (parseFieldDescriptor (TX7 k).2.2.1).isSome = true := by decide +kernel
  exact ⟨fun k => (parseFieldDescriptor (TX7 k).2.2.1).getD .int, fun k hk => by
    have h1 := h k hk
    cases h2 : parseFieldDescriptor (TX7 k).2.2.1 with
    | none => rw [h2] at h1; cases h1
    | some x => show some x = some ((parseFieldDescriptor (TX7 k).2.2.1).getD .int); rw [h2]; rfl⟩
theorem nnX7 : ∀ a, a < 9 → ∀ b, b < 9 → a ≠ b → (TX7 a).2.1 ≠ (TX7 b).2.1 := by decide +kernel
theorem hiX8 : ∀ w ∈ u_ws RX8 TX8 6, w ∈ WT := by
  intro w h
  obtain ⟨k, hk, rfl⟩ := List.mem_map.mp h
  have hk := List.mem_range.mp hk
  rcases (show k = 0 ∨ k = 1 ∨ k = 2 ∨ k = 3 ∨ k = 4 ∨ k = 5 by omega) with rfl | rfl | rfl | rfl | rfl | rfl
  · exact t_298
  · exact t_300
  · exact t_302
  · exact t_304
  · exact t_306
  · exact t_308
theorem teX8 : ∃ ty0 : Nat → FieldType, ∀ k, k < 6 → parseFieldDescriptor (TX8 k).2.2.1 = some (ty0 k) := by
  have h : ∀ k, k < 6 → (parseFieldDescriptor (TX8 k).2.2.1).isSome = true := by decide +kernel
  exact ⟨fun k => (parseFieldDescriptor (TX8 k).2.2.1).getD .int, fun k hk => by
    have h1 := h k hk
    cases h2 : parseFieldDescriptor (TX8 k).2.2.1 with
    | none => rw [h2] at h1; cases h1
    | some x => show some x = some ((parseFieldDescriptor (TX8 k).2.2.1).getD .int); rw [h2]; rfl⟩
theorem nnX8 : ∀ a, a < 6 → ∀ b, b < 6 → a ≠ b → (TX8 a).2.1 ≠ (TX8 b).2.1 := by decide +kernel
theorem hiX9 : ∀ w ∈ u_ws RX9 TX9 11, w ∈ WT := by
  intro w h
  obtain ⟨k, hk, rfl⟩ := List.mem_map.mp h
  have hk := List.mem_range.mp hk
  rcases (show k = 0 ∨ k = 1 ∨ k = 2 ∨ k = 3 ∨ k = 4 ∨ k = 5 ∨ k = 6 ∨ k = 7 ∨ k = 8 ∨ k = 9 ∨ k = 10 by omega) with rfl | rfl | rfl | rfl | rfl | rfl | rfl | rfl | rfl | rfl | rfl
  · exact t_401
  · exact t_403
  · exact t_405
  · exact t_407
  · exact t_409
  · exact t_411
  · exact t_413
  · exact t_415
  · exact t_417
  · exact t_419
  · exact t_421
theorem teX9 : ∃ ty0 : Nat → FieldType, ∀ k, k < 11 → parseFieldDescriptor (TX9 k).2.2.1 = some (ty0 k) := by
  have h : ∀ k, k < 11 → (parseFieldDescriptor (TX9 k).2.2.1).isSome = true := by decide +kernel
  exact ⟨fun k => (parseFieldDescriptor (TX9 k).2.2.1).getD .int, fun k hk => by
    have h1 := h k hk
    cases h2 : parseFieldDescriptor (TX9 k).2.2.1 with
    | none => rw [h2] at h1; cases h1
    | some x => show some x = some ((parseFieldDescriptor (TX9 k).2.2.1).getD .int); rw [h2]; rfl⟩
theorem nnX9 : ∀ a, a < 11 → ∀ b, b < 11 → a ≠ b → (TX9 a).2.1 ≠ (TX9 b).2.1 := by decide +kernel
theorem hiX10 : ∀ w ∈ u_ws RX10 TX10 15, w ∈ WT := by
  intro w h
  obtain ⟨k, hk, rfl⟩ := List.mem_map.mp h
  have hk := List.mem_range.mp hk
  rcases (show k = 0 ∨ k = 1 ∨ k = 2 ∨ k = 3 ∨ k = 4 ∨ k = 5 ∨ k = 6 ∨ k = 7 ∨ k = 8 ∨ k = 9 ∨ k = 10 ∨ k = 11 ∨ k = 12 ∨ k = 13 ∨ k = 14 by omega) with rfl | rfl | rfl | rfl | rfl | rfl | rfl | rfl | rfl | rfl | rfl | rfl | rfl | rfl | rfl
  · exact t_581
  · exact t_583
  · exact t_585
  · exact t_587
  · exact t_589
  · exact t_591
  · exact t_593
  · exact t_595
  · exact t_597
  · exact t_599
  · exact t_601
  · exact t_603
  · exact t_605
  · exact t_607
  · exact t_609
theorem teX10 : ∃ ty0 : Nat → FieldType, ∀ k, k < 15 → parseFieldDescriptor (TX10 k).2.2.1 = some (ty0 k) := by
  have h : ∀ k, k < 15 → (parseFieldDescriptor (TX10 k).2.2.1).isSome = true := by decide +kernel
  exact ⟨fun k => (parseFieldDescriptor (TX10 k).2.2.1).getD .int, fun k hk => by
    have h1 := h k hk
    cases h2 : parseFieldDescriptor (TX10 k).2.2.1 with
    | none => rw [h2] at h1; cases h1
    | some x => show some x = some ((parseFieldDescriptor (TX10 k).2.2.1).getD .int); rw [h2]; rfl⟩
theorem nnX10 : ∀ a, a < 15 → ∀ b, b < 15 → a ≠ b → (TX10 a).2.1 ≠ (TX10 b).2.1 := by decide +kernel
theorem hiX11 : ∀ w ∈ u_ws RX11 TX11 15, w ∈ WT := by
  intro w h
  obtain ⟨k, hk, rfl⟩ := List.mem_map.mp h
  have hk := List.mem_range.mp hk
  rcases (show k = 0 ∨ k = 1 ∨ k = 2 ∨ k = 3 ∨ k = 4 ∨ k = 5 ∨ k = 6 ∨ k = 7 ∨ k = 8 ∨ k = 9 ∨ k = 10 ∨ k = 11 ∨ k = 12 ∨ k = 13 ∨ k = 14 by omega) with rfl | rfl | rfl | rfl | rfl | rfl | rfl | rfl | rfl | rfl | rfl | rfl | rfl | rfl | rfl
  · exact t_628
  · exact t_630
  · exact t_632
  · exact t_634
  · exact t_636
  · exact t_638
  · exact t_640
  · exact t_642
  · exact t_644
  · exact t_646
  · exact t_648
  · exact t_650
  · exact t_652
  · exact t_654
  · exact t_656
theorem teX11 : ∃ ty0 : Nat → FieldType, ∀ k, k < 15 → parseFieldDescriptor (TX11 k).2.2.1 = some (ty0 k) := by
  have h : ∀ k, k < 15 → (parseFieldDescriptor (TX11 k).2.2.1).isSome = true := by decide +kernel
  exact ⟨fun k => (parseFieldDescriptor (TX11 k).2.2.1).getD .int, fun k hk => by
    have h1 := h k hk
    cases h2 : parseFieldDescriptor (TX11 k).2.2.1 with
    | none => rw [h2] at h1; cases h1
    | some x => show some x = some ((parseFieldDescriptor (TX11 k).2.2.1).getD .int); rw [h2]; rfl⟩
theorem nnX11 : ∀ a, a < 15 → ∀ b, b < 15 → a ≠ b → (TX11 a).2.1 ≠ (TX11 b).2.1 := by decide +kernel
theorem ffX0_9 : FF RX0 9 0 0 8 := ⟨RX0, TX0, rfl, by decide, hiX0, t_257⟩
theorem ffX0_15 : FF RX0 15 0 1 8 := ⟨RX0, TX0, rfl, by decide, hiX0, t_258⟩
theorem ffX0_18 : FF RX0 18 0 2 8 := ⟨RX0, TX0, rfl, by decide, hiX0, t_259⟩
theorem ffX0_23 : FF RX0 23 0 3 8 := ⟨RX0, TX0, rfl, by decide, hiX0, t_260⟩
theorem ffX0_27 : FF RX0 27 0 4 8 := ⟨RX0, TX0, rfl, by decide, hiX0, t_261⟩
theorem ffX0_31 : FF RX0 31 0 5 8 := ⟨RX0, TX0, rfl, by decide, hiX0, t_262⟩
theorem pfX0_31 : PF RX0 31 0 5 8 .int := ⟨RX0, TX0, ⟨rfl, by decide, hiX0, t_262⟩, teX0, nnX0, rfl, rfl⟩
theorem ffX0_35 : FF RX0 35 0 7 8 := ⟨RX0, TX0, rfl, by decide, hiX0, t_264⟩
theorem pfX0_35 : PF RX0 35 0 7 8 .int := ⟨RX0, TX0, ⟨rfl, by decide, hiX0, t_264⟩, teX0, nnX0, rfl, rfl⟩
theorem ffX0_51 : FF RX0 51 0 6 8 := ⟨RX0, TX0, rfl, by decide, hiX0, t_263⟩
theorem pfX0_51 : PF RX0 51 0 6 8 .int := ⟨RX0, TX0, ⟨rfl, by decide, hiX0, t_263⟩, teX0, nnX0, rfl, rfl⟩
theorem ffX1_15 : FF RX1 15 1 0 2 := ⟨RX1, TX1, rfl, by decide, hiX1, t_166⟩
theorem ffX1_21 : FF RX1 21 1 1 2 := ⟨RX1, TX1, rfl, by decide, hiX1, t_168⟩
theorem pfX1_21 : PF RX1 21 1 1 2 .int := ⟨RX1, TX1, ⟨rfl, by decide, hiX1, t_168⟩, teX1, nnX1, rfl, rfl⟩
theorem ffX10_11 : FF RX10 11 10 0 15 := ⟨RX10, TX10, rfl, by decide, hiX10, t_561⟩
theorem ffX10_17 : FF RX10 17 10 1 15 := ⟨RX10, TX10, rfl, by decide, hiX10, t_563⟩
theorem ffX10_21 : FF RX10 21 10 3 15 := ⟨RX10, TX10, rfl, by decide, hiX10, t_565⟩
theorem ffX10_25 : FF RX10 25 10 6 15 := ⟨RX10, TX10, rfl, by decide, hiX10, t_569⟩
theorem ffX10_29 : FF RX10 29 10 13 15 := ⟨RX10, TX10, rfl, by decide, hiX10, t_579⟩
theorem pfX10_29 : PF RX10 29 10 13 15 (.object RX9) := ⟨RX10, TX10, ⟨rfl, by decide, hiX10, t_579⟩, teX10, nnX10, rfl, rfl⟩
theorem ffX10_33 : FF RX10 33 10 14 15 := ⟨RX10, TX10, rfl, by decide, hiX10, t_580⟩
theorem pfX10_33 : PF RX10 33 10 14 15 (.object RX5) := ⟨RX10, TX10, ⟨rfl, by decide, hiX10, t_580⟩, teX10, nnX10, rfl, rfl⟩
theorem ffX10_37 : FF RX10 37 10 2 15 := ⟨RX10, TX10, rfl, by decide, hiX10, t_564⟩
theorem ffX10_44 : FF RX10 44 9 6 11 := ⟨RX9, TX9, rfl, by decide, hiX9, t_387⟩
theorem ffX10_53 : FF RX10 53 9 2 11 := ⟨RX9, TX9, rfl, by decide, hiX9, t_379⟩
theorem ffX10_74 : FF RX10 74 9 3 11 := ⟨RX9, TX9, rfl, by decide, hiX9, t_383⟩
theorem ffX10_80 : FF RX10 80 10 12 15 := ⟨RX10, TX10, rfl, by decide, hiX10, t_578⟩
theorem pfX10_80 : PF RX10 80 10 12 15 .int := ⟨RX10, TX10, ⟨rfl, by decide, hiX10, t_578⟩, teX10, nnX10, rfl, rfl⟩
theorem ffX10_92 : FF RX10 92 5 1 4 := ⟨RX5, TX5, rfl, by decide, hiX5, t_231⟩
theorem ffX10_95 : FF RX10 95 5 0 4 := ⟨RX5, TX5, rfl, by decide, hiX5, t_228⟩
theorem ffX10_103 : FF RX10 103 2 3 4 := ⟨RX2, TX2, rfl, by decide, hiX2, t_210⟩
theorem ffX10_104 : FF RX10 104 2 0 4 := ⟨RX2, TX2, rfl, by decide, hiX2, t_203⟩
theorem ffX10_128 : FF RX10 128 10 4 15 := ⟨RX10, TX10, rfl, by decide, hiX10, t_566⟩
theorem pfX10_128 : PF RX10 128 10 4 15 .int := ⟨RX10, TX10, ⟨rfl, by decide, hiX10, t_566⟩, teX10, nnX10, rfl, rfl⟩
theorem ffX10_131 : FF RX10 131 10 5 15 := ⟨RX10, TX10, rfl, by decide, hiX10, t_567⟩
theorem pfX10_131 : PF RX10 131 10 5 15 .int := ⟨RX10, TX10, ⟨rfl, by decide, hiX10, t_567⟩, teX10, nnX10, rfl, rfl⟩
theorem ffX10_163 : FF RX10 163 2 1 4 := ⟨RX2, TX2, rfl, by decide, hiX2, t_207⟩
theorem ffX10_170 : FF RX10 170 5 2 4 := ⟨RX5, TX5, rfl, by decide, hiX5, t_235⟩
theorem ffX10_179 : FF RX10 179 5 3 4 := ⟨RX5, TX5, rfl, by decide, hiX5, t_238⟩
theorem ffX10_183 : FF RX10 183 10 7 15 := ⟨RX10, TX10, rfl, by decide, hiX10, t_570⟩
theorem pfX10_183 : PF RX10 183 10 7 15 .int := ⟨RX10, TX10, ⟨rfl, by decide, hiX10, t_570⟩, teX10, nnX10, rfl, rfl⟩
theorem ffX10_186 : FF RX10 186 10 8 15 := ⟨RX10, TX10, rfl, by decide, hiX10, t_572⟩
theorem pfX10_186 : PF RX10 186 10 8 15 .int := ⟨RX10, TX10, ⟨rfl, by decide, hiX10, t_572⟩, teX10, nnX10, rfl, rfl⟩
theorem ffX10_189 : FF RX10 189 10 9 15 := ⟨RX10, TX10, rfl, by decide, hiX10, t_573⟩
theorem pfX10_189 : PF RX10 189 10 9 15 .int := ⟨RX10, TX10, ⟨rfl, by decide, hiX10, t_573⟩, teX10, nnX10, rfl, rfl⟩
theorem ffX10_192 : FF RX10 192 10 10 15 := ⟨RX10, TX10, rfl, by decide, hiX10, t_575⟩
theorem pfX10_192 : PF RX10 192 10 10 15 .int := ⟨RX10, TX10, ⟨rfl, by decide, hiX10, t_575⟩, teX10, nnX10, rfl, rfl⟩
theorem ffX10_195 : FF RX10 195 10 11 15 := ⟨RX10, TX10, rfl, by decide, hiX10, t_576⟩
theorem pfX10_195 : PF RX10 195 10 11 15 .boolean := ⟨RX10, TX10, ⟨rfl, by decide, hiX10, t_576⟩, teX10, nnX10, rfl, rfl⟩
theorem ffX10_203 : FF RX10 203 9 10 11 := ⟨RX9, TX9, rfl, by decide, hiX9, t_400⟩
theorem ffX11_14 : FF RX11 14 11 0 15 := ⟨RX11, TX11, rfl, by decide, hiX11, t_613⟩
theorem ffX11_18 : FF RX11 18 11 1 15 := ⟨RX11, TX11, rfl, by decide, hiX11, t_614⟩
theorem ffX11_24 : FF RX11 24 11 2 15 := ⟨RX11, TX11, rfl, by decide, hiX11, t_615⟩
theorem ffX11_33 : FF RX11 33 11 3 15 := ⟨RX11, TX11, rfl, by decide, hiX11, t_616⟩
theorem ffX11_37 : FF RX11 37 11 4 15 := ⟨RX11, TX11, rfl, by decide, hiX11, t_617⟩
theorem ffX11_43 : FF RX11 43 11 5 15 := ⟨RX11, TX11, rfl, by decide, hiX11, t_618⟩
theorem ffX11_47 : FF RX11 47 11 6 15 := ⟨RX11, TX11, rfl, by decide, hiX11, t_619⟩
theorem ffX11_53 : FF RX11 53 11 7 15 := ⟨RX11, TX11, rfl, by decide, hiX11, t_620⟩
theorem ffX11_60 : FF RX11 60 11 8 15 := ⟨RX11, TX11, rfl, by decide, hiX11, t_621⟩
theorem ffX11_64 : FF RX11 64 11 9 15 := ⟨RX11, TX11, rfl, by decide, hiX11, t_622⟩
theorem ffX11_71 : FF RX11 71 11 10 15 := ⟨RX11, TX11, rfl, by decide, hiX11, t_623⟩
theorem pfX11_71 : PF RX11 71 11 10 15 (.object RX9) := ⟨RX11, TX11, ⟨rfl, by decide, hiX11, t_623⟩, teX11, nnX11, rfl, rfl⟩
theorem ffX11_75 : FF RX11 75 11 11 15 := ⟨RX11, TX11, rfl, by decide, hiX11, t_624⟩
theorem pfX11_75 : PF RX11 75 11 11 15 (.object RX9) := ⟨RX11, TX11, ⟨rfl, by decide, hiX11, t_624⟩, teX11, nnX11, rfl, rfl⟩
theorem ffX11_83 : FF RX11 83 11 12 15 := ⟨RX11, TX11, rfl, by decide, hiX11, t_625⟩
theorem ffX11_92 : FF RX11 92 11 13 15 := ⟨RX11, TX11, rfl, by decide, hiX11, t_626⟩
theorem ffX11_96 : FF RX11 96 11 14 15 := ⟨RX11, TX11, rfl, by decide, hiX11, t_627⟩
theorem pfX11_96 : PF RX11 96 11 14 15 .int := ⟨RX11, TX11, ⟨rfl, by decide, hiX11, t_627⟩, teX11, nnX11, rfl, rfl⟩
theorem ffX11_100 : FF RX11 100 1 1 2 := ⟨RX1, TX1, rfl, by decide, hiX1, t_170⟩
theorem pfX11_100 : PF RX11 100 1 1 2 .int := ⟨RX1, TX1, ⟨rfl, by decide, hiX1, t_170⟩, teX1, nnX1, rfl, rfl⟩
theorem ffX11_123 : FF RX11 123 9 8 11 := ⟨RX9, TX9, rfl, by decide, hiX9, t_393⟩
theorem ffX11_130 : FF RX11 130 9 6 11 := ⟨RX9, TX9, rfl, by decide, hiX9, t_389⟩
theorem ffX11_137 : FF RX11 137 10 0 15 := ⟨RX10, TX10, rfl, by decide, hiX10, t_562⟩
theorem ffX11_145 : FF RX11 145 9 9 11 := ⟨RX9, TX9, rfl, by decide, hiX9, t_396⟩
theorem ffX11_153 : FF RX11 153 8 2 6 := ⟨RX8, TX8, rfl, by decide, hiX8, t_292⟩
theorem pfX11_153 : PF RX11 153 8 2 6 .int := ⟨RX8, TX8, ⟨rfl, by decide, hiX8, t_292⟩, teX8, nnX8, rfl, rfl⟩
theorem ffX11_156 : FF RX11 156 6 3 5 := ⟨RX6, TX6, rfl, by decide, hiX6, t_537⟩
theorem ffX11_159 : FF RX11 159 6 4 5 := ⟨RX6, TX6, rfl, by decide, hiX6, t_539⟩
theorem ffX11_162 : FF RX11 162 9 0 11 := ⟨RX9, TX9, rfl, by decide, hiX9, t_373⟩
theorem ffX11_166 : FF RX11 166 3 9 11 := ⟨RX3, TX3, rfl, by decide, hiX3, t_343⟩
theorem ffX11_170 : FF RX11 170 3 10 11 := ⟨RX3, TX3, rfl, by decide, hiX3, t_346⟩
theorem ffX11_173 : FF RX11 173 9 7 11 := ⟨RX9, TX9, rfl, by decide, hiX9, t_391⟩
theorem ffX11_176 : FF RX11 176 5 1 4 := ⟨RX5, TX5, rfl, by decide, hiX5, t_232⟩
theorem pfX11_176 : PF RX11 176 5 1 4 .int := ⟨RX5, TX5, ⟨rfl, by decide, hiX5, t_232⟩, teX5, nnX5, rfl, rfl⟩
theorem ffX11_177 : FF RX11 177 5 2 4 := ⟨RX5, TX5, rfl, by decide, hiX5, t_234⟩
theorem pfX11_177 : PF RX11 177 5 2 4 .int := ⟨RX5, TX5, ⟨rfl, by decide, hiX5, t_234⟩, teX5, nnX5, rfl, rfl⟩
theorem ffX11_180 : FF RX11 180 5 3 4 := ⟨RX5, TX5, rfl, by decide, hiX5, t_237⟩
theorem pfX11_180 : PF RX11 180 5 3 4 .int := ⟨RX5, TX5, ⟨rfl, by decide, hiX5, t_237⟩, teX5, nnX5, rfl, rfl⟩
theorem ffX11_185 : FF RX11 185 0 7 8 := ⟨RX0, TX0, rfl, by decide, hiX0, t_265⟩
theorem ffX11_191 : FF RX11 191 3 0 11 := ⟨RX3, TX3, rfl, by decide, hiX3, t_324⟩
theorem ffX11_201 : FF RX11 201 3 4 11 := ⟨RX3, TX3, rfl, by decide, hiX3, t_329⟩
theorem ffX11_231 : FF RX11 231 2 3 4 := ⟨RX2, TX2, rfl, by decide, hiX2, t_211⟩
theorem ffX11_232 : FF RX11 232 2 0 4 := ⟨RX2, TX2, rfl, by decide, hiX2, t_204⟩
theorem ffX11_238 : FF RX11 238 2 1 4 := ⟨RX2, TX2, rfl, by decide, hiX2, t_206⟩
theorem ffX11_245 : FF RX11 245 9 2 11 := ⟨RX9, TX9, rfl, by decide, hiX9, t_380⟩
theorem ffX11_266 : FF RX11 266 9 1 11 := ⟨RX9, TX9, rfl, by decide, hiX9, t_377⟩
theorem ffX11_288 : FF RX11 288 3 6 11 := ⟨RX3, TX3, rfl, by decide, hiX3, t_335⟩
theorem ffX11_291 : FF RX11 291 3 5 11 := ⟨RX3, TX3, rfl, by decide, hiX3, t_332⟩
theorem ffX11_294 : FF RX11 294 3 7 11 := ⟨RX3, TX3, rfl, by decide, hiX3, t_338⟩
theorem ffX11_297 : FF RX11 297 3 8 11 := ⟨RX3, TX3, rfl, by decide, hiX3, t_341⟩
theorem ffX11_314 : FF RX11 314 10 5 15 := ⟨RX10, TX10, rfl, by decide, hiX10, t_568⟩
theorem ffX11_331 : FF RX11 331 10 7 15 := ⟨RX10, TX10, rfl, by decide, hiX10, t_571⟩
theorem ffX11_334 : FF RX11 334 10 9 15 := ⟨RX10, TX10, rfl, by decide, hiX10, t_574⟩
theorem ffX11_337 : FF RX11 337 10 11 15 := ⟨RX10, TX10, rfl, by decide, hiX10, t_577⟩
theorem ffX11_372 : FF RX11 372 8 4 6 := ⟨RX8, TX8, rfl, by decide, hiX8, t_296⟩
theorem ffX11_375 : FF RX11 375 8 3 6 := ⟨RX8, TX8, rfl, by decide, hiX8, t_294⟩
theorem ffX11_417 : FF RX11 417 5 0 4 := ⟨RX5, TX5, rfl, by decide, hiX5, t_229⟩
theorem ffX2_15 : FF RX2 15 2 0 4 := ⟨RX2, TX2, rfl, by decide, hiX2, t_202⟩
theorem ffX2_21 : FF RX2 21 2 1 4 := ⟨RX2, TX2, rfl, by decide, hiX2, t_205⟩
theorem ffX2_24 : FF RX2 24 2 2 4 := ⟨RX2, TX2, rfl, by decide, hiX2, t_208⟩
theorem ffX2_28 : FF RX2 28 2 3 4 := ⟨RX2, TX2, rfl, by decide, hiX2, t_209⟩
theorem pfX2_28 : PF RX2 28 2 3 4 .int := ⟨RX2, TX2, ⟨rfl, by decide, hiX2, t_209⟩, teX2, nnX2, rfl, rfl⟩
theorem ffX2_41 : FF RX2 41 4 1 3 := ⟨RX4, TX4, rfl, by decide, hiX4, t_186⟩
theorem ffX3_9 : FF RX3 9 3 0 11 := ⟨RX3, TX3, rfl, by decide, hiX3, t_323⟩
theorem ffX3_15 : FF RX3 15 3 1 11 := ⟨RX3, TX3, rfl, by decide, hiX3, t_325⟩
theorem ffX3_18 : FF RX3 18 3 2 11 := ⟨RX3, TX3, rfl, by decide, hiX3, t_326⟩
theorem ffX3_21 : FF RX3 21 3 3 11 := ⟨RX3, TX3, rfl, by decide, hiX3, t_327⟩
theorem ffX3_24 : FF RX3 24 3 4 11 := ⟨RX3, TX3, rfl, by decide, hiX3, t_328⟩
theorem ffX3_27 : FF RX3 27 3 5 11 := ⟨RX3, TX3, rfl, by decide, hiX3, t_330⟩
theorem ffX3_30 : FF RX3 30 3 6 11 := ⟨RX3, TX3, rfl, by decide, hiX3, t_333⟩
theorem ffX3_33 : FF RX3 33 3 7 11 := ⟨RX3, TX3, rfl, by decide, hiX3, t_336⟩
theorem ffX3_36 : FF RX3 36 3 8 11 := ⟨RX3, TX3, rfl, by decide, hiX3, t_339⟩
theorem ffX3_39 : FF RX3 39 3 9 11 := ⟨RX3, TX3, rfl, by decide, hiX3, t_342⟩
theorem pfX3_39 : PF RX3 39 3 9 11 .int := ⟨RX3, TX3, ⟨rfl, by decide, hiX3, t_342⟩, teX3, nnX3, rfl, rfl⟩
theorem ffX3_43 : FF RX3 43 3 10 11 := ⟨RX3, TX3, rfl, by decide, hiX3, t_345⟩
theorem pfX3_43 : PF RX3 43 3 10 11 .int := ⟨RX3, TX3, ⟨rfl, by decide, hiX3, t_345⟩, teX3, nnX3, rfl, rfl⟩
theorem ffX4_9 : FF RX4 9 4 0 3 := ⟨RX4, TX4, rfl, by decide, hiX4, t_184⟩
theorem ffX4_18 : FF RX4 18 4 2 3 := ⟨RX4, TX4, rfl, by decide, hiX4, t_187⟩
theorem pfX4_18 : PF RX4 18 4 2 3 .int := ⟨RX4, TX4, ⟨rfl, by decide, hiX4, t_187⟩, teX4, nnX4, rfl, rfl⟩
theorem ffX5_9 : FF RX5 9 5 0 4 := ⟨RX5, TX5, rfl, by decide, hiX5, t_227⟩
theorem ffX5_24 : FF RX5 24 5 1 4 := ⟨RX5, TX5, rfl, by decide, hiX5, t_230⟩
theorem pfX5_24 : PF RX5 24 5 1 4 .int := ⟨RX5, TX5, ⟨rfl, by decide, hiX5, t_230⟩, teX5, nnX5, rfl, rfl⟩
theorem ffX5_28 : FF RX5 28 5 2 4 := ⟨RX5, TX5, rfl, by decide, hiX5, t_233⟩
theorem pfX5_28 : PF RX5 28 5 2 4 .int := ⟨RX5, TX5, ⟨rfl, by decide, hiX5, t_233⟩, teX5, nnX5, rfl, rfl⟩
theorem ffX5_31 : FF RX5 31 5 3 4 := ⟨RX5, TX5, rfl, by decide, hiX5, t_236⟩
theorem pfX5_31 : PF RX5 31 5 3 4 .int := ⟨RX5, TX5, ⟨rfl, by decide, hiX5, t_236⟩, teX5, nnX5, rfl, rfl⟩
theorem ffX6_12 : FF RX6 12 6 0 5 := ⟨RX6, TX6, rfl, by decide, hiX6, t_533⟩
theorem ffX6_20 : FF RX6 20 6 1 5 := ⟨RX6, TX6, rfl, by decide, hiX6, t_534⟩
theorem pfX6_23 : PF RX6 23 6 4 5 .int := ⟨RX6, TX6, ⟨rfl, by decide, hiX6, t_538⟩, teX6, nnX6, rfl, rfl⟩
theorem ffX6_27 : FF RX6 27 6 2 5 := ⟨RX6, TX6, rfl, by decide, hiX6, t_535⟩
theorem pfX6_27 : PF RX6 27 6 2 5 (.object RX9) := ⟨RX6, TX6, ⟨rfl, by decide, hiX6, t_535⟩, teX6, nnX6, rfl, rfl⟩
theorem ffX6_40 : FF RX6 40 7 4 9 := ⟨RX7, TX7, rfl, by decide, hiX7, t_502⟩
theorem ffX6_43 : FF RX6 43 7 8 9 := ⟨RX7, TX7, rfl, by decide, hiX7, t_510⟩
theorem ffX6_72 : FF RX6 72 7 5 9 := ⟨RX7, TX7, rfl, by decide, hiX7, t_504⟩
theorem ffX6_79 : FF RX6 79 9 6 11 := ⟨RX9, TX9, rfl, by decide, hiX9, t_388⟩
theorem pfX6_82 : PF RX6 82 6 3 5 .int := ⟨RX6, TX6, ⟨rfl, by decide, hiX6, t_536⟩, teX6, nnX6, rfl, rfl⟩
theorem ffX6_86 : FF RX6 86 7 6 9 := ⟨RX7, TX7, rfl, by decide, hiX7, t_507⟩
theorem ffX6_95 : FF RX6 95 7 7 9 := ⟨RX7, TX7, rfl, by decide, hiX7, t_509⟩
theorem ffX6_102 : FF RX6 102 9 9 11 := ⟨RX9, TX9, rfl, by decide, hiX9, t_397⟩
theorem pfX6_102 : PF RX6 102 9 9 11 .int := ⟨RX9, TX9, ⟨rfl, by decide, hiX9, t_397⟩, teX9, nnX9, rfl, rfl⟩
theorem ffX6_105 : FF RX6 105 9 10 11 := ⟨RX9, TX9, rfl, by decide, hiX9, t_399⟩
theorem pfX6_105 : PF RX6 105 9 10 11 .int := ⟨RX9, TX9, ⟨rfl, by decide, hiX9, t_399⟩, teX9, nnX9, rfl, rfl⟩
theorem ffX6_108 : FF RX6 108 9 0 11 := ⟨RX9, TX9, rfl, by decide, hiX9, t_374⟩
theorem ffX6_112 : FF RX6 112 3 9 11 := ⟨RX3, TX3, rfl, by decide, hiX3, t_344⟩
theorem ffX6_156 : FF RX6 156 9 8 11 := ⟨RX9, TX9, rfl, by decide, hiX9, t_394⟩
theorem ffX6_159 : FF RX6 159 9 1 11 := ⟨RX9, TX9, rfl, by decide, hiX9, t_376⟩
theorem ffX6_187 : FF RX6 187 3 6 11 := ⟨RX3, TX3, rfl, by decide, hiX3, t_334⟩
theorem ffX6_190 : FF RX6 190 3 5 11 := ⟨RX3, TX3, rfl, by decide, hiX3, t_331⟩
theorem ffX6_193 : FF RX6 193 3 7 11 := ⟨RX3, TX3, rfl, by decide, hiX3, t_337⟩
theorem ffX6_196 : FF RX6 196 3 8 11 := ⟨RX3, TX3, rfl, by decide, hiX3, t_340⟩
theorem ffX6_218 : FF RX6 218 9 2 11 := ⟨RX9, TX9, rfl, by decide, hiX9, t_381⟩
theorem ffX7_37 : FF RX7 37 7 0 9 := ⟨RX7, TX7, rfl, by decide, hiX7, t_498⟩
theorem ffX7_41 : FF RX7 41 7 1 9 := ⟨RX7, TX7, rfl, by decide, hiX7, t_499⟩
theorem pfX7_41 : PF RX7 41 7 1 9 (.array .int) := ⟨RX7, TX7, ⟨rfl, by decide, hiX7, t_499⟩, teX7, nnX7, rfl, rfl⟩
theorem ffX7_54 : FF RX7 54 1 0 2 := ⟨RX1, TX1, rfl, by decide, hiX1, t_167⟩
theorem ffX7_59 : FF RX7 59 1 1 2 := ⟨RX1, TX1, rfl, by decide, hiX1, t_171⟩
theorem ffX7_71 : FF RX7 71 7 2 9 := ⟨RX7, TX7, rfl, by decide, hiX7, t_500⟩
theorem pfX7_71 : PF RX7 71 7 2 9 .int := ⟨RX7, TX7, ⟨rfl, by decide, hiX7, t_500⟩, teX7, nnX7, rfl, rfl⟩
theorem ffX7_72 : FF RX7 72 7 3 9 := ⟨RX7, TX7, rfl, by decide, hiX7, t_501⟩
theorem pfX7_72 : PF RX7 72 7 3 9 .int := ⟨RX7, TX7, ⟨rfl, by decide, hiX7, t_501⟩, teX7, nnX7, rfl, rfl⟩
theorem ffX7_75 : FF RX7 75 7 4 9 := ⟨RX7, TX7, rfl, by decide, hiX7, t_503⟩
theorem pfX7_75 : PF RX7 75 7 4 9 .int := ⟨RX7, TX7, ⟨rfl, by decide, hiX7, t_503⟩, teX7, nnX7, rfl, rfl⟩
theorem ffX7_81 : FF RX7 81 7 5 9 := ⟨RX7, TX7, rfl, by decide, hiX7, t_505⟩
theorem pfX7_81 : PF RX7 81 7 5 9 .int := ⟨RX7, TX7, ⟨rfl, by decide, hiX7, t_505⟩, teX7, nnX7, rfl, rfl⟩
theorem pfX7_84 : PF RX7 84 7 6 9 .int := ⟨RX7, TX7, ⟨rfl, by decide, hiX7, t_506⟩, teX7, nnX7, rfl, rfl⟩
theorem ffX7_87 : FF RX7 87 7 8 9 := ⟨RX7, TX7, rfl, by decide, hiX7, t_511⟩
theorem pfX7_87 : PF RX7 87 7 8 9 .int := ⟨RX7, TX7, ⟨rfl, by decide, hiX7, t_511⟩, teX7, nnX7, rfl, rfl⟩
theorem ffX7_90 : FF RX7 90 7 7 9 := ⟨RX7, TX7, rfl, by decide, hiX7, t_508⟩
theorem pfX7_90 : PF RX7 90 7 7 9 .int := ⟨RX7, TX7, ⟨rfl, by decide, hiX7, t_508⟩, teX7, nnX7, rfl, rfl⟩
theorem ffX8_9 : FF RX8 9 8 0 6 := ⟨RX8, TX8, rfl, by decide, hiX8, t_289⟩
theorem ffX8_15 : FF RX8 15 8 1 6 := ⟨RX8, TX8, rfl, by decide, hiX8, t_290⟩
theorem ffX8_18 : FF RX8 18 8 3 6 := ⟨RX8, TX8, rfl, by decide, hiX8, t_293⟩
theorem ffX8_21 : FF RX8 21 8 5 6 := ⟨RX8, TX8, rfl, by decide, hiX8, t_297⟩
theorem ffX8_24 : FF RX8 24 1 1 2 := ⟨RX1, TX1, rfl, by decide, hiX1, t_169⟩
theorem ffX8_49 : FF RX8 49 8 2 6 := ⟨RX8, TX8, rfl, by decide, hiX8, t_291⟩
theorem pfX8_49 : PF RX8 49 8 2 6 .int := ⟨RX8, TX8, ⟨rfl, by decide, hiX8, t_291⟩, teX8, nnX8, rfl, rfl⟩
theorem ffX8_55 : FF RX8 55 8 4 6 := ⟨RX8, TX8, rfl, by decide, hiX8, t_295⟩
theorem pfX8_55 : PF RX8 55 8 4 6 .int := ⟨RX8, TX8, ⟨rfl, by decide, hiX8, t_295⟩, teX8, nnX8, rfl, rfl⟩
theorem ffX9_12 : FF RX9 12 9 0 11 := ⟨RX9, TX9, rfl, by decide, hiX9, t_372⟩
theorem ffX9_18 : FF RX9 18 9 1 11 := ⟨RX9, TX9, rfl, by decide, hiX9, t_375⟩
theorem ffX9_22 : FF RX9 22 9 2 11 := ⟨RX9, TX9, rfl, by decide, hiX9, t_378⟩
theorem ffX9_25 : FF RX9 25 9 3 11 := ⟨RX9, TX9, rfl, by decide, hiX9, t_382⟩
theorem ffX9_28 : FF RX9 28 9 4 11 := ⟨RX9, TX9, rfl, by decide, hiX9, t_384⟩
theorem ffX9_33 : FF RX9 33 9 5 11 := ⟨RX9, TX9, rfl, by decide, hiX9, t_385⟩
theorem ffX9_39 : FF RX9 39 9 6 11 := ⟨RX9, TX9, rfl, by decide, hiX9, t_386⟩
theorem pfX9_39 : PF RX9 39 9 6 11 .int := ⟨RX9, TX9, ⟨rfl, by decide, hiX9, t_386⟩, teX9, nnX9, rfl, rfl⟩
theorem ffX9_43 : FF RX9 43 9 7 11 := ⟨RX9, TX9, rfl, by decide, hiX9, t_390⟩
theorem pfX9_43 : PF RX9 43 9 7 11 .int := ⟨RX9, TX9, ⟨rfl, by decide, hiX9, t_390⟩, teX9, nnX9, rfl, rfl⟩
theorem ffX9_46 : FF RX9 46 9 8 11 := ⟨RX9, TX9, rfl, by decide, hiX9, t_392⟩
theorem pfX9_46 : PF RX9 46 9 8 11 .int := ⟨RX9, TX9, ⟨rfl, by decide, hiX9, t_392⟩, teX9, nnX9, rfl, rfl⟩
theorem pfX9_49 : PF RX9 49 9 9 11 .int := ⟨RX9, TX9, ⟨rfl, by decide, hiX9, t_395⟩, teX9, nnX9, rfl, rfl⟩
theorem pfX9_52 : PF RX9 52 9 10 11 .int := ⟨RX9, TX9, ⟨rfl, by decide, hiX9, t_398⟩, teX9, nnX9, rfl, rfl⟩
/-! The bounds that hold in the class at every moment. -/
def loX : Nat → Nat → Int := fun k f => match k, f with
  | 0, 14 => 0
  | 1, 1 => 0
  | 3, 1 => 0
  | 5, 2 => -2147483648
  | 8, 3 => 0
  | 11, 3 => 0
  | 14, 1 => 0
  | 14, 2 => -2147483648
  | 14, 3 => -2147483648
  | 16, 5 => -2147483648
  | 16, 6 => 0
  | 16, 7 => 0
  | 22, 2 => 0
  | 22, 4 => 0
  | 28, 6 => 0
  | 28, 7 => -2147483648
  | 28, 8 => 0
  | 28, 9 => -2147483648
  | 28, 10 => -2147483648
  | 29, 9 => 0
  | 29, 10 => 0
  | 45, 3 => -2147483648
  | 45, 4 => -2147483648
  | 46, 2 => 0
  | 46, 3 => 0
  | 46, 4 => -2147483648
  | 46, 5 => -2147483648
  | 46, 6 => -2147483648
  | 46, 7 => -2147483648
  | 46, 8 => -2147483648
  | 51, 4 => -2147483648
  | 51, 5 => -2147483648
  | 51, 7 => -2147483648
  | 51, 8 => -2147483648
  | 51, 9 => -2147483648
  | 51, 10 => 0
  | 51, 11 => 0
  | 51, 12 => -2147483648
  | _, _ => 0
def hiX : Nat → Nat → Int := fun k f => match k, f with
  | 0, 14 => 2147483647
  | 1, 1 => 1600
  | 3, 1 => 1024
  | 5, 2 => 2147483647
  | 8, 3 => 4096
  | 11, 3 => 2048
  | 14, 1 => 12
  | 14, 2 => 2147483647
  | 14, 3 => 2147483647
  | 16, 5 => 2147483647
  | 16, 6 => 20
  | 16, 7 => 20
  | 22, 2 => 16
  | 22, 4 => 256
  | 28, 6 => 4
  | 28, 7 => 2147483647
  | 28, 8 => 12
  | 28, 9 => 2147483647
  | 28, 10 => 2147483647
  | 29, 9 => 4
  | 29, 10 => 24
  | 45, 3 => 2147483647
  | 45, 4 => 2147483647
  | 46, 2 => 1600
  | 46, 3 => 1600
  | 46, 4 => 2147483647
  | 46, 5 => 2147483647
  | 46, 6 => 2147483647
  | 46, 7 => 2147483647
  | 46, 8 => 2147483647
  | 51, 4 => 2147483647
  | 51, 5 => 2147483647
  | 51, 7 => 2147483647
  | 51, 8 => 2147483647
  | 51, 9 => 2147483647
  | 51, 10 => 999
  | 51, 11 => 1
  | 51, 12 => 2147483647
  | _, _ => 0
def laX : Nat → Int := fun k => match k with
  | 2 => 0
  | 4 => 0
  | 6 => -2147483648
  | 7 => -2147483648
  | 9 => -2147483648
  | 10 => -2147483648
  | 12 => -2147483648
  | 13 => -2147483648
  | 15 => -1
  | 17 => -2147483648
  | 18 => -2147483648
  | 19 => -2147483648
  | 21 => -2147483648
  | 23 => -2147483648
  | 24 => -2147483648
  | 25 => -2147483648
  | 26 => -2147483648
  | 27 => -2147483648
  | 30 => -2147483648
  | 31 => -2147483648
  | 32 => -2147483648
  | 33 => -2147483648
  | 34 => -2147483648
  | 35 => -2147483648
  | 36 => -2147483648
  | 37 => -2147483648
  | 38 => -2147483648
  | 39 => -2147483648
  | 40 => -2147483648
  | 41 => -2147483648
  | 42 => -2147483648
  | 44 => -2147483648
  | 47 => -2147483648
  | 48 => -2147483648
  | 50 => -2147483648
  | 54 => -9223372036854775808
  | 55 => -2147483648
  | _ => 0
def haX : Nat → Int := fun k => match k with
  | 2 => 255
  | 4 => 255
  | 6 => 2147483647
  | 7 => 2147483647
  | 9 => 2147483647
  | 10 => 2147483647
  | 12 => 2147483647
  | 13 => 2147483647
  | 15 => 255
  | 17 => 2147483647
  | 18 => 2147483647
  | 19 => 2147483647
  | 21 => 2147483647
  | 23 => 2147483647
  | 24 => 2147483647
  | 25 => 2147483647
  | 26 => 2147483647
  | 27 => 2147483647
  | 30 => 2147483647
  | 31 => 2147483647
  | 32 => 2147483647
  | 33 => 2147483647
  | 34 => 2147483647
  | 35 => 2147483647
  | 36 => 2147483647
  | 37 => 2147483647
  | 38 => 2147483647
  | 39 => 2147483647
  | 40 => 2048
  | 41 => 2147483647
  | 42 => 2147483647
  | 44 => 2147483647
  | 47 => 2147483647
  | 48 => 2147483647
  | 50 => 2147483647
  | 54 => 9223372036854775807
  | 55 => 2147483647
  | _ => 0
def arX : Nat → Bool := fun k => (shX k).1 == 1 || (shX k).1 == 2
def rfX (P : PH) : Prop := (0 ≤ P 0 10 ∧ kx (P 0 10).toNat 28) ∧ (0 ≤ P 0 11 ∧ kx (P 0 11).toNat 28) ∧ (0 ≤ P 110 2 ∧ kx (P 110 2).toNat 28) ∧ (0 ≤ P 111 1) ∧ (0 ≤ P 125 13 ∧ kx (P 125 13).toNat 28) ∧ (0 ≤ P 125 14 ∧ kx (P 125 14).toNat 14)
def BdX (P : PH) : Prop := (∀ o : Nat, o < 154 → ∀ j : Nat, (shX (kdX o)).1 = 0 → j < (shX (kdX o)).2.2 → ftX (kdX o) j < 2 → loX (kdX o) j ≤ P o (j : Int) ∧ P o (j : Int) ≤ hiX (kdX o) j) ∧ (∀ o : Nat, o < 154 → arX (kdX o) = true → ∀ k : Int, laX (kdX o) ≤ P o k ∧ P o k ≤ haX (kdX o)) ∧ rfX P
/-- a write of a number keeps the bounds -/
theorem BdX.s {P : PH} {o : Nat} {z : Int} (j : Nat) (h : BdX P) (ho : o < 154) (hs : (shX (kdX o)).1 = 0) (hj : ftX (kdX o) j < 2) (hz : loX (kdX o) j ≤ z ∧ z ≤ hiX (kdX o) j) (hr : rfX (up P o (j : Int) z)) : BdX (up P o (j : Int) z) := by
  refine ⟨fun o1 h1 j1 h2 h3 h4 => ?_, fun o1 h1 h2 k => ?_, hr⟩
  · by_cases e : o1 = o
    · subst e
      by_cases e2 : j1 = j
      · subst e2; rw [up_same]; exact hz
      · rw [up_k (fun q => e2 (by omega))]; exact h.1 o1 h1 j1 h2 h3 h4
    · rw [up_o e]; exact h.1 o1 h1 j1 h2 h3 h4
  · rw [up_o (fun e => by rw [e] at h2; unfold arX at h2; rw [hs] at h2; cases h2)]; exact h.2.1 o1 h1 h2 k
theorem BdX.a {P : PH} {o : Nat} {k z : Int} (h : BdX P) (ho : o < 154) (hs : arX (kdX o) = true) (hz : laX (kdX o) ≤ z ∧ z ≤ haX (kdX o)) (hr : rfX (up P o k z)) : BdX (up P o k z) := by
  refine ⟨fun o1 h1 j1 h2 h3 h4 => ?_, fun o1 h1 h2 q => ?_, hr⟩
  · rw [up_o (fun e => by rw [← e] at hs; unfold arX at hs; rw [h2] at hs; cases hs)]; exact h.1 o1 h1 j1 h2 h3 h4
  · by_cases e : o1 = o
    · subst e
      by_cases e2 : q = k
      · rw [e2, up_same]; exact hz
      · rw [up_k e2]; exact h.2.1 o1 h1 h2 q
    · rw [up_o e]; exact h.2.1 o1 h1 h2 q
/-- a write that is none of the references' -/
theorem rfX.o {P : PH} {o : Nat} {k z : Int} (h : rfX P) (hn : ¬ (0 = o ∧ 10 = k) ∧ ¬ (0 = o ∧ 11 = k) ∧ ¬ (110 = o ∧ 2 = k) ∧ ¬ (111 = o ∧ 1 = k) ∧ ¬ (125 = o ∧ 13 = k) ∧ ¬ (125 = o ∧ 14 = k)) : rfX (up P o k z) := by
  obtain ⟨n0, n1, n2, n3, n4, n5⟩ := hn
  unfold rfX
  rw [show up P o k z 0 10 = P 0 10 from by unfold up; rw [if_neg n0], show up P o k z 0 11 = P 0 11 from by unfold up; rw [if_neg n1], show up P o k z 110 2 = P 110 2 from by unfold up; rw [if_neg n2], show up P o k z 111 1 = P 111 1 from by unfold up; rw [if_neg n3], show up P o k z 125 13 = P 125 13 from by unfold up; rw [if_neg n4], show up P o k z 125 14 = P 125 14 from by unfold up; rw [if_neg n5]]
  exact h
theorem BdX.r {P : PH} {o : Nat} {z : Int} (j : Nat) (h : BdX P) (ho : o < 154) (hs : (shX (kdX o)).1 = 0) (hj : ftX (kdX o) j = 2) (hr : rfX (up P o (j : Int) z)) : BdX (up P o (j : Int) z) := by
  refine ⟨fun o1 h1 j1 h2 h3 h4 => ?_, fun o1 h1 h2 k => ?_, hr⟩
  · by_cases e : o1 = o
    · subst e
      rw [up_k (fun q => by have e3 : j1 = j := by omega
                            rw [e3, hj] at h4; omega)]; exact h.1 o1 h1 j1 h2 h3 h4
    · rw [up_o e]; exact h.1 o1 h1 j1 h2 h3 h4
  · rw [up_o (fun e => by rw [e] at h2; unfold arX at h2; rw [hs] at h2; cases h2)]; exact h.2.1 o1 h1 h2 k
theorem bx_0_14 {P : PH} {o : Nat} (h : BdX P) (hk : kx o 0) : 0 ≤ P o 14 ∧ P o 14 ≤ 2147483647 := by
  have q := h.1 o hk.1 14 (by rw [hk.2]; rfl) (by rw [hk.2]; decide) (by rw [hk.2]; decide)
  rw [hk.2] at q
  exact q
theorem by_0_14 {P : PH} {o : Nat} {z : Int} (h : BdX P) (hk : kx o 0) (hz : 0 ≤ z ∧ z ≤ 2147483647) : BdX (up P o 14 z) := BdX.s 14 h hk.1 (by rw [hk.2]; rfl) (by rw [hk.2]; decide) (by rw [hk.2]; exact hz) (rfX.o h.2.2 ⟨fun q => absurd q.2 (by decide), fun q => absurd q.2 (by decide), fun q => by have := hk.2; rw [← q.1] at this; exact absurd this (by decide), fun q => by have := hk.2; rw [← q.1] at this; exact absurd this (by decide), fun q => by have := hk.2; rw [← q.1] at this; exact absurd this (by decide), fun q => by have := hk.2; rw [← q.1] at this; exact absurd this (by decide)⟩)
theorem bx_1_1 {P : PH} {o : Nat} (h : BdX P) (hk : kx o 1) : 0 ≤ P o 1 ∧ P o 1 ≤ 1600 := by
  have q := h.1 o hk.1 1 (by rw [hk.2]; rfl) (by rw [hk.2]; decide) (by rw [hk.2]; decide)
  rw [hk.2] at q
  exact q
theorem by_1_1 {P : PH} {o : Nat} {z : Int} (h : BdX P) (hk : kx o 1) (hz : 0 ≤ z ∧ z ≤ 1600) : BdX (up P o 1 z) := BdX.s 1 h hk.1 (by rw [hk.2]; rfl) (by rw [hk.2]; decide) (by rw [hk.2]; exact hz) (rfX.o h.2.2 ⟨fun q => by have := hk.2; rw [← q.1] at this; exact absurd this (by decide), fun q => by have := hk.2; rw [← q.1] at this; exact absurd this (by decide), fun q => by have := hk.2; rw [← q.1] at this; exact absurd this (by decide), fun q => by have := hk.2; rw [← q.1] at this; exact absurd this (by decide), fun q => by have := hk.2; rw [← q.1] at this; exact absurd this (by decide), fun q => by have := hk.2; rw [← q.1] at this; exact absurd this (by decide)⟩)
theorem bx_2 {P : PH} {o : Nat} {k : Int} (h : BdX P) (hk : kx o 2) : 0 ≤ P o k ∧ P o k ≤ 255 := by
  have q := h.2.1 o hk.1 (by rw [hk.2]; rfl) k
  rw [hk.2] at q
  exact q
theorem by_2 {P : PH} {o : Nat} {k z : Int} (h : BdX P) (hk : kx o 2) (hz : 0 ≤ z ∧ z ≤ 255) : BdX (up P o k z) := BdX.a h hk.1 (by rw [hk.2]; rfl) (by rw [hk.2]; exact hz) (rfX.o h.2.2 ⟨fun q => by have := hk.2; rw [← q.1] at this; exact absurd this (by decide), fun q => by have := hk.2; rw [← q.1] at this; exact absurd this (by decide), fun q => by have := hk.2; rw [← q.1] at this; exact absurd this (by decide), fun q => by have := hk.2; rw [← q.1] at this; exact absurd this (by decide), fun q => by have := hk.2; rw [← q.1] at this; exact absurd this (by decide), fun q => by have := hk.2; rw [← q.1] at this; exact absurd this (by decide)⟩)
theorem bx_3_1 {P : PH} {o : Nat} (h : BdX P) (hk : kx o 3) : 0 ≤ P o 1 ∧ P o 1 ≤ 1024 := by
  have q := h.1 o hk.1 1 (by rw [hk.2]; rfl) (by rw [hk.2]; decide) (by rw [hk.2]; decide)
  rw [hk.2] at q
  exact q
theorem by_3_1 {P : PH} {o : Nat} {z : Int} (h : BdX P) (hk : kx o 3) (hz : 0 ≤ z ∧ z ≤ 1024) : BdX (up P o 1 z) := BdX.s 1 h hk.1 (by rw [hk.2]; rfl) (by rw [hk.2]; decide) (by rw [hk.2]; exact hz) (rfX.o h.2.2 ⟨fun q => by have := hk.2; rw [← q.1] at this; exact absurd this (by decide), fun q => by have := hk.2; rw [← q.1] at this; exact absurd this (by decide), fun q => by have := hk.2; rw [← q.1] at this; exact absurd this (by decide), fun q => by have := hk.2; rw [← q.1] at this; exact absurd this (by decide), fun q => by have := hk.2; rw [← q.1] at this; exact absurd this (by decide), fun q => by have := hk.2; rw [← q.1] at this; exact absurd this (by decide)⟩)
theorem bx_4 {P : PH} {o : Nat} {k : Int} (h : BdX P) (hk : kx o 4) : 0 ≤ P o k ∧ P o k ≤ 255 := by
  have q := h.2.1 o hk.1 (by rw [hk.2]; rfl) k
  rw [hk.2] at q
  exact q
theorem by_4 {P : PH} {o : Nat} {k z : Int} (h : BdX P) (hk : kx o 4) (hz : 0 ≤ z ∧ z ≤ 255) : BdX (up P o k z) := BdX.a h hk.1 (by rw [hk.2]; rfl) (by rw [hk.2]; exact hz) (rfX.o h.2.2 ⟨fun q => by have := hk.2; rw [← q.1] at this; exact absurd this (by decide), fun q => by have := hk.2; rw [← q.1] at this; exact absurd this (by decide), fun q => by have := hk.2; rw [← q.1] at this; exact absurd this (by decide), fun q => by have := hk.2; rw [← q.1] at this; exact absurd this (by decide), fun q => by have := hk.2; rw [← q.1] at this; exact absurd this (by decide), fun q => by have := hk.2; rw [← q.1] at this; exact absurd this (by decide)⟩)
theorem bx_5_2 {P : PH} {o : Nat} (h : BdX P) (hk : kx o 5) : (-2147483648) ≤ P o 2 ∧ P o 2 ≤ 2147483647 := by
  have q := h.1 o hk.1 2 (by rw [hk.2]; rfl) (by rw [hk.2]; decide) (by rw [hk.2]; decide)
  rw [hk.2] at q
  exact q
theorem by_5_2 {P : PH} {o : Nat} {z : Int} (h : BdX P) (hk : kx o 5) (hz : (-2147483648) ≤ z ∧ z ≤ 2147483647) : BdX (up P o 2 z) := BdX.s 2 h hk.1 (by rw [hk.2]; rfl) (by rw [hk.2]; decide) (by rw [hk.2]; exact hz) (rfX.o h.2.2 ⟨fun q => by have := hk.2; rw [← q.1] at this; exact absurd this (by decide), fun q => by have := hk.2; rw [← q.1] at this; exact absurd this (by decide), fun q => by have := hk.2; rw [← q.1] at this; exact absurd this (by decide), fun q => by have := hk.2; rw [← q.1] at this; exact absurd this (by decide), fun q => by have := hk.2; rw [← q.1] at this; exact absurd this (by decide), fun q => by have := hk.2; rw [← q.1] at this; exact absurd this (by decide)⟩)
theorem bx_6 {P : PH} {o : Nat} {k : Int} (h : BdX P) (hk : kx o 6) : (-2147483648) ≤ P o k ∧ P o k ≤ 2147483647 := by
  have q := h.2.1 o hk.1 (by rw [hk.2]; rfl) k
  rw [hk.2] at q
  exact q
theorem by_6 {P : PH} {o : Nat} {k z : Int} (h : BdX P) (hk : kx o 6) (hz : (-2147483648) ≤ z ∧ z ≤ 2147483647) : BdX (up P o k z) := BdX.a h hk.1 (by rw [hk.2]; rfl) (by rw [hk.2]; exact hz) (rfX.o h.2.2 ⟨fun q => by have := hk.2; rw [← q.1] at this; exact absurd this (by decide), fun q => by have := hk.2; rw [← q.1] at this; exact absurd this (by decide), fun q => by have := hk.2; rw [← q.1] at this; exact absurd this (by decide), fun q => by have := hk.2; rw [← q.1] at this; exact absurd this (by decide), fun q => by have := hk.2; rw [← q.1] at this; exact absurd this (by decide), fun q => by have := hk.2; rw [← q.1] at this; exact absurd this (by decide)⟩)
theorem bx_7 {P : PH} {o : Nat} {k : Int} (h : BdX P) (hk : kx o 7) : (-2147483648) ≤ P o k ∧ P o k ≤ 2147483647 := by
  have q := h.2.1 o hk.1 (by rw [hk.2]; rfl) k
  rw [hk.2] at q
  exact q
theorem by_7 {P : PH} {o : Nat} {k z : Int} (h : BdX P) (hk : kx o 7) (hz : (-2147483648) ≤ z ∧ z ≤ 2147483647) : BdX (up P o k z) := BdX.a h hk.1 (by rw [hk.2]; rfl) (by rw [hk.2]; exact hz) (rfX.o h.2.2 ⟨fun q => by have := hk.2; rw [← q.1] at this; exact absurd this (by decide), fun q => by have := hk.2; rw [← q.1] at this; exact absurd this (by decide), fun q => by have := hk.2; rw [← q.1] at this; exact absurd this (by decide), fun q => by have := hk.2; rw [← q.1] at this; exact absurd this (by decide), fun q => by have := hk.2; rw [← q.1] at this; exact absurd this (by decide), fun q => by have := hk.2; rw [← q.1] at this; exact absurd this (by decide)⟩)
theorem bx_8_3 {P : PH} {o : Nat} (h : BdX P) (hk : kx o 8) : 0 ≤ P o 3 ∧ P o 3 ≤ 4096 := by
  have q := h.1 o hk.1 3 (by rw [hk.2]; rfl) (by rw [hk.2]; decide) (by rw [hk.2]; decide)
  rw [hk.2] at q
  exact q
theorem by_8_3 {P : PH} {o : Nat} {z : Int} (h : BdX P) (hk : kx o 8) (hz : 0 ≤ z ∧ z ≤ 4096) : BdX (up P o 3 z) := BdX.s 3 h hk.1 (by rw [hk.2]; rfl) (by rw [hk.2]; decide) (by rw [hk.2]; exact hz) (rfX.o h.2.2 ⟨fun q => by have := hk.2; rw [← q.1] at this; exact absurd this (by decide), fun q => by have := hk.2; rw [← q.1] at this; exact absurd this (by decide), fun q => by have := hk.2; rw [← q.1] at this; exact absurd this (by decide), fun q => by have := hk.2; rw [← q.1] at this; exact absurd this (by decide), fun q => by have := hk.2; rw [← q.1] at this; exact absurd this (by decide), fun q => by have := hk.2; rw [← q.1] at this; exact absurd this (by decide)⟩)
theorem bx_9 {P : PH} {o : Nat} {k : Int} (h : BdX P) (hk : kx o 9) : (-2147483648) ≤ P o k ∧ P o k ≤ 2147483647 := by
  have q := h.2.1 o hk.1 (by rw [hk.2]; rfl) k
  rw [hk.2] at q
  exact q
theorem by_9 {P : PH} {o : Nat} {k z : Int} (h : BdX P) (hk : kx o 9) (hz : (-2147483648) ≤ z ∧ z ≤ 2147483647) : BdX (up P o k z) := BdX.a h hk.1 (by rw [hk.2]; rfl) (by rw [hk.2]; exact hz) (rfX.o h.2.2 ⟨fun q => by have := hk.2; rw [← q.1] at this; exact absurd this (by decide), fun q => by have := hk.2; rw [← q.1] at this; exact absurd this (by decide), fun q => by have := hk.2; rw [← q.1] at this; exact absurd this (by decide), fun q => by have := hk.2; rw [← q.1] at this; exact absurd this (by decide), fun q => by have := hk.2; rw [← q.1] at this; exact absurd this (by decide), fun q => by have := hk.2; rw [← q.1] at this; exact absurd this (by decide)⟩)
theorem bx_10 {P : PH} {o : Nat} {k : Int} (h : BdX P) (hk : kx o 10) : (-2147483648) ≤ P o k ∧ P o k ≤ 2147483647 := by
  have q := h.2.1 o hk.1 (by rw [hk.2]; rfl) k
  rw [hk.2] at q
  exact q
theorem by_10 {P : PH} {o : Nat} {k z : Int} (h : BdX P) (hk : kx o 10) (hz : (-2147483648) ≤ z ∧ z ≤ 2147483647) : BdX (up P o k z) := BdX.a h hk.1 (by rw [hk.2]; rfl) (by rw [hk.2]; exact hz) (rfX.o h.2.2 ⟨fun q => by have := hk.2; rw [← q.1] at this; exact absurd this (by decide), fun q => by have := hk.2; rw [← q.1] at this; exact absurd this (by decide), fun q => by have := hk.2; rw [← q.1] at this; exact absurd this (by decide), fun q => by have := hk.2; rw [← q.1] at this; exact absurd this (by decide), fun q => by have := hk.2; rw [← q.1] at this; exact absurd this (by decide), fun q => by have := hk.2; rw [← q.1] at this; exact absurd this (by decide)⟩)
theorem bx_11_3 {P : PH} {o : Nat} (h : BdX P) (hk : kx o 11) : 0 ≤ P o 3 ∧ P o 3 ≤ 2048 := by
  have q := h.1 o hk.1 3 (by rw [hk.2]; rfl) (by rw [hk.2]; decide) (by rw [hk.2]; decide)
  rw [hk.2] at q
  exact q
theorem by_11_3 {P : PH} {o : Nat} {z : Int} (h : BdX P) (hk : kx o 11) (hz : 0 ≤ z ∧ z ≤ 2048) : BdX (up P o 3 z) := BdX.s 3 h hk.1 (by rw [hk.2]; rfl) (by rw [hk.2]; decide) (by rw [hk.2]; exact hz) (rfX.o h.2.2 ⟨fun q => by have := hk.2; rw [← q.1] at this; exact absurd this (by decide), fun q => by have := hk.2; rw [← q.1] at this; exact absurd this (by decide), fun q => by have := hk.2; rw [← q.1] at this; exact absurd this (by decide), fun q => by have := hk.2; rw [← q.1] at this; exact absurd this (by decide), fun q => by have := hk.2; rw [← q.1] at this; exact absurd this (by decide), fun q => by have := hk.2; rw [← q.1] at this; exact absurd this (by decide)⟩)
theorem bx_12 {P : PH} {o : Nat} {k : Int} (h : BdX P) (hk : kx o 12) : (-2147483648) ≤ P o k ∧ P o k ≤ 2147483647 := by
  have q := h.2.1 o hk.1 (by rw [hk.2]; rfl) k
  rw [hk.2] at q
  exact q
theorem by_12 {P : PH} {o : Nat} {k z : Int} (h : BdX P) (hk : kx o 12) (hz : (-2147483648) ≤ z ∧ z ≤ 2147483647) : BdX (up P o k z) := BdX.a h hk.1 (by rw [hk.2]; rfl) (by rw [hk.2]; exact hz) (rfX.o h.2.2 ⟨fun q => by have := hk.2; rw [← q.1] at this; exact absurd this (by decide), fun q => by have := hk.2; rw [← q.1] at this; exact absurd this (by decide), fun q => by have := hk.2; rw [← q.1] at this; exact absurd this (by decide), fun q => by have := hk.2; rw [← q.1] at this; exact absurd this (by decide), fun q => by have := hk.2; rw [← q.1] at this; exact absurd this (by decide), fun q => by have := hk.2; rw [← q.1] at this; exact absurd this (by decide)⟩)
theorem bx_13 {P : PH} {o : Nat} {k : Int} (h : BdX P) (hk : kx o 13) : (-2147483648) ≤ P o k ∧ P o k ≤ 2147483647 := by
  have q := h.2.1 o hk.1 (by rw [hk.2]; rfl) k
  rw [hk.2] at q
  exact q
theorem by_13 {P : PH} {o : Nat} {k z : Int} (h : BdX P) (hk : kx o 13) (hz : (-2147483648) ≤ z ∧ z ≤ 2147483647) : BdX (up P o k z) := BdX.a h hk.1 (by rw [hk.2]; rfl) (by rw [hk.2]; exact hz) (rfX.o h.2.2 ⟨fun q => by have := hk.2; rw [← q.1] at this; exact absurd this (by decide), fun q => by have := hk.2; rw [← q.1] at this; exact absurd this (by decide), fun q => by have := hk.2; rw [← q.1] at this; exact absurd this (by decide), fun q => by have := hk.2; rw [← q.1] at this; exact absurd this (by decide), fun q => by have := hk.2; rw [← q.1] at this; exact absurd this (by decide), fun q => by have := hk.2; rw [← q.1] at this; exact absurd this (by decide)⟩)
theorem bx_14_1 {P : PH} {o : Nat} (h : BdX P) (hk : kx o 14) : 0 ≤ P o 1 ∧ P o 1 ≤ 12 := by
  have q := h.1 o hk.1 1 (by rw [hk.2]; rfl) (by rw [hk.2]; decide) (by rw [hk.2]; decide)
  rw [hk.2] at q
  exact q
theorem by_14_1 {P : PH} {o : Nat} {z : Int} (h : BdX P) (hk : kx o 14) (hz : 0 ≤ z ∧ z ≤ 12) : BdX (up P o 1 z) := BdX.s 1 h hk.1 (by rw [hk.2]; rfl) (by rw [hk.2]; decide) (by rw [hk.2]; exact hz) (rfX.o h.2.2 ⟨fun q => by have := hk.2; rw [← q.1] at this; exact absurd this (by decide), fun q => by have := hk.2; rw [← q.1] at this; exact absurd this (by decide), fun q => by have := hk.2; rw [← q.1] at this; exact absurd this (by decide), fun q => by have := hk.2; rw [← q.1] at this; exact absurd this (by decide), fun q => by have := hk.2; rw [← q.1] at this; exact absurd this (by decide), fun q => by have := hk.2; rw [← q.1] at this; exact absurd this (by decide)⟩)
theorem bx_14_2 {P : PH} {o : Nat} (h : BdX P) (hk : kx o 14) : (-2147483648) ≤ P o 2 ∧ P o 2 ≤ 2147483647 := by
  have q := h.1 o hk.1 2 (by rw [hk.2]; rfl) (by rw [hk.2]; decide) (by rw [hk.2]; decide)
  rw [hk.2] at q
  exact q
theorem by_14_2 {P : PH} {o : Nat} {z : Int} (h : BdX P) (hk : kx o 14) (hz : (-2147483648) ≤ z ∧ z ≤ 2147483647) : BdX (up P o 2 z) := BdX.s 2 h hk.1 (by rw [hk.2]; rfl) (by rw [hk.2]; decide) (by rw [hk.2]; exact hz) (rfX.o h.2.2 ⟨fun q => by have := hk.2; rw [← q.1] at this; exact absurd this (by decide), fun q => by have := hk.2; rw [← q.1] at this; exact absurd this (by decide), fun q => by have := hk.2; rw [← q.1] at this; exact absurd this (by decide), fun q => by have := hk.2; rw [← q.1] at this; exact absurd this (by decide), fun q => by have := hk.2; rw [← q.1] at this; exact absurd this (by decide), fun q => by have := hk.2; rw [← q.1] at this; exact absurd this (by decide)⟩)
theorem bx_14_3 {P : PH} {o : Nat} (h : BdX P) (hk : kx o 14) : (-2147483648) ≤ P o 3 ∧ P o 3 ≤ 2147483647 := by
  have q := h.1 o hk.1 3 (by rw [hk.2]; rfl) (by rw [hk.2]; decide) (by rw [hk.2]; decide)
  rw [hk.2] at q
  exact q
theorem by_14_3 {P : PH} {o : Nat} {z : Int} (h : BdX P) (hk : kx o 14) (hz : (-2147483648) ≤ z ∧ z ≤ 2147483647) : BdX (up P o 3 z) := BdX.s 3 h hk.1 (by rw [hk.2]; rfl) (by rw [hk.2]; decide) (by rw [hk.2]; exact hz) (rfX.o h.2.2 ⟨fun q => by have := hk.2; rw [← q.1] at this; exact absurd this (by decide), fun q => by have := hk.2; rw [← q.1] at this; exact absurd this (by decide), fun q => by have := hk.2; rw [← q.1] at this; exact absurd this (by decide), fun q => by have := hk.2; rw [← q.1] at this; exact absurd this (by decide), fun q => by have := hk.2; rw [← q.1] at this; exact absurd this (by decide), fun q => by have := hk.2; rw [← q.1] at this; exact absurd this (by decide)⟩)
theorem bx_15 {P : PH} {o : Nat} {k : Int} (h : BdX P) (hk : kx o 15) : (-1) ≤ P o k ∧ P o k ≤ 255 := by
  have q := h.2.1 o hk.1 (by rw [hk.2]; rfl) k
  rw [hk.2] at q
  exact q
theorem by_15 {P : PH} {o : Nat} {k z : Int} (h : BdX P) (hk : kx o 15) (hz : (-1) ≤ z ∧ z ≤ 255) : BdX (up P o k z) := BdX.a h hk.1 (by rw [hk.2]; rfl) (by rw [hk.2]; exact hz) (rfX.o h.2.2 ⟨fun q => by have := hk.2; rw [← q.1] at this; exact absurd this (by decide), fun q => by have := hk.2; rw [← q.1] at this; exact absurd this (by decide), fun q => by have := hk.2; rw [← q.1] at this; exact absurd this (by decide), fun q => by have := hk.2; rw [← q.1] at this; exact absurd this (by decide), fun q => by have := hk.2; rw [← q.1] at this; exact absurd this (by decide), fun q => by have := hk.2; rw [← q.1] at this; exact absurd this (by decide)⟩)
theorem bx_16_5 {P : PH} {o : Nat} (h : BdX P) (hk : kx o 16) : (-2147483648) ≤ P o 5 ∧ P o 5 ≤ 2147483647 := by
  have q := h.1 o hk.1 5 (by rw [hk.2]; rfl) (by rw [hk.2]; decide) (by rw [hk.2]; decide)
  rw [hk.2] at q
  exact q
theorem by_16_5 {P : PH} {o : Nat} {z : Int} (h : BdX P) (hk : kx o 16) (hz : (-2147483648) ≤ z ∧ z ≤ 2147483647) : BdX (up P o 5 z) := BdX.s 5 h hk.1 (by rw [hk.2]; rfl) (by rw [hk.2]; decide) (by rw [hk.2]; exact hz) (rfX.o h.2.2 ⟨fun q => by have := hk.2; rw [← q.1] at this; exact absurd this (by decide), fun q => by have := hk.2; rw [← q.1] at this; exact absurd this (by decide), fun q => by have := hk.2; rw [← q.1] at this; exact absurd this (by decide), fun q => by have := hk.2; rw [← q.1] at this; exact absurd this (by decide), fun q => by have := hk.2; rw [← q.1] at this; exact absurd this (by decide), fun q => by have := hk.2; rw [← q.1] at this; exact absurd this (by decide)⟩)
theorem bx_16_6 {P : PH} {o : Nat} (h : BdX P) (hk : kx o 16) : 0 ≤ P o 6 ∧ P o 6 ≤ 20 := by
  have q := h.1 o hk.1 6 (by rw [hk.2]; rfl) (by rw [hk.2]; decide) (by rw [hk.2]; decide)
  rw [hk.2] at q
  exact q
theorem by_16_6 {P : PH} {o : Nat} {z : Int} (h : BdX P) (hk : kx o 16) (hz : 0 ≤ z ∧ z ≤ 20) : BdX (up P o 6 z) := BdX.s 6 h hk.1 (by rw [hk.2]; rfl) (by rw [hk.2]; decide) (by rw [hk.2]; exact hz) (rfX.o h.2.2 ⟨fun q => by have := hk.2; rw [← q.1] at this; exact absurd this (by decide), fun q => by have := hk.2; rw [← q.1] at this; exact absurd this (by decide), fun q => by have := hk.2; rw [← q.1] at this; exact absurd this (by decide), fun q => by have := hk.2; rw [← q.1] at this; exact absurd this (by decide), fun q => by have := hk.2; rw [← q.1] at this; exact absurd this (by decide), fun q => by have := hk.2; rw [← q.1] at this; exact absurd this (by decide)⟩)
theorem bx_16_7 {P : PH} {o : Nat} (h : BdX P) (hk : kx o 16) : 0 ≤ P o 7 ∧ P o 7 ≤ 20 := by
  have q := h.1 o hk.1 7 (by rw [hk.2]; rfl) (by rw [hk.2]; decide) (by rw [hk.2]; decide)
  rw [hk.2] at q
  exact q
theorem by_16_7 {P : PH} {o : Nat} {z : Int} (h : BdX P) (hk : kx o 16) (hz : 0 ≤ z ∧ z ≤ 20) : BdX (up P o 7 z) := BdX.s 7 h hk.1 (by rw [hk.2]; rfl) (by rw [hk.2]; decide) (by rw [hk.2]; exact hz) (rfX.o h.2.2 ⟨fun q => by have := hk.2; rw [← q.1] at this; exact absurd this (by decide), fun q => by have := hk.2; rw [← q.1] at this; exact absurd this (by decide), fun q => by have := hk.2; rw [← q.1] at this; exact absurd this (by decide), fun q => by have := hk.2; rw [← q.1] at this; exact absurd this (by decide), fun q => by have := hk.2; rw [← q.1] at this; exact absurd this (by decide), fun q => by have := hk.2; rw [← q.1] at this; exact absurd this (by decide)⟩)
theorem bx_17 {P : PH} {o : Nat} {k : Int} (h : BdX P) (hk : kx o 17) : (-2147483648) ≤ P o k ∧ P o k ≤ 2147483647 := by
  have q := h.2.1 o hk.1 (by rw [hk.2]; rfl) k
  rw [hk.2] at q
  exact q
theorem by_17 {P : PH} {o : Nat} {k z : Int} (h : BdX P) (hk : kx o 17) (hz : (-2147483648) ≤ z ∧ z ≤ 2147483647) : BdX (up P o k z) := BdX.a h hk.1 (by rw [hk.2]; rfl) (by rw [hk.2]; exact hz) (rfX.o h.2.2 ⟨fun q => by have := hk.2; rw [← q.1] at this; exact absurd this (by decide), fun q => by have := hk.2; rw [← q.1] at this; exact absurd this (by decide), fun q => by have := hk.2; rw [← q.1] at this; exact absurd this (by decide), fun q => by have := hk.2; rw [← q.1] at this; exact absurd this (by decide), fun q => by have := hk.2; rw [← q.1] at this; exact absurd this (by decide), fun q => by have := hk.2; rw [← q.1] at this; exact absurd this (by decide)⟩)
theorem bx_18 {P : PH} {o : Nat} {k : Int} (h : BdX P) (hk : kx o 18) : (-2147483648) ≤ P o k ∧ P o k ≤ 2147483647 := by
  have q := h.2.1 o hk.1 (by rw [hk.2]; rfl) k
  rw [hk.2] at q
  exact q
theorem by_18 {P : PH} {o : Nat} {k z : Int} (h : BdX P) (hk : kx o 18) (hz : (-2147483648) ≤ z ∧ z ≤ 2147483647) : BdX (up P o k z) := BdX.a h hk.1 (by rw [hk.2]; rfl) (by rw [hk.2]; exact hz) (rfX.o h.2.2 ⟨fun q => by have := hk.2; rw [← q.1] at this; exact absurd this (by decide), fun q => by have := hk.2; rw [← q.1] at this; exact absurd this (by decide), fun q => by have := hk.2; rw [← q.1] at this; exact absurd this (by decide), fun q => by have := hk.2; rw [← q.1] at this; exact absurd this (by decide), fun q => by have := hk.2; rw [← q.1] at this; exact absurd this (by decide), fun q => by have := hk.2; rw [← q.1] at this; exact absurd this (by decide)⟩)
theorem bx_19 {P : PH} {o : Nat} {k : Int} (h : BdX P) (hk : kx o 19) : (-2147483648) ≤ P o k ∧ P o k ≤ 2147483647 := by
  have q := h.2.1 o hk.1 (by rw [hk.2]; rfl) k
  rw [hk.2] at q
  exact q
theorem by_19 {P : PH} {o : Nat} {k z : Int} (h : BdX P) (hk : kx o 19) (hz : (-2147483648) ≤ z ∧ z ≤ 2147483647) : BdX (up P o k z) := BdX.a h hk.1 (by rw [hk.2]; rfl) (by rw [hk.2]; exact hz) (rfX.o h.2.2 ⟨fun q => by have := hk.2; rw [← q.1] at this; exact absurd this (by decide), fun q => by have := hk.2; rw [← q.1] at this; exact absurd this (by decide), fun q => by have := hk.2; rw [← q.1] at this; exact absurd this (by decide), fun q => by have := hk.2; rw [← q.1] at this; exact absurd this (by decide), fun q => by have := hk.2; rw [← q.1] at this; exact absurd this (by decide), fun q => by have := hk.2; rw [← q.1] at this; exact absurd this (by decide)⟩)
theorem bx_21 {P : PH} {o : Nat} {k : Int} (h : BdX P) (hk : kx o 21) : (-2147483648) ≤ P o k ∧ P o k ≤ 2147483647 := by
  have q := h.2.1 o hk.1 (by rw [hk.2]; rfl) k
  rw [hk.2] at q
  exact q
theorem by_21 {P : PH} {o : Nat} {k z : Int} (h : BdX P) (hk : kx o 21) (hz : (-2147483648) ≤ z ∧ z ≤ 2147483647) : BdX (up P o k z) := BdX.a h hk.1 (by rw [hk.2]; rfl) (by rw [hk.2]; exact hz) (rfX.o h.2.2 ⟨fun q => by have := hk.2; rw [← q.1] at this; exact absurd this (by decide), fun q => by have := hk.2; rw [← q.1] at this; exact absurd this (by decide), fun q => by have := hk.2; rw [← q.1] at this; exact absurd this (by decide), fun q => by have := hk.2; rw [← q.1] at this; exact absurd this (by decide), fun q => by have := hk.2; rw [← q.1] at this; exact absurd this (by decide), fun q => by have := hk.2; rw [← q.1] at this; exact absurd this (by decide)⟩)
theorem bx_22_2 {P : PH} {o : Nat} (h : BdX P) (hk : kx o 22) : 0 ≤ P o 2 ∧ P o 2 ≤ 16 := by
  have q := h.1 o hk.1 2 (by rw [hk.2]; rfl) (by rw [hk.2]; decide) (by rw [hk.2]; decide)
  rw [hk.2] at q
  exact q
theorem by_22_2 {P : PH} {o : Nat} {z : Int} (h : BdX P) (hk : kx o 22) (hz : 0 ≤ z ∧ z ≤ 16) : BdX (up P o 2 z) := BdX.s 2 h hk.1 (by rw [hk.2]; rfl) (by rw [hk.2]; decide) (by rw [hk.2]; exact hz) (rfX.o h.2.2 ⟨fun q => by have := hk.2; rw [← q.1] at this; exact absurd this (by decide), fun q => by have := hk.2; rw [← q.1] at this; exact absurd this (by decide), fun q => by have := hk.2; rw [← q.1] at this; exact absurd this (by decide), fun q => by have := hk.2; rw [← q.1] at this; exact absurd this (by decide), fun q => by have := hk.2; rw [← q.1] at this; exact absurd this (by decide), fun q => by have := hk.2; rw [← q.1] at this; exact absurd this (by decide)⟩)
theorem bx_22_4 {P : PH} {o : Nat} (h : BdX P) (hk : kx o 22) : 0 ≤ P o 4 ∧ P o 4 ≤ 256 := by
  have q := h.1 o hk.1 4 (by rw [hk.2]; rfl) (by rw [hk.2]; decide) (by rw [hk.2]; decide)
  rw [hk.2] at q
  exact q
theorem by_22_4 {P : PH} {o : Nat} {z : Int} (h : BdX P) (hk : kx o 22) (hz : 0 ≤ z ∧ z ≤ 256) : BdX (up P o 4 z) := BdX.s 4 h hk.1 (by rw [hk.2]; rfl) (by rw [hk.2]; decide) (by rw [hk.2]; exact hz) (rfX.o h.2.2 ⟨fun q => by have := hk.2; rw [← q.1] at this; exact absurd this (by decide), fun q => by have := hk.2; rw [← q.1] at this; exact absurd this (by decide), fun q => by have := hk.2; rw [← q.1] at this; exact absurd this (by decide), fun q => by have := hk.2; rw [← q.1] at this; exact absurd this (by decide), fun q => by have := hk.2; rw [← q.1] at this; exact absurd this (by decide), fun q => by have := hk.2; rw [← q.1] at this; exact absurd this (by decide)⟩)
theorem bx_23 {P : PH} {o : Nat} {k : Int} (h : BdX P) (hk : kx o 23) : (-2147483648) ≤ P o k ∧ P o k ≤ 2147483647 := by
  have q := h.2.1 o hk.1 (by rw [hk.2]; rfl) k
  rw [hk.2] at q
  exact q
theorem by_23 {P : PH} {o : Nat} {k z : Int} (h : BdX P) (hk : kx o 23) (hz : (-2147483648) ≤ z ∧ z ≤ 2147483647) : BdX (up P o k z) := BdX.a h hk.1 (by rw [hk.2]; rfl) (by rw [hk.2]; exact hz) (rfX.o h.2.2 ⟨fun q => by have := hk.2; rw [← q.1] at this; exact absurd this (by decide), fun q => by have := hk.2; rw [← q.1] at this; exact absurd this (by decide), fun q => by have := hk.2; rw [← q.1] at this; exact absurd this (by decide), fun q => by have := hk.2; rw [← q.1] at this; exact absurd this (by decide), fun q => by have := hk.2; rw [← q.1] at this; exact absurd this (by decide), fun q => by have := hk.2; rw [← q.1] at this; exact absurd this (by decide)⟩)
theorem bx_24 {P : PH} {o : Nat} {k : Int} (h : BdX P) (hk : kx o 24) : (-2147483648) ≤ P o k ∧ P o k ≤ 2147483647 := by
  have q := h.2.1 o hk.1 (by rw [hk.2]; rfl) k
  rw [hk.2] at q
  exact q
theorem by_24 {P : PH} {o : Nat} {k z : Int} (h : BdX P) (hk : kx o 24) (hz : (-2147483648) ≤ z ∧ z ≤ 2147483647) : BdX (up P o k z) := BdX.a h hk.1 (by rw [hk.2]; rfl) (by rw [hk.2]; exact hz) (rfX.o h.2.2 ⟨fun q => by have := hk.2; rw [← q.1] at this; exact absurd this (by decide), fun q => by have := hk.2; rw [← q.1] at this; exact absurd this (by decide), fun q => by have := hk.2; rw [← q.1] at this; exact absurd this (by decide), fun q => by have := hk.2; rw [← q.1] at this; exact absurd this (by decide), fun q => by have := hk.2; rw [← q.1] at this; exact absurd this (by decide), fun q => by have := hk.2; rw [← q.1] at this; exact absurd this (by decide)⟩)
theorem bx_25 {P : PH} {o : Nat} {k : Int} (h : BdX P) (hk : kx o 25) : (-2147483648) ≤ P o k ∧ P o k ≤ 2147483647 := by
  have q := h.2.1 o hk.1 (by rw [hk.2]; rfl) k
  rw [hk.2] at q
  exact q
theorem by_25 {P : PH} {o : Nat} {k z : Int} (h : BdX P) (hk : kx o 25) (hz : (-2147483648) ≤ z ∧ z ≤ 2147483647) : BdX (up P o k z) := BdX.a h hk.1 (by rw [hk.2]; rfl) (by rw [hk.2]; exact hz) (rfX.o h.2.2 ⟨fun q => by have := hk.2; rw [← q.1] at this; exact absurd this (by decide), fun q => by have := hk.2; rw [← q.1] at this; exact absurd this (by decide), fun q => by have := hk.2; rw [← q.1] at this; exact absurd this (by decide), fun q => by have := hk.2; rw [← q.1] at this; exact absurd this (by decide), fun q => by have := hk.2; rw [← q.1] at this; exact absurd this (by decide), fun q => by have := hk.2; rw [← q.1] at this; exact absurd this (by decide)⟩)
theorem by_26 {P : PH} {o : Nat} {k z : Int} (h : BdX P) (hk : kx o 26) (hz : (-2147483648) ≤ z ∧ z ≤ 2147483647) : BdX (up P o k z) := BdX.a h hk.1 (by rw [hk.2]; rfl) (by rw [hk.2]; exact hz) (rfX.o h.2.2 ⟨fun q => by have := hk.2; rw [← q.1] at this; exact absurd this (by decide), fun q => by have := hk.2; rw [← q.1] at this; exact absurd this (by decide), fun q => by have := hk.2; rw [← q.1] at this; exact absurd this (by decide), fun q => by have := hk.2; rw [← q.1] at this; exact absurd this (by decide), fun q => by have := hk.2; rw [← q.1] at this; exact absurd this (by decide), fun q => by have := hk.2; rw [← q.1] at this; exact absurd this (by decide)⟩)
theorem bx_27 {P : PH} {o : Nat} {k : Int} (h : BdX P) (hk : kx o 27) : (-2147483648) ≤ P o k ∧ P o k ≤ 2147483647 := by
  have q := h.2.1 o hk.1 (by rw [hk.2]; rfl) k
  rw [hk.2] at q
  exact q
theorem by_27 {P : PH} {o : Nat} {k z : Int} (h : BdX P) (hk : kx o 27) (hz : (-2147483648) ≤ z ∧ z ≤ 2147483647) : BdX (up P o k z) := BdX.a h hk.1 (by rw [hk.2]; rfl) (by rw [hk.2]; exact hz) (rfX.o h.2.2 ⟨fun q => by have := hk.2; rw [← q.1] at this; exact absurd this (by decide), fun q => by have := hk.2; rw [← q.1] at this; exact absurd this (by decide), fun q => by have := hk.2; rw [← q.1] at this; exact absurd this (by decide), fun q => by have := hk.2; rw [← q.1] at this; exact absurd this (by decide), fun q => by have := hk.2; rw [← q.1] at this; exact absurd this (by decide), fun q => by have := hk.2; rw [← q.1] at this; exact absurd this (by decide)⟩)
theorem bx_28_6 {P : PH} {o : Nat} (h : BdX P) (hk : kx o 28) : 0 ≤ P o 6 ∧ P o 6 ≤ 4 := by
  have q := h.1 o hk.1 6 (by rw [hk.2]; rfl) (by rw [hk.2]; decide) (by rw [hk.2]; decide)
  rw [hk.2] at q
  exact q
theorem by_28_6 {P : PH} {o : Nat} {z : Int} (h : BdX P) (hk : kx o 28) (hz : 0 ≤ z ∧ z ≤ 4) : BdX (up P o 6 z) := BdX.s 6 h hk.1 (by rw [hk.2]; rfl) (by rw [hk.2]; decide) (by rw [hk.2]; exact hz) (rfX.o h.2.2 ⟨fun q => by have := hk.2; rw [← q.1] at this; exact absurd this (by decide), fun q => by have := hk.2; rw [← q.1] at this; exact absurd this (by decide), fun q => by have := hk.2; rw [← q.1] at this; exact absurd this (by decide), fun q => by have := hk.2; rw [← q.1] at this; exact absurd this (by decide), fun q => by have := hk.2; rw [← q.1] at this; exact absurd this (by decide), fun q => by have := hk.2; rw [← q.1] at this; exact absurd this (by decide)⟩)
theorem bx_28_7 {P : PH} {o : Nat} (h : BdX P) (hk : kx o 28) : (-2147483648) ≤ P o 7 ∧ P o 7 ≤ 2147483647 := by
  have q := h.1 o hk.1 7 (by rw [hk.2]; rfl) (by rw [hk.2]; decide) (by rw [hk.2]; decide)
  rw [hk.2] at q
  exact q
theorem by_28_7 {P : PH} {o : Nat} {z : Int} (h : BdX P) (hk : kx o 28) (hz : (-2147483648) ≤ z ∧ z ≤ 2147483647) : BdX (up P o 7 z) := BdX.s 7 h hk.1 (by rw [hk.2]; rfl) (by rw [hk.2]; decide) (by rw [hk.2]; exact hz) (rfX.o h.2.2 ⟨fun q => by have := hk.2; rw [← q.1] at this; exact absurd this (by decide), fun q => by have := hk.2; rw [← q.1] at this; exact absurd this (by decide), fun q => by have := hk.2; rw [← q.1] at this; exact absurd this (by decide), fun q => by have := hk.2; rw [← q.1] at this; exact absurd this (by decide), fun q => by have := hk.2; rw [← q.1] at this; exact absurd this (by decide), fun q => by have := hk.2; rw [← q.1] at this; exact absurd this (by decide)⟩)
theorem bx_28_8 {P : PH} {o : Nat} (h : BdX P) (hk : kx o 28) : 0 ≤ P o 8 ∧ P o 8 ≤ 12 := by
  have q := h.1 o hk.1 8 (by rw [hk.2]; rfl) (by rw [hk.2]; decide) (by rw [hk.2]; decide)
  rw [hk.2] at q
  exact q
theorem by_28_8 {P : PH} {o : Nat} {z : Int} (h : BdX P) (hk : kx o 28) (hz : 0 ≤ z ∧ z ≤ 12) : BdX (up P o 8 z) := BdX.s 8 h hk.1 (by rw [hk.2]; rfl) (by rw [hk.2]; decide) (by rw [hk.2]; exact hz) (rfX.o h.2.2 ⟨fun q => by have := hk.2; rw [← q.1] at this; exact absurd this (by decide), fun q => by have := hk.2; rw [← q.1] at this; exact absurd this (by decide), fun q => by have := hk.2; rw [← q.1] at this; exact absurd this (by decide), fun q => by have := hk.2; rw [← q.1] at this; exact absurd this (by decide), fun q => by have := hk.2; rw [← q.1] at this; exact absurd this (by decide), fun q => by have := hk.2; rw [← q.1] at this; exact absurd this (by decide)⟩)
theorem bx_28_9 {P : PH} {o : Nat} (h : BdX P) (hk : kx o 28) : (-2147483648) ≤ P o 9 ∧ P o 9 ≤ 2147483647 := by
  have q := h.1 o hk.1 9 (by rw [hk.2]; rfl) (by rw [hk.2]; decide) (by rw [hk.2]; decide)
  rw [hk.2] at q
  exact q
theorem by_28_9 {P : PH} {o : Nat} {z : Int} (h : BdX P) (hk : kx o 28) (hz : (-2147483648) ≤ z ∧ z ≤ 2147483647) : BdX (up P o 9 z) := BdX.s 9 h hk.1 (by rw [hk.2]; rfl) (by rw [hk.2]; decide) (by rw [hk.2]; exact hz) (rfX.o h.2.2 ⟨fun q => by have := hk.2; rw [← q.1] at this; exact absurd this (by decide), fun q => by have := hk.2; rw [← q.1] at this; exact absurd this (by decide), fun q => by have := hk.2; rw [← q.1] at this; exact absurd this (by decide), fun q => by have := hk.2; rw [← q.1] at this; exact absurd this (by decide), fun q => by have := hk.2; rw [← q.1] at this; exact absurd this (by decide), fun q => by have := hk.2; rw [← q.1] at this; exact absurd this (by decide)⟩)
theorem bx_28_10 {P : PH} {o : Nat} (h : BdX P) (hk : kx o 28) : (-2147483648) ≤ P o 10 ∧ P o 10 ≤ 2147483647 := by
  have q := h.1 o hk.1 10 (by rw [hk.2]; rfl) (by rw [hk.2]; decide) (by rw [hk.2]; decide)
  rw [hk.2] at q
  exact q
theorem by_28_10 {P : PH} {o : Nat} {z : Int} (h : BdX P) (hk : kx o 28) (hz : (-2147483648) ≤ z ∧ z ≤ 2147483647) : BdX (up P o 10 z) := BdX.s 10 h hk.1 (by rw [hk.2]; rfl) (by rw [hk.2]; decide) (by rw [hk.2]; exact hz) (rfX.o h.2.2 ⟨fun q => by have := hk.2; rw [← q.1] at this; exact absurd this (by decide), fun q => by have := hk.2; rw [← q.1] at this; exact absurd this (by decide), fun q => by have := hk.2; rw [← q.1] at this; exact absurd this (by decide), fun q => by have := hk.2; rw [← q.1] at this; exact absurd this (by decide), fun q => by have := hk.2; rw [← q.1] at this; exact absurd this (by decide), fun q => by have := hk.2; rw [← q.1] at this; exact absurd this (by decide)⟩)
theorem bx_29_9 {P : PH} {o : Nat} (h : BdX P) (hk : kx o 29) : 0 ≤ P o 9 ∧ P o 9 ≤ 4 := by
  have q := h.1 o hk.1 9 (by rw [hk.2]; rfl) (by rw [hk.2]; decide) (by rw [hk.2]; decide)
  rw [hk.2] at q
  exact q
theorem by_29_9 {P : PH} {o : Nat} {z : Int} (h : BdX P) (hk : kx o 29) (hz : 0 ≤ z ∧ z ≤ 4) : BdX (up P o 9 z) := BdX.s 9 h hk.1 (by rw [hk.2]; rfl) (by rw [hk.2]; decide) (by rw [hk.2]; exact hz) (rfX.o h.2.2 ⟨fun q => by have := hk.2; rw [← q.1] at this; exact absurd this (by decide), fun q => by have := hk.2; rw [← q.1] at this; exact absurd this (by decide), fun q => by have := hk.2; rw [← q.1] at this; exact absurd this (by decide), fun q => by have := hk.2; rw [← q.1] at this; exact absurd this (by decide), fun q => by have := hk.2; rw [← q.1] at this; exact absurd this (by decide), fun q => by have := hk.2; rw [← q.1] at this; exact absurd this (by decide)⟩)
theorem bx_29_10 {P : PH} {o : Nat} (h : BdX P) (hk : kx o 29) : 0 ≤ P o 10 ∧ P o 10 ≤ 24 := by
  have q := h.1 o hk.1 10 (by rw [hk.2]; rfl) (by rw [hk.2]; decide) (by rw [hk.2]; decide)
  rw [hk.2] at q
  exact q
theorem by_29_10 {P : PH} {o : Nat} {z : Int} (h : BdX P) (hk : kx o 29) (hz : 0 ≤ z ∧ z ≤ 24) : BdX (up P o 10 z) := BdX.s 10 h hk.1 (by rw [hk.2]; rfl) (by rw [hk.2]; decide) (by rw [hk.2]; exact hz) (rfX.o h.2.2 ⟨fun q => by have := hk.2; rw [← q.1] at this; exact absurd this (by decide), fun q => by have := hk.2; rw [← q.1] at this; exact absurd this (by decide), fun q => by have := hk.2; rw [← q.1] at this; exact absurd this (by decide), fun q => by have := hk.2; rw [← q.1] at this; exact absurd this (by decide), fun q => by have := hk.2; rw [← q.1] at this; exact absurd this (by decide), fun q => by have := hk.2; rw [← q.1] at this; exact absurd this (by decide)⟩)
theorem bx_30 {P : PH} {o : Nat} {k : Int} (h : BdX P) (hk : kx o 30) : (-2147483648) ≤ P o k ∧ P o k ≤ 2147483647 := by
  have q := h.2.1 o hk.1 (by rw [hk.2]; rfl) k
  rw [hk.2] at q
  exact q
theorem by_30 {P : PH} {o : Nat} {k z : Int} (h : BdX P) (hk : kx o 30) (hz : (-2147483648) ≤ z ∧ z ≤ 2147483647) : BdX (up P o k z) := BdX.a h hk.1 (by rw [hk.2]; rfl) (by rw [hk.2]; exact hz) (rfX.o h.2.2 ⟨fun q => by have := hk.2; rw [← q.1] at this; exact absurd this (by decide), fun q => by have := hk.2; rw [← q.1] at this; exact absurd this (by decide), fun q => by have := hk.2; rw [← q.1] at this; exact absurd this (by decide), fun q => by have := hk.2; rw [← q.1] at this; exact absurd this (by decide), fun q => by have := hk.2; rw [← q.1] at this; exact absurd this (by decide), fun q => by have := hk.2; rw [← q.1] at this; exact absurd this (by decide)⟩)
theorem bx_31 {P : PH} {o : Nat} {k : Int} (h : BdX P) (hk : kx o 31) : (-2147483648) ≤ P o k ∧ P o k ≤ 2147483647 := by
  have q := h.2.1 o hk.1 (by rw [hk.2]; rfl) k
  rw [hk.2] at q
  exact q
theorem by_31 {P : PH} {o : Nat} {k z : Int} (h : BdX P) (hk : kx o 31) (hz : (-2147483648) ≤ z ∧ z ≤ 2147483647) : BdX (up P o k z) := BdX.a h hk.1 (by rw [hk.2]; rfl) (by rw [hk.2]; exact hz) (rfX.o h.2.2 ⟨fun q => by have := hk.2; rw [← q.1] at this; exact absurd this (by decide), fun q => by have := hk.2; rw [← q.1] at this; exact absurd this (by decide), fun q => by have := hk.2; rw [← q.1] at this; exact absurd this (by decide), fun q => by have := hk.2; rw [← q.1] at this; exact absurd this (by decide), fun q => by have := hk.2; rw [← q.1] at this; exact absurd this (by decide), fun q => by have := hk.2; rw [← q.1] at this; exact absurd this (by decide)⟩)
theorem bx_32 {P : PH} {o : Nat} {k : Int} (h : BdX P) (hk : kx o 32) : (-2147483648) ≤ P o k ∧ P o k ≤ 2147483647 := by
  have q := h.2.1 o hk.1 (by rw [hk.2]; rfl) k
  rw [hk.2] at q
  exact q
theorem by_32 {P : PH} {o : Nat} {k z : Int} (h : BdX P) (hk : kx o 32) (hz : (-2147483648) ≤ z ∧ z ≤ 2147483647) : BdX (up P o k z) := BdX.a h hk.1 (by rw [hk.2]; rfl) (by rw [hk.2]; exact hz) (rfX.o h.2.2 ⟨fun q => by have := hk.2; rw [← q.1] at this; exact absurd this (by decide), fun q => by have := hk.2; rw [← q.1] at this; exact absurd this (by decide), fun q => by have := hk.2; rw [← q.1] at this; exact absurd this (by decide), fun q => by have := hk.2; rw [← q.1] at this; exact absurd this (by decide), fun q => by have := hk.2; rw [← q.1] at this; exact absurd this (by decide), fun q => by have := hk.2; rw [← q.1] at this; exact absurd this (by decide)⟩)
theorem bx_33 {P : PH} {o : Nat} {k : Int} (h : BdX P) (hk : kx o 33) : (-2147483648) ≤ P o k ∧ P o k ≤ 2147483647 := by
  have q := h.2.1 o hk.1 (by rw [hk.2]; rfl) k
  rw [hk.2] at q
  exact q
theorem by_33 {P : PH} {o : Nat} {k z : Int} (h : BdX P) (hk : kx o 33) (hz : (-2147483648) ≤ z ∧ z ≤ 2147483647) : BdX (up P o k z) := BdX.a h hk.1 (by rw [hk.2]; rfl) (by rw [hk.2]; exact hz) (rfX.o h.2.2 ⟨fun q => by have := hk.2; rw [← q.1] at this; exact absurd this (by decide), fun q => by have := hk.2; rw [← q.1] at this; exact absurd this (by decide), fun q => by have := hk.2; rw [← q.1] at this; exact absurd this (by decide), fun q => by have := hk.2; rw [← q.1] at this; exact absurd this (by decide), fun q => by have := hk.2; rw [← q.1] at this; exact absurd this (by decide), fun q => by have := hk.2; rw [← q.1] at this; exact absurd this (by decide)⟩)
theorem bx_34 {P : PH} {o : Nat} {k : Int} (h : BdX P) (hk : kx o 34) : (-2147483648) ≤ P o k ∧ P o k ≤ 2147483647 := by
  have q := h.2.1 o hk.1 (by rw [hk.2]; rfl) k
  rw [hk.2] at q
  exact q
theorem by_34 {P : PH} {o : Nat} {k z : Int} (h : BdX P) (hk : kx o 34) (hz : (-2147483648) ≤ z ∧ z ≤ 2147483647) : BdX (up P o k z) := BdX.a h hk.1 (by rw [hk.2]; rfl) (by rw [hk.2]; exact hz) (rfX.o h.2.2 ⟨fun q => by have := hk.2; rw [← q.1] at this; exact absurd this (by decide), fun q => by have := hk.2; rw [← q.1] at this; exact absurd this (by decide), fun q => by have := hk.2; rw [← q.1] at this; exact absurd this (by decide), fun q => by have := hk.2; rw [← q.1] at this; exact absurd this (by decide), fun q => by have := hk.2; rw [← q.1] at this; exact absurd this (by decide), fun q => by have := hk.2; rw [← q.1] at this; exact absurd this (by decide)⟩)
theorem bx_35 {P : PH} {o : Nat} {k : Int} (h : BdX P) (hk : kx o 35) : (-2147483648) ≤ P o k ∧ P o k ≤ 2147483647 := by
  have q := h.2.1 o hk.1 (by rw [hk.2]; rfl) k
  rw [hk.2] at q
  exact q
theorem by_35 {P : PH} {o : Nat} {k z : Int} (h : BdX P) (hk : kx o 35) (hz : (-2147483648) ≤ z ∧ z ≤ 2147483647) : BdX (up P o k z) := BdX.a h hk.1 (by rw [hk.2]; rfl) (by rw [hk.2]; exact hz) (rfX.o h.2.2 ⟨fun q => by have := hk.2; rw [← q.1] at this; exact absurd this (by decide), fun q => by have := hk.2; rw [← q.1] at this; exact absurd this (by decide), fun q => by have := hk.2; rw [← q.1] at this; exact absurd this (by decide), fun q => by have := hk.2; rw [← q.1] at this; exact absurd this (by decide), fun q => by have := hk.2; rw [← q.1] at this; exact absurd this (by decide), fun q => by have := hk.2; rw [← q.1] at this; exact absurd this (by decide)⟩)
theorem bx_36 {P : PH} {o : Nat} {k : Int} (h : BdX P) (hk : kx o 36) : (-2147483648) ≤ P o k ∧ P o k ≤ 2147483647 := by
  have q := h.2.1 o hk.1 (by rw [hk.2]; rfl) k
  rw [hk.2] at q
  exact q
theorem by_36 {P : PH} {o : Nat} {k z : Int} (h : BdX P) (hk : kx o 36) (hz : (-2147483648) ≤ z ∧ z ≤ 2147483647) : BdX (up P o k z) := BdX.a h hk.1 (by rw [hk.2]; rfl) (by rw [hk.2]; exact hz) (rfX.o h.2.2 ⟨fun q => by have := hk.2; rw [← q.1] at this; exact absurd this (by decide), fun q => by have := hk.2; rw [← q.1] at this; exact absurd this (by decide), fun q => by have := hk.2; rw [← q.1] at this; exact absurd this (by decide), fun q => by have := hk.2; rw [← q.1] at this; exact absurd this (by decide), fun q => by have := hk.2; rw [← q.1] at this; exact absurd this (by decide), fun q => by have := hk.2; rw [← q.1] at this; exact absurd this (by decide)⟩)
theorem bx_37 {P : PH} {o : Nat} {k : Int} (h : BdX P) (hk : kx o 37) : (-2147483648) ≤ P o k ∧ P o k ≤ 2147483647 := by
  have q := h.2.1 o hk.1 (by rw [hk.2]; rfl) k
  rw [hk.2] at q
  exact q
theorem by_37 {P : PH} {o : Nat} {k z : Int} (h : BdX P) (hk : kx o 37) (hz : (-2147483648) ≤ z ∧ z ≤ 2147483647) : BdX (up P o k z) := BdX.a h hk.1 (by rw [hk.2]; rfl) (by rw [hk.2]; exact hz) (rfX.o h.2.2 ⟨fun q => by have := hk.2; rw [← q.1] at this; exact absurd this (by decide), fun q => by have := hk.2; rw [← q.1] at this; exact absurd this (by decide), fun q => by have := hk.2; rw [← q.1] at this; exact absurd this (by decide), fun q => by have := hk.2; rw [← q.1] at this; exact absurd this (by decide), fun q => by have := hk.2; rw [← q.1] at this; exact absurd this (by decide), fun q => by have := hk.2; rw [← q.1] at this; exact absurd this (by decide)⟩)
theorem bx_38 {P : PH} {o : Nat} {k : Int} (h : BdX P) (hk : kx o 38) : (-2147483648) ≤ P o k ∧ P o k ≤ 2147483647 := by
  have q := h.2.1 o hk.1 (by rw [hk.2]; rfl) k
  rw [hk.2] at q
  exact q
theorem by_38 {P : PH} {o : Nat} {k z : Int} (h : BdX P) (hk : kx o 38) (hz : (-2147483648) ≤ z ∧ z ≤ 2147483647) : BdX (up P o k z) := BdX.a h hk.1 (by rw [hk.2]; rfl) (by rw [hk.2]; exact hz) (rfX.o h.2.2 ⟨fun q => by have := hk.2; rw [← q.1] at this; exact absurd this (by decide), fun q => by have := hk.2; rw [← q.1] at this; exact absurd this (by decide), fun q => by have := hk.2; rw [← q.1] at this; exact absurd this (by decide), fun q => by have := hk.2; rw [← q.1] at this; exact absurd this (by decide), fun q => by have := hk.2; rw [← q.1] at this; exact absurd this (by decide), fun q => by have := hk.2; rw [← q.1] at this; exact absurd this (by decide)⟩)
theorem bx_39 {P : PH} {o : Nat} {k : Int} (h : BdX P) (hk : kx o 39) : (-2147483648) ≤ P o k ∧ P o k ≤ 2147483647 := by
  have q := h.2.1 o hk.1 (by rw [hk.2]; rfl) k
  rw [hk.2] at q
  exact q
theorem by_39 {P : PH} {o : Nat} {k z : Int} (h : BdX P) (hk : kx o 39) (hz : (-2147483648) ≤ z ∧ z ≤ 2147483647) : BdX (up P o k z) := BdX.a h hk.1 (by rw [hk.2]; rfl) (by rw [hk.2]; exact hz) (rfX.o h.2.2 ⟨fun q => by have := hk.2; rw [← q.1] at this; exact absurd this (by decide), fun q => by have := hk.2; rw [← q.1] at this; exact absurd this (by decide), fun q => by have := hk.2; rw [← q.1] at this; exact absurd this (by decide), fun q => by have := hk.2; rw [← q.1] at this; exact absurd this (by decide), fun q => by have := hk.2; rw [← q.1] at this; exact absurd this (by decide), fun q => by have := hk.2; rw [← q.1] at this; exact absurd this (by decide)⟩)
theorem bx_40 {P : PH} {o : Nat} {k : Int} (h : BdX P) (hk : kx o 40) : (-2147483648) ≤ P o k ∧ P o k ≤ 2048 := by
  have q := h.2.1 o hk.1 (by rw [hk.2]; rfl) k
  rw [hk.2] at q
  exact q
theorem by_40 {P : PH} {o : Nat} {k z : Int} (h : BdX P) (hk : kx o 40) (hz : (-2147483648) ≤ z ∧ z ≤ 2048) : BdX (up P o k z) := BdX.a h hk.1 (by rw [hk.2]; rfl) (by rw [hk.2]; exact hz) (rfX.o h.2.2 ⟨fun q => by have := hk.2; rw [← q.1] at this; exact absurd this (by decide), fun q => by have := hk.2; rw [← q.1] at this; exact absurd this (by decide), fun q => by have := hk.2; rw [← q.1] at this; exact absurd this (by decide), fun q => by have := hk.2; rw [← q.1] at this; exact absurd this (by decide), fun q => by have := hk.2; rw [← q.1] at this; exact absurd this (by decide), fun q => by have := hk.2; rw [← q.1] at this; exact absurd this (by decide)⟩)
theorem bx_41 {P : PH} {o : Nat} {k : Int} (h : BdX P) (hk : kx o 41) : (-2147483648) ≤ P o k ∧ P o k ≤ 2147483647 := by
  have q := h.2.1 o hk.1 (by rw [hk.2]; rfl) k
  rw [hk.2] at q
  exact q
theorem by_41 {P : PH} {o : Nat} {k z : Int} (h : BdX P) (hk : kx o 41) (hz : (-2147483648) ≤ z ∧ z ≤ 2147483647) : BdX (up P o k z) := BdX.a h hk.1 (by rw [hk.2]; rfl) (by rw [hk.2]; exact hz) (rfX.o h.2.2 ⟨fun q => by have := hk.2; rw [← q.1] at this; exact absurd this (by decide), fun q => by have := hk.2; rw [← q.1] at this; exact absurd this (by decide), fun q => by have := hk.2; rw [← q.1] at this; exact absurd this (by decide), fun q => by have := hk.2; rw [← q.1] at this; exact absurd this (by decide), fun q => by have := hk.2; rw [← q.1] at this; exact absurd this (by decide), fun q => by have := hk.2; rw [← q.1] at this; exact absurd this (by decide)⟩)
theorem bx_42 {P : PH} {o : Nat} {k : Int} (h : BdX P) (hk : kx o 42) : (-2147483648) ≤ P o k ∧ P o k ≤ 2147483647 := by
  have q := h.2.1 o hk.1 (by rw [hk.2]; rfl) k
  rw [hk.2] at q
  exact q
theorem by_42 {P : PH} {o : Nat} {k z : Int} (h : BdX P) (hk : kx o 42) (hz : (-2147483648) ≤ z ∧ z ≤ 2147483647) : BdX (up P o k z) := BdX.a h hk.1 (by rw [hk.2]; rfl) (by rw [hk.2]; exact hz) (rfX.o h.2.2 ⟨fun q => by have := hk.2; rw [← q.1] at this; exact absurd this (by decide), fun q => by have := hk.2; rw [← q.1] at this; exact absurd this (by decide), fun q => by have := hk.2; rw [← q.1] at this; exact absurd this (by decide), fun q => by have := hk.2; rw [← q.1] at this; exact absurd this (by decide), fun q => by have := hk.2; rw [← q.1] at this; exact absurd this (by decide), fun q => by have := hk.2; rw [← q.1] at this; exact absurd this (by decide)⟩)
theorem bx_44 {P : PH} {o : Nat} {k : Int} (h : BdX P) (hk : kx o 44) : (-2147483648) ≤ P o k ∧ P o k ≤ 2147483647 := by
  have q := h.2.1 o hk.1 (by rw [hk.2]; rfl) k
  rw [hk.2] at q
  exact q
theorem by_44 {P : PH} {o : Nat} {k z : Int} (h : BdX P) (hk : kx o 44) (hz : (-2147483648) ≤ z ∧ z ≤ 2147483647) : BdX (up P o k z) := BdX.a h hk.1 (by rw [hk.2]; rfl) (by rw [hk.2]; exact hz) (rfX.o h.2.2 ⟨fun q => by have := hk.2; rw [← q.1] at this; exact absurd this (by decide), fun q => by have := hk.2; rw [← q.1] at this; exact absurd this (by decide), fun q => by have := hk.2; rw [← q.1] at this; exact absurd this (by decide), fun q => by have := hk.2; rw [← q.1] at this; exact absurd this (by decide), fun q => by have := hk.2; rw [← q.1] at this; exact absurd this (by decide), fun q => by have := hk.2; rw [← q.1] at this; exact absurd this (by decide)⟩)
theorem bx_45_3 {P : PH} {o : Nat} (h : BdX P) (hk : kx o 45) : (-2147483648) ≤ P o 3 ∧ P o 3 ≤ 2147483647 := by
  have q := h.1 o hk.1 3 (by rw [hk.2]; rfl) (by rw [hk.2]; decide) (by rw [hk.2]; decide)
  rw [hk.2] at q
  exact q
theorem by_45_3 {P : PH} {o : Nat} {z : Int} (h : BdX P) (hk : kx o 45) (hz : (-2147483648) ≤ z ∧ z ≤ 2147483647) : BdX (up P o 3 z) := BdX.s 3 h hk.1 (by rw [hk.2]; rfl) (by rw [hk.2]; decide) (by rw [hk.2]; exact hz) (rfX.o h.2.2 ⟨fun q => by have := hk.2; rw [← q.1] at this; exact absurd this (by decide), fun q => by have := hk.2; rw [← q.1] at this; exact absurd this (by decide), fun q => absurd q.2 (by decide), fun q => by have := hk.2; rw [← q.1] at this; exact absurd this (by decide), fun q => by have := hk.2; rw [← q.1] at this; exact absurd this (by decide), fun q => by have := hk.2; rw [← q.1] at this; exact absurd this (by decide)⟩)
theorem bx_45_4 {P : PH} {o : Nat} (h : BdX P) (hk : kx o 45) : (-2147483648) ≤ P o 4 ∧ P o 4 ≤ 2147483647 := by
  have q := h.1 o hk.1 4 (by rw [hk.2]; rfl) (by rw [hk.2]; decide) (by rw [hk.2]; decide)
  rw [hk.2] at q
  exact q
theorem by_45_4 {P : PH} {o : Nat} {z : Int} (h : BdX P) (hk : kx o 45) (hz : (-2147483648) ≤ z ∧ z ≤ 2147483647) : BdX (up P o 4 z) := BdX.s 4 h hk.1 (by rw [hk.2]; rfl) (by rw [hk.2]; decide) (by rw [hk.2]; exact hz) (rfX.o h.2.2 ⟨fun q => by have := hk.2; rw [← q.1] at this; exact absurd this (by decide), fun q => by have := hk.2; rw [← q.1] at this; exact absurd this (by decide), fun q => absurd q.2 (by decide), fun q => by have := hk.2; rw [← q.1] at this; exact absurd this (by decide), fun q => by have := hk.2; rw [← q.1] at this; exact absurd this (by decide), fun q => by have := hk.2; rw [← q.1] at this; exact absurd this (by decide)⟩)
theorem bx_46_2 {P : PH} {o : Nat} (h : BdX P) (hk : kx o 46) : 0 ≤ P o 2 ∧ P o 2 ≤ 1600 := by
  have q := h.1 o hk.1 2 (by rw [hk.2]; rfl) (by rw [hk.2]; decide) (by rw [hk.2]; decide)
  rw [hk.2] at q
  exact q
theorem by_46_2 {P : PH} {o : Nat} {z : Int} (h : BdX P) (hk : kx o 46) (hz : 0 ≤ z ∧ z ≤ 1600) : BdX (up P o 2 z) := BdX.s 2 h hk.1 (by rw [hk.2]; rfl) (by rw [hk.2]; decide) (by rw [hk.2]; exact hz) (rfX.o h.2.2 ⟨fun q => by have := hk.2; rw [← q.1] at this; exact absurd this (by decide), fun q => by have := hk.2; rw [← q.1] at this; exact absurd this (by decide), fun q => by have := hk.2; rw [← q.1] at this; exact absurd this (by decide), fun q => absurd q.2 (by decide), fun q => by have := hk.2; rw [← q.1] at this; exact absurd this (by decide), fun q => by have := hk.2; rw [← q.1] at this; exact absurd this (by decide)⟩)
theorem bx_46_3 {P : PH} {o : Nat} (h : BdX P) (hk : kx o 46) : 0 ≤ P o 3 ∧ P o 3 ≤ 1600 := by
  have q := h.1 o hk.1 3 (by rw [hk.2]; rfl) (by rw [hk.2]; decide) (by rw [hk.2]; decide)
  rw [hk.2] at q
  exact q
theorem by_46_3 {P : PH} {o : Nat} {z : Int} (h : BdX P) (hk : kx o 46) (hz : 0 ≤ z ∧ z ≤ 1600) : BdX (up P o 3 z) := BdX.s 3 h hk.1 (by rw [hk.2]; rfl) (by rw [hk.2]; decide) (by rw [hk.2]; exact hz) (rfX.o h.2.2 ⟨fun q => by have := hk.2; rw [← q.1] at this; exact absurd this (by decide), fun q => by have := hk.2; rw [← q.1] at this; exact absurd this (by decide), fun q => by have := hk.2; rw [← q.1] at this; exact absurd this (by decide), fun q => absurd q.2 (by decide), fun q => by have := hk.2; rw [← q.1] at this; exact absurd this (by decide), fun q => by have := hk.2; rw [← q.1] at this; exact absurd this (by decide)⟩)
theorem bx_46_4 {P : PH} {o : Nat} (h : BdX P) (hk : kx o 46) : (-2147483648) ≤ P o 4 ∧ P o 4 ≤ 2147483647 := by
  have q := h.1 o hk.1 4 (by rw [hk.2]; rfl) (by rw [hk.2]; decide) (by rw [hk.2]; decide)
  rw [hk.2] at q
  exact q
theorem by_46_4 {P : PH} {o : Nat} {z : Int} (h : BdX P) (hk : kx o 46) (hz : (-2147483648) ≤ z ∧ z ≤ 2147483647) : BdX (up P o 4 z) := BdX.s 4 h hk.1 (by rw [hk.2]; rfl) (by rw [hk.2]; decide) (by rw [hk.2]; exact hz) (rfX.o h.2.2 ⟨fun q => by have := hk.2; rw [← q.1] at this; exact absurd this (by decide), fun q => by have := hk.2; rw [← q.1] at this; exact absurd this (by decide), fun q => by have := hk.2; rw [← q.1] at this; exact absurd this (by decide), fun q => absurd q.2 (by decide), fun q => by have := hk.2; rw [← q.1] at this; exact absurd this (by decide), fun q => by have := hk.2; rw [← q.1] at this; exact absurd this (by decide)⟩)
theorem bx_46_5 {P : PH} {o : Nat} (h : BdX P) (hk : kx o 46) : (-2147483648) ≤ P o 5 ∧ P o 5 ≤ 2147483647 := by
  have q := h.1 o hk.1 5 (by rw [hk.2]; rfl) (by rw [hk.2]; decide) (by rw [hk.2]; decide)
  rw [hk.2] at q
  exact q
theorem by_46_5 {P : PH} {o : Nat} {z : Int} (h : BdX P) (hk : kx o 46) (hz : (-2147483648) ≤ z ∧ z ≤ 2147483647) : BdX (up P o 5 z) := BdX.s 5 h hk.1 (by rw [hk.2]; rfl) (by rw [hk.2]; decide) (by rw [hk.2]; exact hz) (rfX.o h.2.2 ⟨fun q => by have := hk.2; rw [← q.1] at this; exact absurd this (by decide), fun q => by have := hk.2; rw [← q.1] at this; exact absurd this (by decide), fun q => by have := hk.2; rw [← q.1] at this; exact absurd this (by decide), fun q => absurd q.2 (by decide), fun q => by have := hk.2; rw [← q.1] at this; exact absurd this (by decide), fun q => by have := hk.2; rw [← q.1] at this; exact absurd this (by decide)⟩)
theorem bx_46_6 {P : PH} {o : Nat} (h : BdX P) (hk : kx o 46) : (-2147483648) ≤ P o 6 ∧ P o 6 ≤ 2147483647 := by
  have q := h.1 o hk.1 6 (by rw [hk.2]; rfl) (by rw [hk.2]; decide) (by rw [hk.2]; decide)
  rw [hk.2] at q
  exact q
theorem by_46_6 {P : PH} {o : Nat} {z : Int} (h : BdX P) (hk : kx o 46) (hz : (-2147483648) ≤ z ∧ z ≤ 2147483647) : BdX (up P o 6 z) := BdX.s 6 h hk.1 (by rw [hk.2]; rfl) (by rw [hk.2]; decide) (by rw [hk.2]; exact hz) (rfX.o h.2.2 ⟨fun q => by have := hk.2; rw [← q.1] at this; exact absurd this (by decide), fun q => by have := hk.2; rw [← q.1] at this; exact absurd this (by decide), fun q => by have := hk.2; rw [← q.1] at this; exact absurd this (by decide), fun q => absurd q.2 (by decide), fun q => by have := hk.2; rw [← q.1] at this; exact absurd this (by decide), fun q => by have := hk.2; rw [← q.1] at this; exact absurd this (by decide)⟩)
theorem bx_46_7 {P : PH} {o : Nat} (h : BdX P) (hk : kx o 46) : (-2147483648) ≤ P o 7 ∧ P o 7 ≤ 2147483647 := by
  have q := h.1 o hk.1 7 (by rw [hk.2]; rfl) (by rw [hk.2]; decide) (by rw [hk.2]; decide)
  rw [hk.2] at q
  exact q
theorem by_46_7 {P : PH} {o : Nat} {z : Int} (h : BdX P) (hk : kx o 46) (hz : (-2147483648) ≤ z ∧ z ≤ 2147483647) : BdX (up P o 7 z) := BdX.s 7 h hk.1 (by rw [hk.2]; rfl) (by rw [hk.2]; decide) (by rw [hk.2]; exact hz) (rfX.o h.2.2 ⟨fun q => by have := hk.2; rw [← q.1] at this; exact absurd this (by decide), fun q => by have := hk.2; rw [← q.1] at this; exact absurd this (by decide), fun q => by have := hk.2; rw [← q.1] at this; exact absurd this (by decide), fun q => absurd q.2 (by decide), fun q => by have := hk.2; rw [← q.1] at this; exact absurd this (by decide), fun q => by have := hk.2; rw [← q.1] at this; exact absurd this (by decide)⟩)
theorem bx_46_8 {P : PH} {o : Nat} (h : BdX P) (hk : kx o 46) : (-2147483648) ≤ P o 8 ∧ P o 8 ≤ 2147483647 := by
  have q := h.1 o hk.1 8 (by rw [hk.2]; rfl) (by rw [hk.2]; decide) (by rw [hk.2]; decide)
  rw [hk.2] at q
  exact q
theorem by_46_8 {P : PH} {o : Nat} {z : Int} (h : BdX P) (hk : kx o 46) (hz : (-2147483648) ≤ z ∧ z ≤ 2147483647) : BdX (up P o 8 z) := BdX.s 8 h hk.1 (by rw [hk.2]; rfl) (by rw [hk.2]; decide) (by rw [hk.2]; exact hz) (rfX.o h.2.2 ⟨fun q => by have := hk.2; rw [← q.1] at this; exact absurd this (by decide), fun q => by have := hk.2; rw [← q.1] at this; exact absurd this (by decide), fun q => by have := hk.2; rw [← q.1] at this; exact absurd this (by decide), fun q => absurd q.2 (by decide), fun q => by have := hk.2; rw [← q.1] at this; exact absurd this (by decide), fun q => by have := hk.2; rw [← q.1] at this; exact absurd this (by decide)⟩)
theorem bx_47 {P : PH} {o : Nat} {k : Int} (h : BdX P) (hk : kx o 47) : (-2147483648) ≤ P o k ∧ P o k ≤ 2147483647 := by
  have q := h.2.1 o hk.1 (by rw [hk.2]; rfl) k
  rw [hk.2] at q
  exact q
theorem bx_50 {P : PH} {o : Nat} {k : Int} (h : BdX P) (hk : kx o 50) : (-2147483648) ≤ P o k ∧ P o k ≤ 2147483647 := by
  have q := h.2.1 o hk.1 (by rw [hk.2]; rfl) k
  rw [hk.2] at q
  exact q
theorem by_50 {P : PH} {o : Nat} {k z : Int} (h : BdX P) (hk : kx o 50) (hz : (-2147483648) ≤ z ∧ z ≤ 2147483647) : BdX (up P o k z) := BdX.a h hk.1 (by rw [hk.2]; rfl) (by rw [hk.2]; exact hz) (rfX.o h.2.2 ⟨fun q => by have := hk.2; rw [← q.1] at this; exact absurd this (by decide), fun q => by have := hk.2; rw [← q.1] at this; exact absurd this (by decide), fun q => by have := hk.2; rw [← q.1] at this; exact absurd this (by decide), fun q => by have := hk.2; rw [← q.1] at this; exact absurd this (by decide), fun q => by have := hk.2; rw [← q.1] at this; exact absurd this (by decide), fun q => by have := hk.2; rw [← q.1] at this; exact absurd this (by decide)⟩)
theorem bx_51_4 {P : PH} {o : Nat} (h : BdX P) (hk : kx o 51) : (-2147483648) ≤ P o 4 ∧ P o 4 ≤ 2147483647 := by
  have q := h.1 o hk.1 4 (by rw [hk.2]; rfl) (by rw [hk.2]; decide) (by rw [hk.2]; decide)
  rw [hk.2] at q
  exact q
theorem by_51_4 {P : PH} {o : Nat} {z : Int} (h : BdX P) (hk : kx o 51) (hz : (-2147483648) ≤ z ∧ z ≤ 2147483647) : BdX (up P o 4 z) := BdX.s 4 h hk.1 (by rw [hk.2]; rfl) (by rw [hk.2]; decide) (by rw [hk.2]; exact hz) (rfX.o h.2.2 ⟨fun q => by have := hk.2; rw [← q.1] at this; exact absurd this (by decide), fun q => by have := hk.2; rw [← q.1] at this; exact absurd this (by decide), fun q => by have := hk.2; rw [← q.1] at this; exact absurd this (by decide), fun q => by have := hk.2; rw [← q.1] at this; exact absurd this (by decide), fun q => absurd q.2 (by decide), fun q => absurd q.2 (by decide)⟩)
theorem bx_51_5 {P : PH} {o : Nat} (h : BdX P) (hk : kx o 51) : (-2147483648) ≤ P o 5 ∧ P o 5 ≤ 2147483647 := by
  have q := h.1 o hk.1 5 (by rw [hk.2]; rfl) (by rw [hk.2]; decide) (by rw [hk.2]; decide)
  rw [hk.2] at q
  exact q
theorem by_51_5 {P : PH} {o : Nat} {z : Int} (h : BdX P) (hk : kx o 51) (hz : (-2147483648) ≤ z ∧ z ≤ 2147483647) : BdX (up P o 5 z) := BdX.s 5 h hk.1 (by rw [hk.2]; rfl) (by rw [hk.2]; decide) (by rw [hk.2]; exact hz) (rfX.o h.2.2 ⟨fun q => by have := hk.2; rw [← q.1] at this; exact absurd this (by decide), fun q => by have := hk.2; rw [← q.1] at this; exact absurd this (by decide), fun q => by have := hk.2; rw [← q.1] at this; exact absurd this (by decide), fun q => by have := hk.2; rw [← q.1] at this; exact absurd this (by decide), fun q => absurd q.2 (by decide), fun q => absurd q.2 (by decide)⟩)
theorem bx_51_7 {P : PH} {o : Nat} (h : BdX P) (hk : kx o 51) : (-2147483648) ≤ P o 7 ∧ P o 7 ≤ 2147483647 := by
  have q := h.1 o hk.1 7 (by rw [hk.2]; rfl) (by rw [hk.2]; decide) (by rw [hk.2]; decide)
  rw [hk.2] at q
  exact q
theorem by_51_7 {P : PH} {o : Nat} {z : Int} (h : BdX P) (hk : kx o 51) (hz : (-2147483648) ≤ z ∧ z ≤ 2147483647) : BdX (up P o 7 z) := BdX.s 7 h hk.1 (by rw [hk.2]; rfl) (by rw [hk.2]; decide) (by rw [hk.2]; exact hz) (rfX.o h.2.2 ⟨fun q => by have := hk.2; rw [← q.1] at this; exact absurd this (by decide), fun q => by have := hk.2; rw [← q.1] at this; exact absurd this (by decide), fun q => by have := hk.2; rw [← q.1] at this; exact absurd this (by decide), fun q => by have := hk.2; rw [← q.1] at this; exact absurd this (by decide), fun q => absurd q.2 (by decide), fun q => absurd q.2 (by decide)⟩)
theorem by_51_8 {P : PH} {o : Nat} {z : Int} (h : BdX P) (hk : kx o 51) (hz : (-2147483648) ≤ z ∧ z ≤ 2147483647) : BdX (up P o 8 z) := BdX.s 8 h hk.1 (by rw [hk.2]; rfl) (by rw [hk.2]; decide) (by rw [hk.2]; exact hz) (rfX.o h.2.2 ⟨fun q => by have := hk.2; rw [← q.1] at this; exact absurd this (by decide), fun q => by have := hk.2; rw [← q.1] at this; exact absurd this (by decide), fun q => by have := hk.2; rw [← q.1] at this; exact absurd this (by decide), fun q => by have := hk.2; rw [← q.1] at this; exact absurd this (by decide), fun q => absurd q.2 (by decide), fun q => absurd q.2 (by decide)⟩)
theorem bx_51_9 {P : PH} {o : Nat} (h : BdX P) (hk : kx o 51) : (-2147483648) ≤ P o 9 ∧ P o 9 ≤ 2147483647 := by
  have q := h.1 o hk.1 9 (by rw [hk.2]; rfl) (by rw [hk.2]; decide) (by rw [hk.2]; decide)
  rw [hk.2] at q
  exact q
theorem by_51_9 {P : PH} {o : Nat} {z : Int} (h : BdX P) (hk : kx o 51) (hz : (-2147483648) ≤ z ∧ z ≤ 2147483647) : BdX (up P o 9 z) := BdX.s 9 h hk.1 (by rw [hk.2]; rfl) (by rw [hk.2]; decide) (by rw [hk.2]; exact hz) (rfX.o h.2.2 ⟨fun q => by have := hk.2; rw [← q.1] at this; exact absurd this (by decide), fun q => by have := hk.2; rw [← q.1] at this; exact absurd this (by decide), fun q => by have := hk.2; rw [← q.1] at this; exact absurd this (by decide), fun q => by have := hk.2; rw [← q.1] at this; exact absurd this (by decide), fun q => absurd q.2 (by decide), fun q => absurd q.2 (by decide)⟩)
theorem bx_51_10 {P : PH} {o : Nat} (h : BdX P) (hk : kx o 51) : 0 ≤ P o 10 ∧ P o 10 ≤ 999 := by
  have q := h.1 o hk.1 10 (by rw [hk.2]; rfl) (by rw [hk.2]; decide) (by rw [hk.2]; decide)
  rw [hk.2] at q
  exact q
theorem by_51_10 {P : PH} {o : Nat} {z : Int} (h : BdX P) (hk : kx o 51) (hz : 0 ≤ z ∧ z ≤ 999) : BdX (up P o 10 z) := BdX.s 10 h hk.1 (by rw [hk.2]; rfl) (by rw [hk.2]; decide) (by rw [hk.2]; exact hz) (rfX.o h.2.2 ⟨fun q => by have := hk.2; rw [← q.1] at this; exact absurd this (by decide), fun q => by have := hk.2; rw [← q.1] at this; exact absurd this (by decide), fun q => by have := hk.2; rw [← q.1] at this; exact absurd this (by decide), fun q => by have := hk.2; rw [← q.1] at this; exact absurd this (by decide), fun q => absurd q.2 (by decide), fun q => absurd q.2 (by decide)⟩)
theorem bx_51_11 {P : PH} {o : Nat} (h : BdX P) (hk : kx o 51) : 0 ≤ P o 11 ∧ P o 11 ≤ 1 := by
  have q := h.1 o hk.1 11 (by rw [hk.2]; rfl) (by rw [hk.2]; decide) (by rw [hk.2]; decide)
  rw [hk.2] at q
  exact q
theorem by_51_11 {P : PH} {o : Nat} {z : Int} (h : BdX P) (hk : kx o 51) (hz : 0 ≤ z ∧ z ≤ 1) : BdX (up P o 11 z) := BdX.s 11 h hk.1 (by rw [hk.2]; rfl) (by rw [hk.2]; decide) (by rw [hk.2]; exact hz) (rfX.o h.2.2 ⟨fun q => by have := hk.2; rw [← q.1] at this; exact absurd this (by decide), fun q => by have := hk.2; rw [← q.1] at this; exact absurd this (by decide), fun q => by have := hk.2; rw [← q.1] at this; exact absurd this (by decide), fun q => by have := hk.2; rw [← q.1] at this; exact absurd this (by decide), fun q => absurd q.2 (by decide), fun q => absurd q.2 (by decide)⟩)
theorem bx_51_12 {P : PH} {o : Nat} (h : BdX P) (hk : kx o 51) : (-2147483648) ≤ P o 12 ∧ P o 12 ≤ 2147483647 := by
  have q := h.1 o hk.1 12 (by rw [hk.2]; rfl) (by rw [hk.2]; decide) (by rw [hk.2]; decide)
  rw [hk.2] at q
  exact q
theorem by_51_12 {P : PH} {o : Nat} {z : Int} (h : BdX P) (hk : kx o 51) (hz : (-2147483648) ≤ z ∧ z ≤ 2147483647) : BdX (up P o 12 z) := BdX.s 12 h hk.1 (by rw [hk.2]; rfl) (by rw [hk.2]; decide) (by rw [hk.2]; exact hz) (rfX.o h.2.2 ⟨fun q => by have := hk.2; rw [← q.1] at this; exact absurd this (by decide), fun q => by have := hk.2; rw [← q.1] at this; exact absurd this (by decide), fun q => by have := hk.2; rw [← q.1] at this; exact absurd this (by decide), fun q => by have := hk.2; rw [← q.1] at this; exact absurd this (by decide), fun q => absurd q.2 (by decide), fun q => absurd q.2 (by decide)⟩)
theorem bx_54 {P : PH} {o : Nat} {k : Int} (h : BdX P) (hk : kx o 54) : (-9223372036854775808) ≤ P o k ∧ P o k ≤ 9223372036854775807 := by
  have q := h.2.1 o hk.1 (by rw [hk.2]; rfl) k
  rw [hk.2] at q
  exact q
theorem by_54 {P : PH} {o : Nat} {k z : Int} (h : BdX P) (hk : kx o 54) (hz : (-9223372036854775808) ≤ z ∧ z ≤ 9223372036854775807) : BdX (up P o k z) := BdX.a h hk.1 (by rw [hk.2]; rfl) (by rw [hk.2]; exact hz) (rfX.o h.2.2 ⟨fun q => by have := hk.2; rw [← q.1] at this; exact absurd this (by decide), fun q => by have := hk.2; rw [← q.1] at this; exact absurd this (by decide), fun q => by have := hk.2; rw [← q.1] at this; exact absurd this (by decide), fun q => by have := hk.2; rw [← q.1] at this; exact absurd this (by decide), fun q => by have := hk.2; rw [← q.1] at this; exact absurd this (by decide), fun q => by have := hk.2; rw [← q.1] at this; exact absurd this (by decide)⟩)
theorem bx_55 {P : PH} {o : Nat} {k : Int} (h : BdX P) (hk : kx o 55) : (-2147483648) ≤ P o k ∧ P o k ≤ 2147483647 := by
  have q := h.2.1 o hk.1 (by rw [hk.2]; rfl) k
  rw [hk.2] at q
  exact q
theorem by_55 {P : PH} {o : Nat} {k z : Int} (h : BdX P) (hk : kx o 55) (hz : (-2147483648) ≤ z ∧ z ≤ 2147483647) : BdX (up P o k z) := BdX.a h hk.1 (by rw [hk.2]; rfl) (by rw [hk.2]; exact hz) (rfX.o h.2.2 ⟨fun q => by have := hk.2; rw [← q.1] at this; exact absurd this (by decide), fun q => by have := hk.2; rw [← q.1] at this; exact absurd this (by decide), fun q => by have := hk.2; rw [← q.1] at this; exact absurd this (by decide), fun q => by have := hk.2; rw [← q.1] at this; exact absurd this (by decide), fun q => by have := hk.2; rw [← q.1] at this; exact absurd this (by decide), fun q => by have := hk.2; rw [← q.1] at this; exact absurd this (by decide)⟩)
theorem br_0_10 {P : PH} (h : BdX P) : P 0 10 = ((P 0 10).toNat : Int) := (Int.toNat_of_nonneg (h.2.2.1).1).symm
theorem bk_0_10 {P : PH} (h : BdX P) : kx (P 0 10).toNat 28 := (h.2.2.1).2
theorem bw_0_10 {P : PH} {x : Nat} (h : BdX P) (hx : kx x 28) : BdX (up P 0 10 (x : Int)) := BdX.r 10 h (by decide) rfl rfl (show rfX (up P 0 10 (x : Int)) from ⟨(by rw [up_same]; exact ⟨Int.natCast_nonneg _, by rw [Int.toNat_natCast]; exact hx⟩), (by rw [up_k (by decide)]; exact h.2.2.2.1), (by rw [up_o (by decide)]; exact h.2.2.2.2.1), (by rw [up_o (by decide)]; exact h.2.2.2.2.2.1), (by rw [up_o (by decide)]; exact h.2.2.2.2.2.2.1), (by rw [up_o (by decide)]; exact h.2.2.2.2.2.2.2)⟩)
theorem br_0_11 {P : PH} (h : BdX P) : P 0 11 = ((P 0 11).toNat : Int) := (Int.toNat_of_nonneg (h.2.2.2.1).1).symm
theorem bk_0_11 {P : PH} (h : BdX P) : kx (P 0 11).toNat 28 := (h.2.2.2.1).2
theorem bw_0_11 {P : PH} {x : Nat} (h : BdX P) (hx : kx x 28) : BdX (up P 0 11 (x : Int)) := BdX.r 11 h (by decide) rfl rfl (show rfX (up P 0 11 (x : Int)) from ⟨(by rw [up_k (by decide)]; exact h.2.2.1), (by rw [up_same]; exact ⟨Int.natCast_nonneg _, by rw [Int.toNat_natCast]; exact hx⟩), (by rw [up_o (by decide)]; exact h.2.2.2.2.1), (by rw [up_o (by decide)]; exact h.2.2.2.2.2.1), (by rw [up_o (by decide)]; exact h.2.2.2.2.2.2.1), (by rw [up_o (by decide)]; exact h.2.2.2.2.2.2.2)⟩)
theorem br_110_2 {P : PH} (h : BdX P) : P 110 2 = ((P 110 2).toNat : Int) := (Int.toNat_of_nonneg (h.2.2.2.2.1).1).symm
theorem bk_110_2 {P : PH} (h : BdX P) : kx (P 110 2).toNat 28 := (h.2.2.2.2.1).2
theorem bw_110_2 {P : PH} {x : Nat} (h : BdX P) (hx : kx x 28) : BdX (up P 110 2 (x : Int)) := BdX.r 2 h (by decide) rfl rfl (show rfX (up P 110 2 (x : Int)) from ⟨(by rw [up_o (by decide)]; exact h.2.2.1), (by rw [up_o (by decide)]; exact h.2.2.2.1), (by rw [up_same]; exact ⟨Int.natCast_nonneg _, by rw [Int.toNat_natCast]; exact hx⟩), (by rw [up_o (by decide)]; exact h.2.2.2.2.2.1), (by rw [up_o (by decide)]; exact h.2.2.2.2.2.2.1), (by rw [up_o (by decide)]; exact h.2.2.2.2.2.2.2)⟩)
theorem bw_111_1 {P : PH} {x : Nat} (h : BdX P) : BdX (up P 111 1 (x : Int)) := BdX.r 1 h (by decide) rfl rfl (show rfX (up P 111 1 (x : Int)) from ⟨(by rw [up_o (by decide)]; exact h.2.2.1), (by rw [up_o (by decide)]; exact h.2.2.2.1), (by rw [up_o (by decide)]; exact h.2.2.2.2.1), (by rw [up_same]; exact Int.natCast_nonneg _), (by rw [up_o (by decide)]; exact h.2.2.2.2.2.2.1), (by rw [up_o (by decide)]; exact h.2.2.2.2.2.2.2)⟩)
theorem br_125_13 {P : PH} (h : BdX P) : P 125 13 = ((P 125 13).toNat : Int) := (Int.toNat_of_nonneg (h.2.2.2.2.2.2.1).1).symm
theorem bk_125_13 {P : PH} (h : BdX P) : kx (P 125 13).toNat 28 := (h.2.2.2.2.2.2.1).2
theorem bw_125_13 {P : PH} {x : Nat} (h : BdX P) (hx : kx x 28) : BdX (up P 125 13 (x : Int)) := BdX.r 13 h (by decide) rfl rfl (show rfX (up P 125 13 (x : Int)) from ⟨(by rw [up_o (by decide)]; exact h.2.2.1), (by rw [up_o (by decide)]; exact h.2.2.2.1), (by rw [up_o (by decide)]; exact h.2.2.2.2.1), (by rw [up_o (by decide)]; exact h.2.2.2.2.2.1), (by rw [up_same]; exact ⟨Int.natCast_nonneg _, by rw [Int.toNat_natCast]; exact hx⟩), (by rw [up_k (by decide)]; exact h.2.2.2.2.2.2.2)⟩)
theorem br_125_14 {P : PH} (h : BdX P) : P 125 14 = ((P 125 14).toNat : Int) := (Int.toNat_of_nonneg (h.2.2.2.2.2.2.2).1).symm
theorem bk_125_14 {P : PH} (h : BdX P) : kx (P 125 14).toNat 14 := (h.2.2.2.2.2.2.2).2
theorem bw_125_14 {P : PH} {x : Nat} (h : BdX P) (hx : kx x 14) : BdX (up P 125 14 (x : Int)) := BdX.r 14 h (by decide) rfl rfl (show rfX (up P 125 14 (x : Int)) from ⟨(by rw [up_o (by decide)]; exact h.2.2.1), (by rw [up_o (by decide)]; exact h.2.2.2.1), (by rw [up_o (by decide)]; exact h.2.2.2.2.1), (by rw [up_o (by decide)]; exact h.2.2.2.2.2.1), (by rw [up_k (by decide)]; exact h.2.2.2.2.2.2.1), (by rw [up_same]; exact ⟨Int.natCast_nonneg _, by rw [Int.toNat_natCast]; exact hx⟩)⟩)
/-- what a method leaves: fields of kinds but these, arrays of kinds but these -/
abbrev FSX : Type := List (Nat × Int) × List Nat
def inF (F : FSX) (k : Nat) (j : Int) : Bool := F.2.contains k || F.1.any fun q => q.1 == k && q.2 == j
def FrX (F : FSX) (P P1 : PH) : Prop := ∀ (o : Nat) (j : Int), o < 154 → inF F (kdX o) j = false → P1 o j = P o j
theorem FrX.rf {F : FSX} {P : PH} : FrX F P P := fun _ _ _ _ => rfl
theorem FrX.g {F : FSX} {P P1 : PH} {o k : Nat} {j : Int} (h : FrX F P P1) (hk : kx o k) (hn : inF F k j = false) : P1 o j = P o j := h o j hk.1 (by rw [hk.2]; exact hn)
theorem FrX.s {F : FSX} {P P1 : PH} {o k : Nat} {j z : Int} (h : FrX F P P1) (hk : kx o k) (hi : inF F k j = true) : FrX F P (up P1 o j z) := by
  intro o1 j1 h1 h2
  by_cases e : o1 = o ∧ j1 = j
  · obtain ⟨rfl, rfl⟩ := e
    rw [hk.2, hi] at h2
    cases h2
  · show (if o1 = o ∧ j1 = j then z else P1 o1 j1) = _
    rw [if_neg e]; exact h o1 j1 h1 h2
def subX (F1 F2 : FSX) : Bool := F1.2.all (F2.2.contains ·) && F1.1.all fun q => F2.2.contains q.1 || F2.1.any fun r => r.1 == q.1 && r.2 == q.2
theorem FrX.mono {F1 F2 : FSX} {P P1 : PH} (h : FrX F1 P P1) (hs : subX F1 F2 = true) : FrX F2 P P1 := by
  intro o j ho hn
  refine h o j ho ?_
  unfold subX at hs
  rw [Bool.and_eq_true] at hs
  unfold inF at hn ⊢
  rw [Bool.or_eq_false_iff] at hn ⊢
  refine ⟨?_, ?_⟩
  · cases hc : F1.2.contains (kdX o) with
    | false => rfl
    | true =>
      have := List.all_eq_true.mp hs.1 _ (List.contains_iff_mem.mp hc)
      rw [hn.1] at this
      cases this
  · cases hc : F1.1.any fun q => q.1 == kdX o && q.2 == j with
    | false => rfl
    | true =>
      obtain ⟨q, hq, he⟩ := List.any_eq_true.mp hc
      rw [Bool.and_eq_true, beq_iff_eq, beq_iff_eq] at he
      have := List.all_eq_true.mp hs.2 q hq
      rw [he.1, he.2, hn.1, Bool.false_or] at this
      rw [hn.2] at this
      cases this
theorem FrX.c {F1 F2 : FSX} {P P1 P2 : PH} (h : FrX F2 P P1) (hc : FrX F1 P1 P2) (hs : subX F1 F2 = true) : FrX F2 P P2 := fun o j ho hn => ((hc.mono hs) o j ho hn).trans (h o j ho hn)
def TX (P : PH) : Prop := P 111 1 = 2
theorem TX.fr {P P1 : PH} {F : FSX} (h : TX P) (hf : FrX F P P1) (hd : inF F 46 1 = false) : TX P1 := (hf.g (o := 111) (k := 46) ⟨by decide, rfl⟩ hd).trans h
section XR
variable {G : GT} {d : Nat} {i : MI} {pc : Nat} {ls : List (Nat × PV)} {st : List PV} {P : PH} {Q : Option PV → PH → Prop} {o : Nat}
theorem x_g0_0 {idx n : Nat} (hk : kx o 0) (hF : FF i.1.cls idx 11 0 15) (hd : decode i.2.1 pc = .ok (.getfield idx, 3)) (hn : crX o 0 = n) (k : Go WSX G d i (pc + 3) ls (vR n :: st) P Q) : Go WSX G d i pc ls (vR o :: st) P Q := by
  subst hn
  exact g_getC hF hk.1 (hk.sh rfl) (hk.ft rfl) hd k
theorem x_g0_1 {idx n : Nat} (hk : kx o 0) (hF : FF i.1.cls idx 11 1 15) (hd : decode i.2.1 pc = .ok (.getfield idx, 3)) (hn : crX o 1 = n) (k : Go WSX G d i (pc + 3) ls (vR n :: st) P Q) : Go WSX G d i pc ls (vR o :: st) P Q := by
  subst hn
  exact g_getC hF hk.1 (hk.sh rfl) (hk.ft rfl) hd k
theorem x_g0_2 {idx n : Nat} (hk : kx o 0) (hF : FF i.1.cls idx 11 2 15) (hd : decode i.2.1 pc = .ok (.getfield idx, 3)) (hn : crX o 2 = n) (k : Go WSX G d i (pc + 3) ls (vR n :: st) P Q) : Go WSX G d i pc ls (vR o :: st) P Q := by
  subst hn
  exact g_getC hF hk.1 (hk.sh rfl) (hk.ft rfl) hd k
theorem x_g0_3 {idx n : Nat} (hk : kx o 0) (hF : FF i.1.cls idx 11 3 15) (hd : decode i.2.1 pc = .ok (.getfield idx, 3)) (hn : crX o 3 = n) (k : Go WSX G d i (pc + 3) ls (vR n :: st) P Q) : Go WSX G d i pc ls (vR o :: st) P Q := by
  subst hn
  exact g_getC hF hk.1 (hk.sh rfl) (hk.ft rfl) hd k
theorem x_g0_4 {idx n : Nat} (hk : kx o 0) (hF : FF i.1.cls idx 11 4 15) (hd : decode i.2.1 pc = .ok (.getfield idx, 3)) (hn : crX o 4 = n) (k : Go WSX G d i (pc + 3) ls (vR n :: st) P Q) : Go WSX G d i pc ls (vR o :: st) P Q := by
  subst hn
  exact g_getC hF hk.1 (hk.sh rfl) (hk.ft rfl) hd k
theorem x_g0_5 {idx n : Nat} (hk : kx o 0) (hF : FF i.1.cls idx 11 5 15) (hd : decode i.2.1 pc = .ok (.getfield idx, 3)) (hn : crX o 5 = n) (k : Go WSX G d i (pc + 3) ls (vR n :: st) P Q) : Go WSX G d i pc ls (vR o :: st) P Q := by
  subst hn
  exact g_getC hF hk.1 (hk.sh rfl) (hk.ft rfl) hd k
theorem x_g0_6 {idx n : Nat} (hk : kx o 0) (hF : FF i.1.cls idx 11 6 15) (hd : decode i.2.1 pc = .ok (.getfield idx, 3)) (hn : crX o 6 = n) (k : Go WSX G d i (pc + 3) ls (vR n :: st) P Q) : Go WSX G d i pc ls (vR o :: st) P Q := by
  subst hn
  exact g_getC hF hk.1 (hk.sh rfl) (hk.ft rfl) hd k
theorem x_g0_7 {idx n : Nat} (hk : kx o 0) (hF : FF i.1.cls idx 11 7 15) (hd : decode i.2.1 pc = .ok (.getfield idx, 3)) (hn : crX o 7 = n) (k : Go WSX G d i (pc + 3) ls (vR n :: st) P Q) : Go WSX G d i pc ls (vR o :: st) P Q := by
  subst hn
  exact g_getC hF hk.1 (hk.sh rfl) (hk.ft rfl) hd k
theorem x_g0_8 {idx n : Nat} (hk : kx o 0) (hF : FF i.1.cls idx 11 8 15) (hd : decode i.2.1 pc = .ok (.getfield idx, 3)) (hn : crX o 8 = n) (k : Go WSX G d i (pc + 3) ls (vR n :: st) P Q) : Go WSX G d i pc ls (vR o :: st) P Q := by
  subst hn
  exact g_getC hF hk.1 (hk.sh rfl) (hk.ft rfl) hd k
theorem x_g0_9 {idx n : Nat} (hk : kx o 0) (hF : FF i.1.cls idx 11 9 15) (hd : decode i.2.1 pc = .ok (.getfield idx, 3)) (hn : crX o 9 = n) (k : Go WSX G d i (pc + 3) ls (vR n :: st) P Q) : Go WSX G d i pc ls (vR o :: st) P Q := by
  subst hn
  exact g_getC hF hk.1 (hk.sh rfl) (hk.ft rfl) hd k
theorem x_g0_10 {idx n : Nat} (hk : kx o 0) (hF : FF i.1.cls idx 11 10 15) (hd : decode i.2.1 pc = .ok (.getfield idx, 3)) (hn : P o 10 = (n : Int)) (k : Go WSX G d i (pc + 3) ls (vR n :: st) P Q) : Go WSX G d i pc ls (vR o :: st) P Q := g_getR hF hk.1 (hk.sh rfl) (hk.ft rfl) hn hd k
theorem x_p0_10 {idx x : Nat} (hk : kx o 0) (hF : PF i.1.cls idx 11 10 15 (.object RX9)) (hd : decode i.2.1 pc = .ok (.putfield idx, 3)) (k : Go WSX G d i (pc + 3) ls st (up P o 10 (x : Int)) Q) : Go WSX G d i pc ls (vR x :: vR o :: st) P Q := g_putR hF hk.1 (hk.sh rfl) (hk.ft rfl) ⟨rfl, rfl⟩ hd k
theorem x_g0_11 {idx n : Nat} (hk : kx o 0) (hF : FF i.1.cls idx 11 11 15) (hd : decode i.2.1 pc = .ok (.getfield idx, 3)) (hn : P o 11 = (n : Int)) (k : Go WSX G d i (pc + 3) ls (vR n :: st) P Q) : Go WSX G d i pc ls (vR o :: st) P Q := g_getR hF hk.1 (hk.sh rfl) (hk.ft rfl) hn hd k
theorem x_p0_11 {idx x : Nat} (hk : kx o 0) (hF : PF i.1.cls idx 11 11 15 (.object RX9)) (hd : decode i.2.1 pc = .ok (.putfield idx, 3)) (k : Go WSX G d i (pc + 3) ls st (up P o 11 (x : Int)) Q) : Go WSX G d i pc ls (vR x :: vR o :: st) P Q := g_putR hF hk.1 (hk.sh rfl) (hk.ft rfl) ⟨rfl, rfl⟩ hd k
theorem x_g0_12 {idx n : Nat} (hk : kx o 0) (hF : FF i.1.cls idx 11 12 15) (hd : decode i.2.1 pc = .ok (.getfield idx, 3)) (hn : crX o 12 = n) (k : Go WSX G d i (pc + 3) ls (vR n :: st) P Q) : Go WSX G d i pc ls (vR o :: st) P Q := by
  subst hn
  exact g_getC hF hk.1 (hk.sh rfl) (hk.ft rfl) hd k
theorem x_g0_13 {idx n : Nat} (hk : kx o 0) (hF : FF i.1.cls idx 11 13 15) (hd : decode i.2.1 pc = .ok (.getfield idx, 3)) (hn : crX o 13 = n) (k : Go WSX G d i (pc + 3) ls (vR n :: st) P Q) : Go WSX G d i pc ls (vR o :: st) P Q := by
  subst hn
  exact g_getC hF hk.1 (hk.sh rfl) (hk.ft rfl) hd k
theorem x_g0_14 {idx : Nat} {z : Int} (hk : kx o 0) (hF : FF i.1.cls idx 11 14 15) (hd : decode i.2.1 pc = .ok (.getfield idx, 3)) (hz : P o 14 = z) (k : Go WSX G d i (pc + 3) ls (vI z :: st) P Q) : Go WSX G d i pc ls (vR o :: st) P Q := by
  subst hz
  exact g_getI hF hk.1 (hk.sh rfl) (hk.ft rfl) hd k
theorem x_p0_14 {idx : Nat} {x : Int} (hk : kx o 0) (hF : PF i.1.cls idx 11 14 15 .int) (hd : decode i.2.1 pc = .ok (.putfield idx, 3)) (k : Go WSX G d i (pc + 3) ls st (up P o 14 x) Q) : Go WSX G d i pc ls (vI x :: vR o :: st) P Q := g_putI hF hk.1 (hk.sh rfl) (hk.ft rfl) hd k
theorem x_g1_0 {idx n : Nat} (hk : kx o 1) (hF : FF i.1.cls idx 1 0 2) (hd : decode i.2.1 pc = .ok (.getfield idx, 3)) (hn : crX o 0 = n) (k : Go WSX G d i (pc + 3) ls (vR n :: st) P Q) : Go WSX G d i pc ls (vR o :: st) P Q := by
  subst hn
  exact g_getC hF hk.1 (hk.sh rfl) (hk.ft rfl) hd k
theorem x_g1_1 {idx : Nat} {z : Int} (hk : kx o 1) (hF : FF i.1.cls idx 1 1 2) (hd : decode i.2.1 pc = .ok (.getfield idx, 3)) (hz : P o 1 = z) (k : Go WSX G d i (pc + 3) ls (vI z :: st) P Q) : Go WSX G d i pc ls (vR o :: st) P Q := by
  subst hz
  exact g_getI hF hk.1 (hk.sh rfl) (hk.ft rfl) hd k
theorem x_p1_1 {idx : Nat} {x : Int} (hk : kx o 1) (hF : PF i.1.cls idx 1 1 2 .int) (hd : decode i.2.1 pc = .ok (.putfield idx, 3)) (k : Go WSX G d i (pc + 3) ls st (up P o 1 x) Q) : Go WSX G d i pc ls (vI x :: vR o :: st) P Q := g_putI hF hk.1 (hk.sh rfl) (hk.ft rfl) hd k
theorem x_l2 {x z : Int} (hk : kx o 2) (hd : decode i.2.1 pc = .ok (.iaload, 1)) (hx : 0 ≤ x ∧ x < 1600) (hz : P o x = z) (k : Go WSX G d i (pc + 1) ls (vI z :: st) P Q) : Go WSX G d i pc ls (vI x :: vR o :: st) P Q := by
  subst hz
  exact g_iald (n := 1600) hk.1 (hk.sh rfl) rfl (by decide) hx hd k
theorem x_s2 {x z : Int} (hk : kx o 2) (hd : decode i.2.1 pc = .ok (.iastore, 1)) (hx : 0 ≤ x ∧ x < 1600) (k : Go WSX G d i (pc + 1) ls st (up P o x z) Q) : Go WSX G d i pc ls (vI z :: vI x :: vR o :: st) P Q := g_iast (n := 1600) hk.1 (hk.sh rfl) rfl (by decide) hx hd k
theorem x_n2 (hk : kx o 2) (hd : decode i.2.1 pc = .ok (.arraylength, 1)) (k : Go WSX G d i (pc + 1) ls (vI 1600 :: st) P Q) : Go WSX G d i pc ls (vR o :: st) P Q := g_alen (n := 1600) hk.1 (hk.sh rfl) rfl hd k
theorem x_g3_0 {idx n : Nat} (hk : kx o 3) (hF : FF i.1.cls idx 1 0 2) (hd : decode i.2.1 pc = .ok (.getfield idx, 3)) (hn : crX o 0 = n) (k : Go WSX G d i (pc + 3) ls (vR n :: st) P Q) : Go WSX G d i pc ls (vR o :: st) P Q := by
  subst hn
  exact g_getC hF hk.1 (hk.sh rfl) (hk.ft rfl) hd k
theorem x_g3_1 {idx : Nat} {z : Int} (hk : kx o 3) (hF : FF i.1.cls idx 1 1 2) (hd : decode i.2.1 pc = .ok (.getfield idx, 3)) (hz : P o 1 = z) (k : Go WSX G d i (pc + 3) ls (vI z :: st) P Q) : Go WSX G d i pc ls (vR o :: st) P Q := by
  subst hz
  exact g_getI hF hk.1 (hk.sh rfl) (hk.ft rfl) hd k
theorem x_p3_1 {idx : Nat} {x : Int} (hk : kx o 3) (hF : PF i.1.cls idx 1 1 2 .int) (hd : decode i.2.1 pc = .ok (.putfield idx, 3)) (k : Go WSX G d i (pc + 3) ls st (up P o 1 x) Q) : Go WSX G d i pc ls (vI x :: vR o :: st) P Q := g_putI hF hk.1 (hk.sh rfl) (hk.ft rfl) hd k
theorem x_l4 {x z : Int} (hk : kx o 4) (hd : decode i.2.1 pc = .ok (.iaload, 1)) (hx : 0 ≤ x ∧ x < 1024) (hz : P o x = z) (k : Go WSX G d i (pc + 1) ls (vI z :: st) P Q) : Go WSX G d i pc ls (vI x :: vR o :: st) P Q := by
  subst hz
  exact g_iald (n := 1024) hk.1 (hk.sh rfl) rfl (by decide) hx hd k
theorem x_s4 {x z : Int} (hk : kx o 4) (hd : decode i.2.1 pc = .ok (.iastore, 1)) (hx : 0 ≤ x ∧ x < 1024) (k : Go WSX G d i (pc + 1) ls st (up P o x z) Q) : Go WSX G d i pc ls (vI z :: vI x :: vR o :: st) P Q := g_iast (n := 1024) hk.1 (hk.sh rfl) rfl (by decide) hx hd k
theorem x_n4 (hk : kx o 4) (hd : decode i.2.1 pc = .ok (.arraylength, 1)) (k : Go WSX G d i (pc + 1) ls (vI 1024 :: st) P Q) : Go WSX G d i pc ls (vR o :: st) P Q := g_alen (n := 1024) hk.1 (hk.sh rfl) rfl hd k
theorem x_g5_0 {idx n : Nat} (hk : kx o 5) (hF : FF i.1.cls idx 4 0 3) (hd : decode i.2.1 pc = .ok (.getfield idx, 3)) (hn : crX o 0 = n) (k : Go WSX G d i (pc + 3) ls (vR n :: st) P Q) : Go WSX G d i pc ls (vR o :: st) P Q := by
  subst hn
  exact g_getC hF hk.1 (hk.sh rfl) (hk.ft rfl) hd k
theorem x_g5_1 {idx n : Nat} (hk : kx o 5) (hF : FF i.1.cls idx 4 1 3) (hd : decode i.2.1 pc = .ok (.getfield idx, 3)) (hn : crX o 1 = n) (k : Go WSX G d i (pc + 3) ls (vR n :: st) P Q) : Go WSX G d i pc ls (vR o :: st) P Q := by
  subst hn
  exact g_getC hF hk.1 (hk.sh rfl) (hk.ft rfl) hd k
theorem x_g5_2 {idx : Nat} {z : Int} (hk : kx o 5) (hF : FF i.1.cls idx 4 2 3) (hd : decode i.2.1 pc = .ok (.getfield idx, 3)) (hz : P o 2 = z) (k : Go WSX G d i (pc + 3) ls (vI z :: st) P Q) : Go WSX G d i pc ls (vR o :: st) P Q := by
  subst hz
  exact g_getI hF hk.1 (hk.sh rfl) (hk.ft rfl) hd k
theorem x_p5_2 {idx : Nat} {x : Int} (hk : kx o 5) (hF : PF i.1.cls idx 4 2 3 .int) (hd : decode i.2.1 pc = .ok (.putfield idx, 3)) (k : Go WSX G d i (pc + 3) ls st (up P o 2 x) Q) : Go WSX G d i pc ls (vI x :: vR o :: st) P Q := g_putI hF hk.1 (hk.sh rfl) (hk.ft rfl) hd k
theorem x_l6 {x z : Int} (hk : kx o 6) (hd : decode i.2.1 pc = .ok (.iaload, 1)) (hx : 0 ≤ x ∧ x < 4096) (hz : P o x = z) (k : Go WSX G d i (pc + 1) ls (vI z :: st) P Q) : Go WSX G d i pc ls (vI x :: vR o :: st) P Q := by
  subst hz
  exact g_iald (n := 4096) hk.1 (hk.sh rfl) rfl (by decide) hx hd k
theorem x_s6 {x z : Int} (hk : kx o 6) (hd : decode i.2.1 pc = .ok (.iastore, 1)) (hx : 0 ≤ x ∧ x < 4096) (k : Go WSX G d i (pc + 1) ls st (up P o x z) Q) : Go WSX G d i pc ls (vI z :: vI x :: vR o :: st) P Q := g_iast (n := 4096) hk.1 (hk.sh rfl) rfl (by decide) hx hd k
theorem x_l7 {x z : Int} (hk : kx o 7) (hd : decode i.2.1 pc = .ok (.iaload, 1)) (hx : 0 ≤ x ∧ x < 4096) (hz : P o x = z) (k : Go WSX G d i (pc + 1) ls (vI z :: st) P Q) : Go WSX G d i pc ls (vI x :: vR o :: st) P Q := by
  subst hz
  exact g_iald (n := 4096) hk.1 (hk.sh rfl) rfl (by decide) hx hd k
theorem x_s7 {x z : Int} (hk : kx o 7) (hd : decode i.2.1 pc = .ok (.iastore, 1)) (hx : 0 ≤ x ∧ x < 4096) (k : Go WSX G d i (pc + 1) ls st (up P o x z) Q) : Go WSX G d i pc ls (vI z :: vI x :: vR o :: st) P Q := g_iast (n := 4096) hk.1 (hk.sh rfl) rfl (by decide) hx hd k
theorem x_g8_0 {idx n : Nat} (hk : kx o 8) (hF : FF i.1.cls idx 2 0 4) (hd : decode i.2.1 pc = .ok (.getfield idx, 3)) (hn : crX o 0 = n) (k : Go WSX G d i (pc + 3) ls (vR n :: st) P Q) : Go WSX G d i pc ls (vR o :: st) P Q := by
  subst hn
  exact g_getC hF hk.1 (hk.sh rfl) (hk.ft rfl) hd k
theorem x_g8_1 {idx n : Nat} (hk : kx o 8) (hF : FF i.1.cls idx 2 1 4) (hd : decode i.2.1 pc = .ok (.getfield idx, 3)) (hn : crX o 1 = n) (k : Go WSX G d i (pc + 3) ls (vR n :: st) P Q) : Go WSX G d i pc ls (vR o :: st) P Q := by
  subst hn
  exact g_getC hF hk.1 (hk.sh rfl) (hk.ft rfl) hd k
theorem x_g8_2 {idx n : Nat} (hk : kx o 8) (hF : FF i.1.cls idx 2 2 4) (hd : decode i.2.1 pc = .ok (.getfield idx, 3)) (hn : crX o 2 = n) (k : Go WSX G d i (pc + 3) ls (vR n :: st) P Q) : Go WSX G d i pc ls (vR o :: st) P Q := by
  subst hn
  exact g_getC hF hk.1 (hk.sh rfl) (hk.ft rfl) hd k
theorem x_g8_3 {idx : Nat} {z : Int} (hk : kx o 8) (hF : FF i.1.cls idx 2 3 4) (hd : decode i.2.1 pc = .ok (.getfield idx, 3)) (hz : P o 3 = z) (k : Go WSX G d i (pc + 3) ls (vI z :: st) P Q) : Go WSX G d i pc ls (vR o :: st) P Q := by
  subst hz
  exact g_getI hF hk.1 (hk.sh rfl) (hk.ft rfl) hd k
theorem x_p8_3 {idx : Nat} {x : Int} (hk : kx o 8) (hF : PF i.1.cls idx 2 3 4 .int) (hd : decode i.2.1 pc = .ok (.putfield idx, 3)) (k : Go WSX G d i (pc + 3) ls st (up P o 3 x) Q) : Go WSX G d i pc ls (vI x :: vR o :: st) P Q := g_putI hF hk.1 (hk.sh rfl) (hk.ft rfl) hd k
theorem x_l9 {x z : Int} (hk : kx o 9) (hd : decode i.2.1 pc = .ok (.iaload, 1)) (hx : 0 ≤ x ∧ x < 4096) (hz : P o x = z) (k : Go WSX G d i (pc + 1) ls (vI z :: st) P Q) : Go WSX G d i pc ls (vI x :: vR o :: st) P Q := by
  subst hz
  exact g_iald (n := 4096) hk.1 (hk.sh rfl) rfl (by decide) hx hd k
theorem x_s9 {x z : Int} (hk : kx o 9) (hd : decode i.2.1 pc = .ok (.iastore, 1)) (hx : 0 ≤ x ∧ x < 4096) (k : Go WSX G d i (pc + 1) ls st (up P o x z) Q) : Go WSX G d i pc ls (vI z :: vI x :: vR o :: st) P Q := g_iast (n := 4096) hk.1 (hk.sh rfl) rfl (by decide) hx hd k
theorem x_n9 (hk : kx o 9) (hd : decode i.2.1 pc = .ok (.arraylength, 1)) (k : Go WSX G d i (pc + 1) ls (vI 4096 :: st) P Q) : Go WSX G d i pc ls (vR o :: st) P Q := g_alen (n := 4096) hk.1 (hk.sh rfl) rfl hd k
theorem x_l10 {x z : Int} (hk : kx o 10) (hd : decode i.2.1 pc = .ok (.iaload, 1)) (hx : 0 ≤ x ∧ x < 4096) (hz : P o x = z) (k : Go WSX G d i (pc + 1) ls (vI z :: st) P Q) : Go WSX G d i pc ls (vI x :: vR o :: st) P Q := by
  subst hz
  exact g_iald (n := 4096) hk.1 (hk.sh rfl) rfl (by decide) hx hd k
theorem x_s10 {x z : Int} (hk : kx o 10) (hd : decode i.2.1 pc = .ok (.iastore, 1)) (hx : 0 ≤ x ∧ x < 4096) (k : Go WSX G d i (pc + 1) ls st (up P o x z) Q) : Go WSX G d i pc ls (vI z :: vI x :: vR o :: st) P Q := g_iast (n := 4096) hk.1 (hk.sh rfl) rfl (by decide) hx hd k
theorem x_g11_0 {idx n : Nat} (hk : kx o 11) (hF : FF i.1.cls idx 2 0 4) (hd : decode i.2.1 pc = .ok (.getfield idx, 3)) (hn : crX o 0 = n) (k : Go WSX G d i (pc + 3) ls (vR n :: st) P Q) : Go WSX G d i pc ls (vR o :: st) P Q := by
  subst hn
  exact g_getC hF hk.1 (hk.sh rfl) (hk.ft rfl) hd k
theorem x_g11_1 {idx n : Nat} (hk : kx o 11) (hF : FF i.1.cls idx 2 1 4) (hd : decode i.2.1 pc = .ok (.getfield idx, 3)) (hn : crX o 1 = n) (k : Go WSX G d i (pc + 3) ls (vR n :: st) P Q) : Go WSX G d i pc ls (vR o :: st) P Q := by
  subst hn
  exact g_getC hF hk.1 (hk.sh rfl) (hk.ft rfl) hd k
theorem x_g11_2 {idx n : Nat} (hk : kx o 11) (hF : FF i.1.cls idx 2 2 4) (hd : decode i.2.1 pc = .ok (.getfield idx, 3)) (hn : crX o 2 = n) (k : Go WSX G d i (pc + 3) ls (vR n :: st) P Q) : Go WSX G d i pc ls (vR o :: st) P Q := by
  subst hn
  exact g_getC hF hk.1 (hk.sh rfl) (hk.ft rfl) hd k
theorem x_g11_3 {idx : Nat} {z : Int} (hk : kx o 11) (hF : FF i.1.cls idx 2 3 4) (hd : decode i.2.1 pc = .ok (.getfield idx, 3)) (hz : P o 3 = z) (k : Go WSX G d i (pc + 3) ls (vI z :: st) P Q) : Go WSX G d i pc ls (vR o :: st) P Q := by
  subst hz
  exact g_getI hF hk.1 (hk.sh rfl) (hk.ft rfl) hd k
theorem x_p11_3 {idx : Nat} {x : Int} (hk : kx o 11) (hF : PF i.1.cls idx 2 3 4 .int) (hd : decode i.2.1 pc = .ok (.putfield idx, 3)) (k : Go WSX G d i (pc + 3) ls st (up P o 3 x) Q) : Go WSX G d i pc ls (vI x :: vR o :: st) P Q := g_putI hF hk.1 (hk.sh rfl) (hk.ft rfl) hd k
theorem x_l12 {x z : Int} (hk : kx o 12) (hd : decode i.2.1 pc = .ok (.iaload, 1)) (hx : 0 ≤ x ∧ x < 2048) (hz : P o x = z) (k : Go WSX G d i (pc + 1) ls (vI z :: st) P Q) : Go WSX G d i pc ls (vI x :: vR o :: st) P Q := by
  subst hz
  exact g_iald (n := 2048) hk.1 (hk.sh rfl) rfl (by decide) hx hd k
theorem x_s12 {x z : Int} (hk : kx o 12) (hd : decode i.2.1 pc = .ok (.iastore, 1)) (hx : 0 ≤ x ∧ x < 2048) (k : Go WSX G d i (pc + 1) ls st (up P o x z) Q) : Go WSX G d i pc ls (vI z :: vI x :: vR o :: st) P Q := g_iast (n := 2048) hk.1 (hk.sh rfl) rfl (by decide) hx hd k
theorem x_n12 (hk : kx o 12) (hd : decode i.2.1 pc = .ok (.arraylength, 1)) (k : Go WSX G d i (pc + 1) ls (vI 2048 :: st) P Q) : Go WSX G d i pc ls (vR o :: st) P Q := g_alen (n := 2048) hk.1 (hk.sh rfl) rfl hd k
theorem x_l13 {x z : Int} (hk : kx o 13) (hd : decode i.2.1 pc = .ok (.iaload, 1)) (hx : 0 ≤ x ∧ x < 2048) (hz : P o x = z) (k : Go WSX G d i (pc + 1) ls (vI z :: st) P Q) : Go WSX G d i pc ls (vI x :: vR o :: st) P Q := by
  subst hz
  exact g_iald (n := 2048) hk.1 (hk.sh rfl) rfl (by decide) hx hd k
theorem x_s13 {x z : Int} (hk : kx o 13) (hd : decode i.2.1 pc = .ok (.iastore, 1)) (hx : 0 ≤ x ∧ x < 2048) (k : Go WSX G d i (pc + 1) ls st (up P o x z) Q) : Go WSX G d i pc ls (vI z :: vI x :: vR o :: st) P Q := g_iast (n := 2048) hk.1 (hk.sh rfl) rfl (by decide) hx hd k
theorem x_g14_0 {idx n : Nat} (hk : kx o 14) (hF : FF i.1.cls idx 5 0 4) (hd : decode i.2.1 pc = .ok (.getfield idx, 3)) (hn : crX o 0 = n) (k : Go WSX G d i (pc + 3) ls (vR n :: st) P Q) : Go WSX G d i pc ls (vR o :: st) P Q := by
  subst hn
  exact g_getC hF hk.1 (hk.sh rfl) (hk.ft rfl) hd k
theorem x_g14_1 {idx : Nat} {z : Int} (hk : kx o 14) (hF : FF i.1.cls idx 5 1 4) (hd : decode i.2.1 pc = .ok (.getfield idx, 3)) (hz : P o 1 = z) (k : Go WSX G d i (pc + 3) ls (vI z :: st) P Q) : Go WSX G d i pc ls (vR o :: st) P Q := by
  subst hz
  exact g_getI hF hk.1 (hk.sh rfl) (hk.ft rfl) hd k
theorem x_p14_1 {idx : Nat} {x : Int} (hk : kx o 14) (hF : PF i.1.cls idx 5 1 4 .int) (hd : decode i.2.1 pc = .ok (.putfield idx, 3)) (k : Go WSX G d i (pc + 3) ls st (up P o 1 x) Q) : Go WSX G d i pc ls (vI x :: vR o :: st) P Q := g_putI hF hk.1 (hk.sh rfl) (hk.ft rfl) hd k
theorem x_g14_2 {idx : Nat} {z : Int} (hk : kx o 14) (hF : FF i.1.cls idx 5 2 4) (hd : decode i.2.1 pc = .ok (.getfield idx, 3)) (hz : P o 2 = z) (k : Go WSX G d i (pc + 3) ls (vI z :: st) P Q) : Go WSX G d i pc ls (vR o :: st) P Q := by
  subst hz
  exact g_getI hF hk.1 (hk.sh rfl) (hk.ft rfl) hd k
theorem x_p14_2 {idx : Nat} {x : Int} (hk : kx o 14) (hF : PF i.1.cls idx 5 2 4 .int) (hd : decode i.2.1 pc = .ok (.putfield idx, 3)) (k : Go WSX G d i (pc + 3) ls st (up P o 2 x) Q) : Go WSX G d i pc ls (vI x :: vR o :: st) P Q := g_putI hF hk.1 (hk.sh rfl) (hk.ft rfl) hd k
theorem x_g14_3 {idx : Nat} {z : Int} (hk : kx o 14) (hF : FF i.1.cls idx 5 3 4) (hd : decode i.2.1 pc = .ok (.getfield idx, 3)) (hz : P o 3 = z) (k : Go WSX G d i (pc + 3) ls (vI z :: st) P Q) : Go WSX G d i pc ls (vR o :: st) P Q := by
  subst hz
  exact g_getI hF hk.1 (hk.sh rfl) (hk.ft rfl) hd k
theorem x_p14_3 {idx : Nat} {x : Int} (hk : kx o 14) (hF : PF i.1.cls idx 5 3 4 .int) (hd : decode i.2.1 pc = .ok (.putfield idx, 3)) (k : Go WSX G d i (pc + 3) ls st (up P o 3 x) Q) : Go WSX G d i pc ls (vI x :: vR o :: st) P Q := g_putI hF hk.1 (hk.sh rfl) (hk.ft rfl) hd k
theorem x_l15 {x z : Int} (hk : kx o 15) (hd : decode i.2.1 pc = .ok (.iaload, 1)) (hx : 0 ≤ x ∧ x < 12) (hz : P o x = z) (k : Go WSX G d i (pc + 1) ls (vI z :: st) P Q) : Go WSX G d i pc ls (vI x :: vR o :: st) P Q := by
  subst hz
  exact g_iald (n := 12) hk.1 (hk.sh rfl) rfl (by decide) hx hd k
theorem x_s15 {x z : Int} (hk : kx o 15) (hd : decode i.2.1 pc = .ok (.iastore, 1)) (hx : 0 ≤ x ∧ x < 12) (k : Go WSX G d i (pc + 1) ls st (up P o x z) Q) : Go WSX G d i pc ls (vI z :: vI x :: vR o :: st) P Q := g_iast (n := 12) hk.1 (hk.sh rfl) rfl (by decide) hx hd k
theorem x_g16_0 {idx n : Nat} (hk : kx o 16) (hF : FF i.1.cls idx 0 0 8) (hd : decode i.2.1 pc = .ok (.getfield idx, 3)) (hn : crX o 0 = n) (k : Go WSX G d i (pc + 3) ls (vR n :: st) P Q) : Go WSX G d i pc ls (vR o :: st) P Q := by
  subst hn
  exact g_getC hF hk.1 (hk.sh rfl) (hk.ft rfl) hd k
theorem x_g16_1 {idx n : Nat} (hk : kx o 16) (hF : FF i.1.cls idx 0 1 8) (hd : decode i.2.1 pc = .ok (.getfield idx, 3)) (hn : crX o 1 = n) (k : Go WSX G d i (pc + 3) ls (vR n :: st) P Q) : Go WSX G d i pc ls (vR o :: st) P Q := by
  subst hn
  exact g_getC hF hk.1 (hk.sh rfl) (hk.ft rfl) hd k
theorem x_g16_2 {idx n : Nat} (hk : kx o 16) (hF : FF i.1.cls idx 0 2 8) (hd : decode i.2.1 pc = .ok (.getfield idx, 3)) (hn : crX o 2 = n) (k : Go WSX G d i (pc + 3) ls (vR n :: st) P Q) : Go WSX G d i pc ls (vR o :: st) P Q := by
  subst hn
  exact g_getC hF hk.1 (hk.sh rfl) (hk.ft rfl) hd k
theorem x_g16_3 {idx n : Nat} (hk : kx o 16) (hF : FF i.1.cls idx 0 3 8) (hd : decode i.2.1 pc = .ok (.getfield idx, 3)) (hn : crX o 3 = n) (k : Go WSX G d i (pc + 3) ls (vR n :: st) P Q) : Go WSX G d i pc ls (vR o :: st) P Q := by
  subst hn
  exact g_getC hF hk.1 (hk.sh rfl) (hk.ft rfl) hd k
theorem x_g16_4 {idx n : Nat} (hk : kx o 16) (hF : FF i.1.cls idx 0 4 8) (hd : decode i.2.1 pc = .ok (.getfield idx, 3)) (hn : crX o 4 = n) (k : Go WSX G d i (pc + 3) ls (vR n :: st) P Q) : Go WSX G d i pc ls (vR o :: st) P Q := by
  subst hn
  exact g_getC hF hk.1 (hk.sh rfl) (hk.ft rfl) hd k
theorem x_g16_5 {idx : Nat} {z : Int} (hk : kx o 16) (hF : FF i.1.cls idx 0 5 8) (hd : decode i.2.1 pc = .ok (.getfield idx, 3)) (hz : P o 5 = z) (k : Go WSX G d i (pc + 3) ls (vI z :: st) P Q) : Go WSX G d i pc ls (vR o :: st) P Q := by
  subst hz
  exact g_getI hF hk.1 (hk.sh rfl) (hk.ft rfl) hd k
theorem x_p16_5 {idx : Nat} {x : Int} (hk : kx o 16) (hF : PF i.1.cls idx 0 5 8 .int) (hd : decode i.2.1 pc = .ok (.putfield idx, 3)) (k : Go WSX G d i (pc + 3) ls st (up P o 5 x) Q) : Go WSX G d i pc ls (vI x :: vR o :: st) P Q := g_putI hF hk.1 (hk.sh rfl) (hk.ft rfl) hd k
theorem x_g16_6 {idx : Nat} {z : Int} (hk : kx o 16) (hF : FF i.1.cls idx 0 6 8) (hd : decode i.2.1 pc = .ok (.getfield idx, 3)) (hz : P o 6 = z) (k : Go WSX G d i (pc + 3) ls (vI z :: st) P Q) : Go WSX G d i pc ls (vR o :: st) P Q := by
  subst hz
  exact g_getI hF hk.1 (hk.sh rfl) (hk.ft rfl) hd k
theorem x_p16_6 {idx : Nat} {x : Int} (hk : kx o 16) (hF : PF i.1.cls idx 0 6 8 .int) (hd : decode i.2.1 pc = .ok (.putfield idx, 3)) (k : Go WSX G d i (pc + 3) ls st (up P o 6 x) Q) : Go WSX G d i pc ls (vI x :: vR o :: st) P Q := g_putI hF hk.1 (hk.sh rfl) (hk.ft rfl) hd k
theorem x_g16_7 {idx : Nat} {z : Int} (hk : kx o 16) (hF : FF i.1.cls idx 0 7 8) (hd : decode i.2.1 pc = .ok (.getfield idx, 3)) (hz : P o 7 = z) (k : Go WSX G d i (pc + 3) ls (vI z :: st) P Q) : Go WSX G d i pc ls (vR o :: st) P Q := by
  subst hz
  exact g_getI hF hk.1 (hk.sh rfl) (hk.ft rfl) hd k
theorem x_p16_7 {idx : Nat} {x : Int} (hk : kx o 16) (hF : PF i.1.cls idx 0 7 8 .int) (hd : decode i.2.1 pc = .ok (.putfield idx, 3)) (k : Go WSX G d i (pc + 3) ls st (up P o 7 x) Q) : Go WSX G d i pc ls (vI x :: vR o :: st) P Q := g_putI hF hk.1 (hk.sh rfl) (hk.ft rfl) hd k
theorem x_l17 {x z : Int} (hk : kx o 17) (hd : decode i.2.1 pc = .ok (.iaload, 1)) (hx : 0 ≤ x ∧ x < 1024) (hz : P o x = z) (k : Go WSX G d i (pc + 1) ls (vI z :: st) P Q) : Go WSX G d i pc ls (vI x :: vR o :: st) P Q := by
  subst hz
  exact g_iald (n := 1024) hk.1 (hk.sh rfl) rfl (by decide) hx hd k
theorem x_s17 {x z : Int} (hk : kx o 17) (hd : decode i.2.1 pc = .ok (.iastore, 1)) (hx : 0 ≤ x ∧ x < 1024) (k : Go WSX G d i (pc + 1) ls st (up P o x z) Q) : Go WSX G d i pc ls (vI z :: vI x :: vR o :: st) P Q := g_iast (n := 1024) hk.1 (hk.sh rfl) rfl (by decide) hx hd k
theorem x_l18 {x z : Int} (hk : kx o 18) (hd : decode i.2.1 pc = .ok (.iaload, 1)) (hx : 0 ≤ x ∧ x < 1024) (hz : P o x = z) (k : Go WSX G d i (pc + 1) ls (vI z :: st) P Q) : Go WSX G d i pc ls (vI x :: vR o :: st) P Q := by
  subst hz
  exact g_iald (n := 1024) hk.1 (hk.sh rfl) rfl (by decide) hx hd k
theorem x_s18 {x z : Int} (hk : kx o 18) (hd : decode i.2.1 pc = .ok (.iastore, 1)) (hx : 0 ≤ x ∧ x < 1024) (k : Go WSX G d i (pc + 1) ls st (up P o x z) Q) : Go WSX G d i pc ls (vI z :: vI x :: vR o :: st) P Q := g_iast (n := 1024) hk.1 (hk.sh rfl) rfl (by decide) hx hd k
theorem x_l19 {x z : Int} (hk : kx o 19) (hd : decode i.2.1 pc = .ok (.iaload, 1)) (hx : 0 ≤ x ∧ x < 1024) (hz : P o x = z) (k : Go WSX G d i (pc + 1) ls (vI z :: st) P Q) : Go WSX G d i pc ls (vI x :: vR o :: st) P Q := by
  subst hz
  exact g_iald (n := 1024) hk.1 (hk.sh rfl) rfl (by decide) hx hd k
theorem x_s19 {x z : Int} (hk : kx o 19) (hd : decode i.2.1 pc = .ok (.iastore, 1)) (hx : 0 ≤ x ∧ x < 1024) (k : Go WSX G d i (pc + 1) ls st (up P o x z) Q) : Go WSX G d i pc ls (vI z :: vI x :: vR o :: st) P Q := g_iast (n := 1024) hk.1 (hk.sh rfl) rfl (by decide) hx hd k
theorem x_l20 {x : Int} {n : Nat} (hk : kx o 20) (hd : decode i.2.1 pc = .ok (.aaload, 1)) (hx : 0 ≤ x ∧ x < 20) (hn : crX o x.toNat = n) (k : Go WSX G d i (pc + 1) ls (vR n :: st) P Q) : Go WSX G d i pc ls (vI x :: vR o :: st) P Q := by
  subst hn
  exact g_aald (n := 20) hk.1 (hk.sh rfl) rfl rfl (by decide) hx hd k
theorem x_l21 {x z : Int} (hk : kx o 21) (hd : decode i.2.1 pc = .ok (.iaload, 1)) (hx : 0 ≤ x ∧ x < 20) (hz : P o x = z) (k : Go WSX G d i (pc + 1) ls (vI z :: st) P Q) : Go WSX G d i pc ls (vI x :: vR o :: st) P Q := by
  subst hz
  exact g_iald (n := 20) hk.1 (hk.sh rfl) rfl (by decide) hx hd k
theorem x_s21 {x z : Int} (hk : kx o 21) (hd : decode i.2.1 pc = .ok (.iastore, 1)) (hx : 0 ≤ x ∧ x < 20) (k : Go WSX G d i (pc + 1) ls st (up P o x z) Q) : Go WSX G d i pc ls (vI z :: vI x :: vR o :: st) P Q := g_iast (n := 20) hk.1 (hk.sh rfl) rfl (by decide) hx hd k
theorem x_g22_0 {idx n : Nat} (hk : kx o 22) (hF : FF i.1.cls idx 8 0 6) (hd : decode i.2.1 pc = .ok (.getfield idx, 3)) (hn : crX o 0 = n) (k : Go WSX G d i (pc + 3) ls (vR n :: st) P Q) : Go WSX G d i pc ls (vR o :: st) P Q := by
  subst hn
  exact g_getC hF hk.1 (hk.sh rfl) (hk.ft rfl) hd k
theorem x_g22_1 {idx n : Nat} (hk : kx o 22) (hF : FF i.1.cls idx 8 1 6) (hd : decode i.2.1 pc = .ok (.getfield idx, 3)) (hn : crX o 1 = n) (k : Go WSX G d i (pc + 3) ls (vR n :: st) P Q) : Go WSX G d i pc ls (vR o :: st) P Q := by
  subst hn
  exact g_getC hF hk.1 (hk.sh rfl) (hk.ft rfl) hd k
theorem x_g22_2 {idx : Nat} {z : Int} (hk : kx o 22) (hF : FF i.1.cls idx 8 2 6) (hd : decode i.2.1 pc = .ok (.getfield idx, 3)) (hz : P o 2 = z) (k : Go WSX G d i (pc + 3) ls (vI z :: st) P Q) : Go WSX G d i pc ls (vR o :: st) P Q := by
  subst hz
  exact g_getI hF hk.1 (hk.sh rfl) (hk.ft rfl) hd k
theorem x_p22_2 {idx : Nat} {x : Int} (hk : kx o 22) (hF : PF i.1.cls idx 8 2 6 .int) (hd : decode i.2.1 pc = .ok (.putfield idx, 3)) (k : Go WSX G d i (pc + 3) ls st (up P o 2 x) Q) : Go WSX G d i pc ls (vI x :: vR o :: st) P Q := g_putI hF hk.1 (hk.sh rfl) (hk.ft rfl) hd k
theorem x_g22_3 {idx n : Nat} (hk : kx o 22) (hF : FF i.1.cls idx 8 3 6) (hd : decode i.2.1 pc = .ok (.getfield idx, 3)) (hn : crX o 3 = n) (k : Go WSX G d i (pc + 3) ls (vR n :: st) P Q) : Go WSX G d i pc ls (vR o :: st) P Q := by
  subst hn
  exact g_getC hF hk.1 (hk.sh rfl) (hk.ft rfl) hd k
theorem x_g22_4 {idx : Nat} {z : Int} (hk : kx o 22) (hF : FF i.1.cls idx 8 4 6) (hd : decode i.2.1 pc = .ok (.getfield idx, 3)) (hz : P o 4 = z) (k : Go WSX G d i (pc + 3) ls (vI z :: st) P Q) : Go WSX G d i pc ls (vR o :: st) P Q := by
  subst hz
  exact g_getI hF hk.1 (hk.sh rfl) (hk.ft rfl) hd k
theorem x_p22_4 {idx : Nat} {x : Int} (hk : kx o 22) (hF : PF i.1.cls idx 8 4 6 .int) (hd : decode i.2.1 pc = .ok (.putfield idx, 3)) (k : Go WSX G d i (pc + 3) ls st (up P o 4 x) Q) : Go WSX G d i pc ls (vI x :: vR o :: st) P Q := g_putI hF hk.1 (hk.sh rfl) (hk.ft rfl) hd k
theorem x_g22_5 {idx n : Nat} (hk : kx o 22) (hF : FF i.1.cls idx 8 5 6) (hd : decode i.2.1 pc = .ok (.getfield idx, 3)) (hn : crX o 5 = n) (k : Go WSX G d i (pc + 3) ls (vR n :: st) P Q) : Go WSX G d i pc ls (vR o :: st) P Q := by
  subst hn
  exact g_getC hF hk.1 (hk.sh rfl) (hk.ft rfl) hd k
theorem x_l23 {x z : Int} (hk : kx o 23) (hd : decode i.2.1 pc = .ok (.iaload, 1)) (hx : 0 ≤ x ∧ x < 16) (hz : P o x = z) (k : Go WSX G d i (pc + 1) ls (vI z :: st) P Q) : Go WSX G d i pc ls (vI x :: vR o :: st) P Q := by
  subst hz
  exact g_iald (n := 16) hk.1 (hk.sh rfl) rfl (by decide) hx hd k
theorem x_s23 {x z : Int} (hk : kx o 23) (hd : decode i.2.1 pc = .ok (.iastore, 1)) (hx : 0 ≤ x ∧ x < 16) (k : Go WSX G d i (pc + 1) ls st (up P o x z) Q) : Go WSX G d i pc ls (vI z :: vI x :: vR o :: st) P Q := g_iast (n := 16) hk.1 (hk.sh rfl) rfl (by decide) hx hd k
theorem x_l24 {x z : Int} (hk : kx o 24) (hd : decode i.2.1 pc = .ok (.iaload, 1)) (hx : 0 ≤ x ∧ x < 16) (hz : P o x = z) (k : Go WSX G d i (pc + 1) ls (vI z :: st) P Q) : Go WSX G d i pc ls (vI x :: vR o :: st) P Q := by
  subst hz
  exact g_iald (n := 16) hk.1 (hk.sh rfl) rfl (by decide) hx hd k
theorem x_s24 {x z : Int} (hk : kx o 24) (hd : decode i.2.1 pc = .ok (.iastore, 1)) (hx : 0 ≤ x ∧ x < 16) (k : Go WSX G d i (pc + 1) ls st (up P o x z) Q) : Go WSX G d i pc ls (vI z :: vI x :: vR o :: st) P Q := g_iast (n := 16) hk.1 (hk.sh rfl) rfl (by decide) hx hd k
theorem x_l25 {x z : Int} (hk : kx o 25) (hd : decode i.2.1 pc = .ok (.iaload, 1)) (hx : 0 ≤ x ∧ x < 256) (hz : P o x = z) (k : Go WSX G d i (pc + 1) ls (vI z :: st) P Q) : Go WSX G d i pc ls (vI x :: vR o :: st) P Q := by
  subst hz
  exact g_iald (n := 256) hk.1 (hk.sh rfl) rfl (by decide) hx hd k
theorem x_s25 {x z : Int} (hk : kx o 25) (hd : decode i.2.1 pc = .ok (.iastore, 1)) (hx : 0 ≤ x ∧ x < 256) (k : Go WSX G d i (pc + 1) ls st (up P o x z) Q) : Go WSX G d i pc ls (vI z :: vI x :: vR o :: st) P Q := g_iast (n := 256) hk.1 (hk.sh rfl) rfl (by decide) hx hd k
theorem x_l26 {x z : Int} (hk : kx o 26) (hd : decode i.2.1 pc = .ok (.iaload, 1)) (hx : 0 ≤ x ∧ x < 13) (hz : P o x = z) (k : Go WSX G d i (pc + 1) ls (vI z :: st) P Q) : Go WSX G d i pc ls (vI x :: vR o :: st) P Q := by
  subst hz
  exact g_iald (n := 13) hk.1 (hk.sh rfl) rfl (by decide) hx hd k
theorem x_s26 {x z : Int} (hk : kx o 26) (hd : decode i.2.1 pc = .ok (.iastore, 1)) (hx : 0 ≤ x ∧ x < 13) (k : Go WSX G d i (pc + 1) ls st (up P o x z) Q) : Go WSX G d i pc ls (vI z :: vI x :: vR o :: st) P Q := g_iast (n := 13) hk.1 (hk.sh rfl) rfl (by decide) hx hd k
theorem x_l27 {x z : Int} (hk : kx o 27) (hd : decode i.2.1 pc = .ok (.iaload, 1)) (hx : 0 ≤ x ∧ x < 6) (hz : P o x = z) (k : Go WSX G d i (pc + 1) ls (vI z :: st) P Q) : Go WSX G d i pc ls (vI x :: vR o :: st) P Q := by
  subst hz
  exact g_iald (n := 6) hk.1 (hk.sh rfl) rfl (by decide) hx hd k
theorem x_s27 {x z : Int} (hk : kx o 27) (hd : decode i.2.1 pc = .ok (.iastore, 1)) (hx : 0 ≤ x ∧ x < 6) (k : Go WSX G d i (pc + 1) ls st (up P o x z) Q) : Go WSX G d i pc ls (vI z :: vI x :: vR o :: st) P Q := g_iast (n := 6) hk.1 (hk.sh rfl) rfl (by decide) hx hd k
theorem x_g28_0 {idx n : Nat} (hk : kx o 28) (hF : FF i.1.cls idx 9 0 11) (hd : decode i.2.1 pc = .ok (.getfield idx, 3)) (hn : crX o 0 = n) (k : Go WSX G d i (pc + 3) ls (vR n :: st) P Q) : Go WSX G d i pc ls (vR o :: st) P Q := by
  subst hn
  exact g_getC hF hk.1 (hk.sh rfl) (hk.ft rfl) hd k
theorem x_g28_1 {idx n : Nat} (hk : kx o 28) (hF : FF i.1.cls idx 9 1 11) (hd : decode i.2.1 pc = .ok (.getfield idx, 3)) (hn : crX o 1 = n) (k : Go WSX G d i (pc + 3) ls (vR n :: st) P Q) : Go WSX G d i pc ls (vR o :: st) P Q := by
  subst hn
  exact g_getC hF hk.1 (hk.sh rfl) (hk.ft rfl) hd k
theorem x_g28_2 {idx n : Nat} (hk : kx o 28) (hF : FF i.1.cls idx 9 2 11) (hd : decode i.2.1 pc = .ok (.getfield idx, 3)) (hn : crX o 2 = n) (k : Go WSX G d i (pc + 3) ls (vR n :: st) P Q) : Go WSX G d i pc ls (vR o :: st) P Q := by
  subst hn
  exact g_getC hF hk.1 (hk.sh rfl) (hk.ft rfl) hd k
theorem x_g28_3 {idx n : Nat} (hk : kx o 28) (hF : FF i.1.cls idx 9 3 11) (hd : decode i.2.1 pc = .ok (.getfield idx, 3)) (hn : crX o 3 = n) (k : Go WSX G d i (pc + 3) ls (vR n :: st) P Q) : Go WSX G d i pc ls (vR o :: st) P Q := by
  subst hn
  exact g_getC hF hk.1 (hk.sh rfl) (hk.ft rfl) hd k
theorem x_g28_4 {idx n : Nat} (hk : kx o 28) (hF : FF i.1.cls idx 9 4 11) (hd : decode i.2.1 pc = .ok (.getfield idx, 3)) (hn : crX o 4 = n) (k : Go WSX G d i (pc + 3) ls (vR n :: st) P Q) : Go WSX G d i pc ls (vR o :: st) P Q := by
  subst hn
  exact g_getC hF hk.1 (hk.sh rfl) (hk.ft rfl) hd k
theorem x_g28_5 {idx n : Nat} (hk : kx o 28) (hF : FF i.1.cls idx 9 5 11) (hd : decode i.2.1 pc = .ok (.getfield idx, 3)) (hn : crX o 5 = n) (k : Go WSX G d i (pc + 3) ls (vR n :: st) P Q) : Go WSX G d i pc ls (vR o :: st) P Q := by
  subst hn
  exact g_getC hF hk.1 (hk.sh rfl) (hk.ft rfl) hd k
theorem x_g28_6 {idx : Nat} {z : Int} (hk : kx o 28) (hF : FF i.1.cls idx 9 6 11) (hd : decode i.2.1 pc = .ok (.getfield idx, 3)) (hz : P o 6 = z) (k : Go WSX G d i (pc + 3) ls (vI z :: st) P Q) : Go WSX G d i pc ls (vR o :: st) P Q := by
  subst hz
  exact g_getI hF hk.1 (hk.sh rfl) (hk.ft rfl) hd k
theorem x_p28_6 {idx : Nat} {x : Int} (hk : kx o 28) (hF : PF i.1.cls idx 9 6 11 .int) (hd : decode i.2.1 pc = .ok (.putfield idx, 3)) (k : Go WSX G d i (pc + 3) ls st (up P o 6 x) Q) : Go WSX G d i pc ls (vI x :: vR o :: st) P Q := g_putI hF hk.1 (hk.sh rfl) (hk.ft rfl) hd k
theorem x_g28_7 {idx : Nat} {z : Int} (hk : kx o 28) (hF : FF i.1.cls idx 9 7 11) (hd : decode i.2.1 pc = .ok (.getfield idx, 3)) (hz : P o 7 = z) (k : Go WSX G d i (pc + 3) ls (vI z :: st) P Q) : Go WSX G d i pc ls (vR o :: st) P Q := by
  subst hz
  exact g_getI hF hk.1 (hk.sh rfl) (hk.ft rfl) hd k
theorem x_p28_7 {idx : Nat} {x : Int} (hk : kx o 28) (hF : PF i.1.cls idx 9 7 11 .int) (hd : decode i.2.1 pc = .ok (.putfield idx, 3)) (k : Go WSX G d i (pc + 3) ls st (up P o 7 x) Q) : Go WSX G d i pc ls (vI x :: vR o :: st) P Q := g_putI hF hk.1 (hk.sh rfl) (hk.ft rfl) hd k
theorem x_g28_8 {idx : Nat} {z : Int} (hk : kx o 28) (hF : FF i.1.cls idx 9 8 11) (hd : decode i.2.1 pc = .ok (.getfield idx, 3)) (hz : P o 8 = z) (k : Go WSX G d i (pc + 3) ls (vI z :: st) P Q) : Go WSX G d i pc ls (vR o :: st) P Q := by
  subst hz
  exact g_getI hF hk.1 (hk.sh rfl) (hk.ft rfl) hd k
theorem x_p28_8 {idx : Nat} {x : Int} (hk : kx o 28) (hF : PF i.1.cls idx 9 8 11 .int) (hd : decode i.2.1 pc = .ok (.putfield idx, 3)) (k : Go WSX G d i (pc + 3) ls st (up P o 8 x) Q) : Go WSX G d i pc ls (vI x :: vR o :: st) P Q := g_putI hF hk.1 (hk.sh rfl) (hk.ft rfl) hd k
theorem x_g28_9 {idx : Nat} {z : Int} (hk : kx o 28) (hF : FF i.1.cls idx 9 9 11) (hd : decode i.2.1 pc = .ok (.getfield idx, 3)) (hz : P o 9 = z) (k : Go WSX G d i (pc + 3) ls (vI z :: st) P Q) : Go WSX G d i pc ls (vR o :: st) P Q := by
  subst hz
  exact g_getI hF hk.1 (hk.sh rfl) (hk.ft rfl) hd k
theorem x_p28_9 {idx : Nat} {x : Int} (hk : kx o 28) (hF : PF i.1.cls idx 9 9 11 .int) (hd : decode i.2.1 pc = .ok (.putfield idx, 3)) (k : Go WSX G d i (pc + 3) ls st (up P o 9 x) Q) : Go WSX G d i pc ls (vI x :: vR o :: st) P Q := g_putI hF hk.1 (hk.sh rfl) (hk.ft rfl) hd k
theorem x_g28_10 {idx : Nat} {z : Int} (hk : kx o 28) (hF : FF i.1.cls idx 9 10 11) (hd : decode i.2.1 pc = .ok (.getfield idx, 3)) (hz : P o 10 = z) (k : Go WSX G d i (pc + 3) ls (vI z :: st) P Q) : Go WSX G d i pc ls (vR o :: st) P Q := by
  subst hz
  exact g_getI hF hk.1 (hk.sh rfl) (hk.ft rfl) hd k
theorem x_p28_10 {idx : Nat} {x : Int} (hk : kx o 28) (hF : PF i.1.cls idx 9 10 11 .int) (hd : decode i.2.1 pc = .ok (.putfield idx, 3)) (k : Go WSX G d i (pc + 3) ls st (up P o 10 x) Q) : Go WSX G d i pc ls (vI x :: vR o :: st) P Q := g_putI hF hk.1 (hk.sh rfl) (hk.ft rfl) hd k
theorem x_g29_0 {idx n : Nat} (hk : kx o 29) (hF : FF i.1.cls idx 3 0 11) (hd : decode i.2.1 pc = .ok (.getfield idx, 3)) (hn : crX o 0 = n) (k : Go WSX G d i (pc + 3) ls (vR n :: st) P Q) : Go WSX G d i pc ls (vR o :: st) P Q := by
  subst hn
  exact g_getC hF hk.1 (hk.sh rfl) (hk.ft rfl) hd k
theorem x_g29_1 {idx n : Nat} (hk : kx o 29) (hF : FF i.1.cls idx 3 1 11) (hd : decode i.2.1 pc = .ok (.getfield idx, 3)) (hn : crX o 1 = n) (k : Go WSX G d i (pc + 3) ls (vR n :: st) P Q) : Go WSX G d i pc ls (vR o :: st) P Q := by
  subst hn
  exact g_getC hF hk.1 (hk.sh rfl) (hk.ft rfl) hd k
theorem x_g29_2 {idx n : Nat} (hk : kx o 29) (hF : FF i.1.cls idx 3 2 11) (hd : decode i.2.1 pc = .ok (.getfield idx, 3)) (hn : crX o 2 = n) (k : Go WSX G d i (pc + 3) ls (vR n :: st) P Q) : Go WSX G d i pc ls (vR o :: st) P Q := by
  subst hn
  exact g_getC hF hk.1 (hk.sh rfl) (hk.ft rfl) hd k
theorem x_g29_3 {idx n : Nat} (hk : kx o 29) (hF : FF i.1.cls idx 3 3 11) (hd : decode i.2.1 pc = .ok (.getfield idx, 3)) (hn : crX o 3 = n) (k : Go WSX G d i (pc + 3) ls (vR n :: st) P Q) : Go WSX G d i pc ls (vR o :: st) P Q := by
  subst hn
  exact g_getC hF hk.1 (hk.sh rfl) (hk.ft rfl) hd k
theorem x_g29_4 {idx n : Nat} (hk : kx o 29) (hF : FF i.1.cls idx 3 4 11) (hd : decode i.2.1 pc = .ok (.getfield idx, 3)) (hn : crX o 4 = n) (k : Go WSX G d i (pc + 3) ls (vR n :: st) P Q) : Go WSX G d i pc ls (vR o :: st) P Q := by
  subst hn
  exact g_getC hF hk.1 (hk.sh rfl) (hk.ft rfl) hd k
theorem x_g29_5 {idx n : Nat} (hk : kx o 29) (hF : FF i.1.cls idx 3 5 11) (hd : decode i.2.1 pc = .ok (.getfield idx, 3)) (hn : crX o 5 = n) (k : Go WSX G d i (pc + 3) ls (vR n :: st) P Q) : Go WSX G d i pc ls (vR o :: st) P Q := by
  subst hn
  exact g_getC hF hk.1 (hk.sh rfl) (hk.ft rfl) hd k
theorem x_g29_6 {idx n : Nat} (hk : kx o 29) (hF : FF i.1.cls idx 3 6 11) (hd : decode i.2.1 pc = .ok (.getfield idx, 3)) (hn : crX o 6 = n) (k : Go WSX G d i (pc + 3) ls (vR n :: st) P Q) : Go WSX G d i pc ls (vR o :: st) P Q := by
  subst hn
  exact g_getC hF hk.1 (hk.sh rfl) (hk.ft rfl) hd k
theorem x_g29_7 {idx n : Nat} (hk : kx o 29) (hF : FF i.1.cls idx 3 7 11) (hd : decode i.2.1 pc = .ok (.getfield idx, 3)) (hn : crX o 7 = n) (k : Go WSX G d i (pc + 3) ls (vR n :: st) P Q) : Go WSX G d i pc ls (vR o :: st) P Q := by
  subst hn
  exact g_getC hF hk.1 (hk.sh rfl) (hk.ft rfl) hd k
theorem x_g29_8 {idx n : Nat} (hk : kx o 29) (hF : FF i.1.cls idx 3 8 11) (hd : decode i.2.1 pc = .ok (.getfield idx, 3)) (hn : crX o 8 = n) (k : Go WSX G d i (pc + 3) ls (vR n :: st) P Q) : Go WSX G d i pc ls (vR o :: st) P Q := by
  subst hn
  exact g_getC hF hk.1 (hk.sh rfl) (hk.ft rfl) hd k
theorem x_g29_9 {idx : Nat} {z : Int} (hk : kx o 29) (hF : FF i.1.cls idx 3 9 11) (hd : decode i.2.1 pc = .ok (.getfield idx, 3)) (hz : P o 9 = z) (k : Go WSX G d i (pc + 3) ls (vI z :: st) P Q) : Go WSX G d i pc ls (vR o :: st) P Q := by
  subst hz
  exact g_getI hF hk.1 (hk.sh rfl) (hk.ft rfl) hd k
theorem x_p29_9 {idx : Nat} {x : Int} (hk : kx o 29) (hF : PF i.1.cls idx 3 9 11 .int) (hd : decode i.2.1 pc = .ok (.putfield idx, 3)) (k : Go WSX G d i (pc + 3) ls st (up P o 9 x) Q) : Go WSX G d i pc ls (vI x :: vR o :: st) P Q := g_putI hF hk.1 (hk.sh rfl) (hk.ft rfl) hd k
theorem x_g29_10 {idx : Nat} {z : Int} (hk : kx o 29) (hF : FF i.1.cls idx 3 10 11) (hd : decode i.2.1 pc = .ok (.getfield idx, 3)) (hz : P o 10 = z) (k : Go WSX G d i (pc + 3) ls (vI z :: st) P Q) : Go WSX G d i pc ls (vR o :: st) P Q := by
  subst hz
  exact g_getI hF hk.1 (hk.sh rfl) (hk.ft rfl) hd k
theorem x_p29_10 {idx : Nat} {x : Int} (hk : kx o 29) (hF : PF i.1.cls idx 3 10 11 .int) (hd : decode i.2.1 pc = .ok (.putfield idx, 3)) (k : Go WSX G d i (pc + 3) ls st (up P o 10 x) Q) : Go WSX G d i pc ls (vI x :: vR o :: st) P Q := g_putI hF hk.1 (hk.sh rfl) (hk.ft rfl) hd k
theorem x_l30 {x z : Int} (hk : kx o 30) (hd : decode i.2.1 pc = .ok (.iaload, 1)) (hx : 0 ≤ x ∧ x < 4) (hz : P o x = z) (k : Go WSX G d i (pc + 1) ls (vI z :: st) P Q) : Go WSX G d i pc ls (vI x :: vR o :: st) P Q := by
  subst hz
  exact g_iald (n := 4) hk.1 (hk.sh rfl) rfl (by decide) hx hd k
theorem x_s30 {x z : Int} (hk : kx o 30) (hd : decode i.2.1 pc = .ok (.iastore, 1)) (hx : 0 ≤ x ∧ x < 4) (k : Go WSX G d i (pc + 1) ls st (up P o x z) Q) : Go WSX G d i pc ls (vI z :: vI x :: vR o :: st) P Q := g_iast (n := 4) hk.1 (hk.sh rfl) rfl (by decide) hx hd k
theorem x_l31 {x z : Int} (hk : kx o 31) (hd : decode i.2.1 pc = .ok (.iaload, 1)) (hx : 0 ≤ x ∧ x < 4) (hz : P o x = z) (k : Go WSX G d i (pc + 1) ls (vI z :: st) P Q) : Go WSX G d i pc ls (vI x :: vR o :: st) P Q := by
  subst hz
  exact g_iald (n := 4) hk.1 (hk.sh rfl) rfl (by decide) hx hd k
theorem x_s31 {x z : Int} (hk : kx o 31) (hd : decode i.2.1 pc = .ok (.iastore, 1)) (hx : 0 ≤ x ∧ x < 4) (k : Go WSX G d i (pc + 1) ls st (up P o x z) Q) : Go WSX G d i pc ls (vI z :: vI x :: vR o :: st) P Q := g_iast (n := 4) hk.1 (hk.sh rfl) rfl (by decide) hx hd k
theorem x_l32 {x z : Int} (hk : kx o 32) (hd : decode i.2.1 pc = .ok (.iaload, 1)) (hx : 0 ≤ x ∧ x < 4) (hz : P o x = z) (k : Go WSX G d i (pc + 1) ls (vI z :: st) P Q) : Go WSX G d i pc ls (vI x :: vR o :: st) P Q := by
  subst hz
  exact g_iald (n := 4) hk.1 (hk.sh rfl) rfl (by decide) hx hd k
theorem x_s32 {x z : Int} (hk : kx o 32) (hd : decode i.2.1 pc = .ok (.iastore, 1)) (hx : 0 ≤ x ∧ x < 4) (k : Go WSX G d i (pc + 1) ls st (up P o x z) Q) : Go WSX G d i pc ls (vI z :: vI x :: vR o :: st) P Q := g_iast (n := 4) hk.1 (hk.sh rfl) rfl (by decide) hx hd k
theorem x_l33 {x z : Int} (hk : kx o 33) (hd : decode i.2.1 pc = .ok (.iaload, 1)) (hx : 0 ≤ x ∧ x < 4) (hz : P o x = z) (k : Go WSX G d i (pc + 1) ls (vI z :: st) P Q) : Go WSX G d i pc ls (vI x :: vR o :: st) P Q := by
  subst hz
  exact g_iald (n := 4) hk.1 (hk.sh rfl) rfl (by decide) hx hd k
theorem x_s33 {x z : Int} (hk : kx o 33) (hd : decode i.2.1 pc = .ok (.iastore, 1)) (hx : 0 ≤ x ∧ x < 4) (k : Go WSX G d i (pc + 1) ls st (up P o x z) Q) : Go WSX G d i pc ls (vI z :: vI x :: vR o :: st) P Q := g_iast (n := 4) hk.1 (hk.sh rfl) rfl (by decide) hx hd k
theorem x_l34 {x z : Int} (hk : kx o 34) (hd : decode i.2.1 pc = .ok (.iaload, 1)) (hx : 0 ≤ x ∧ x < 24) (hz : P o x = z) (k : Go WSX G d i (pc + 1) ls (vI z :: st) P Q) : Go WSX G d i pc ls (vI x :: vR o :: st) P Q := by
  subst hz
  exact g_iald (n := 24) hk.1 (hk.sh rfl) rfl (by decide) hx hd k
theorem x_s34 {x z : Int} (hk : kx o 34) (hd : decode i.2.1 pc = .ok (.iastore, 1)) (hx : 0 ≤ x ∧ x < 24) (k : Go WSX G d i (pc + 1) ls st (up P o x z) Q) : Go WSX G d i pc ls (vI z :: vI x :: vR o :: st) P Q := g_iast (n := 24) hk.1 (hk.sh rfl) rfl (by decide) hx hd k
theorem x_n34 (hk : kx o 34) (hd : decode i.2.1 pc = .ok (.arraylength, 1)) (k : Go WSX G d i (pc + 1) ls (vI 24 :: st) P Q) : Go WSX G d i pc ls (vR o :: st) P Q := g_alen (n := 24) hk.1 (hk.sh rfl) rfl hd k
theorem x_l35 {x z : Int} (hk : kx o 35) (hd : decode i.2.1 pc = .ok (.iaload, 1)) (hx : 0 ≤ x ∧ x < 24) (hz : P o x = z) (k : Go WSX G d i (pc + 1) ls (vI z :: st) P Q) : Go WSX G d i pc ls (vI x :: vR o :: st) P Q := by
  subst hz
  exact g_iald (n := 24) hk.1 (hk.sh rfl) rfl (by decide) hx hd k
theorem x_s35 {x z : Int} (hk : kx o 35) (hd : decode i.2.1 pc = .ok (.iastore, 1)) (hx : 0 ≤ x ∧ x < 24) (k : Go WSX G d i (pc + 1) ls st (up P o x z) Q) : Go WSX G d i pc ls (vI z :: vI x :: vR o :: st) P Q := g_iast (n := 24) hk.1 (hk.sh rfl) rfl (by decide) hx hd k
theorem x_l36 {x z : Int} (hk : kx o 36) (hd : decode i.2.1 pc = .ok (.iaload, 1)) (hx : 0 ≤ x ∧ x < 24) (hz : P o x = z) (k : Go WSX G d i (pc + 1) ls (vI z :: st) P Q) : Go WSX G d i pc ls (vI x :: vR o :: st) P Q := by
  subst hz
  exact g_iald (n := 24) hk.1 (hk.sh rfl) rfl (by decide) hx hd k
theorem x_s36 {x z : Int} (hk : kx o 36) (hd : decode i.2.1 pc = .ok (.iastore, 1)) (hx : 0 ≤ x ∧ x < 24) (k : Go WSX G d i (pc + 1) ls st (up P o x z) Q) : Go WSX G d i pc ls (vI z :: vI x :: vR o :: st) P Q := g_iast (n := 24) hk.1 (hk.sh rfl) rfl (by decide) hx hd k
theorem x_l37 {x z : Int} (hk : kx o 37) (hd : decode i.2.1 pc = .ok (.iaload, 1)) (hx : 0 ≤ x ∧ x < 24) (hz : P o x = z) (k : Go WSX G d i (pc + 1) ls (vI z :: st) P Q) : Go WSX G d i pc ls (vI x :: vR o :: st) P Q := by
  subst hz
  exact g_iald (n := 24) hk.1 (hk.sh rfl) rfl (by decide) hx hd k
theorem x_s37 {x z : Int} (hk : kx o 37) (hd : decode i.2.1 pc = .ok (.iastore, 1)) (hx : 0 ≤ x ∧ x < 24) (k : Go WSX G d i (pc + 1) ls st (up P o x z) Q) : Go WSX G d i pc ls (vI z :: vI x :: vR o :: st) P Q := g_iast (n := 24) hk.1 (hk.sh rfl) rfl (by decide) hx hd k
theorem x_l38 {x z : Int} (hk : kx o 38) (hd : decode i.2.1 pc = .ok (.iaload, 1)) (hx : 0 ≤ x ∧ x < 24) (hz : P o x = z) (k : Go WSX G d i (pc + 1) ls (vI z :: st) P Q) : Go WSX G d i pc ls (vI x :: vR o :: st) P Q := by
  subst hz
  exact g_iald (n := 24) hk.1 (hk.sh rfl) rfl (by decide) hx hd k
theorem x_s38 {x z : Int} (hk : kx o 38) (hd : decode i.2.1 pc = .ok (.iastore, 1)) (hx : 0 ≤ x ∧ x < 24) (k : Go WSX G d i (pc + 1) ls st (up P o x z) Q) : Go WSX G d i pc ls (vI z :: vI x :: vR o :: st) P Q := g_iast (n := 24) hk.1 (hk.sh rfl) rfl (by decide) hx hd k
theorem x_l39 {x z : Int} (hk : kx o 39) (hd : decode i.2.1 pc = .ok (.iaload, 1)) (hx : 0 ≤ x ∧ x < 4) (hz : P o x = z) (k : Go WSX G d i (pc + 1) ls (vI z :: st) P Q) : Go WSX G d i pc ls (vI x :: vR o :: st) P Q := by
  subst hz
  exact g_iald (n := 4) hk.1 (hk.sh rfl) rfl (by decide) hx hd k
theorem x_s39 {x z : Int} (hk : kx o 39) (hd : decode i.2.1 pc = .ok (.iastore, 1)) (hx : 0 ≤ x ∧ x < 4) (k : Go WSX G d i (pc + 1) ls st (up P o x z) Q) : Go WSX G d i pc ls (vI z :: vI x :: vR o :: st) P Q := g_iast (n := 4) hk.1 (hk.sh rfl) rfl (by decide) hx hd k
theorem x_l40 {x z : Int} (hk : kx o 40) (hd : decode i.2.1 pc = .ok (.iaload, 1)) (hx : 0 ≤ x ∧ x < 4) (hz : P o x = z) (k : Go WSX G d i (pc + 1) ls (vI z :: st) P Q) : Go WSX G d i pc ls (vI x :: vR o :: st) P Q := by
  subst hz
  exact g_iald (n := 4) hk.1 (hk.sh rfl) rfl (by decide) hx hd k
theorem x_s40 {x z : Int} (hk : kx o 40) (hd : decode i.2.1 pc = .ok (.iastore, 1)) (hx : 0 ≤ x ∧ x < 4) (k : Go WSX G d i (pc + 1) ls st (up P o x z) Q) : Go WSX G d i pc ls (vI z :: vI x :: vR o :: st) P Q := g_iast (n := 4) hk.1 (hk.sh rfl) rfl (by decide) hx hd k
theorem x_l41 {x z : Int} (hk : kx o 41) (hd : decode i.2.1 pc = .ok (.iaload, 1)) (hx : 0 ≤ x ∧ x < 4) (hz : P o x = z) (k : Go WSX G d i (pc + 1) ls (vI z :: st) P Q) : Go WSX G d i pc ls (vI x :: vR o :: st) P Q := by
  subst hz
  exact g_iald (n := 4) hk.1 (hk.sh rfl) rfl (by decide) hx hd k
theorem x_s41 {x z : Int} (hk : kx o 41) (hd : decode i.2.1 pc = .ok (.iastore, 1)) (hx : 0 ≤ x ∧ x < 4) (k : Go WSX G d i (pc + 1) ls st (up P o x z) Q) : Go WSX G d i pc ls (vI z :: vI x :: vR o :: st) P Q := g_iast (n := 4) hk.1 (hk.sh rfl) rfl (by decide) hx hd k
theorem x_l42 {x z : Int} (hk : kx o 42) (hd : decode i.2.1 pc = .ok (.iaload, 1)) (hx : 0 ≤ x ∧ x < 12) (hz : P o x = z) (k : Go WSX G d i (pc + 1) ls (vI z :: st) P Q) : Go WSX G d i pc ls (vI x :: vR o :: st) P Q := by
  subst hz
  exact g_iald (n := 12) hk.1 (hk.sh rfl) rfl (by decide) hx hd k
theorem x_s42 {x z : Int} (hk : kx o 42) (hd : decode i.2.1 pc = .ok (.iastore, 1)) (hx : 0 ≤ x ∧ x < 12) (k : Go WSX G d i (pc + 1) ls st (up P o x z) Q) : Go WSX G d i pc ls (vI z :: vI x :: vR o :: st) P Q := g_iast (n := 12) hk.1 (hk.sh rfl) rfl (by decide) hx hd k
theorem x_l43 {x : Int} {n : Nat} (hk : kx o 43) (hd : decode i.2.1 pc = .ok (.aaload, 1)) (hx : 0 ≤ x ∧ x < 4) (hn : crX o x.toNat = n) (k : Go WSX G d i (pc + 1) ls (vR n :: st) P Q) : Go WSX G d i pc ls (vI x :: vR o :: st) P Q := by
  subst hn
  exact g_aald (n := 4) hk.1 (hk.sh rfl) rfl rfl (by decide) hx hd k
theorem x_l44 {x z : Int} (hk : kx o 44) (hd : decode i.2.1 pc = .ok (.iaload, 1)) (hx : 0 ≤ x ∧ x < 2048) (hz : P o x = z) (k : Go WSX G d i (pc + 1) ls (vI z :: st) P Q) : Go WSX G d i pc ls (vI x :: vR o :: st) P Q := by
  subst hz
  exact g_iald (n := 2048) hk.1 (hk.sh rfl) rfl (by decide) hx hd k
theorem x_s44 {x z : Int} (hk : kx o 44) (hd : decode i.2.1 pc = .ok (.iastore, 1)) (hx : 0 ≤ x ∧ x < 2048) (k : Go WSX G d i (pc + 1) ls st (up P o x z) Q) : Go WSX G d i pc ls (vI z :: vI x :: vR o :: st) P Q := g_iast (n := 2048) hk.1 (hk.sh rfl) rfl (by decide) hx hd k
theorem x_g45_0 {idx n : Nat} (hk : kx o 45) (hF : FF i.1.cls idx 6 0 5) (hd : decode i.2.1 pc = .ok (.getfield idx, 3)) (hn : crX o 0 = n) (k : Go WSX G d i (pc + 3) ls (vR n :: st) P Q) : Go WSX G d i pc ls (vR o :: st) P Q := by
  subst hn
  exact g_getC hF hk.1 (hk.sh rfl) (hk.ft rfl) hd k
theorem x_g45_1 {idx n : Nat} (hk : kx o 45) (hF : FF i.1.cls idx 6 1 5) (hd : decode i.2.1 pc = .ok (.getfield idx, 3)) (hn : crX o 1 = n) (k : Go WSX G d i (pc + 3) ls (vR n :: st) P Q) : Go WSX G d i pc ls (vR o :: st) P Q := by
  subst hn
  exact g_getC hF hk.1 (hk.sh rfl) (hk.ft rfl) hd k
theorem x_g45_2 {idx n : Nat} (hk : kx o 45) (hF : FF i.1.cls idx 6 2 5) (hd : decode i.2.1 pc = .ok (.getfield idx, 3)) (hn : P o 2 = (n : Int)) (k : Go WSX G d i (pc + 3) ls (vR n :: st) P Q) : Go WSX G d i pc ls (vR o :: st) P Q := g_getR hF hk.1 (hk.sh rfl) (hk.ft rfl) hn hd k
theorem x_p45_2 {idx x : Nat} (hk : kx o 45) (hF : PF i.1.cls idx 6 2 5 (.object RX9)) (hd : decode i.2.1 pc = .ok (.putfield idx, 3)) (k : Go WSX G d i (pc + 3) ls st (up P o 2 (x : Int)) Q) : Go WSX G d i pc ls (vR x :: vR o :: st) P Q := g_putR hF hk.1 (hk.sh rfl) (hk.ft rfl) ⟨rfl, rfl⟩ hd k
theorem x_g45_3 {idx : Nat} {z : Int} (hk : kx o 45) (hF : FF i.1.cls idx 6 3 5) (hd : decode i.2.1 pc = .ok (.getfield idx, 3)) (hz : P o 3 = z) (k : Go WSX G d i (pc + 3) ls (vI z :: st) P Q) : Go WSX G d i pc ls (vR o :: st) P Q := by
  subst hz
  exact g_getI hF hk.1 (hk.sh rfl) (hk.ft rfl) hd k
theorem x_p45_3 {idx : Nat} {x : Int} (hk : kx o 45) (hF : PF i.1.cls idx 6 3 5 .int) (hd : decode i.2.1 pc = .ok (.putfield idx, 3)) (k : Go WSX G d i (pc + 3) ls st (up P o 3 x) Q) : Go WSX G d i pc ls (vI x :: vR o :: st) P Q := g_putI hF hk.1 (hk.sh rfl) (hk.ft rfl) hd k
theorem x_g45_4 {idx : Nat} {z : Int} (hk : kx o 45) (hF : FF i.1.cls idx 6 4 5) (hd : decode i.2.1 pc = .ok (.getfield idx, 3)) (hz : P o 4 = z) (k : Go WSX G d i (pc + 3) ls (vI z :: st) P Q) : Go WSX G d i pc ls (vR o :: st) P Q := by
  subst hz
  exact g_getI hF hk.1 (hk.sh rfl) (hk.ft rfl) hd k
theorem x_p45_4 {idx : Nat} {x : Int} (hk : kx o 45) (hF : PF i.1.cls idx 6 4 5 .int) (hd : decode i.2.1 pc = .ok (.putfield idx, 3)) (k : Go WSX G d i (pc + 3) ls st (up P o 4 x) Q) : Go WSX G d i pc ls (vI x :: vR o :: st) P Q := g_putI hF hk.1 (hk.sh rfl) (hk.ft rfl) hd k
theorem x_g46_0 {idx n : Nat} (hk : kx o 46) (hF : FF i.1.cls idx 7 0 9) (hd : decode i.2.1 pc = .ok (.getfield idx, 3)) (hn : crX o 0 = n) (k : Go WSX G d i (pc + 3) ls (vR n :: st) P Q) : Go WSX G d i pc ls (vR o :: st) P Q := by
  subst hn
  exact g_getC hF hk.1 (hk.sh rfl) (hk.ft rfl) hd k
theorem x_g46_1 {idx n : Nat} (hk : kx o 46) (hF : FF i.1.cls idx 7 1 9) (hd : decode i.2.1 pc = .ok (.getfield idx, 3)) (hn : P o 1 = (n : Int)) (k : Go WSX G d i (pc + 3) ls (vR n :: st) P Q) : Go WSX G d i pc ls (vR o :: st) P Q := g_getR hF hk.1 (hk.sh rfl) (hk.ft rfl) hn hd k
theorem x_p46_1 {idx x : Nat} (hk : kx o 46) (hF : PF i.1.cls idx 7 1 9 (.array .int)) (hd : decode i.2.1 pc = .ok (.putfield idx, 3)) (k : Go WSX G d i (pc + 3) ls st (up P o 1 (x : Int)) Q) : Go WSX G d i pc ls (vR x :: vR o :: st) P Q := g_putR hF hk.1 (hk.sh rfl) (hk.ft rfl) ⟨rfl, rfl⟩ hd k
theorem x_g46_2 {idx : Nat} {z : Int} (hk : kx o 46) (hF : FF i.1.cls idx 7 2 9) (hd : decode i.2.1 pc = .ok (.getfield idx, 3)) (hz : P o 2 = z) (k : Go WSX G d i (pc + 3) ls (vI z :: st) P Q) : Go WSX G d i pc ls (vR o :: st) P Q := by
  subst hz
  exact g_getI hF hk.1 (hk.sh rfl) (hk.ft rfl) hd k
theorem x_p46_2 {idx : Nat} {x : Int} (hk : kx o 46) (hF : PF i.1.cls idx 7 2 9 .int) (hd : decode i.2.1 pc = .ok (.putfield idx, 3)) (k : Go WSX G d i (pc + 3) ls st (up P o 2 x) Q) : Go WSX G d i pc ls (vI x :: vR o :: st) P Q := g_putI hF hk.1 (hk.sh rfl) (hk.ft rfl) hd k
theorem x_g46_3 {idx : Nat} {z : Int} (hk : kx o 46) (hF : FF i.1.cls idx 7 3 9) (hd : decode i.2.1 pc = .ok (.getfield idx, 3)) (hz : P o 3 = z) (k : Go WSX G d i (pc + 3) ls (vI z :: st) P Q) : Go WSX G d i pc ls (vR o :: st) P Q := by
  subst hz
  exact g_getI hF hk.1 (hk.sh rfl) (hk.ft rfl) hd k
theorem x_p46_3 {idx : Nat} {x : Int} (hk : kx o 46) (hF : PF i.1.cls idx 7 3 9 .int) (hd : decode i.2.1 pc = .ok (.putfield idx, 3)) (k : Go WSX G d i (pc + 3) ls st (up P o 3 x) Q) : Go WSX G d i pc ls (vI x :: vR o :: st) P Q := g_putI hF hk.1 (hk.sh rfl) (hk.ft rfl) hd k
theorem x_g46_4 {idx : Nat} {z : Int} (hk : kx o 46) (hF : FF i.1.cls idx 7 4 9) (hd : decode i.2.1 pc = .ok (.getfield idx, 3)) (hz : P o 4 = z) (k : Go WSX G d i (pc + 3) ls (vI z :: st) P Q) : Go WSX G d i pc ls (vR o :: st) P Q := by
  subst hz
  exact g_getI hF hk.1 (hk.sh rfl) (hk.ft rfl) hd k
theorem x_p46_4 {idx : Nat} {x : Int} (hk : kx o 46) (hF : PF i.1.cls idx 7 4 9 .int) (hd : decode i.2.1 pc = .ok (.putfield idx, 3)) (k : Go WSX G d i (pc + 3) ls st (up P o 4 x) Q) : Go WSX G d i pc ls (vI x :: vR o :: st) P Q := g_putI hF hk.1 (hk.sh rfl) (hk.ft rfl) hd k
theorem x_g46_5 {idx : Nat} {z : Int} (hk : kx o 46) (hF : FF i.1.cls idx 7 5 9) (hd : decode i.2.1 pc = .ok (.getfield idx, 3)) (hz : P o 5 = z) (k : Go WSX G d i (pc + 3) ls (vI z :: st) P Q) : Go WSX G d i pc ls (vR o :: st) P Q := by
  subst hz
  exact g_getI hF hk.1 (hk.sh rfl) (hk.ft rfl) hd k
theorem x_p46_5 {idx : Nat} {x : Int} (hk : kx o 46) (hF : PF i.1.cls idx 7 5 9 .int) (hd : decode i.2.1 pc = .ok (.putfield idx, 3)) (k : Go WSX G d i (pc + 3) ls st (up P o 5 x) Q) : Go WSX G d i pc ls (vI x :: vR o :: st) P Q := g_putI hF hk.1 (hk.sh rfl) (hk.ft rfl) hd k
theorem x_g46_6 {idx : Nat} {z : Int} (hk : kx o 46) (hF : FF i.1.cls idx 7 6 9) (hd : decode i.2.1 pc = .ok (.getfield idx, 3)) (hz : P o 6 = z) (k : Go WSX G d i (pc + 3) ls (vI z :: st) P Q) : Go WSX G d i pc ls (vR o :: st) P Q := by
  subst hz
  exact g_getI hF hk.1 (hk.sh rfl) (hk.ft rfl) hd k
theorem x_p46_6 {idx : Nat} {x : Int} (hk : kx o 46) (hF : PF i.1.cls idx 7 6 9 .int) (hd : decode i.2.1 pc = .ok (.putfield idx, 3)) (k : Go WSX G d i (pc + 3) ls st (up P o 6 x) Q) : Go WSX G d i pc ls (vI x :: vR o :: st) P Q := g_putI hF hk.1 (hk.sh rfl) (hk.ft rfl) hd k
theorem x_g46_7 {idx : Nat} {z : Int} (hk : kx o 46) (hF : FF i.1.cls idx 7 7 9) (hd : decode i.2.1 pc = .ok (.getfield idx, 3)) (hz : P o 7 = z) (k : Go WSX G d i (pc + 3) ls (vI z :: st) P Q) : Go WSX G d i pc ls (vR o :: st) P Q := by
  subst hz
  exact g_getI hF hk.1 (hk.sh rfl) (hk.ft rfl) hd k
theorem x_p46_7 {idx : Nat} {x : Int} (hk : kx o 46) (hF : PF i.1.cls idx 7 7 9 .int) (hd : decode i.2.1 pc = .ok (.putfield idx, 3)) (k : Go WSX G d i (pc + 3) ls st (up P o 7 x) Q) : Go WSX G d i pc ls (vI x :: vR o :: st) P Q := g_putI hF hk.1 (hk.sh rfl) (hk.ft rfl) hd k
theorem x_g46_8 {idx : Nat} {z : Int} (hk : kx o 46) (hF : FF i.1.cls idx 7 8 9) (hd : decode i.2.1 pc = .ok (.getfield idx, 3)) (hz : P o 8 = z) (k : Go WSX G d i (pc + 3) ls (vI z :: st) P Q) : Go WSX G d i pc ls (vR o :: st) P Q := by
  subst hz
  exact g_getI hF hk.1 (hk.sh rfl) (hk.ft rfl) hd k
theorem x_p46_8 {idx : Nat} {x : Int} (hk : kx o 46) (hF : PF i.1.cls idx 7 8 9 .int) (hd : decode i.2.1 pc = .ok (.putfield idx, 3)) (k : Go WSX G d i (pc + 3) ls st (up P o 8 x) Q) : Go WSX G d i pc ls (vI x :: vR o :: st) P Q := g_putI hF hk.1 (hk.sh rfl) (hk.ft rfl) hd k
theorem x_l47 {x z : Int} (hk : kx o 47) (hd : decode i.2.1 pc = .ok (.iaload, 1)) (hx : 0 ≤ x ∧ x < 11) (hz : P o x = z) (k : Go WSX G d i (pc + 1) ls (vI z :: st) P Q) : Go WSX G d i pc ls (vI x :: vR o :: st) P Q := by
  subst hz
  exact g_iald (n := 11) hk.1 (hk.sh rfl) rfl (by decide) hx hd k
theorem x_n47 (hk : kx o 47) (hd : decode i.2.1 pc = .ok (.arraylength, 1)) (k : Go WSX G d i (pc + 1) ls (vI 11 :: st) P Q) : Go WSX G d i pc ls (vR o :: st) P Q := g_alen (n := 11) hk.1 (hk.sh rfl) rfl hd k
theorem x_l49 {x : Int} {n : Nat} (hk : kx o 49) (hd : decode i.2.1 pc = .ok (.aaload, 1)) (hx : 0 ≤ x ∧ x < 10) (hn : crX o x.toNat = n) (k : Go WSX G d i (pc + 1) ls (vR n :: st) P Q) : Go WSX G d i pc ls (vI x :: vR o :: st) P Q := by
  subst hn
  exact g_aald (n := 10) hk.1 (hk.sh rfl) rfl rfl (by decide) hx hd k
theorem x_n49 (hk : kx o 49) (hd : decode i.2.1 pc = .ok (.arraylength, 1)) (k : Go WSX G d i (pc + 1) ls (vI 10 :: st) P Q) : Go WSX G d i pc ls (vR o :: st) P Q := g_alenR (n := 10) hk.1 (hk.sh rfl) rfl hd k
theorem x_l50 {x z : Int} (hk : kx o 50) (hd : decode i.2.1 pc = .ok (.iaload, 1)) (hx : 0 ≤ x ∧ x < 2048) (hz : P o x = z) (k : Go WSX G d i (pc + 1) ls (vI z :: st) P Q) : Go WSX G d i pc ls (vI x :: vR o :: st) P Q := by
  subst hz
  exact g_iald (n := 2048) hk.1 (hk.sh rfl) rfl (by decide) hx hd k
theorem x_s50 {x z : Int} (hk : kx o 50) (hd : decode i.2.1 pc = .ok (.iastore, 1)) (hx : 0 ≤ x ∧ x < 2048) (k : Go WSX G d i (pc + 1) ls st (up P o x z) Q) : Go WSX G d i pc ls (vI z :: vI x :: vR o :: st) P Q := g_iast (n := 2048) hk.1 (hk.sh rfl) rfl (by decide) hx hd k
theorem x_n50 (hk : kx o 50) (hd : decode i.2.1 pc = .ok (.arraylength, 1)) (k : Go WSX G d i (pc + 1) ls (vI 2048 :: st) P Q) : Go WSX G d i pc ls (vR o :: st) P Q := g_alen (n := 2048) hk.1 (hk.sh rfl) rfl hd k
theorem x_g51_0 {idx n : Nat} (hk : kx o 51) (hF : FF i.1.cls idx 10 0 15) (hd : decode i.2.1 pc = .ok (.getfield idx, 3)) (hn : crX o 0 = n) (k : Go WSX G d i (pc + 3) ls (vR n :: st) P Q) : Go WSX G d i pc ls (vR o :: st) P Q := by
  subst hn
  exact g_getC hF hk.1 (hk.sh rfl) (hk.ft rfl) hd k
theorem x_g51_1 {idx n : Nat} (hk : kx o 51) (hF : FF i.1.cls idx 10 1 15) (hd : decode i.2.1 pc = .ok (.getfield idx, 3)) (hn : crX o 1 = n) (k : Go WSX G d i (pc + 3) ls (vR n :: st) P Q) : Go WSX G d i pc ls (vR o :: st) P Q := by
  subst hn
  exact g_getC hF hk.1 (hk.sh rfl) (hk.ft rfl) hd k
theorem x_g51_2 {idx n : Nat} (hk : kx o 51) (hF : FF i.1.cls idx 10 2 15) (hd : decode i.2.1 pc = .ok (.getfield idx, 3)) (hn : crX o 2 = n) (k : Go WSX G d i (pc + 3) ls (vR n :: st) P Q) : Go WSX G d i pc ls (vR o :: st) P Q := by
  subst hn
  exact g_getC hF hk.1 (hk.sh rfl) (hk.ft rfl) hd k
theorem x_g51_3 {idx n : Nat} (hk : kx o 51) (hF : FF i.1.cls idx 10 3 15) (hd : decode i.2.1 pc = .ok (.getfield idx, 3)) (hn : crX o 3 = n) (k : Go WSX G d i (pc + 3) ls (vR n :: st) P Q) : Go WSX G d i pc ls (vR o :: st) P Q := by
  subst hn
  exact g_getC hF hk.1 (hk.sh rfl) (hk.ft rfl) hd k
theorem x_g51_4 {idx : Nat} {z : Int} (hk : kx o 51) (hF : FF i.1.cls idx 10 4 15) (hd : decode i.2.1 pc = .ok (.getfield idx, 3)) (hz : P o 4 = z) (k : Go WSX G d i (pc + 3) ls (vI z :: st) P Q) : Go WSX G d i pc ls (vR o :: st) P Q := by
  subst hz
  exact g_getI hF hk.1 (hk.sh rfl) (hk.ft rfl) hd k
theorem x_p51_4 {idx : Nat} {x : Int} (hk : kx o 51) (hF : PF i.1.cls idx 10 4 15 .int) (hd : decode i.2.1 pc = .ok (.putfield idx, 3)) (k : Go WSX G d i (pc + 3) ls st (up P o 4 x) Q) : Go WSX G d i pc ls (vI x :: vR o :: st) P Q := g_putI hF hk.1 (hk.sh rfl) (hk.ft rfl) hd k
theorem x_g51_5 {idx : Nat} {z : Int} (hk : kx o 51) (hF : FF i.1.cls idx 10 5 15) (hd : decode i.2.1 pc = .ok (.getfield idx, 3)) (hz : P o 5 = z) (k : Go WSX G d i (pc + 3) ls (vI z :: st) P Q) : Go WSX G d i pc ls (vR o :: st) P Q := by
  subst hz
  exact g_getI hF hk.1 (hk.sh rfl) (hk.ft rfl) hd k
theorem x_p51_5 {idx : Nat} {x : Int} (hk : kx o 51) (hF : PF i.1.cls idx 10 5 15 .int) (hd : decode i.2.1 pc = .ok (.putfield idx, 3)) (k : Go WSX G d i (pc + 3) ls st (up P o 5 x) Q) : Go WSX G d i pc ls (vI x :: vR o :: st) P Q := g_putI hF hk.1 (hk.sh rfl) (hk.ft rfl) hd k
theorem x_g51_6 {idx n : Nat} (hk : kx o 51) (hF : FF i.1.cls idx 10 6 15) (hd : decode i.2.1 pc = .ok (.getfield idx, 3)) (hn : crX o 6 = n) (k : Go WSX G d i (pc + 3) ls (vR n :: st) P Q) : Go WSX G d i pc ls (vR o :: st) P Q := by
  subst hn
  exact g_getC hF hk.1 (hk.sh rfl) (hk.ft rfl) hd k
theorem x_g51_7 {idx : Nat} {z : Int} (hk : kx o 51) (hF : FF i.1.cls idx 10 7 15) (hd : decode i.2.1 pc = .ok (.getfield idx, 3)) (hz : P o 7 = z) (k : Go WSX G d i (pc + 3) ls (vI z :: st) P Q) : Go WSX G d i pc ls (vR o :: st) P Q := by
  subst hz
  exact g_getI hF hk.1 (hk.sh rfl) (hk.ft rfl) hd k
theorem x_p51_7 {idx : Nat} {x : Int} (hk : kx o 51) (hF : PF i.1.cls idx 10 7 15 .int) (hd : decode i.2.1 pc = .ok (.putfield idx, 3)) (k : Go WSX G d i (pc + 3) ls st (up P o 7 x) Q) : Go WSX G d i pc ls (vI x :: vR o :: st) P Q := g_putI hF hk.1 (hk.sh rfl) (hk.ft rfl) hd k
theorem x_g51_8 {idx : Nat} {z : Int} (hk : kx o 51) (hF : FF i.1.cls idx 10 8 15) (hd : decode i.2.1 pc = .ok (.getfield idx, 3)) (hz : P o 8 = z) (k : Go WSX G d i (pc + 3) ls (vI z :: st) P Q) : Go WSX G d i pc ls (vR o :: st) P Q := by
  subst hz
  exact g_getI hF hk.1 (hk.sh rfl) (hk.ft rfl) hd k
theorem x_p51_8 {idx : Nat} {x : Int} (hk : kx o 51) (hF : PF i.1.cls idx 10 8 15 .int) (hd : decode i.2.1 pc = .ok (.putfield idx, 3)) (k : Go WSX G d i (pc + 3) ls st (up P o 8 x) Q) : Go WSX G d i pc ls (vI x :: vR o :: st) P Q := g_putI hF hk.1 (hk.sh rfl) (hk.ft rfl) hd k
theorem x_g51_9 {idx : Nat} {z : Int} (hk : kx o 51) (hF : FF i.1.cls idx 10 9 15) (hd : decode i.2.1 pc = .ok (.getfield idx, 3)) (hz : P o 9 = z) (k : Go WSX G d i (pc + 3) ls (vI z :: st) P Q) : Go WSX G d i pc ls (vR o :: st) P Q := by
  subst hz
  exact g_getI hF hk.1 (hk.sh rfl) (hk.ft rfl) hd k
theorem x_p51_9 {idx : Nat} {x : Int} (hk : kx o 51) (hF : PF i.1.cls idx 10 9 15 .int) (hd : decode i.2.1 pc = .ok (.putfield idx, 3)) (k : Go WSX G d i (pc + 3) ls st (up P o 9 x) Q) : Go WSX G d i pc ls (vI x :: vR o :: st) P Q := g_putI hF hk.1 (hk.sh rfl) (hk.ft rfl) hd k
theorem x_g51_10 {idx : Nat} {z : Int} (hk : kx o 51) (hF : FF i.1.cls idx 10 10 15) (hd : decode i.2.1 pc = .ok (.getfield idx, 3)) (hz : P o 10 = z) (k : Go WSX G d i (pc + 3) ls (vI z :: st) P Q) : Go WSX G d i pc ls (vR o :: st) P Q := by
  subst hz
  exact g_getI hF hk.1 (hk.sh rfl) (hk.ft rfl) hd k
theorem x_p51_10 {idx : Nat} {x : Int} (hk : kx o 51) (hF : PF i.1.cls idx 10 10 15 .int) (hd : decode i.2.1 pc = .ok (.putfield idx, 3)) (k : Go WSX G d i (pc + 3) ls st (up P o 10 x) Q) : Go WSX G d i pc ls (vI x :: vR o :: st) P Q := g_putI hF hk.1 (hk.sh rfl) (hk.ft rfl) hd k
theorem x_g51_11 {idx : Nat} {z : Int} (hk : kx o 51) (hF : FF i.1.cls idx 10 11 15) (hd : decode i.2.1 pc = .ok (.getfield idx, 3)) (hz : P o 11 = z) (k : Go WSX G d i (pc + 3) ls (vI z :: st) P Q) : Go WSX G d i pc ls (vR o :: st) P Q := by
  subst hz
  exact g_getI hF hk.1 (hk.sh rfl) (hk.ft rfl) hd k
theorem x_p51_11 {idx : Nat} {x : Int} (hk : kx o 51) (hF : PF i.1.cls idx 10 11 15 .boolean) (hd : decode i.2.1 pc = .ok (.putfield idx, 3)) (hz : x = 0 ∨ x = 1) (k : Go WSX G d i (pc + 3) ls st (up P o 11 x) Q) : Go WSX G d i pc ls (vI x :: vR o :: st) P Q := g_putZ hF hk.1 (hk.sh rfl) (hk.ft rfl) hz hd k
theorem x_g51_12 {idx : Nat} {z : Int} (hk : kx o 51) (hF : FF i.1.cls idx 10 12 15) (hd : decode i.2.1 pc = .ok (.getfield idx, 3)) (hz : P o 12 = z) (k : Go WSX G d i (pc + 3) ls (vI z :: st) P Q) : Go WSX G d i pc ls (vR o :: st) P Q := by
  subst hz
  exact g_getI hF hk.1 (hk.sh rfl) (hk.ft rfl) hd k
theorem x_p51_12 {idx : Nat} {x : Int} (hk : kx o 51) (hF : PF i.1.cls idx 10 12 15 .int) (hd : decode i.2.1 pc = .ok (.putfield idx, 3)) (k : Go WSX G d i (pc + 3) ls st (up P o 12 x) Q) : Go WSX G d i pc ls (vI x :: vR o :: st) P Q := g_putI hF hk.1 (hk.sh rfl) (hk.ft rfl) hd k
theorem x_g51_13 {idx n : Nat} (hk : kx o 51) (hF : FF i.1.cls idx 10 13 15) (hd : decode i.2.1 pc = .ok (.getfield idx, 3)) (hn : P o 13 = (n : Int)) (k : Go WSX G d i (pc + 3) ls (vR n :: st) P Q) : Go WSX G d i pc ls (vR o :: st) P Q := g_getR hF hk.1 (hk.sh rfl) (hk.ft rfl) hn hd k
theorem x_p51_13 {idx x : Nat} (hk : kx o 51) (hF : PF i.1.cls idx 10 13 15 (.object RX9)) (hd : decode i.2.1 pc = .ok (.putfield idx, 3)) (k : Go WSX G d i (pc + 3) ls st (up P o 13 (x : Int)) Q) : Go WSX G d i pc ls (vR x :: vR o :: st) P Q := g_putR hF hk.1 (hk.sh rfl) (hk.ft rfl) ⟨rfl, rfl⟩ hd k
theorem x_g51_14 {idx n : Nat} (hk : kx o 51) (hF : FF i.1.cls idx 10 14 15) (hd : decode i.2.1 pc = .ok (.getfield idx, 3)) (hn : P o 14 = (n : Int)) (k : Go WSX G d i (pc + 3) ls (vR n :: st) P Q) : Go WSX G d i pc ls (vR o :: st) P Q := g_getR hF hk.1 (hk.sh rfl) (hk.ft rfl) hn hd k
theorem x_p51_14 {idx x : Nat} (hk : kx o 51) (hF : PF i.1.cls idx 10 14 15 (.object RX5)) (hd : decode i.2.1 pc = .ok (.putfield idx, 3)) (k : Go WSX G d i (pc + 3) ls st (up P o 14 (x : Int)) Q) : Go WSX G d i pc ls (vR x :: vR o :: st) P Q := g_putR hF hk.1 (hk.sh rfl) (hk.ft rfl) ⟨rfl, rfl⟩ hd k
theorem x_l52 {x : Int} {n : Nat} (hk : kx o 52) (hd : decode i.2.1 pc = .ok (.aaload, 1)) (hx : 0 ≤ x ∧ x < 4) (hn : crX o x.toNat = n) (k : Go WSX G d i (pc + 1) ls (vR n :: st) P Q) : Go WSX G d i pc ls (vI x :: vR o :: st) P Q := by
  subst hn
  exact g_aald (n := 4) hk.1 (hk.sh rfl) rfl rfl (by decide) hx hd k
theorem x_l53 {x : Int} {n : Nat} (hk : kx o 53) (hd : decode i.2.1 pc = .ok (.aaload, 1)) (hx : 0 ≤ x ∧ x < 4) (hn : crX o x.toNat = n) (k : Go WSX G d i (pc + 1) ls (vR n :: st) P Q) : Go WSX G d i pc ls (vI x :: vR o :: st) P Q := by
  subst hn
  exact g_aald (n := 4) hk.1 (hk.sh rfl) rfl rfl (by decide) hx hd k
theorem x_l54 {x z : Int} (hk : kx o 54) (hd : decode i.2.1 pc = .ok (.laload, 1)) (hx : 0 ≤ x ∧ x < 65536) (hz : P o x = z) (k : Go WSX G d i (pc + 1) ls (vL z :: st) P Q) : Go WSX G d i pc ls (vI x :: vR o :: st) P Q := by
  subst hz
  exact g_lald (n := 65536) hk.1 (hk.sh rfl) rfl (by decide) hx hd k
theorem x_s54 {x z : Int} (hk : kx o 54) (hd : decode i.2.1 pc = .ok (.lastore, 1)) (hx : 0 ≤ x ∧ x < 65536) (k : Go WSX G d i (pc + 1) ls st (up P o x z) Q) : Go WSX G d i pc ls (vL z :: vI x :: vR o :: st) P Q := g_last (n := 65536) hk.1 (hk.sh rfl) rfl (by decide) hx hd k
theorem x_l55 {x z : Int} (hk : kx o 55) (hd : decode i.2.1 pc = .ok (.iaload, 1)) (hx : 0 ≤ x ∧ x < 999) (hz : P o x = z) (k : Go WSX G d i (pc + 1) ls (vI z :: st) P Q) : Go WSX G d i pc ls (vI x :: vR o :: st) P Q := by
  subst hz
  exact g_iald (n := 999) hk.1 (hk.sh rfl) rfl (by decide) hx hd k
theorem x_s55 {x z : Int} (hk : kx o 55) (hd : decode i.2.1 pc = .ok (.iastore, 1)) (hx : 0 ≤ x ∧ x < 999) (k : Go WSX G d i (pc + 1) ls st (up P o x z) Q) : Go WSX G d i pc ls (vI z :: vI x :: vR o :: st) P Q := g_iast (n := 999) hk.1 (hk.sh rfl) rfl (by decide) hx hd k
theorem x_n55 (hk : kx o 55) (hd : decode i.2.1 pc = .ok (.arraylength, 1)) (k : Go WSX G d i (pc + 1) ls (vI 999 :: st) P Q) : Go WSX G d i pc ls (vR o :: st) P Q := g_alen (n := 999) hk.1 (hk.sh rfl) rfl hd k
end XR
/-! The methods of the class, and of the JDK. -/
abbrev iX0_clear : MI := (yX0_clear, cX0_clear, 1, none)
theorem cf_X0_clear : CFV iX0_clear 0 := ⟨t_908, t_909, t_136, t_910, by decide +kernel, by decide⟩
abbrev iX0_keptTold : MI := (yX0_keptTold, cX0_keptTold, 1, (some .int))
theorem cf_X0_keptTold : CFV iX0_keptTold 0 := ⟨t_920, t_921, t_136, t_922, by decide +kernel, by decide⟩
abbrev iX0_keep : MI := (yX0_keep, cX0_keep, 5, none)
theorem cf_X0_keep : CFV iX0_keep 3 := ⟨t_1276, t_1277, t_136, t_1278, by decide +kernel, by decide⟩
abbrev iX0_tellKept : MI := (yX0_tellKept, cX0_tellKept, 4, (some .int))
theorem cf_X0_tellKept : CFV iX0_tellKept 2 := ⟨t_1327, t_1328, t_136, t_1329, by decide +kernel, by decide⟩
abbrev iX0_remember : MI := (yX0_remember, cX0_remember, 3, none)
theorem cf_X0_remember : CFV iX0_remember 1 := ⟨t_1259, t_1260, t_136, t_1261, by decide +kernel, by decide⟩
abbrev iX0_takeBack : MI := (yX0_takeBack, cX0_takeBack, 3, none)
theorem cf_X0_takeBack : CFV iX0_takeBack 1 := ⟨t_1314, t_1315, t_136, t_1316, by decide +kernel, by decide⟩
abbrev iX1_add : MI := (yX1_add, cX1_add, 2, none)
theorem cf_X1_add : CFV iX1_add 1 := ⟨t_672, t_673, t_131, t_674, by decide +kernel, by decide⟩
abbrev iX1_addFour : MI := (yX1_addFour, cX1_addFour, 2, none)
theorem cf_X1_addFour : CFV iX1_addFour 1 := ⟨t_668, t_669, t_131, t_670, by decide +kernel, by decide⟩
abbrev iX1_addNumber : MI := (yX1_addNumber, cX1_addNumber, 2, none)
theorem cf_X1_addNumber : CFV iX1_addNumber 1 := ⟨t_1042, t_1043, t_131, t_1044, by decide +kernel, by decide⟩
abbrev iX1_addName : MI := (yX1_addName, cX1_addName, 4, none)
theorem cf_X1_addName : CFV iX1_addName 1 := ⟨t_1050, t_1051, t_131, t_1052, by decide +kernel, by decide⟩
abbrev iX1_byteAt : MI := (yX1_byteAt, cX1_byteAt, 2, (some .int))
theorem cf_X1_byteAt : CFV iX1_byteAt 1 := ⟨t_1060, t_1061, t_131, t_1062, by decide +kernel, by decide⟩
abbrev iX1_checkByte : MI := (yX1_checkByte, cX1_checkByte, 4, (some .int))
theorem cf_X1_checkByte : CFV iX1_checkByte 1 := ⟨t_1336, t_1337, t_131, t_1338, by decide +kernel, by decide⟩
abbrev iX2_begin : MI := (yX2_begin, cX2_begin, 1, none)
theorem cf_X2_begin : CFV iX2_begin 0 := ⟨t_870, t_871, t_134, t_872, by decide +kernel, by decide⟩
abbrev iX2_add : MI := (yX2_add, cX2_add, 4, none)
theorem cf_X2_add : CFV iX2_add 2 := ⟨t_882, t_883, t_134, t_884, by decide +kernel, by decide⟩
abbrev iX2_addParts : MI := (yX2_addParts, cX2_addParts, 4, none)
theorem cf_X2_addParts : CFV iX2_addParts 2 := ⟨t_1130, t_1131, t_134, t_1132, by decide +kernel, by decide⟩
abbrev iX2_addProducts : MI := (yX2_addProducts, cX2_addProducts, 5, none)
theorem cf_X2_addProducts : CFV iX2_addProducts 2 := ⟨t_897, t_898, t_134, t_899, by decide +kernel, by decide⟩
abbrev iX2_copy : MI := (yX2_copy, cX2_copy, 3, none)
theorem cf_X2_copy : CFV iX2_copy 1 := ⟨t_892, t_893, t_134, t_894, by decide +kernel, by decide⟩
abbrev iX3_clear : MI := (yX3_clear, cX3_clear, 1, none)
theorem cf_X3_clear : CFV iX3_clear 0 := ⟨t_692, t_693, t_139, t_694, by decide +kernel, by decide⟩
abbrev iX3_isKind : MI := (yX3_isKind, cX3_isKind, 2, (some .boolean))
theorem cf_X3_isKind : CFV iX3_isKind 1 := ⟨t_761, t_762, t_139, t_763, by decide +kernel, by decide⟩
abbrev iX3_isCon : MI := (yX3_isCon, cX3_isCon, 2, (some .boolean))
theorem cf_X3_isCon : CFV iX3_isCon 1 := ⟨t_841, t_842, t_139, t_843, by decide +kernel, by decide⟩
abbrev iX3_sizeOf : MI := (yX3_sizeOf, cX3_sizeOf, 2, (some .int))
theorem cf_X3_sizeOf : CFV iX3_sizeOf 1 := ⟨t_777, t_778, t_139, t_779, by decide +kernel, by decide⟩
abbrev iX3_consOf : MI := (yX3_consOf, cX3_consOf, 2, (some .int))
theorem cf_X3_consOf : CFV iX3_consOf 1 := ⟨t_757, t_758, t_139, t_759, by decide +kernel, by decide⟩
abbrev iX3_kindNamed : MI := (yX3_kindNamed, cX3_kindNamed, 3, (some .int))
theorem cf_X3_kindNamed : CFV iX3_kindNamed 1 := ⟨t_741, t_742, t_139, t_743, by decide +kernel, by decide⟩
abbrev iX3_conNamed : MI := (yX3_conNamed, cX3_conNamed, 3, (some .int))
theorem cf_X3_conNamed : CFV iX3_conNamed 1 := ⟨t_745, t_746, t_139, t_747, by decide +kernel, by decide⟩
abbrev iX3_conNamedOf : MI := (yX3_conNamedOf, cX3_conNamedOf, 5, (some .int))
theorem cf_X3_conNamedOf : CFV iX3_conNamedOf 2 := ⟨t_828, t_829, t_139, t_830, by decide +kernel, by decide⟩
abbrev iX3_conOf : MI := (yX3_conOf, cX3_conOf, 6, (some .int))
theorem cf_X3_conOf : CFV iX3_conOf 2 := ⟨t_1046, t_1047, t_139, t_1048, by decide +kernel, by decide⟩
abbrev iX3_secondSize : MI := (yX3_secondSize, cX3_secondSize, 2, (some .int))
theorem cf_X3_secondSize : CFV iX3_secondSize 1 := ⟨t_837, t_838, t_139, t_839, by decide +kernel, by decide⟩
abbrev iX3_addKind : MI := (yX3_addKind, cX3_addKind, 2, none)
theorem cf_X3_addKind : CFV iX3_addKind 1 := ⟨t_749, t_750, t_139, t_751, by decide +kernel, by decide⟩
abbrev iX3_addCon : MI := (yX3_addCon, cX3_addCon, 7, none)
theorem cf_X3_addCon : CFV iX3_addCon 5 := ⟨t_781, t_782, t_139, t_783, by decide +kernel, by decide⟩
abbrev iX4_renew : MI := (yX4_renew, cX4_renew, 1, none)
theorem cf_X4_renew : CFV iX4_renew 0 := ⟨t_874, t_875, t_133, t_876, by decide +kernel, by decide⟩
abbrev iX4_isNew : MI := (yX4_isNew, cX4_isNew, 2, (some .boolean))
theorem cf_X4_isNew : CFV iX4_isNew 1 := ⟨t_886, t_887, t_133, t_888, by decide +kernel, by decide⟩
abbrev iX5_begin : MI := (yX5_begin, cX5_begin, 4, none)
theorem cf_X5_begin : CFV iX5_begin 2 := ⟨t_902, t_903, t_135, t_904, by decide +kernel, by decide⟩
abbrev iX5_copy : MI := (yX5_copy, cX5_copy, 3, none)
theorem cf_X5_copy : CFV iX5_copy 1 := ⟨t_1186, t_1187, t_135, t_1188, by decide +kernel, by decide⟩
abbrev iX5_isPlace : MI := (yX5_isPlace, cX5_isPlace, 2, (some .boolean))
theorem cf_X5_isPlace : CFV iX5_isPlace 1 := ⟨t_951, t_952, t_135, t_953, by decide +kernel, by decide⟩
abbrev iX5_armAt : MI := (yX5_armAt, cX5_armAt, 2, (some .int))
theorem cf_X5_armAt : CFV iX5_armAt 1 := ⟨t_947, t_948, t_135, t_949, by decide +kernel, by decide⟩
abbrev iX5_exchange : MI := (yX5_exchange, cX5_exchange, 4, none)
theorem cf_X5_exchange : CFV iX5_exchange 2 := ⟨t_1190, t_1191, t_135, t_1192, by decide +kernel, by decide⟩
abbrev iX5_takeOut : MI := (yX5_takeOut, cX5_takeOut, 3, none)
theorem cf_X5_takeOut : CFV iX5_takeOut 1 := ⟨t_1298, t_1299, t_135, t_1300, by decide +kernel, by decide⟩
abbrev iX5_allArms : MI := (yX5_allArms, cX5_allArms, 3, (some .int))
theorem cf_X5_allArms : CFV iX5_allArms 0 := ⟨t_1075, t_1076, t_135, t_1077, by decide +kernel, by decide⟩
abbrev iX5_firstOf : MI := (yX5_firstOf, cX5_firstOf, 3, (some .int))
theorem cf_X5_firstOf : CFV iX5_firstOf 1 := ⟨t_1090, t_1091, t_135, t_1092, by decide +kernel, by decide⟩
abbrev iX5_unguarded : MI := (yX5_unguarded, cX5_unguarded, 5, (some .int))
theorem cf_X5_unguarded : CFV iX5_unguarded 2 := ⟨t_963, t_964, t_135, t_965, by decide +kernel, by decide⟩
abbrev iX5_placeTaking : MI := (yX5_placeTaking, cX5_placeTaking, 6, (some .int))
theorem cf_X5_placeTaking : CFV iX5_placeTaking 3 := ⟨t_979, t_980, t_135, t_981, by decide +kernel, by decide⟩
abbrev iX5_takings : MI := (yX5_takings, cX5_takings, 9, (some .long))
theorem cf_X5_takings : CFV iX5_takings 2 := ⟨t_1198, t_1199, t_135, t_1200, by decide +kernel, by decide⟩
abbrev iX6_readMatch : MI := (yX6_readMatch, cX6_readMatch, 5, (some .int))
theorem cf_X6_readMatch : CFV iX6_readMatch 2 := ⟨t_684, t_685, t_140, t_686, by decide +kernel, by decide⟩
abbrev iX6_begin : MI := (yX6_begin, cX6_begin, 2, none)
theorem cf_X6_begin : CFV iX6_begin 1 := ⟨t_697, s_1, t_140, t_698, by decide +kernel, by decide⟩
abbrev iX6_fail : MI := (yX6_fail, cX6_fail, 3, (some .boolean))
theorem cf_X6_fail : CFV iX6_fail 2 := ⟨t_729, s_6, t_140, t_730, by decide +kernel, by decide⟩
abbrev iX6_failHere : MI := (yX6_failHere, cX6_failHere, 1, (some .boolean))
theorem cf_X6_failHere : CFV iX6_failHere 0 := ⟨t_725, s_5, t_140, t_726, by decide +kernel, by decide⟩
abbrev iX6_readSign : MI := (yX6_readSign, cX6_readSign, 2, (some .boolean))
theorem cf_X6_readSign : CFV iX6_readSign 1 := ⟨t_799, s_14, t_140, t_800, by decide +kernel, by decide⟩
abbrev iX6_readNumber : MI := (yX6_readNumber, cX6_readNumber, 4, (some .int))
theorem cf_X6_readNumber : CFV iX6_readNumber 2 := ⟨t_818, s_16, t_140, t_819, by decide +kernel, by decide⟩
abbrev iX6_readRule : MI := (yX6_readRule, cX6_readRule, 1, (some .boolean))
theorem cf_X6_readRule : CFV iX6_readRule 0 := ⟨t_855, s_19, t_140, t_856, by decide +kernel, by decide⟩
abbrev iX6_readBudget : MI := (yX6_readBudget, cX6_readBudget, 1, (some .boolean))
theorem cf_X6_readBudget : CFV iX6_readBudget 0 := ⟨t_859, s_20, t_140, t_860, by decide +kernel, by decide⟩
abbrev iX6_readKind : MI := (yX6_readKind, cX6_readKind, 1, (some .boolean))
theorem cf_X6_readKind : CFV iX6_readKind 0 := ⟨t_721, s_4, t_140, t_722, by decide +kernel, by decide⟩
abbrev iX6_isNewName : MI := (yX6_isNewName, cX6_isNewName, 2, (some .boolean))
theorem cf_X6_isNewName : CFV iX6_isNewName 0 := ⟨t_734, s_7, t_140, t_735, by decide +kernel, by decide⟩
abbrev iX6_readCon : MI := (yX6_readCon, cX6_readCon, 9, (some .boolean))
theorem cf_X6_readCon : CFV iX6_readCon 0 := ⟨t_754, s_8, t_140, t_755, by decide +kernel, by decide⟩
abbrev iX6_isKindWord : MI := (yX6_isKindWord, cX6_isKindWord, 1, (some .boolean))
theorem cf_X6_isKindWord : CFV iX6_isKindWord 0 := ⟨t_766, s_9, t_140, t_767, by decide +kernel, by decide⟩
abbrev iX6_kindHere : MI := (yX6_kindHere, cX6_kindHere, 1, (some .int))
theorem cf_X6_kindHere : CFV iX6_kindHere 0 := ⟨t_774, s_11, t_140, t_775, by decide +kernel, by decide⟩
abbrev iX6_isKindHere : MI := (yX6_isKindHere, cX6_isKindHere, 3, (some .boolean))
theorem cf_X6_isKindHere : CFV iX6_isKindHere 1 := ⟨t_770, s_10, t_140, t_771, by decide +kernel, by decide⟩
abbrev iX6_readColumns : MI := (yX6_readColumns, cX6_readColumns, 4, (some .boolean))
theorem cf_X6_readColumns : CFV iX6_readColumns 0 := ⟨t_786, s_12, t_140, t_787, by decide +kernel, by decide⟩
abbrev iX6_readArm : MI := (yX6_readArm, cX6_readArm, 2, (some .boolean))
theorem cf_X6_readArm : CFV iX6_readArm 0 := ⟨t_795, s_13, t_140, t_796, by decide +kernel, by decide⟩
abbrev iX6_readPattern : MI := (yX6_readPattern, cX6_readPattern, 6, (some .boolean))
theorem cf_X6_readPattern : CFS iX6_readPattern 4 := ⟨t_806, t_140, t_807, by decide +kernel, by decide⟩
abbrev iX6_readRange : MI := (yX6_readRange, cX6_readRange, 4, (some .boolean))
theorem cf_X6_readRange : CFV iX6_readRange 1 := ⟨t_814, s_15, t_140, t_815, by decide +kernel, by decide⟩
abbrev iX6_readCase : MI := (yX6_readCase, cX6_readCase, 7, (some .boolean))
theorem cf_X6_readCase : CFS iX6_readCase 4 := ⟨t_821, t_140, t_822, by decide +kernel, by decide⟩
abbrev iX6_readConName : MI := (yX6_readConName, cX6_readConName, 3, (some .int))
theorem cf_X6_readConName : CFV iX6_readConName 1 := ⟨t_825, s_17, t_140, t_826, by decide +kernel, by decide⟩
abbrev iX6_fillCase : MI := (yX6_fillCase, cX6_fillCase, 11, none)
theorem cf_X6_fillCase : CFV iX6_fillCase 3 := ⟨t_834, s_18, t_140, t_835, by decide +kernel, by decide⟩
abbrev iX6_fill : MI := (yX6_fill, cX6_fill, 5, none)
theorem cf_X6_fill : CFS iX6_fill 4 := ⟨t_809, t_140, t_810, by decide +kernel, by decide⟩
abbrev iX6_readRow : MI := (yX6_readRow, cX6_readRow, 6, (some .int))
theorem cf_X6_readRow : CFV iX6_readRow 2 := ⟨t_1023, t_1024, t_140, t_1025, by decide +kernel, by decide⟩
abbrev iX6_readValue : MI := (yX6_readValue, cX6_readValue, 7, (some .int))
theorem cf_X6_readValue : CFS iX6_readValue 3 := ⟨t_1027, t_140, t_1028, by decide +kernel, by decide⟩
abbrev iX7_begin : MI := (yX7_begin, cX7_begin, 2, none)
theorem cf_X7_begin : CFV iX7_begin 1 := ⟨t_700, t_701, t_141, t_702, by decide +kernel, by decide⟩
abbrev iX7_step : MI := (yX7_step, cX7_step, 6, none)
theorem cf_X7_step : CFV iX7_step 0 := ⟨t_708, t_709, t_141, t_710, by decide +kernel, by decide⟩
abbrev iX7_stepWord : MI := (yX7_stepWord, cX7_stepWord, 3, none)
theorem cf_X7_stepWord : CFV iX7_stepWord 0 := ⟨t_713, s_2, t_141, t_714, by decide +kernel, by decide⟩
abbrev iX7_stepNumber : MI := (yX7_stepNumber, cX7_stepNumber, 2, none)
theorem cf_X7_stepNumber : CFV iX7_stepNumber 0 := ⟨t_717, s_3, t_141, t_718, by decide +kernel, by decide⟩
abbrev iX7_isName : MI := (yX7_isName, cX7_isName, 1, (some .boolean))
theorem cf_X7_isName : CFV iX7_isName 0 := ⟨t_737, t_738, t_141, t_739, by decide +kernel, by decide⟩
abbrev iX7_isSign : MI := (yX7_isSign, cX7_isSign, 2, (some .boolean))
theorem cf_X7_isSign : CFV iX7_isSign 1 := ⟨t_802, t_803, t_141, t_804, by decide +kernel, by decide⟩
abbrev iX8_read : MI := (yX8_read, cX8_read, 7, (some .boolean))
theorem cf_X8_read : CFV iX8_read 3 := ⟨t_1215, t_1216, t_137, t_1217, by decide +kernel, by decide⟩
abbrev iX8_rowOn : MI := (yX8_rowOn, cX8_rowOn, 2, (some .int))
theorem cf_X8_rowOn : CFS iX8_rowOn 2 := ⟨t_1220, t_137, t_1221, by decide +kernel, by decide⟩
abbrev iX8_findSets : MI := (yX8_findSets, cX8_findSets, 4, none)
theorem cf_X8_findSets : CFV iX8_findSets 2 := ⟨t_1230, t_1231, t_137, t_1232, by decide +kernel, by decide⟩
abbrev iX8_agrees : MI := (yX8_agrees, cX8_agrees, 6, (some .boolean))
theorem cf_X8_agrees : CFV iX8_agrees 3 := ⟨t_1235, s_40, t_137, t_1236, by decide +kernel, by decide⟩
abbrev iX8_mostLeft : MI := (yX8_mostLeft, cX8_mostLeft, 7, (some .int))
theorem cf_X8_mostLeft : CFV iX8_mostLeft 3 := ⟨t_1246, t_1247, t_137, t_1248, by decide +kernel, by decide⟩
abbrev iX9_clear : MI := (yX9_clear, cX9_clear, 1, none)
theorem cf_X9_clear : CFV iX9_clear 0 := ⟨t_688, t_689, t_138, t_690, by decide +kernel, by decide⟩
abbrev iX9_addColumn : MI := (yX9_addColumn, cX9_addColumn, 4, none)
theorem cf_X9_addColumn : CFV iX9_addColumn 1 := ⟨t_789, t_790, t_138, t_791, by decide +kernel, by decide⟩
abbrev iX9_setPattern : MI := (yX9_setPattern, cX9_setPattern, 6, none)
theorem cf_X9_setPattern : CFV iX9_setPattern 2 := ⟨t_846, t_847, t_138, t_848, by decide +kernel, by decide⟩
abbrev iX9_addArm : MI := (yX9_addArm, cX9_addArm, 2, none)
theorem cf_X9_addArm : CFV iX9_addArm 1 := ⟨t_850, t_851, t_138, t_852, by decide +kernel, by decide⟩
abbrev iX9_guardOf : MI := (yX9_guardOf, cX9_guardOf, 2, (some .int))
theorem cf_X9_guardOf : CFV iX9_guardOf 1 := ⟨t_955, t_956, t_138, t_957, by decide +kernel, by decide⟩
abbrev iX9_isRow : MI := (yX9_isRow, cX9_isRow, 2, (some .boolean))
theorem cf_X9_isRow : CFV iX9_isRow 1 := ⟨t_1015, t_1016, t_138, t_1017, by decide +kernel, by decide⟩
abbrev iX9_armsFitting : MI := (yX9_armsFitting, cX9_armsFitting, 3, (some .int))
theorem cf_X9_armsFitting : CFV iX9_armsFitting 2 := ⟨t_878, t_879, t_138, t_880, by decide +kernel, by decide⟩
abbrev iX9_valueOf : MI := (yX9_valueOf, cX9_valueOf, 5, (some .int))
theorem cf_X9_valueOf : CFV iX9_valueOf 2 := ⟨t_1035, t_1036, t_138, t_1037, by decide +kernel, by decide⟩
abbrev iX9_armsOf : MI := (yX9_armsOf, cX9_armsOf, 6, (some .int))
theorem cf_X9_armsOf : CFV iX9_armsOf 1 := ⟨t_1005, t_1006, t_138, t_1007, by decide +kernel, by decide⟩
abbrev iX10_setTable : MI := (yX10_setTable, cX10_setTable, 4, none)
theorem cf_X10_setTable : CFV iX10_setTable 1 := ⟨t_866, t_867, t_146, t_868, by decide +kernel, by decide⟩
abbrev iX10_allColumns : MI := (yX10_allColumns, cX10_allColumns, 1, (some .int))
theorem cf_X10_allColumns : CFV iX10_allColumns 0 := ⟨t_1080, s_28, t_146, t_1081, by decide +kernel, by decide⟩
abbrev iX10_columnAsked : MI := (yX10_columnAsked, cX10_columnAsked, 8, (some .int))
theorem cf_X10_columnAsked : CFV iX10_columnAsked 2 := ⟨t_1087, s_29, t_146, t_1088, by decide +kernel, by decide⟩
abbrev iX10_costOf : MI := (yX10_costOf, cX10_costOf, 3, (some .int))
theorem cf_X10_costOf : CFV iX10_costOf 2 := ⟨t_1096, s_30, t_146, t_1097, by decide +kernel, by decide⟩
abbrev iX10_notFullInRow : MI := (yX10_notFullInRow, cX10_notFullInRow, 6, (some .int))
theorem cf_X10_notFullInRow : CFV iX10_notFullInRow 2 := ⟨t_1100, s_31, t_146, t_1101, by decide +kernel, by decide⟩
abbrev iX10_countBranches : MI := (yX10_countBranches, cX10_countBranches, 5, (some .int))
theorem cf_X10_countBranches : CFV iX10_countBranches 2 := ⟨t_1104, s_32, t_146, t_1105, by decide +kernel, by decide⟩
abbrev iX10_mostArms : MI := (yX10_mostArms, cX10_mostArms, 5, (some .int))
theorem cf_X10_mostArms : CFV iX10_mostArms 2 := ⟨t_1110, s_33, t_146, t_1111, by decide +kernel, by decide⟩
abbrev iX10_split : MI := (yX10_split, cX10_split, 6, (some (.object RX2)))
theorem cf_X10_split : CFV iX10_split 3 := ⟨t_1126, s_35, t_146, t_1127, by decide +kernel, by decide⟩
abbrev iX10_rowsOf : MI := (yX10_rowsOf, cX10_rowsOf, 4, (some .int))
theorem cf_X10_rowsOf : CFV iX10_rowsOf 1 := ⟨t_1122, s_34, t_146, t_1123, by decide +kernel, by decide⟩
abbrev iX10_measureAll : MI := (yX10_measureAll, cX10_measureAll, 3, (some .long))
theorem cf_X10_measureAll : CFV iX10_measureAll 2 := ⟨t_1071, t_1072, t_146, t_1073, by decide +kernel, by decide⟩
abbrev iX10_measure : MI := (yX10_measure, cX10_measure, 16, (some .long))
theorem cf_X10_measure : CFS iX10_measure 4 := ⟨t_1083, t_146, t_1084, by decide +kernel, by decide⟩
abbrev iX10_nodesIn : MI := (yX10_nodesIn, cX10_nodesIn, 2, (some .int))
theorem cf_X10_nodesIn : CFS iX10_nodesIn 1 := ⟨t_1135, t_146, t_1136, by decide +kernel, by decide⟩
abbrev iX10_testsIn : MI := (yX10_testsIn, cX10_testsIn, 2, (some .int))
theorem cf_X10_testsIn : CFS iX10_testsIn 1 := ⟨t_1139, t_146, t_1140, by decide +kernel, by decide⟩
abbrev iX10_longestIn : MI := (yX10_longestIn, cX10_longestIn, 2, (some .int))
theorem cf_X10_longestIn : CFS iX10_longestIn 1 := ⟨t_1143, t_146, t_1144, by decide +kernel, by decide⟩
abbrev iX10_firstColumn : MI := (yX10_firstColumn, cX10_firstColumn, 7, (some .int))
theorem cf_X10_firstColumn : CFV iX10_firstColumn 2 := ⟨t_1154, t_1155, t_146, t_1156, by decide +kernel, by decide⟩
abbrev iX10_columnsAsked : MI := (yX10_columnsAsked, cX10_columnsAsked, 10, (some .int))
theorem cf_X10_columnsAsked : CFV iX10_columnsAsked 2 := ⟨t_1271, t_1272, t_146, t_1273, by decide +kernel, by decide⟩
abbrev iX10_buildAll : MI := (yX10_buildAll, cX10_buildAll, 3, none)
theorem cf_X10_buildAll : CFV iX10_buildAll 2 := ⟨t_1162, t_1163, t_146, t_1164, by decide +kernel, by decide⟩
abbrev iX10_build : MI := (yX10_build, cX10_build, 10, none)
theorem cf_X10_build : CFS iX10_build 4 := ⟨t_1166, t_146, t_1167, by decide +kernel, by decide⟩
abbrev iX10_openScope : MI := (yX10_openScope, cX10_openScope, 1, none)
theorem cf_X10_openScope : CFV iX10_openScope 0 := ⟨t_1170, s_36, t_146, t_1171, by decide +kernel, by decide⟩
abbrev iX10_shutScope : MI := (yX10_shutScope, cX10_shutScope, 2, none)
theorem cf_X10_shutScope : CFV iX10_shutScope 1 := ⟨t_1174, s_37, t_146, t_1175, by decide +kernel, by decide⟩
abbrev iX10_scopeShutAs : MI := (yX10_scopeShutAs, cX10_scopeShutAs, 2, (some .int))
theorem cf_X10_scopeShutAs : CFV iX10_scopeShutAs 1 := ⟨t_1177, t_1178, t_146, t_1179, by decide +kernel, by decide⟩
abbrev iX11_feed : MI := (yX11_feed, cX11_feed, 6, (some .int))
theorem cf_X11_feed : CFV iX11_feed 5 := ⟨t_660, t_661, t_130, t_662, by decide +kernel, by decide⟩
abbrev iX11_end : MI := (yX11_end, cX11_end, 2, (some .boolean))
theorem cf_X11_end : CFV iX11_end 1 := ⟨t_676, t_677, t_130, t_678, by decide +kernel, by decide⟩
abbrev iX11_match : MI := (yX11_match, cX11_match, 3, (some .int))
theorem cf_X11_match : CFV iX11_match 0 := ⟨t_680, t_681, t_130, t_682, by decide +kernel, by decide⟩
abbrev iX11_startMatch : MI := (yX11_startMatch, cX11_startMatch, 2, none)
theorem cf_X11_startMatch : CFV iX11_startMatch 0 := ⟨t_863, s_21, t_130, t_864, by decide +kernel, by decide⟩
abbrev iX11_fault : MI := (yX11_fault, cX11_fault, 2, (some .int))
theorem cf_X11_fault : CFV iX11_fault 1 := ⟨t_912, t_913, t_130, t_914, by decide +kernel, by decide⟩
abbrev iX11_has : MI := (yX11_has, cX11_has, 2, (some .int))
theorem cf_X11_has : CFV iX11_has 1 := ⟨t_916, t_917, t_130, t_918, by decide +kernel, by decide⟩
abbrev iX11_letter : MI := (yX11_letter, cX11_letter, 5, (some .int))
theorem cf_X11_letter : CFV iX11_letter 3 := ⟨t_925, t_926, t_130, t_927, by decide +kernel, by decide⟩
abbrev iX11_values : MI := (yX11_values, cX11_values, 2, (some .int))
theorem cf_X11_values : CFV iX11_values 1 := ⟨t_934, t_935, t_130, t_936, by decide +kernel, by decide⟩
abbrev iX11_arm : MI := (yX11_arm, cX11_arm, 4, (some .int))
theorem cf_X11_arm : CFV iX11_arm 2 := ⟨t_943, t_944, t_130, t_945, by decide +kernel, by decide⟩
abbrev iX11_isUseful : MI := (yX11_isUseful, cX11_isUseful, 6, (some .boolean))
theorem cf_X11_isUseful : CFV iX11_isUseful 1 := ⟨t_960, s_23, t_130, t_961, by decide +kernel, by decide⟩
abbrev iX11_rowsFitting : MI := (yX11_rowsFitting, cX11_rowsFitting, 4, (some .int))
theorem cf_X11_rowsFitting : CFV iX11_rowsFitting 1 := ⟨t_972, s_24, t_130, t_973, by decide +kernel, by decide⟩
abbrev iX11_rowsTaken : MI := (yX11_rowsTaken, cX11_rowsTaken, 4, (some .int))
theorem cf_X11_rowsTaken : CFV iX11_rowsTaken 1 := ⟨t_976, s_25, t_130, t_977, by decide +kernel, by decide⟩
abbrev iX11_fits : MI := (yX11_fits, cX11_fits, 5, (some .int))
theorem cf_X11_fits : CFV iX11_fits 3 := ⟨t_984, t_985, t_130, t_986, by decide +kernel, by decide⟩
abbrev iX11_holds : MI := (yX11_holds, cX11_holds, 7, (some .int))
theorem cf_X11_holds : CFV iX11_holds 2 := ⟨t_989, t_990, t_130, t_991, by decide +kernel, by decide⟩
abbrev iX11_missing : MI := (yX11_missing, cX11_missing, 3, (some .int))
theorem cf_X11_missing : CFV iX11_missing 1 := ⟨t_993, t_994, t_130, t_995, by decide +kernel, by decide⟩
abbrev iX11_countMissing : MI := (yX11_countMissing, cX11_countMissing, 4, (some .int))
theorem cf_X11_countMissing : CFV iX11_countMissing 1 := ⟨t_998, s_26, t_130, t_999, by decide +kernel, by decide⟩
abbrev iX11_findMissing : MI := (yX11_findMissing, cX11_findMissing, 5, (some .int))
theorem cf_X11_findMissing : CFV iX11_findMissing 2 := ⟨t_1002, s_27, t_130, t_1003, by decide +kernel, by decide⟩
abbrev iX11_taken : MI := (yX11_taken, cX11_taken, 2, (some .int))
theorem cf_X11_taken : CFV iX11_taken 1 := ⟨t_1011, t_1012, t_130, t_1013, by decide +kernel, by decide⟩
abbrev iX11_row : MI := (yX11_row, cX11_row, 2, (some .int))
theorem cf_X11_row : CFV iX11_row 0 := ⟨t_1019, t_1020, t_130, t_1021, by decide +kernel, by decide⟩
abbrev iX11_text : MI := (yX11_text, cX11_text, 3, (some .int))
theorem cf_X11_text : CFV iX11_text 1 := ⟨t_1030, t_1031, t_130, t_1032, by decide +kernel, by decide⟩
abbrev iX11_writeValue : MI := (yX11_writeValue, cX11_writeValue, 8, none)
theorem cf_X11_writeValue : CFS iX11_writeValue 5 := ⟨t_1039, t_130, t_1040, by decide +kernel, by decide⟩
abbrev iX11_octet : MI := (yX11_octet, cX11_octet, 2, (some .int))
theorem cf_X11_octet : CFV iX11_octet 1 := ⟨t_1056, t_1057, t_130, t_1058, by decide +kernel, by decide⟩
abbrev iX11_tree : MI := (yX11_tree, cX11_tree, 5, (some .int))
theorem cf_X11_tree : CFV iX11_tree 2 := ⟨t_1064, t_1065, t_130, t_1066, by decide +kernel, by decide⟩
abbrev iX11_first : MI := (yX11_first, cX11_first, 2, (some .int))
theorem cf_X11_first : CFV iX11_first 1 := ⟨t_1150, t_1151, t_130, t_1152, by decide +kernel, by decide⟩
abbrev iX11_scopes : MI := (yX11_scopes, cX11_scopes, 4, (some .int))
theorem cf_X11_scopes : CFV iX11_scopes 3 := ⟨t_1158, t_1159, t_130, t_1160, by decide +kernel, by decide⟩
abbrev iX11_safe : MI := (yX11_safe, cX11_safe, 3, (some .int))
theorem cf_X11_safe : CFV iX11_safe 2 := ⟨t_1181, t_1182, t_130, t_1183, by decide +kernel, by decide⟩
abbrev iX11_trialTakesAlike : MI := (yX11_trialTakesAlike, cX11_trialTakesAlike, 3, (some .boolean))
theorem cf_X11_trialTakesAlike : CFV iX11_trialTakesAlike 0 := ⟨t_1195, s_38, t_130, t_1196, by decide +kernel, by decide⟩
abbrev iX11_best : MI := (yX11_best, cX11_best, 6, (some .int))
theorem cf_X11_best : CFV iX11_best 1 := ⟨t_1203, t_1204, t_130, t_1205, by decide +kernel, by decide⟩
abbrev iX11_allTests : MI := (yX11_allTests, cX11_allTests, 2, (some .int))
theorem cf_X11_allTests : CFV iX11_allTests 1 := ⟨t_1208, s_39, t_130, t_1209, by decide +kernel, by decide⟩
abbrev iX11_see : MI := (yX11_see, cX11_see, 2, (some .int))
theorem cf_X11_see : CFV iX11_see 0 := ⟨t_1211, t_1212, t_130, t_1213, by decide +kernel, by decide⟩
abbrev iX11_sets : MI := (yX11_sets, cX11_sets, 2, (some .int))
theorem cf_X11_sets : CFV iX11_sets 1 := ⟨t_1226, t_1227, t_130, t_1228, by decide +kernel, by decide⟩
abbrev iX11_tells : MI := (yX11_tells, cX11_tells, 7, (some .int))
theorem cf_X11_tells : CFV iX11_tells 1 := ⟨t_1240, t_1241, t_130, t_1242, by decide +kernel, by decide⟩
abbrev iX11_run : MI := (yX11_run, cX11_run, 2, (some .int))
theorem cf_X11_run : CFV iX11_run 1 := ⟨t_1251, t_1252, t_130, t_1253, by decide +kernel, by decide⟩
abbrev iX11_runRow : MI := (yX11_runRow, cX11_runRow, 3, (some .int))
theorem cf_X11_runRow : CFV iX11_runRow 1 := ⟨t_1268, s_42, t_130, t_1269, by decide +kernel, by decide⟩
abbrev iX11_chance : MI := (yX11_chance, cX11_chance, 4, (some .int))
theorem cf_X11_chance : CFV iX11_chance 1 := ⟨t_1280, t_1281, t_130, t_1282, by decide +kernel, by decide⟩
abbrev iX11_draw : MI := (yX11_draw, cX11_draw, 2, (some .int))
theorem cf_X11_draw : CFV iX11_draw 1 := ⟨t_1285, s_43, t_130, t_1286, by decide +kernel, by decide⟩
abbrev iX11_swap : MI := (yX11_swap, cX11_swap, 3, (some .boolean))
theorem cf_X11_swap : CFV iX11_swap 2 := ⟨t_1290, t_1291, t_130, t_1292, by decide +kernel, by decide⟩
abbrev iX11_drop : MI := (yX11_drop, cX11_drop, 2, (some .boolean))
theorem cf_X11_drop : CFV iX11_drop 1 := ⟨t_1294, t_1295, t_130, t_1296, by decide +kernel, by decide⟩
abbrev iX11_turn : MI := (yX11_turn, cX11_turn, 2, (some .int))
theorem cf_X11_turn : CFV iX11_turn 1 := ⟨t_1302, t_1303, t_130, t_1304, by decide +kernel, by decide⟩
abbrev iX11_choose : MI := (yX11_choose, cX11_choose, 2, (some .boolean))
theorem cf_X11_choose : CFV iX11_choose 1 := ⟨t_1306, t_1307, t_130, t_1308, by decide +kernel, by decide⟩
abbrev iX11_undo : MI := (yX11_undo, cX11_undo, 1, (some .boolean))
theorem cf_X11_undo : CFV iX11_undo 0 := ⟨t_1310, t_1311, t_130, t_1312, by decide +kernel, by decide⟩
abbrev iX11_remember : MI := (yX11_remember, cX11_remember, 1, none)
theorem cf_X11_remember : CFV iX11_remember 0 := ⟨t_1256, s_41, t_130, t_1257, by decide +kernel, by decide⟩
abbrev iX11_seed : MI := (yX11_seed, cX11_seed, 2, (some .boolean))
theorem cf_X11_seed : CFV iX11_seed 1 := ⟨t_1319, t_1320, t_130, t_1321, by decide +kernel, by decide⟩
abbrev iX11_kept : MI := (yX11_kept, cX11_kept, 3, (some .int))
theorem cf_X11_kept : CFV iX11_kept 2 := ⟨t_1323, t_1324, t_130, t_1325, by decide +kernel, by decide⟩
abbrev iX11_image : MI := (yX11_image, cX11_image, 2, (some .int))
theorem cf_X11_image : CFV iX11_image 0 := ⟨t_1332, t_1333, t_130, t_1334, by decide +kernel, by decide⟩
abbrev iX11_on : MI := (yX11_on, cX11_on, 2, (some .boolean))
theorem cf_X11_on : CFV iX11_on 0 := ⟨t_1340, t_1341, t_130, t_1342, by decide +kernel, by decide⟩
abbrev iX11_isImage : MI := (yX11_isImage, cX11_isImage, 5, (some .boolean))
theorem cf_X11_isImage : CFV iX11_isImage 0 := ⟨t_1345, s_44, t_130, t_1346, by decide +kernel, by decide⟩
abbrev iX11_takeImage : MI := (yX11_takeImage, cX11_takeImage, 3, none)
theorem cf_X11_takeImage : CFV iX11_takeImage 0 := ⟨t_1349, s_45, t_130, t_1350, by decide +kernel, by decide⟩
abbrev iX11_status : MI := (yX11_status, cX11_status, 2, (some .int))
theorem cf_X11_status : CFV iX11_status 1 := ⟨t_1354, t_1355, t_130, t_1356, by decide +kernel, by decide⟩
abbrev iX11_refuse : MI := (yX11_refuse, cX11_refuse, 2, (some .boolean))
theorem cf_X11_refuse : CFV iX11_refuse 1 := ⟨t_665, s_0, t_130, t_666, by decide +kernel, by decide⟩
abbrev iX11_matched : MI := (yX11_matched, cX11_matched, 1, (some .boolean))
theorem cf_X11_matched : CFV iX11_matched 0 := ⟨t_939, s_22, t_130, t_940, by decide +kernel, by decide⟩
abbrev iX11_isRule : MI := (yX11_isRule, cX11_isRule, 1, (some .boolean))
theorem cf_X11_isRule : CFS iX11_isRule 1 := ⟨t_1068, t_130, t_1069, by decide +kernel, by decide⟩
abbrev iX11_isIn : MI := (yX11_isIn, cX11_isIn, 2, (some .boolean))
theorem cf_X11_isIn : CFS iX11_isIn 2 := ⟨t_968, t_130, t_969, by decide +kernel, by decide⟩
abbrev iX11_letterOf : MI := (yX11_letterOf, cX11_letterOf, 4, (some .int))
theorem cf_X11_letterOf : CFS iX11_letterOf 2 := ⟨t_930, t_130, t_931, by decide +kernel, by decide⟩
abbrev iJ6_bitCount_0f7a4 : MI := (yJ6_bitCount_0f7a4, cJ6_bitCount_0f7a4, 1, (some .int))
theorem cf_J6_bitCount_0f7a4 : CFS iJ6_bitCount_0f7a4 1 := ⟨t_1113, t_148, t_1114, by decide +kernel, by decide⟩
abbrev iJ9_floorMod_7cf53 : MI := (yJ9_floorMod_7cf53, cJ9_floorMod_7cf53, 3, (some .int))
theorem cf_J9_floorMod_7cf53 : CFS iJ9_floorMod_7cf53 2 := ⟨t_1263, t_132, t_1264, by decide +kernel, by decide⟩
abbrev iJ9_max_7cf53 : MI := (yJ9_max_7cf53, cJ9_max_7cf53, 2, (some .int))
theorem cf_J9_max_7cf53 : CFS iJ9_max_7cf53 2 := ⟨t_164, t_132, t_165, by decide +kernel, by decide⟩
abbrev iJ9_min_7cf53 : MI := (yJ9_min_7cf53, cJ9_min_7cf53, 2, (some .int))
theorem cf_J9_min_7cf53 : CFS iJ9_min_7cf53 2 := ⟨t_704, t_132, t_705, by decide +kernel, by decide⟩
end
