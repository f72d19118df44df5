/-! The class's marks and groups. -/
def MKX (b : Int) (P : PH) : Prop := (∀ s : Int, 0 ≤ s → s < 4096 → P 6 s ≤ P 5 2) ∧ P 5 2 ≤ b
def MKf (b : Int) (P : PH) : Prop := (∀ s : Int, 0 ≤ s → s < 4096 → P 6 s < P 5 2) ∧ P 5 2 ≤ b
theorem k5 : kx 5 5 := ⟨by decide, rfl⟩
theorem k6 : kx 6 6 := ⟨by decide, rfl⟩
theorem MKX.fr {b : Int} {P P1 : PH} {S : FSX} (h : MKX b P) (hf : FrX S P P1) (hd : disX S ([(5, 2)], [6]) = true) : MKX b P1 := by
  have e2 := disX_f hd hf (j := 2) k5 (by decide)
  refine ⟨fun s s0 s1 => ?_, by rw [e2]; exact h.2⟩
  rw [e2, disX_a hd hf k6 (by decide) s]
  exact h.1 s s0 s1
theorem MKf.fr {b : Int} {P P1 : PH} {S : FSX} (h : MKf b P) (hf : FrX S P P1) (hd : disX S ([(5, 2)], [6]) = true) : MKf b P1 := by
  have e2 := disX_f hd hf (j := 2) k5 (by decide)
  refine ⟨fun s s0 s1 => ?_, by rw [e2]; exact h.2⟩
  rw [e2, disX_a hd hf k6 (by decide) s]
  exact h.1 s s0 s1
theorem MKf.x {b : Int} {P : PH} (h : MKf b P) : MKX b P := ⟨fun s a c => Int.le_of_lt (h.1 s a c), h.2⟩
theorem MKX.le {b c : Int} {P : PH} (h : MKX b P) (e : b ≤ c) : MKX c P := ⟨h.1, by have := h.2; omega⟩
theorem MKX.zero {P : PH} (h6 : ∀ s : Int, P 6 s = 0) (h5 : P 5 2 = 0) : MKX 0 P := ⟨fun s _ _ => by rw [h6, h5]; exact Int.le_refl 0, by omega⟩
/-- a set is marked -/
theorem MKX.isn {b s r : Int} {P P1 : PH} (h : MKX b P) (hw : (r = 1 ∧ 0 ≤ s ∧ s ≤ 4095 ∧ P 6 s ≠ P 5 2 ∧ P1 6 s = P 5 2) ∨ (r = 0 ∧ (s < 0 ∨ 4095 < s ∨ P 6 s = P 5 2) ∧ P1 6 s = P 6 s)) (ho : ∀ j : Int, j ≠ s → P1 6 j = P 6 j) (e2 : P1 5 2 = P 5 2) : MKX b P1 := by
  refine ⟨fun j j0 j1 => ?_, by rw [e2]; exact h.2⟩
  rw [e2]
  by_cases e : j = s
  · rw [e]
    rcases hw with w | w
    · rw [w.2.2.2.2]; exact Int.le_refl _
    · rw [w.2.2]; rw [e] at j0 j1; exact h.1 s j0 j1
  · rw [ho j e]; exact h.1 j j0 j1
/-! which groups an object is part of -/
def grX (x : Nat) : Nat := if 8 ≤ x ∧ x ≤ 13 then 8 + 3 * ((x - 8) / 3) else if 128 ≤ x ∧ x ≤ 151 then 128 + 3 * ((x - 128) / 3) else 0
def KG (t : Nat) (P P1 : PH) : Prop := ∀ x : Nat, x < 154 → grX x ≠ 0 → grX x ≠ t → ∀ j : Int, P1 x j = P x j
theorem KG.rf {t : Nat} {P : PH} : KG t P P := fun _ _ _ _ _ => rfl
theorem KG.w {t : Nat} {P P1 : PH} {x : Nat} {j z : Int} (h : KG t P P1) (hx : grX x = t ∨ grX x = 0) : KG t P (up P1 x j z) := fun y h1 h2 h3 k => by
  have hne : y ≠ x := fun e => by
    subst e
    rcases hx with q | q
    · exact h3 q
    · exact h2 q
  rw [up_o hne]
  exact h y h1 h2 h3 k
theorem KG.t {t : Nat} {P P1 P2 : PH} (h : KG t P P1) (h2 : KG t P1 P2) : KG t P P2 := fun x a b c j => (h2 x a b c j).trans (h x a b c j)
def nG (F : FSX) : Bool := F.1.all (fun q => !(q.1 == 8) && !(q.1 == 11)) && F.2.all (fun k => !(k == 9) && !(k == 10) && !(k == 12) && !(k == 13)) && F.1.all (fun q => !(q.1 == 9) && !(q.1 == 10) && !(q.1 == 12) && !(q.1 == 13)) && F.2.all (fun k => !(k == 8) && !(k == 11))
theorem gr_kd : ∀ x : Nat, x < 154 → grX x ≠ 0 → 8 ≤ kdX x ∧ kdX x ≤ 13 := by decide +kernel
theorem nG_in {F : FSX} (h : nG F = true) {k : Nat} (hk : 8 ≤ k ∧ k ≤ 13) (j : Int) : inF F k j = false := by
  unfold nG at h
  rw [Bool.and_eq_true, Bool.and_eq_true, Bool.and_eq_true] at h
  obtain ⟨⟨⟨h1, h2⟩, h3⟩, h4⟩ := h
  unfold inF
  rw [Bool.or_eq_false_iff]
  refine ⟨?_, ?_⟩
  · cases e : F.2.contains k with
    | false => rfl
    | true =>
      exfalso
      have q := List.all_eq_true.mp h2 k (List.contains_iff_mem.mp e)
      have q4 := List.all_eq_true.mp h4 k (List.contains_iff_mem.mp e)
      rcases (show k = 8 ∨ k = 9 ∨ k = 10 ∨ k = 11 ∨ k = 12 ∨ k = 13 by omega) with z | z | z | z | z | z <;> subst z <;> first | exact absurd q (by decide) | exact absurd q4 (by decide)
  · cases e : F.1.any fun q => q.1 == k && q.2 == j with
    | false => rfl
    | true =>
      exfalso
      obtain ⟨q, hq, he⟩ := List.any_eq_true.mp e
      have w := List.all_eq_true.mp h1 q hq
      have w3 := List.all_eq_true.mp h3 q hq
      rw [Bool.and_eq_true, beq_iff_eq] at he
      rw [he.1] at w w3
      rcases (show k = 8 ∨ k = 9 ∨ k = 10 ∨ k = 11 ∨ k = 12 ∨ k = 13 by omega) with z | z | z | z | z | z <;> subst z <;> first | exact absurd w (by decide) | exact absurd w3 (by decide)
theorem KG.fr {t : Nat} {P P1 P2 : PH} {F : FSX} (h : KG t P P1) (hf : FrX F P1 P2) (hd : nG F = true) : KG t P P2 := fun x a b c j => (hf x j a (nG_in hd (gr_kd x a b) j)).trans (h x a b c j)
theorem gr11 {o : Nat} (h : kx o 11) : grX o = o ∧ o ≠ 0 ∧ grX (crX o 0) = o ∧ grX (crX o 1) = o ∧ crX o 0 < 154 ∧ crX o 1 < 154 := (show ∀ o : Nat, o < 154 → kdX o = 11 → grX o = o ∧ o ≠ 0 ∧ grX (crX o 0) = o ∧ grX (crX o 1) = o ∧ crX o 0 < 154 ∧ crX o 1 < 154 by decide +kernel) o h.1 h.2
theorem gr8 {o : Nat} (h : kx o 8) : grX o = o ∧ o ≠ 0 ∧ grX (crX o 0) = o ∧ grX (crX o 1) = o ∧ crX o 0 < 154 ∧ crX o 1 < 154 := (show ∀ o : Nat, o < 154 → kdX o = 8 → grX o = o ∧ o ≠ 0 ∧ grX (crX o 0) = o ∧ grX (crX o 1) = o ∧ crX o 0 < 154 ∧ crX o 1 < 154 by decide +kernel) o h.1 h.2
theorem KG.o {t o : Nat} {P P1 : PH} (h : KG t P P1) (ho : kx o 11) (hn : o ≠ t) (j : Int) : P1 o j = P o j := h o ho.1 (by rw [(gr11 ho).1]; exact (gr11 ho).2.1) (by rw [(gr11 ho).1]; exact hn) j
theorem KG.a {t o : Nat} {P P1 : PH} (h : KG t P P1) (ho : kx o 11) (hn : o ≠ t) (j : Int) : P1 (crX o 0) j = P (crX o 0) j := h _ (gr11 ho).2.2.2.2.1 (by rw [(gr11 ho).2.2.1]; exact (gr11 ho).2.1) (by rw [(gr11 ho).2.2.1]; exact hn) j
theorem KG.s {t o : Nat} {P P1 : PH} (h : KG t P P1) (ho : kx o 11) (hn : o ≠ t) (j : Int) : P1 (crX o 1) j = P (crX o 1) j := h _ (gr11 ho).2.2.2.2.2 (by rw [(gr11 ho).2.2.2.1]; exact (gr11 ho).2.1) (by rw [(gr11 ho).2.2.2.1]; exact hn) j
/-- the columns' groups, the branches' -/
def clX (c : Int) : Nat := crX 126 c.toNat
def brX (l : Int) : Nat := crX 127 l.toNat
theorem cl_k {c : Int} (h : 0 ≤ c ∧ c ≤ 3) : kx (clX c) 11 := (show ∀ n : Nat, n < 4 → crX 126 n < 154 ∧ kdX (crX 126 n) = 11 by decide +kernel) c.toNat (by omega)
theorem br_k {c : Int} (h : 0 ≤ c ∧ c ≤ 3) : kx (brX c) 11 := (show ∀ n : Nat, n < 4 → crX 127 n < 154 ∧ kdX (crX 127 n) = 11 by decide +kernel) c.toNat (by omega)
theorem cl_i {c d : Int} (hc : 0 ≤ c ∧ c ≤ 3) (hd : 0 ≤ d ∧ d ≤ 3) (h : c ≠ d) : clX c ≠ clX d := fun e => by
  have q := (show ∀ n : Nat, n < 4 → ∀ m : Nat, m < 4 → crX 126 n = crX 126 m → n = m by decide +kernel) c.toNat (by omega) d.toNat (by omega) e
  omega
theorem br_i {c d : Int} (hc : 0 ≤ c ∧ c ≤ 3) (hd : 0 ≤ d ∧ d ≤ 3) (h : c ≠ d) : brX c ≠ brX d := fun e => by
  have q := (show ∀ n : Nat, n < 4 → ∀ m : Nat, m < 4 → crX 127 n = crX 127 m → n = m by decide +kernel) c.toNat (by omega) d.toNat (by omega) e
  omega
theorem cl_br {c d : Int} (hc : 0 ≤ c ∧ c ≤ 3) (hd : 0 ≤ d ∧ d ≤ 3) : clX c ≠ brX d := (show ∀ n : Nat, n < 4 → ∀ m : Nat, m < 4 → crX 126 n ≠ crX 127 m by decide +kernel) c.toNat (by omega) d.toNat (by omega)
/-- the columns' sets -/
def XCs (K M : PH) (F : FT) (n : Int) (P : PH) : Prop := ∀ c : Int, 0 ≤ c → c < n → P (clX c) 3 = dln K M F c ∧ ∀ i : Int, 0 ≤ i → i < dln K M F c → P (crX (clX c) 0) i = dsi K M F c i
def XCL (K M : PH) (F : FT) (P : PH) : Prop := M 0 0 ≤ 4 ∧ XCs K M F (M 0 0) P
theorem XCs.kg {K M : PH} {F : FT} {n : Int} {t : Nat} {P P1 : PH} (h : XCs K M F n P) (hk : KG t P P1) (hn : n ≤ 4) (ht : ∀ c : Int, 0 ≤ c → c < n → clX c ≠ t) : XCs K M F n P1 := fun c c0 c1 => by
  have k := cl_k (c := c) ⟨c0, by omega⟩
  have q := h c c0 c1
  rw [hk.o k (ht c c0 c1)]
  exact ⟨q.1, fun i i0 i1 => by rw [hk.a k (ht c c0 c1)]; exact q.2 i i0 i1⟩
theorem XCL.kg {K M : PH} {F : FT} {t : Nat} {P P1 : PH} (h : XCL K M F P) (hk : KG t P P1) (ht : ∀ c : Int, 0 ≤ c → c ≤ 3 → clX c ≠ t) : XCL K M F P1 := ⟨h.1, h.2.kg hk h.1 (fun c c0 c1 => ht c c0 (by have := h.1; omega))⟩
theorem XCL.fr {K M : PH} {F : FT} {P P1 : PH} {S : FSX} (h : XCL K M F P) (hf : FrX S P P1) (hd : disX S ([(11, 3)], [12]) = true) : XCL K M F P1 := ⟨h.1, fun c c0 c1 => by
  have k := cl_k (c := c) ⟨c0, by have := h.1; omega⟩
  have q := h.2 c c0 c1
  rw [disX_f hd hf (j := 3) k (by decide)]
  exact ⟨q.1, fun i i0 i1 => by rw [disX_a hd hf (ck_11_0 k) (by decide) i]; exact q.2 i i0 i1⟩⟩
theorem XCL.no {K M : PH} {F : FT} {P : PH} (h : M 0 0 ≤ 0) : XCL K M F P := ⟨by omega, fun c c0 c1 => by exfalso; omega⟩
/-- a set is added to groups: their sets -/
def ADa (o : Nat) (s : Int) (P P1 : PH) : Prop := (P 6 s ≠ P 5 2 ∧ P1 6 s = P 5 2 ∧ (∀ j : Int, j ≠ s → P1 6 j = P 6 j) ∧ P1 o 3 = P o 3 + 1 ∧ P1 (crX o 0) (P o 3) = s ∧ ∀ j : Int, j ≠ P o 3 → P1 (crX o 0) j = P (crX o 0) j) ∨
  (P 6 s = P 5 2 ∧ (∀ j : Int, P1 6 j = P 6 j) ∧ P1 o 3 = P o 3 ∧ ∀ j : Int, P1 (crX o 0) j = P (crX o 0) j)
/-- groups that hold what g tells of the first m -/
def GRa (o : Nat) (g : IF) (m : Int) (P : PH) : Prop := P o 3 = ((dsl g m.toNat).length : Int) ∧ (∀ i : Int, 0 ≤ i → i < P o 3 → P (crX o 0) i = (dsl g m.toNat).getD i.toNat 0) ∧ MKd (P 6) (P 5 2) g m
theorem GRa.start {o : Nat} {g : IF} {b : Int} {P : PH} (c0 : P o 3 = 0) (h : MKf b P) : GRa o g 0 P := ⟨c0, fun i i0 i1 => by exfalso; omega, MKd.start h.1⟩
theorem GRa.le {o : Nat} {g : IF} {m : Int} {P : PH} (h : GRa o g m P) (m0 : 0 ≤ m) : 0 ≤ P o 3 ∧ P o 3 ≤ m := by
  have q := dsl_le (f := g) m.toNat
  have := h.1
  omega
theorem GRa.mk {o : Nat} {g : IF} {m b : Int} {P : PH} (h : GRa o g m P) (hb : P 5 2 ≤ b) : MKX b P := ⟨h.2.2.1, hb⟩
theorem GRa.add {o : Nat} {g : IF} {m s : Int} {P P1 : PH} (h : GRa o g m P) (ha : ADa o s P P1) (e2 : P1 5 2 = P 5 2) (m0 : 0 ≤ m) (hs : g m = s) (sb : 0 ≤ s ∧ s ≤ 4095) : GRa o g (m + 1) P1 := by
  obtain ⟨h1, h2, h3⟩ := h
  subst hs
  have em : (m + 1).toNat = m.toNat + 1 := by omega
  have ec : ((m.toNat : Nat) : Int) = m := by omega
  have hin : P 6 (g m) = P 5 2 ↔ g ((m.toNat : Nat) : Int) ∈ dsl g m.toNat := by
    rw [h3.2 _ sb.1 (by omega), ec]
    constructor
    · rintro ⟨k, k0, k1, k2⟩
      have q := dsl_mem (f := g) m.toNat k.toNat (by omega)
      rw [show ((k.toNat : Nat) : Int) = k by omega, k2] at q
      exact q
    · intro q
      obtain ⟨v, v0, v1⟩ := dsl_sub (f := g) m.toNat _ q
      exact ⟨(v : Int), by omega, by omega, v1.symm⟩
  unfold GRa
  rw [e2, em]
  rcases ha with ⟨a1, a2, a3, a4, a5, a6⟩ | ⟨a1, a2, a3, a4⟩
  · have hn : ¬ g ((m.toNat : Nat) : Int) ∈ dsl g m.toNat := fun q => a1 (hin.mpr q)
    have hD := dsl_no hn
    rw [ec] at hD
    rw [hD]
    have hl : (dsl g m.toNat ++ [g m]).length = (dsl g m.toNat).length + 1 := by rw [List.length_append]; rfl
    refine ⟨by rw [hl, a4, h1]; omega, fun i i0 i1 => ?_, h3.new m0 a2 a3⟩
    by_cases z : i = P o 3
    · rw [z, a5, h1, Int.toNat_natCast, getD_r]
    · rw [a6 i z, h2 i i0 (by omega), getD_l (by omega)]
  · have hy := hin.mp a1
    rw [dsl_in hy]
    exact ⟨by rw [a3]; exact h1, fun i i0 i1 => by rw [a4]; exact h2 i i0 (by omega), h3.old m0 ⟨sb.1, by omega⟩ a1 a2⟩
theorem GRa.kg {o t : Nat} {g : IF} {m : Int} {P P1 : PH} (h : GRa o g m P) (hk : KG t P P1) (ho : kx o 11) (hn : o ≠ t) (e2 : P1 5 2 = P 5 2) (e6 : ∀ s : Int, P1 6 s = P 6 s) : GRa o g m P1 := by
  unfold GRa at h ⊢
  rw [hk.o ho hn, e2, show P1 6 = P 6 from funext e6]
  exact ⟨h.1, fun i i0 i1 => by rw [hk.a ho hn]; exact h.2.1 i i0 i1, h.2.2⟩
/-- the sets of a column are what is told of it -/
theorem GRa.col {K M : PH} {F : FT} {c : Int} {P : PH} (h : GRa (clX c) (mkf K M F c) (sz K (M 1 c)) P) : P (clX c) 3 = dln K M F c ∧ ∀ i : Int, 0 ≤ i → i < dln K M F c → P (crX (clX c) 0) i = dsi K M F c i := ⟨h.1, fun i i0 i1 => h.2.1 i i0 (by have e : P (clX c) 3 = dln K M F c := h.1; omega)⟩
theorem XCs.next {K M : PH} {F : FT} {n : Int} {P : PH} (h : XCs K M F n P) (hc : P (clX n) 3 = dln K M F n ∧ ∀ i : Int, 0 ≤ i → i < dln K M F n → P (crX (clX n) 0) i = dsi K M F n i) : XCs K M F (n + 1) P := fun c c0 c1 => by
  by_cases e : c = n
  · rw [e]; exact hc
  · exact h c c0 (by omega)
theorem dln_le {K M : PH} {F : FT} {c : Int} (h : 0 ≤ sz K (M 1 c)) : dln K M F c ≤ sz K (M 1 c) := by
  have q := dsl_le (f := mkf K M F c) (sz K (M 1 c)).toNat
  have e : dln K M F c = ((dsl (mkf K M F c) (sz K (M 1 c)).toNat).length : Int) := rfl
  omega
/-! What is left, as arms: the places by their arms. -/
def lfX (n : Int) (f : IF) (left : Int) : LB := fun p => decide (p < n) && tb left (f p)
def INL (n : Int) (f : IF) (left : Int) : Prop := (0 ≤ left ∧ left ≤ 4095) ∧ ∀ a : Int, 0 ≤ a → tb left a = true → ∃ p : Int, 0 ≤ p ∧ p < n ∧ f p = a
theorem INL.and {n left y : Int} {f : IF} (h : INL n f left) (hy : 0 ≤ y ∧ y ≤ 2147483647) : INL n f (iand left y) := by
  have q := iand_l (x := left) (y := y) ⟨h.1.1, by have := h.1.2; omega⟩
  refine ⟨⟨q.1, by have := h.1.2; omega⟩, fun a a0 ha => ?_⟩
  rw [tb_iand ⟨h.1.1, by have := h.1.2; omega⟩ hy, Bool.and_eq_true] at ha
  exact h.2 a a0 ha.1
theorem INL.and2 {n left y : Int} {f : IF} (h : INL n f left) (hy : 0 ≤ y ∧ y ≤ 2147483647) : INL n f (iand y left) := by
  rw [iand_comm]
  exact h.and hy
section LFXS
variable {K M : PH} {F : FT} {n c i k left : Int} {f : IF}
theorem dsi_b (hm : 0 ≤ M 0 2 ∧ M 0 2 ≤ 12) (i0 : 0 ≤ i) (i1 : i < dln K M F c) : 0 ≤ dsi K M F c i ∧ dsi K M F c i ≤ 4095 := by
  have q : dsi K M F c i ∈ DS K M F c := getD_m (by unfold dln at i1; omega)
  obtain ⟨v, _, hv⟩ := dsl_sub _ _ q
  have w := msk_12 (K := K) (F := F) (c := c) (v := (v : Int)) hm
  rw [hv]
  omega
/-- a branch of what is left, as arms -/
theorem lfX_st (hl : INL n f left) (hd : 0 ≤ dsi K M F c i ∧ dsi K M F c i ≤ 4095) (p : Int) : lfX n f (iand (dsi K M F c i) left) p = stL K M F n f (lfX n f left) c i p := by
  show (decide (p < n) && tb (iand (dsi K M F c i) left) (f p)) = (decide (p < n) && ((decide (p < n) && tb left (f p)) && tb (dsi K M F c i) (f p)))
  have b := hl.1
  rw [tb_iand ⟨by omega, by omega⟩ ⟨by omega, by omega⟩]
  cases decide (p < n) <;> cases tb left (f p) <;> cases tb (dsi K M F c i) (f p) <;> rfl
/-- sets of arms are one if their places are -/
theorem lfX_eq {x y : Int} (hx : INL n f x) (hy : INL n f y) (hn : n ≤ 12) : x = y ↔ ∀ p : Int, 0 ≤ p → p < 12 → lfX n f x p = lfX n f y p := by
  constructor
  · intro e p _ _; rw [e]
  · intro e
    have key : ∀ {x y : Int}, INL n f x → (∀ p : Int, 0 ≤ p → p < 12 → lfX n f x p = lfX n f y p) → ∀ a : Int, 0 ≤ a → tb x a = true → tb y a = true := fun {x y} hx e a a0 ha => by
      obtain ⟨p, p0, p1, p2⟩ := hx.2 a a0 ha
      have q := e p p0 (by omega)
      have q : (decide (p < n) && tb x (f p)) = (decide (p < n) && tb y (f p)) := q
      rw [decide_eq_true p1, p2, ha] at q
      exact q.symm
    refine tb_ext hx.1.1 hy.1.1 (fun a a0 => ?_)
    cases h1 : tb x a with
    | true => exact (key hx e a a0 h1).symm
    | false =>
      cases h2 : tb y a with
      | false => rfl
      | true =>
        have q := key hy (fun p p0 p1 => (e p p0 p1).symm) a a0 h2
        rw [h1] at q
        exact absurd q (by decide)
/-- a set is new if none ahead of it is the same number -/
theorem new_x (hm : 0 ≤ M 0 2 ∧ M 0 2 ≤ 12) (hl : INL n f left) (hn : n ≤ 12) (i0 : 0 ≤ i) (i1 : i < dln K M F c) : newL K M F n f (lfX n f left) c i = true ↔ ¬ ∃ k : Int, 0 ≤ k ∧ k < i ∧ iand (dsi K M F c k) left = iand (dsi K M F c i) left := by
  have b : ∀ k : Int, 0 ≤ k → k < dln K M F c → 0 ≤ dsi K M F c k ∧ dsi K M F c k ≤ 4095 := fun k k0 k1 => dsi_b hm k0 k1
  have inl : ∀ k : Int, 0 ≤ k → k < dln K M F c → INL n f (iand (dsi K M F c k) left) := fun k k0 k1 => hl.and2 (by have := b k k0 k1; omega)
  rw [newL_i i0]
  constructor
  · rintro h ⟨k, k0, k1, e⟩
    refine h k k0 k1 (fun p p0 p1 => ?_)
    rw [← lfX_st hl (b k k0 (by omega)), ← lfX_st hl (b i i0 i1), e]
  · intro h k k0 k1 e
    refine h ⟨k, k0, k1, ?_⟩
    refine (lfX_eq (inl k k0 (by omega)) (inl i i0 i1) hn).mpr (fun p p0 p1 => ?_)
    rw [lfX_st hl (b k k0 (by omega)), lfX_st hl (b i i0 i1)]
    exact e p p0 p1
end LFXS
/-- how many bits a set of arms has, by its places -/
theorem pc_lf {n x : Int} {f : IF} (hx : INL n f x) (hj : IJ n f) (hn : 0 ≤ n ∧ n ≤ 12) (hf : ∀ p : Int, 0 ≤ p → p < n → 0 ≤ f p ∧ f p < 12) : nbL (lfX n f x) = pc12 x := by
  have h1 : nbL (lfX n f x) = smN (fun p => bI (tb x (f p))) n.toNat := by
    have s := smN_split (g := fun p => bI (lfX n f x p)) (a := n.toNat) (12 - n.toNat)
    rw [show n.toNat + (12 - n.toNat) = 12 by omega] at s
    have e1 : smN (fun p => bI (lfX n f x p)) n.toNat = smN (fun p => bI (tb x (f p))) n.toNat := smN_cg n.toNat (fun p p0 p1 => by
      show bI (decide (p < n) && tb x (f p)) = bI (tb x (f p))
      rw [decide_eq_true (show p < n by omega), Bool.true_and])
    have e2 : smN (fun i => bI (lfX n f x (((n.toNat : Nat) : Int) + i))) (12 - n.toNat) = 0 := by
      rw [← smN_0 (12 - n.toNat)]
      refine smN_cg _ (fun i i0 _ => ?_)
      show bI (decide (((n.toNat : Nat) : Int) + i < n) && _) = 0
      rw [decide_eq_false (show ¬ ((n.toNat : Nat) : Int) + i < n by omega), Bool.false_and]
      rfl
    have e : nbL (lfX n f x) = smN (fun p => bI (lfX n f x p)) 12 := rfl
    rw [e, s, e1, e2]
    omega
  have h2 := smN_by (c := fun a => bI (tb x a)) (φ := f) (N := 12) n.toNat (fun p p0 p1 => by have q := hf p p0 (by omega); exact ⟨q.1, by show f p < 12; exact q.2⟩)
  rw [h1, ← h2]
  refine smN_cg 12 (fun a a0 a1 => ?_)
  show bI (tb x a) * smN (fun r => if f r = a then 1 else 0) n.toNat = bI (tb x a)
  rcases bI_s (tb x a) with w | w
  · obtain ⟨p, p0, p1, p2⟩ := hx.2 a a0 w.1
    have e : smN (fun r => if f r = a then 1 else 0) n.toNat = smN (fun r => if r = p then 1 else 0) n.toNat := smN_cg n.toNat (fun r r0 r1 => by
      by_cases z : r = p
      · rw [if_pos z, z, if_pos p2]
      · rw [if_neg z, if_neg (fun y => z (hj r p r0 (by omega) p0 p1 (y.trans p2.symm)))])
    rw [e, smN_at (x := fun _ => 1) p0, if_pos (by omega)]
    omega
  · rw [w.2, Int.zero_mul]
/-! the branches, as the class counts them -/
def WB3 (K M : PH) (F : FT) (n : Int) (f : IF) (t : IF) (u left c i z : Int) : Prop := MKd t u (fun k => iand (dsi K M F c k) left) i ∧ z = cnB K M F n f (lfX n f left) c i.toNat
section WB3S
variable {K M : PH} {F : FT} {n left c i z r u : Int} {f t t1 : IF}
theorem WB3.start (h : ∀ s : Int, 0 ≤ s → s < 4096 → t s < u) : WB3 K M F n f t u left c 0 0 := ⟨MKd.start h, rfl⟩
theorem WB3.step (h : WB3 K M F n f t u left c i z) (hm : 0 ≤ M 0 2 ∧ M 0 2 ≤ 12) (hl : INL n f left) (hn : n ≤ 12) (i0 : 0 ≤ i) (i1 : i < dln K M F c) {s : Int} (es : s = iand (dsi K M F c i) left) (hw : (r = 1 ∧ 0 ≤ s ∧ s ≤ 4095 ∧ t s ≠ u ∧ t1 s = u) ∨ (r = 0 ∧ (s < 0 ∨ 4095 < s ∨ t s = u) ∧ t1 s = t s)) (ho : ∀ j : Int, j ≠ s → t1 j = t j) : WB3 K M F n f t1 u left c (i + 1) (z + r) := by
  obtain ⟨h1, h2⟩ := h
  subst es
  have b := dsi_b (K := K) (F := F) (c := c) hm i0 i1
  have sb := iand_r (x := dsi K M F c i) (y := left) ⟨hl.1.1, by have := hl.1.2; omega⟩
  have sb2 := hl.1.2
  have nw := new_x (K := K) (F := F) (c := c) hm hl hn i0 i1
  have mt := h1.2 (iand (dsi K M F c i) left) sb.1 (by omega)
  rcases hw with ⟨r1, _, _, w1, w2⟩ | ⟨r0, w1, w2⟩
  · have hn' : newL K M F n f (lfX n f left) c i = true := nw.mpr (fun q => w1 (mt.mpr q))
    refine ⟨h1.new i0 w2 ho, ?_⟩
    rw [cnB_up i0, bI_1 hn', h2, r1]
  · have w1 : t (iand (dsi K M F c i) left) = u := by omega
    have hn' : newL K M F n f (lfX n f left) c i ≠ true := fun q => nw.mp q (mt.mp w1)
    refine ⟨h1.old i0 ⟨sb.1, by omega⟩ w1 (fun s => ?_), ?_⟩
    · by_cases e : s = iand (dsi K M F c i) left
      · rw [e]; exact w2
      · exact ho s e
    · rw [cnB_up i0, bI_0 hn', h2, r0]
end WB3S
