/-! Which table an object is part of; what a method leaves of the other table. -/
def tbX (x : Nat) : Nat := if 70 ≤ x ∧ x ≤ 89 then 70 else if 90 ≤ x ∧ x ≤ 109 then 90 else 0
def KT (t : Nat) (P P1 : PH) : Prop := ∀ x : Nat, x < 154 → tbX x ≠ 0 → tbX x ≠ t → ∀ j : Int, P1 x j = P x j
theorem KT.rf {t : Nat} {P : PH} : KT t P P := fun _ _ _ _ _ => rfl
theorem KT.w {t : Nat} {P P1 : PH} {x : Nat} {j z : Int} (h : KT t P P1) (hx : tbX x = t ∨ tbX x = 0) : KT t P (up P1 x j z) := fun y h1 h2 h3 k => by
  have hne : y ≠ x := fun e => by
    subst e
    rcases hx with q | q
    · exact h3 q
    · exact h2 q
  rw [up_o hne]
  exact h y h1 h2 h3 k
theorem KT.t {t : Nat} {P P1 P2 : PH} (h : KT t P P1) (h2 : KT t P1 P2) : KT t P P2 := fun x a b c j => (h2 x a b c j).trans (h x a b c j)
theorem KT.e {t t1 : Nat} {P P1 : PH} (h : KT t P P1) (e : t = t1) : KT t1 P P1 := by
  subst e
  exact h
def nT (F : FSX) : Bool := F.1.all (fun q => decide (q.1 < 28) || decide (44 < q.1)) && F.2.all (fun k => decide (k < 28) || decide (44 < k))
theorem tb_kd : ∀ x : Nat, x < 154 → tbX x ≠ 0 → 28 ≤ kdX x ∧ kdX x ≤ 44 := by decide +kernel
theorem nT_in {F : FSX} (h : nT F = true) {k : Nat} (hk : 28 ≤ k ∧ k ≤ 44) (j : Int) : inF F k j = false := by
  unfold nT at h
  rw [Bool.and_eq_true] at h
  unfold inF
  rw [Bool.or_eq_false_iff]
  refine ⟨?_, ?_⟩
  · cases e : F.2.contains k with
    | false => rfl
    | true =>
      exfalso
      have q := List.all_eq_true.mp h.2 k (List.contains_iff_mem.mp e)
      rw [Bool.or_eq_true, decide_eq_true_iff, decide_eq_true_iff] at q
      omega
  · cases e : F.1.any fun q => q.1 == k && q.2 == j with
    | false => rfl
    | true =>
      exfalso
      obtain ⟨q, hq, he⟩ := List.any_eq_true.mp e
      have w := List.all_eq_true.mp h.1 q hq
      rw [Bool.or_eq_true, decide_eq_true_iff, decide_eq_true_iff] at w
      rw [Bool.and_eq_true, beq_iff_eq] at he
      omega
theorem KT.fr {t : Nat} {P P1 P2 : PH} {F : FSX} (h : KT t P P1) (hf : FrX F P1 P2) (hd : nT F = true) : KT t P P2 := fun x a b c j => (hf x j a (nT_in hd (tb_kd x a b) j)).trans (h x a b c j)
theorem tb_cr : ∀ x : Nat, x < 154 → ∀ j : Nat, j < 16 → tbX (crX x j) = tbX x ∨ tbX (crX x j) = 0 := by decide +kernel
theorem TB.c {t x j : Nat} (h : tbX x = t ∨ tbX x = 0) (hx : x < 154) (hj : j < 16) : tbX (crX x j) = t ∨ tbX (crX x j) = 0 := by
  rcases tb_cr x hx j hj with q | q
  · rw [q]; exact h
  · exact Or.inr q
theorem TB.no {t x k : Nat} (h : kx x k) (hk : k < 28 ∨ 44 < k) : tbX x = t ∨ tbX x = 0 := by
  by_cases e : tbX x = 0
  · exact Or.inr e
  · exfalso
    have q := tb_kd x h.1 e
    rw [h.2] at q
    omega
theorem tb28_0 {o : Nat} (h : kx o 28) : tbX (crX o 0) = tbX o := (show ∀ o : Nat, o < 154 → kdX o = 28 → tbX (crX o 0) = tbX o by decide +kernel) o h.1 h.2
theorem tb28 {o : Nat} (h : kx o 28) : tbX o = o ∧ o ≠ 0 := (show ∀ o : Nat, o < 154 → kdX o = 28 → tbX o = o ∧ o ≠ 0 by decide +kernel) o h.1 h.2
/-! What a method leaves of the reference's other bank. -/
def sbM : Nat → Int
  | 2 => 1
  | 3 => 4
  | 4 => 4
  | 5 => 1
  | 6 => 24
  | 7 => 24
  | 8 => 48
  | 9 => 24
  | 10 => 24
  | 11 => 1
  | 12 => 4
  | 13 => 1
  | 14 => 12
  | 15 => 1
  | 16 => 1
  | 17 => 48
  | 18 => 48
  | 19 => 2800
  | 20 => 2800
  | 21 => 2800
  | 22 => 4
  | 23 => 24
  | _ => 0
def KB (b : Int) (P P1 : PH) : Prop := ∀ (o : Nat) (j : Int), sbM o * (1 - b) ≤ j → j < sbM o * (2 - b) → P1 o j = P o j
theorem KB.rf {b : Int} {P : PH} : KB b P P := fun _ _ _ _ => rfl
theorem KB.w {b : Int} {P P1 : PH} {o : Nat} {x z s : Int} (h : KB b P P1) (hs : sbM o = s) (hx : x < s * (1 - b) ∨ s * (2 - b) ≤ x) : KB b P (up P1 o x z) := fun o1 j h1 h2 => by
  by_cases e : o1 = o
  · subst e
    rw [hs] at h1 h2
    rw [up_k (by omega)]
    exact h o1 j (by rw [hs]; exact h1) (by rw [hs]; exact h2)
  · rw [up_o e]
    exact h o1 j h1 h2
theorem KB.z {b : Int} {P P1 : PH} {o : Nat} {x z : Int} (h : KB b P P1) (hs : sbM o = 0) : KB b P (up P1 o x z) := fun o1 j h1 h2 => by
  by_cases e : o1 = o
  · subst e
    exfalso
    rw [hs, Int.zero_mul] at h1 h2
    omega
  · rw [up_o e]
    exact h o1 j h1 h2
theorem KB.t {b b1 : Int} {P P1 P2 : PH} (h : KB b P P1) (h2 : KB b1 P1 P2) (e : b1 = b) : KB b P P2 := by
  subst e
  exact fun o j a c => (h2 o j a c).trans (h o j a c)
def nB (F : FS) : Bool := F.2.all (fun o => decide (sbM o = 0))
theorem KB.fr {b : Int} {P P1 P2 : PH} {F : FS} (h : KB b P P1) (hf : FrM F P1 P2) (hd : nB F = true) : KB b P P2 := fun o j a c => by
  have h0 : sbM o ≠ 0 := fun e => by
    rw [e, Int.zero_mul] at a c
    omega
  have ho : (o == 0) = false := by
    cases e : o == 0 with
    | false => rfl
    | true =>
      rw [beq_iff_eq] at e
      rw [e] at h0
      exact absurd rfl h0
  have hc : F.2.contains o = false := by
    cases e : F.2.contains o with
    | false => rfl
    | true =>
      have q := List.all_eq_true.mp hd o (List.contains_iff_mem.mp e)
      rw [decide_eq_true_iff] at q
      exact absurd q h0
  exact (congrFun (hf.2 o ho hc) j).trans (h o j a c)
