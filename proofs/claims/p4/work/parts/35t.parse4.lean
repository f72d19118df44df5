/-! When a new telling begins. -/
theorem prd_up0 {P : PH} {k z b : Int} : prdU (up P 0 k z) b ((up P 0 k z) 11 b).toNat = prdU P b (P 11 b).toNat := prd_fr (F := ([k], [])) (FrM.s FrM.rf (by simp)) rfl
/-! A new telling begins. -/
theorem ZT.fresh {P P1 : PH} {i : Int} (h : ZT P) (o2 : ∀ j : Int, j ≠ i → P1 2 j = P 2 j) (o5 : ∀ j : Int, j ≠ i → P1 5 j = P 5 j) (e5 : P1 5 i = 0) (r3 : ∀ j, P1 3 j = P 3 j) (r6 : ∀ j, P1 6 j = P 6 j) (r7 : ∀ j, P1 7 j = P 7 j) (r8 : ∀ j, P1 8 j = P 8 j) (r10 : ∀ j, P1 10 j = P 10 j) : ZT P1 := by
  intro b c b0 b1 c0 c1
  have hne : b ≠ i := fun e => by rw [e, e5] at c1; omega
  rw [o5 b hne] at c1
  obtain ⟨h1, h2⟩ := h b c b0 b1 c0 c1
  exact ⟨by rw [r6, o2 b hne]; exact h1, h2.eq (r7 _) (r10 _) (fun f _ _ => ⟨r8 _, vals_eq fun _ => r3 _⟩)⟩
theorem ZO.fresh {P P1 : PH} {i : Int} (h : ZO P) (o2 : ∀ j : Int, j ≠ i → P1 2 j = P 2 j) (e2 : P1 2 i = 0) (o5 : ∀ j : Int, j ≠ i → P1 5 j = P 5 j) (r3 : ∀ j, P1 3 j = P 3 j) (r6 : ∀ j, P1 6 j = P 6 j) (r9 : ∀ j, P1 9 j = P 9 j) (r10 : ∀ j, P1 10 j = P 10 j) : ZO P1 := by
  intro b k v b0 b1 k0 k1 v0 v1
  have hne : b ≠ i := fun e => by rw [e, e2] at k1; omega
  rw [o2 b hne] at k1
  rw [r3] at v1
  obtain ⟨c, a1, a2, a3, a4, a5⟩ := h b k v b0 b1 k0 k1 v0 v1
  exact ⟨c, a1, by rw [o5 b hne]; exact a2, by rw [r6]; exact a3, by rw [r9]; exact a4, by rw [r9, r10]; exact a5⟩
theorem ZC.fresh {P P1 : PH} {i : Int} (h : ZC P) (o2 : ∀ j : Int, j ≠ i → P1 2 j = P 2 j) (o11 : ∀ j : Int, j ≠ i → P1 11 j = P 11 j) (e11 : P1 11 i = 0) (r3 : ∀ j, P1 3 j = P 3 j) (r12 : ∀ j, P1 12 j = P 12 j) : ZC P1 := by
  intro b c b0 b1 c0 c1
  have hne : b ≠ i := fun e => by rw [e, e11] at c1; omega
  rw [o11 b hne] at c1
  rw [r12, r3, o2 b hne]
  exact h b c b0 b1 c0 c1
theorem ZS.fresh {P P1 : PH} {i : Int} (h : ZS P) (e37 : P1 0 37 = i) (o5 : ∀ j : Int, j ≠ i → P1 5 j = P 5 j) (o11 : ∀ j : Int, j ≠ i → P1 11 j = P 11 j) (o13 : ∀ j : Int, j ≠ i → P1 13 j = P 13 j) (e13 : P1 13 i = 0) (r7 : ∀ j, P1 7 j = P 7 j) (r17 : ∀ j, P1 17 j = P 17 j) (r18 : ∀ j, P1 18 j = P 18 j) (r19 : ∀ j, P1 19 j = P 19 j) (r20 : ∀ j, P1 20 j = P 20 j) (r21 : ∀ j, P1 21 j = P 21 j) : ZS P1 := by
  intro b a c b0 b1 a0 a1 c0 c1
  have hne : b ≠ i := fun e => by rw [e, e13] at a1; omega
  rw [o13 b hne] at a1
  rw [o11 b hne] at c1
  obtain ⟨h1, h2⟩ := h b a c b0 b1 a0 a1 c0 c1
  rw [r17, r18, e37]
  refine ⟨?_, fun e => absurd e hne⟩
  intro n hn
  have h3 := h1 n hn
  rw [hts_eq (P := P) n (fun j _ _ => r19 j)]
  unfold okc at h3 ⊢
  rw [o5 b hne, r19, r20, r21, r7]
  exact h3
