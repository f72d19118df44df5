/-! A kind, a constructor, a column, an arm more: what is told, well-formedness, the reference's picture. -/
theorem kNew_0 {K : PH} {v : Int} : kNew K v 0 0 = K 0 0 + 1 ∧ kNew K v 0 1 = K 0 1 := ⟨by simp [kNew, up], by simp [kNew, up]⟩
theorem kNew_1 {K : PH} {v : Int} (k : Int) : kNew K v 1 k = if k = K 0 0 then v else K 1 k := by simp [kNew, up]
theorem kNew_2 {K : PH} {v : Int} (k : Int) : kNew K v 2 k = if k = K 0 0 then 0 else K 2 k := by simp [kNew, up]
theorem kNew_3 {K : PH} {v : Int} (k : Int) : kNew K v 3 k = if k = K 0 0 then 0 else K 3 k := by simp [kNew, up]
theorem kNew_9 {K : PH} {v : Int} (k : Int) : kNew K v 9 k = if k = K 0 0 then K 0 1 else K 9 k := by simp [kNew, up]
theorem kNew_c {K : PH} {v : Int} {o : Nat} (h0 : o ≠ 0) (h1 : o ≠ 1) (h2 : o ≠ 2) (h3 : o ≠ 3) (h9 : o ≠ 9) : kNew K v o = K o := by funext j; simp [kNew, up, h0, h1, h2, h3, h9]
section CN0
variable {K : PH} {v n a b i : Int}
theorem cNew_0 : cNew K v n a b i 0 0 = K 0 0 ∧ cNew K v n a b i 0 1 = K 0 1 + 1 := ⟨by simp [cNew, up], by simp [cNew, up]⟩
theorem cNew_2 (k : Int) : cNew K v n a b i 2 k = if k = K 0 0 - 1 then K 2 (K 0 0 - 1) + i else K 2 k := by simp [cNew, up]
theorem cNew_3 (k : Int) : cNew K v n a b i 3 k = if k = K 0 0 - 1 then K 3 (K 0 0 - 1) + 1 else K 3 k := by simp [cNew, up]
theorem cNew_4 (k : Int) : cNew K v n a b i 4 k = if k = K 0 1 then v else K 4 k := by simp [cNew, up]
theorem cNew_5 (k : Int) : cNew K v n a b i 5 k = if k = K 0 1 then K 0 0 - 1 else K 5 k := by simp [cNew, up]
theorem cNew_6 (k : Int) : cNew K v n a b i 6 k = if k = K 0 1 then n else K 6 k := by simp [cNew, up]
theorem cNew_7 (k : Int) : cNew K v n a b i 7 k = if k = K 0 1 then a else K 7 k := by simp [cNew, up]
theorem cNew_8 (k : Int) : cNew K v n a b i 8 k = if k = K 0 1 then b else K 8 k := by simp [cNew, up]
theorem cNew_10 (k : Int) : cNew K v n a b i 10 k = if k = K 0 1 then K 2 (K 0 0 - 1) else K 10 k := by simp [cNew, up]
theorem cNew_c {o : Nat} (h0 : o = 1 ∨ o = 9) : cNew K v n a b i o = K o := by
  funext j
  rcases h0 with h | h <;> subst h <;> simp [cNew, up]
end CN0
theorem AW.kind {K : PH} {v : Int} (h : AW K) (h3 : K 0 0 ≤ 3) : AW (kNew K v) := by
  obtain ⟨a0, a1, a2, a3⟩ := h
  refine ⟨?_, fun k k0 k1 => ?_, fun c c0 c1 => ?_, fun c k c0 c1 k0 k1 => ?_⟩
  · rw [kNew_0.1, kNew_0.2]
    omega
  · rw [kNew_0.1] at k1 ⊢
    rw [kNew_0.2, kNew_2, kNew_3, kNew_9]
    by_cases e : k = K 0 0
    · rw [if_pos e, if_pos e, if_pos e]
      omega
    · rw [if_neg e, if_neg e, if_neg e]
      have := a1 k k0 (by omega)
      omega
  · rw [kNew_0.2] at c1
    rw [kNew_0.1, kNew_c (o := 5) (by decide) (by decide) (by decide) (by decide) (by decide), kNew_c (o := 6) (by decide) (by decide) (by decide) (by decide) (by decide), kNew_c (o := 7) (by decide) (by decide) (by decide) (by decide) (by decide), kNew_c (o := 8) (by decide) (by decide) (by decide) (by decide) (by decide)]
    have := a2 c c0 c1
    omega
  · rw [kNew_0.2] at c1
    rw [kNew_0.1] at k1
    rw [kNew_c (o := 5) (by decide) (by decide) (by decide) (by decide) (by decide), kNew_9, kNew_3]
    have h5 := a2 c c0 c1
    by_cases e : k = K 0 0
    · rw [if_pos e, if_pos e]
      omega
    · rw [if_neg e, if_neg e]
      exact a3 c k c0 c1 k0 (by omega)
theorem AW.con {K : PH} {v n a b i : Int} (h : AW K) (hk : 1 ≤ K 0 0) (h5 : K 3 (K 0 0 - 1) ≤ 5) (hn : 0 ≤ n ∧ n ≤ 2) (ha : -1 ≤ a ∧ a < K 0 0 - 1) (hb : -1 ≤ b ∧ b < K 0 0 - 1) (hi : 1 ≤ i) (hv : i = 1 ∨ K 2 (K 0 0 - 1) + i ≤ 2000) : AW (cNew K v n a b i) := by
  obtain ⟨a0, a1, a2, a3⟩ := h
  have hL := a1 (K 0 0 - 1) (by omega) (by omega)
  have hL6 := hL.2.2.2.2.2.1 rfl
  refine ⟨?_, fun k k0 k1 => ?_, fun c c0 c1 => ?_, fun c k c0 c1 k0 k1 => ?_⟩
  · rw [cNew_0.1, cNew_0.2]
    omega
  · rw [cNew_0.1] at k1 ⊢
    rw [cNew_0.2, cNew_2, cNew_3, cNew_c (o := 9) (Or.inr rfl)]
    have := a1 k k0 k1
    by_cases e : k = K 0 0 - 1
    · rw [if_pos e, if_pos e]
      rw [e] at this ⊢
      omega
    · rw [if_neg e, if_neg e]
      omega
  · rw [cNew_0.2] at c1
    rw [cNew_0.1, cNew_5, cNew_6, cNew_7, cNew_8]
    by_cases e : c = K 0 1
    · rw [if_pos e, if_pos e, if_pos e, if_pos e]
      omega
    · rw [if_neg e, if_neg e, if_neg e, if_neg e]
      exact a2 c c0 (by omega)
  · rw [cNew_0.2] at c1
    rw [cNew_0.1] at k1
    rw [cNew_5, cNew_3, cNew_c (o := 9) (Or.inr rfl)]
    have hk2 := a1 k k0 k1
    by_cases e : c = K 0 1
    · rw [if_pos e]
      by_cases e2 : k = K 0 0 - 1
      · rw [if_pos e2, e2]
        omega
      · rw [if_neg e2]
        omega
    · rw [if_neg e]
      have h3 := a3 c k c0 (by omega) k0 k1
      by_cases e2 : k = K 0 0 - 1
      · rw [if_pos e2, h3]
        rw [e2]
        omega
      · rw [if_neg e2]
        exact h3
theorem fld_w {T : TT} {K : PH} (h : AW K) (hk : 1 ≤ K 0 0) : ∀ (r : Nat) (n a b i p : Int), n + r = 2 → 0 ≤ n → (-1 ≤ a ∧ a < K 0 0 - 1) → (-1 ≤ b ∧ b < K 0 0 - 1) → 1 ≤ i → (i = 1 ∨ K 2 (K 0 0 - 1) + i ≤ 2000) → (fld T K r n a b i p).1 = 0 →
    n ≤ (fld T K r n a b i p).2.2.1 ∧ (fld T K r n a b i p).2.2.1 ≤ 2 ∧ (-1 ≤ (fld T K r n a b i p).2.2.2.1 ∧ (fld T K r n a b i p).2.2.2.1 < K 0 0 - 1) ∧ (-1 ≤ (fld T K r n a b i p).2.2.2.2.1 ∧ (fld T K r n a b i p).2.2.2.2.1 < K 0 0 - 1) ∧ 1 ≤ (fld T K r n a b i p).2.2.2.2.2 ∧ ((fld T K r n a b i p).2.2.2.2.2 = 1 ∨ K 2 (K 0 0 - 1) + (fld T K r n a b i p).2.2.2.2.2 ≤ 2000) := by
  intro r
  induction r with
  | zero =>
    intro n a b i p hr hn ha hb hi hv h0
    rcases (show kGo T K (K 0 0 - 1) n 2 (K 2 (K 0 0 - 1)) i 2000 p = 1 ∨ kGo T K (K 0 0 - 1) n 2 (K 2 (K 0 0 - 1)) i 2000 p ≠ 1 by omega) with e | e
    · rw [fld_end e]
      exact ⟨Int.le_refl _, by show n ≤ 2; omega, ha, hb, hi, hv⟩
    · have hs := kGo_s T K (K 0 0 - 1) n 2 (K 2 (K 0 0 - 1)) i 2000 p
      rw [fld_bad e (by omega)] at h0
      exfalso
      have h0 : kGo T K (K 0 0 - 1) n 2 (K 2 (K 0 0 - 1)) i 2000 p = 0 := h0
      omega
  | succ r ih =>
    intro n a b i p hr hn ha hb hi hv h0
    rcases (show kGo T K (K 0 0 - 1) n 2 (K 2 (K 0 0 - 1)) i 2000 p = 1 ∨ kGo T K (K 0 0 - 1) n 2 (K 2 (K 0 0 - 1)) i 2000 p = 0 ∨ (kGo T K (K 0 0 - 1) n 2 (K 2 (K 0 0 - 1)) i 2000 p ≠ 1 ∧ kGo T K (K 0 0 - 1) n 2 (K 2 (K 0 0 - 1)) i 2000 p ≠ 0) by omega) with e | e | e
    · rw [fld_end e]
      exact ⟨Int.le_refl _, by show n ≤ 2; omega, ha, hb, hi, hv⟩
    · rw [fld_go e] at h0 ⊢
      have hs := kGo_s T K (K 0 0 - 1) n 2 (K 2 (K 0 0 - 1)) i 2000 p
      have hs := ((hs.resolve_left (by omega)).resolve_left (by omega)).resolve_left (by omega)
      have hs := hs.resolve_left (by omega)
      obtain ⟨s1, s2, s3, s4, s5, s6⟩ := hs
      have hb0 := kHe_b (T := T) h p
      have hh := kHe_s T K p
      have hkl : -1 ≤ kHe T K p ∧ kHe T K p < K 0 0 - 1 := by omega
      have hz : 1 ≤ sz K (kHe T K p) := by
        rcases sz_s K (kHe T K p) with q | q
        · omega
        · have := h.2.1 (kHe T K p) (by omega) (by omega)
          omega
      have hp : 1 ≤ i * sz K (kHe T K p) := Int.mul_pos (by omega) (by omega)
      have key := ih (n + 1) (if n = 0 then kHe T K p else a) (if n = 0 then b else kHe T K p) (i * sz K (kHe T K p)) (tE T p) (by omega) (by omega) (by split <;> omega) (by split <;> omega) hp (Or.inr (by omega)) h0
      exact ⟨by omega, key.2⟩
    · rw [fld_bad e.1 e.2] at h0
      exact absurd h0 e.2
theorem fldX_w {T : TT} {K : PH} (h : AW K) (hk : 1 ≤ K 0 0) (p : Int) (h0 : (fldX T K p).1 = 0) : 0 ≤ (fldX T K p).2.2.1 ∧ (fldX T K p).2.2.1 ≤ 2 ∧ (-1 ≤ (fldX T K p).2.2.2.1 ∧ (fldX T K p).2.2.2.1 < K 0 0 - 1) ∧ (-1 ≤ (fldX T K p).2.2.2.2.1 ∧ (fldX T K p).2.2.2.2.1 < K 0 0 - 1) ∧ 1 ≤ (fldX T K p).2.2.2.2.2 ∧ ((fldX T K p).2.2.2.2.2 = 1 ∨ K 2 (K 0 0 - 1) + (fldX T K p).2.2.2.2.2 ≤ 2000) := by
  unfold fldX at h0 ⊢
  exact fld_w h hk 2 0 (-1) (-1) 1 p (by decide) (by decide) (by omega) (by omega) (by decide) (Or.inl rfl) h0
