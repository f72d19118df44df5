/-! The rows of a match: the product of its columns' values. -/
def pG (K M : PH) : Nat → Int
  | 0 => 1
  | n + 1 => pG K M n * sz K (M 1 (n : Int))
theorem pG_cg {K K1 M M1 : PH} : ∀ n : Nat, (∀ c : Int, 0 ≤ c → c < (n : Int) → sz K1 (M1 1 c) = sz K (M 1 c)) → pG K1 M1 n = pG K M n := by
  intro n
  induction n with
  | zero => intro _; rfl
  | succ n ih =>
    intro h
    show pG K1 M1 n * sz K1 (M1 1 (n : Int)) = pG K M n * sz K (M 1 (n : Int))
    rw [ih (fun c c0 c1 => h c c0 (by omega)), h (n : Int) (by omega) (by omega)]
def AR (K M : PH) : Prop := M 0 0 = 0 ∨ M 0 1 = pG K M (M 0 0).toNat
theorem AR.zero : AR K0 M0 := Or.inl (by decide)
theorem col_r {T : TT} {K : PH} : ∀ (r : Nat) (M : PH) (i p : Int), M 0 0 + r = 4 → 0 ≤ M 0 0 → i = pG K M (M 0 0).toNat → AR K M → AR K (col T K r M i p).2.2 := by
  intro r
  induction r with
  | zero =>
    intro M i p hr h0 hi hv
    exact hv
  | succ r ih =>
    intro M i p hr h0 hi hv
    by_cases e : kGo T K (-1) (M 0 0) 4 0 i 20000 p = 0
    · rw [col_go e]
      have hp : pG K (mCol M (kHe T K p) (i * sz K (kHe T K p))) (M 0 0 + 1).toNat = i * sz K (kHe T K p) := by
        rw [show (M 0 0 + 1).toNat = (M 0 0).toNat + 1 by omega]
        show pG K (mCol M (kHe T K p) (i * sz K (kHe T K p))) (M 0 0).toNat * sz K (mCol M (kHe T K p) (i * sz K (kHe T K p)) 1 (((M 0 0).toNat : Nat) : Int)) = _
        rw [pG_cg (K := K) (K1 := K) (M := M) (M1 := mCol M (kHe T K p) (i * sz K (kHe T K p))) (M 0 0).toNat (fun c c0 c1 => by rw [mCol_1, if_neg (by omega)])]
        rw [mCol_1, if_pos (by omega), ← hi]
      refine ih _ _ _ (by rw [mCol_0.1]; omega) (by rw [mCol_0.1]; omega) (by rw [mCol_0.1]; exact hp.symm) (Or.inr (by rw [mCol_0.1, mCol_0.2.1]; exact hp.symm))
    · by_cases e1 : kGo T K (-1) (M 0 0) 4 0 i 20000 p = 1
      · rw [col_end e1]; exact hv
      · rw [col_bad e1 e]; exact hv
theorem aNew_01 {M : PH} {g : Int} : aNew M g 0 1 = M 0 1 := by simp [aNew, up]
theorem AR.st {T : TT} {K M : PH} {p : Int} (hv : AV K M) (h : AR K M) (hs : (sSt T K M p).1 = 0) : AR (kSt T K p) (mSt T K M p) := by
  have v1 := hv.1
  unfold sSt at hs
  unfold mSt kSt
  by_cases h0 : tO T p = 0
  · rw [if_pos h0] at hs
    have q := sKi_s T K M p
    rw [if_pos h0, if_neg (by omega), if_neg (by omega), if_neg (by omega), if_neg (by omega)]
    exact Or.inl (by omega)
  · rw [if_neg h0] at hs ⊢
    by_cases h1 : tO T p = 1
    · rw [if_pos h1] at hs
      have q := sCo_s T K M p
      rw [if_pos h1, if_neg (by omega), if_neg (by omega), if_neg (by omega), if_neg (by omega)]
      exact Or.inl (by omega)
    · rw [if_neg h1] at hs ⊢
      by_cases h2 : tO T p = 2
      · rw [if_pos h2] at hs ⊢
        have hs : (sMa T K M p).1 = 0 := hs
        have q := sMa_s T K M p
        have e := sMa_M (T := T) (K := K) (M := M) (p := p) (by omega) (by omega)
        rw [e]
        have hz : M 0 0 = 0 := by omega
        exact col_r 4 M 1 (tE T p) (by omega) (by omega) (by rw [hz]; rfl) h
      · rw [if_neg h2] at hs ⊢
        by_cases h3 : tO T p = 3
        · rw [if_pos h3]
          unfold mAr AR
          rw [aNew_0.1, aNew_01]
          rcases h with z | z
          · exact Or.inl z
          · exact Or.inr (z.trans (pG_cg _ (fun c _ _ => by rw [aNew_1])).symm)
        · rw [if_neg h3]
          by_cases h5 : tO T p = 5
          · rw [if_pos h5]
            unfold AR
            rw [up_k (by decide), up_k (by decide)]
            rcases h with z | z
            · exact Or.inl z
            · exact Or.inr (z.trans (pG_cg _ (fun c _ _ => by rw [up_row (by decide)])).symm)
          · rw [if_neg h5]
            by_cases h6 : tO T p = 6
            · rw [if_pos h6]
              unfold AR
              rw [up_k (by decide), up_k (by decide)]
              rcases h with z | z
              · exact Or.inl z
              · exact Or.inr (z.trans (pG_cg _ (fun c _ _ => by rw [up_row (by decide)])).symm)
            · rw [if_neg h6]
              exact h
theorem mlo_r {T : TT} : ∀ (r : Nat) (n : Int) (K M : PH) (p : Int), AW K → AV K M → AR K M → (mlo T r n K M p).1 = 0 → AR (mlo T r n K M p).2.2.1 (mlo T r n K M p).2.2.2 := by
  intro r
  induction r with
  | zero =>
    intro n K M p hw hv ha h0
    by_cases e : tK T p = 0
    · rw [mlo_end e]; exact ha
    · rw [mlo_much e] at h0
      exact absurd h0 (show (6 : Int) ≠ 0 by decide)
  | succ r ih =>
    intro n K M p hw hv ha h0
    by_cases e : tK T p = 0
    · rw [mlo_end e]; exact ha
    · by_cases h1 : (sSt T K M p).1 = 0
      · by_cases h2 : (sgn T 59 (sSt T K M p).2).1 = 0
        · rw [mlo_go e h1 h2] at h0 ⊢
          exact ih _ _ _ _ (hw.st h1) (hv.st hw h1) (ha.st hv h1) h0
        · rw [mlo_eF e h1 h2] at h0
          exact absurd h0 h2
      · rw [mlo_sF e h1] at h0
        exact absurd h0 h1
theorem mlR_r {T : TT} (h : (mlR T).1 = 0) : AR (mlR T).2.2.1 (mlR T).2.2.2 := mlo_r 60 0 K0 M0 0 AW.zero AV.zero AR.zero h
/-- the reference's rows -/
def MR (M P : PH) : Prop := M 0 0 = 0 ∨ P 0 52 = M 0 1
theorem MR.fr {M P P1 : PH} {F : FS} (h : MR M P) (hf : FrM F P P1) (hd : disF F ([52], []) = true) : MR M P1 := by
  unfold MR at h ⊢
  rw [disF_k hd hf (k := 52) (by decide)]
  exact h
