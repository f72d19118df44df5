/-! A value's reading by the class; the columns' sizes. -/
theorem cpr_b {K : PH} (h : AB K) {c : Int} (h0 : 0 ≤ c) (h1 : c < K 0 1) : 1 ≤ cpr K c ∧ 0 ≤ K 10 c ∧ K 10 c + cpr K c ≤ K 2 (K 5 c) := (h c h0 h1).1
theorem cpr_1 {K : PH} {c : Int} (h : K 6 c = 1) : cpr K c = sz K (K 7 c) := by unfold cpr; rw [if_neg (by omega), if_pos h]
theorem cpr_2 {K : PH} {c : Int} (h : K 6 c = 2) : cpr K c = sz K (K 7 c) * sz K (K 8 c) := by unfold cpr; rw [if_neg (by omega), if_neg (by omega)]
theorem lex_lt {a b s t : Int} (ha : 0 ≤ a ∧ a < s) (hb : 0 ≤ b ∧ b < t) : 0 ≤ a * t + b ∧ a * t + b < s * t := by
  have h1 : 0 ≤ a * t := Int.mul_nonneg ha.1 (by omega)
  have h2 : (a + 1) * t ≤ s * t := Int.mul_le_mul_of_nonneg_right (by omega) (by omega)
  rw [Int.add_mul, Int.one_mul] at h2
  omega
def VC (T : TT) (K : PH) (k p r : Int) (P P1 : PH) : Prop := (0 ≤ r ∧ r < sz K k ∧ P1 110 3 = P 110 3 ∧ P1 110 4 = P 110 4 ∧ ∃ q : Int, XS T q P1 ∧ ∀ (s : SV) (x : Int × Int × Int), VRs T K 1 s 0 q r x → VRs T K 0 s k p 0 x) ∨ (r = -1 ∧ P1 110 3 ≠ 0 ∧ ∀ s : SV, VRs T K 0 s k p 0 (P1 110 3, P1 110 4, 0))
section VCS
variable {T : TT} {K : PH} {k p r c q f a v : Int} {P P1 : PH}
theorem tri_eq {x : Int × Int} {a b : Int} (h1 : a = x.1) (h2 : b = x.2) : (a, b, (0 : Int)) = (x.1, x.2, 0) := by rw [h1, h2]
theorem VC.tr {P0 : PH} (h : VC T K k p r P P1) (h3 : P 110 3 = P0 110 3) (h4 : P 110 4 = P0 110 4) : VC T K k p r P0 P1 := by
  rcases h with ⟨a1, a2, a3, a4, a5⟩ | h
  · exact Or.inl ⟨a1, a2, a3.trans h3, a4.trans h4, a5⟩
  · exact Or.inr h
theorem VC.nu0 (hk : k = -1) (h : (r = tV T p ∧ 0 ≤ r ∧ r ≤ 19 ∧ (num T 0 19 p).1 = 0 ∧ P1 110 3 = P 110 3 ∧ P1 110 4 = P 110 4) ∨ (r = -1 ∧ (num T 0 19 p).1 ≠ 0 ∧ P1 110 3 = (num T 0 19 p).1 ∧ P1 110 4 = (num T 0 19 p).2)) (hs : (num T 0 19 p).1 = 0 → XS T (num T 0 19 p).2 P1) : VC T K k p r P P1 := by
  have hn := num_s T 0 19 p
  rcases h with ⟨h1, h2, h3, h4, h5, h6⟩ | ⟨h1, h2, h3, h4⟩
  · refine Or.inl ⟨h2, ?_, h5, h6, (num T 0 19 p).2, hs h4, fun s x hx => ?_⟩
    · have e := sz_s K k; omega
    · rw [show (num T 0 19 p).2 = tE T p by omega, h1] at hx
      exact VRs.nu0 hk h4 hx
  · refine Or.inr ⟨h1, by omega, fun s => ?_⟩
    rw [tri_eq h3 h4]
    exact VRs.numF hk h2
theorem VC.caseF (hk : k ≠ -1) (h0 : (cas T K k p).1 ≠ 0) (h3 : P1 110 3 = (cas T K k p).1) (h4 : P1 110 4 = (cas T K k p).2) : VC T K k p (-1) P P1 := by
  refine Or.inr ⟨rfl, by omega, fun s => ?_⟩
  rw [tri_eq h3 h4]
  exact VRs.caseF hk h0
theorem VC.case0 (hb : AB K) (hk : k ≠ -1) (h0 : (cas T K k p).1 = 0) (hc : c = cNm K (tV T p)) (hc0 : 0 ≤ c ∧ c < K 0 1) (h5 : K 5 c = k) (h6 : K 6 c = 0) (hr : r = K 10 c) (h3 : P1 110 3 = P 110 3) (h4 : P1 110 4 = P 110 4) (hs : XS T (tE T p) P1) : VC T K k p r P P1 := by
  have b := cpr_b hb hc0.1 hc0.2
  have e := sz_s K k
  subst hc
  rw [h5] at b
  refine Or.inl ⟨by omega, by omega, h3, h4, tE T p, hs, fun s x hx => ?_⟩
  rw [hr] at hx
  exact VRs.case0 hk h0 h6 hx
theorem VC.intoF (hk : k ≠ -1) (h0 : (cas T K k p).1 = 0) (h6 : K 6 (cNm K (tV T p)) ≠ 0) (hn : (sgn T 40 (tE T p)).1 ≠ 0) (h3 : P1 110 3 = (sgn T 40 (tE T p)).1) (h4 : P1 110 4 = (sgn T 40 (tE T p)).2) : VC T K k p (-1) P P1 := by
  refine Or.inr ⟨rfl, by omega, fun s => ?_⟩
  rw [tri_eq h3 h4]
  exact VRs.intoF hk h0 h6 hn
/-- a field's fault -/
theorem VC.inF {k1 q1 : Int} (hr : ∀ (s : SV) (x : Int × Int × Int), VRs T K 0 ((c, f, a) :: s) k1 q1 0 x → VRs T K 0 s k p 0 x) (h0 : P1 110 3 ≠ 0) (h : ∀ s : SV, VRs T K 0 s k1 q1 0 (P1 110 3, P1 110 4, 0)) : VC T K k p (-1) P P1 := Or.inr ⟨rfl, h0, fun s => hr s _ (h _)⟩
theorem VC.commaF (hC : ∀ (s : SV) (x : Int × Int × Int), VRs T K 1 ((c, f, a) :: s) 0 q v x → VRs T K 0 s k p 0 x) (hf : f + 1 < K 6 c) (hn : (sgn T 44 q).1 ≠ 0) (h3 : P1 110 3 = (sgn T 44 q).1) (h4 : P1 110 4 = (sgn T 44 q).2) : VC T K k p (-1) P P1 := by
  refine Or.inr ⟨rfl, by omega, fun s => ?_⟩
  rw [tri_eq h3 h4]
  exact hC s _ (VRs.commaF hf hn)
theorem VC.closeF (hC : ∀ (s : SV) (x : Int × Int × Int), VRs T K 1 ((c, f, a) :: s) 0 q v x → VRs T K 0 s k p 0 x) (hf : ¬ f + 1 < K 6 c) (hn : (sgn T 41 q).1 ≠ 0) (h3 : P1 110 3 = (sgn T 41 q).1) (h4 : P1 110 4 = (sgn T 41 q).2) : VC T K k p (-1) P P1 := by
  refine Or.inr ⟨rfl, by omega, fun s => ?_⟩
  rw [tri_eq h3 h4]
  exact hC s _ (VRs.closeF hf hn)
theorem VC.close (hC : ∀ (s : SV) (x : Int × Int × Int), VRs T K 1 ((c, f, a) :: s) 0 q v x → VRs T K 0 s k p 0 x) (hf : ¬ f + 1 < K 6 c) (hn : (sgn T 41 q).1 = 0) (hr : r = K 10 c + (a * sz K (fK K c f) + v)) (hr0 : 0 ≤ r ∧ r < sz K k) (h3 : P1 110 3 = P 110 3) (h4 : P1 110 4 = P 110 4) (hs : XS T (sgn T 41 q).2 P1) : VC T K k p r P P1 := by
  have hg := sgn_s T 41 q
  refine Or.inl ⟨hr0.1, hr0.2, h3, h4, (sgn T 41 q).2, hs, fun s x hx => ?_⟩
  rw [show (sgn T 41 q).2 = tE T q by omega, hr] at hx
  exact hC s x (VRs.close hf hn hx)
/-- a constructor's value by its fields' -/
theorem val_1 (hb : AB K) (hc : 0 ≤ c ∧ c < K 0 1) (h6 : K 6 c = 1) (hv : 0 ≤ v ∧ v < sz K (K 7 c)) : K 10 c + v = K 10 c + (0 * sz K (fK K c 0) + v) ∧ 0 ≤ K 10 c + v ∧ K 10 c + v < K 2 (K 5 c) := by
  have b := cpr_b hb hc.1 hc.2
  rw [cpr_1 h6] at b
  rw [Int.zero_mul, Int.zero_add]
  exact ⟨rfl, by omega, by omega⟩
theorem val_2 {w : Int} (hb : AB K) (hc : 0 ≤ c ∧ c < K 0 1) (h6 : K 6 c = 2) (hv : 0 ≤ v ∧ v < sz K (K 7 c)) (hw : 0 ≤ w ∧ w < sz K (K 8 c)) : K 10 c + v * sz K (K 8 c) + w = K 10 c + ((0 * sz K (fK K c 0) + v) * sz K (fK K c 1) + w) ∧ 0 ≤ K 10 c + v * sz K (K 8 c) + w ∧ K 10 c + v * sz K (K 8 c) + w < K 2 (K 5 c) := by
  have b := cpr_b hb hc.1 hc.2
  have l := lex_lt hv hw
  rw [cpr_2 h6] at b
  rw [Int.zero_mul, Int.zero_add, show fK K c 1 = K 8 c from rfl]
  exact ⟨by omega, by omega, by omega⟩
end VCS
/-- the columns' sizes -/
def XZ (K M : PH) (o : Nat) (P : PH) : Prop := kx o 28 ∧ ∀ c : Int, 0 ≤ c → c < M 0 0 → P (crX o 2) c = sz K (M 1 c)
theorem XZ.fr {K M : PH} {o : Nat} {P P1 : PH} {F : FSX} (h : XZ K M o P) (hf : FrX F P P1) (hd : disX F ([], [40]) = true) : XZ K M o P1 := by
  refine ⟨h.1, fun c c0 c1 => ?_⟩
  rw [disX_a hd hf (ck_28_2 h.1) (by decide)]
  exact h.2 c c0 c1
theorem XZ.no {K M : PH} {o : Nat} {P : PH} (ho : kx o 28) (h : M 0 0 ≤ 0) : XZ K M o P := ⟨ho, fun c c0 c1 => by exfalso; omega⟩
theorem XZ.col {K M : PH} {o : Nat} {P P1 : PH} {k r : Int} (h : XZ K M o P) (h6 : P o 6 = M 0 0) (s : P1 (crX o 2) (P o 6) = sz K k) (q : ∀ j : Int, j ≠ P o 6 → P1 (crX o 2) j = P (crX o 2) j) : XZ K (mCol M k r) o P1 := by
  rw [h6] at s q
  refine ⟨h.1, fun c c0 c1 => ?_⟩
  rw [(mCol_0 (M := M) (k := k) (r := r)).1] at c1
  rw [mCol_1]
  by_cases e : c = M 0 0
  · rw [if_pos e, e]; exact s
  · rw [if_neg e, q c e]; exact h.2 c c0 (by omega)
theorem KT.xz {t o : Nat} {K M P P1 : PH} (h : KT t P P1) (ho : kx o 28) (hn : o ≠ t) (hk : XZ K M o P) : XZ K M o P1 := by
  have ht := tb28 ho
  have hc : tbX (crX o 2) = o ∧ crX o 2 < 154 := (show ∀ o : Nat, o < 154 → kdX o = 28 → tbX (crX o 2) = o ∧ crX o 2 < 154 by decide +kernel) o ho.1 ho.2
  refine ⟨hk.1, fun c c0 c1 => ?_⟩
  rw [h _ hc.2 (by rw [hc.1]; exact ht.2) (by rw [hc.1]; exact hn) c]
  exact hk.2 c c0 c1
def XZT (K M P : PH) : Prop := XZ K M (P 0 10).toNat P
theorem XZT.fr {K M P P1 : PH} {F : FSX} (h : XZT K M P) (hf : FrX F P P1) (hd : disX F ([(0, 10)], [40]) = true) : XZT K M P1 := by
  have e : P1 0 10 = P 0 10 := disX_f hd hf (o := 0) (k := 0) (j := 10) ⟨by decide, rfl⟩ (by decide)
  unfold XZT at h ⊢
  rw [e]
  refine ⟨h.1, fun c c0 c1 => ?_⟩
  rw [disX_a hd hf (ck_28_2 h.1) (by decide)]
  exact h.2 c c0 c1
/-- sizes' products: rows are few -/
def AZ (K M : PH) : Prop := (∀ c : Int, 0 ≤ c → c < M 0 0 → 1 ≤ sz K (M 1 c)) ∧ (M 0 0 ≤ 0 ∨ M 0 1 ≤ 20000)
theorem AZ.no {K M : PH} (h : M 0 0 ≤ 0) : AZ K M := ⟨fun c c0 c1 => by exfalso; omega, Or.inl h⟩
theorem sz_le {K : PH} (h : AW K) {k : Int} (hk : -1 ≤ k ∧ k < K 0 0) : 0 ≤ sz K k ∧ sz K k ≤ 2006 := by
  have e := sz_s K k
  by_cases z : k = -1
  · omega
  · have w := h.2.1 k (by omega) (by omega)
    omega
theorem col_z {T : TT} {K : PH} (hw : AW K) : ∀ (r : Nat) (M : PH) (i p : Int), 0 ≤ M 0 0 → AZ K M → AZ K (col T K r M i p).2.2 := by
  intro r
  induction r with
  | zero =>
    intro M i p h0 hz
    exact hz
  | succ r ih =>
    intro M i p h0 hz
    by_cases e : kGo T K (-1) (M 0 0) 4 0 i 20000 p = 0
    · rw [col_go e]
      have hs := kGo_s T K (-1) (M 0 0) 4 0 i 20000 p
      have hs := ((((hs.resolve_left (by omega)).resolve_left (by omega)).resolve_left (by omega)).resolve_left (by omega))
      obtain ⟨s1, s2, s3, s4, s5, s6⟩ := hs
      have hb0 := kHe_b (T := T) hw p
      have hh := kHe_s T K p
      have hz1 : 1 ≤ sz K (kHe T K p) := by
        rcases sz_s K (kHe T K p) with q | q
        · omega
        · have := hw.2.1 (kHe T K p) (by omega) (by omega)
          omega
      refine ih _ _ _ (by rw [mCol_0.1]; omega) ⟨fun c c0 c1 => ?_, Or.inr ?_⟩
      · rw [mCol_0.1] at c1
        rw [mCol_1]
        by_cases z : c = M 0 0
        · rw [if_pos z]; exact hz1
        · rw [if_neg z]; exact hz.1 c c0 (by omega)
      · rw [mCol_0.2.1]; omega
    · by_cases e1 : kGo T K (-1) (M 0 0) 4 0 i 20000 p = 1
      · rw [col_end e1]; exact hz
      · rw [col_bad e1 e]; exact hz
theorem AZ.st {T : TT} {K M : PH} {p : Int} (hw : AW K) (hv : AV K M) (h : AZ K M) (hs : (sSt T K M p).1 = 0) : AZ (kSt T K p) (mSt T K M p) := by
  have v1 := hv.1
  unfold sSt at hs
  unfold mSt kSt
  by_cases h0 : tO T p = 0
  · rw [if_pos h0] at hs
    have q := sKi_s T K M p
    rw [if_pos h0, if_neg (by omega), if_neg (by omega), if_neg (by omega), if_neg (by omega)]
    exact AZ.no (by omega)
  · rw [if_neg h0] at hs ⊢
    by_cases h1 : tO T p = 1
    · rw [if_pos h1] at hs
      have q := sCo_s T K M p
      rw [if_pos h1, if_neg (by omega), if_neg (by omega), if_neg (by omega), if_neg (by omega)]
      exact AZ.no (by omega)
    · rw [if_neg h1] at hs ⊢
      by_cases h2 : tO T p = 2
      · rw [if_pos h2] at hs ⊢
        have hs : (sMa T K M p).1 = 0 := hs
        have q := sMa_s T K M p
        have e := sMa_M (T := T) (K := K) (M := M) (p := p) (by omega) (by omega)
        rw [e]
        exact col_z hw 4 M 1 (tE T p) (by omega) h
      · rw [if_neg h2] at hs ⊢
        by_cases h3 : tO T p = 3
        · rw [if_pos h3]
          unfold mAr AZ
          rw [aNew_0.1, aNew_01, aNew_1]
          exact h
        · rw [if_neg h3]
          have hu : ∀ (j z : Int), j ≠ 0 → j ≠ 1 → AZ K (up M 0 j z) := fun j z j0 j1 => by
            unfold AZ
            rw [up_k (fun e => j0 e.symm), up_k (fun e => j1 e.symm), up_row (by decide)]
            exact h
          by_cases h5 : tO T p = 5
          · rw [if_pos h5]; exact hu 3 _ (by decide) (by decide)
          · rw [if_neg h5]
            by_cases h6 : tO T p = 6
            · rw [if_pos h6]; exact hu 4 _ (by decide) (by decide)
            · rw [if_neg h6]; exact h
theorem mlo_z {T : TT} : ∀ (r : Nat) (n : Int) (K M : PH) (p : Int), AW K → AV K M → AZ K M → (mlo T r n K M p).1 = 0 → AZ (mlo T r n K M p).2.2.1 (mlo T r n K M p).2.2.2 := by
  intro r
  induction r with
  | zero =>
    intro n K M p hw hv ha h0
    by_cases e : tK T p = 0
    · rw [mlo_end e]; exact ha
    · rw [mlo_much e] at h0
      exact absurd h0 (show (6 : Int) ≠ 0 by decide)
  | succ r ih =>
    intro n K M p hw hv ha h0
    by_cases e : tK T p = 0
    · rw [mlo_end e]; exact ha
    · by_cases h1 : (sSt T K M p).1 = 0
      · by_cases h2 : (sgn T 59 (sSt T K M p).2).1 = 0
        · rw [mlo_go e h1 h2] at h0 ⊢
          exact ih _ _ _ _ (hw.st h1) (hv.st hw h1) (ha.st hw hv h1) h0
        · rw [mlo_eF e h1 h2] at h0
          exact absurd h0 h2
      · rw [mlo_sF e h1] at h0
        exact absurd h0 h1
theorem mlR_z {T : TT} (h : (mlR T).1 = 0) : AZ (mlR T).2.2.1 (mlR T).2.2.2 := mlo_z 60 0 K0 M0 0 AW.zero AV.zero (AZ.no (by decide)) h
theorem pG_1 {K M : PH} (h : ∀ c : Int, 0 ≤ c → c < M 0 0 → 1 ≤ sz K (M 1 c)) : ∀ n : Nat, (n : Int) ≤ M 0 0 → 1 ≤ pG K M n := by
  intro n
  induction n with
  | zero => intro _; exact Int.le_refl 1
  | succ n ih =>
    intro hn
    exact Int.mul_pos (ih (by omega)) (by have q := h (n : Int) (by omega) (by omega); omega)
theorem pG_m {K M : PH} (h : ∀ c : Int, 0 ≤ c → c < M 0 0 → 1 ≤ sz K (M 1 c)) (n : Nat) : ∀ j : Nat, ((n + j : Nat) : Int) ≤ M 0 0 → pG K M n ≤ pG K M (n + j) := by
  intro j
  induction j with
  | zero => intro _; exact Int.le_refl _
  | succ j ih =>
    intro hj
    have h1 := ih (by omega)
    have h2 := h ((n + j : Nat) : Int) (by omega) (by omega)
    have h3 := pG_1 h n (by omega)
    have h4 : pG K M (n + j) * 1 ≤ pG K M (n + j) * sz K (M 1 ((n + j : Nat) : Int)) := Int.mul_le_mul_of_nonneg_left h2 (by omega)
    show pG K M n ≤ pG K M (n + j) * sz K (M 1 ((n + j : Nat) : Int))
    omega
/-- a row's reading: behind c columns -/
def RWL (T : TT) (K M : PH) (c q a : Int) : Prop := rwl T K M (M 0 0).toNat 0 0 0 = rwl T K M (M 0 0 - c).toNat c q a ∧ 0 ≤ a ∧ a < pG K M c.toNat ∧ 0 ≤ c ∧ c ≤ M 0 0
theorem RWL.z {T : TT} {K M : PH} (h : 0 ≤ M 0 0) : RWL T K M 0 0 0 := ⟨by rw [show (M 0 0 - 0).toNat = (M 0 0).toNat by omega], Int.le_refl _, (by show (0 : Int) < 1; decide), Int.le_refl _, h⟩
section RWS
variable {T : TT} {K M : PH} {c q a : Int}
theorem RWL.sF (h : RWL T K M c q a) (hc : 0 < c) (hm : c < M 0 0) (hs : (sgn T 44 q).1 ≠ 0) : rwl T K M (M 0 0).toNat 0 0 0 = ((sgn T 44 q).1, (sgn T 44 q).2, 0) := by
  rw [h.1, show (M 0 0 - c).toNat = (M 0 0 - (c + 1)).toNat + 1 by omega, rwl_sF hc hs]
theorem RWL.vF {p : Int} (h : RWL T K M c q a) (hm : c < M 0 0) (hp : (c = 0 ∧ p = q) ∨ (0 < c ∧ (sgn T 44 q).1 = 0 ∧ p = tE T q)) (hv : (val T K (M 1 c) p).1 ≠ 0) : rwl T K M (M 0 0).toNat 0 0 0 = val T K (M 1 c) p := by
  rw [h.1, show (M 0 0 - c).toNat = (M 0 0 - (c + 1)).toNat + 1 by omega]
  rcases hp with ⟨h1, h2⟩ | ⟨h1, h2, h3⟩
  · subst h2; rw [rwl_p0 (by omega), if_pos hv]
  · subst h3; rw [rwl_p1 h1 h2, if_pos hv]
theorem RWL.go {p w r : Int} (h : RWL T K M c q a) (hm : c < M 0 0) (hp : (c = 0 ∧ p = q) ∨ (0 < c ∧ (sgn T 44 q).1 = 0 ∧ p = tE T q)) (hv : val T K (M 1 c) p = (0, w, r)) (hr : 0 ≤ r ∧ r < sz K (M 1 c)) : RWL T K M (c + 1) w (a * sz K (M 1 c) + r) := by
  obtain ⟨h1, h2, h3, h4, h5⟩ := h
  have l := lex_lt ⟨h2, h3⟩ hr
  have hg : pG K M (c + 1).toNat = pG K M c.toNat * sz K (M 1 c) := by
    rw [show (c + 1).toNat = c.toNat + 1 by omega]
    show pG K M c.toNat * sz K (M 1 ((c.toNat : Nat) : Int)) = _
    rw [show ((c.toNat : Nat) : Int) = c by omega]
  refine ⟨?_, l.1, by rw [hg]; exact l.2, by omega, by omega⟩
  rw [h1, show (M 0 0 - c).toNat = (M 0 0 - (c + 1)).toNat + 1 by omega]
  have e0 : ¬ (val T K (M 1 c) p).1 ≠ 0 := by rw [hv]; exact fun z => z rfl
  rcases hp with ⟨g1, g2⟩ | ⟨g1, g2, g3⟩
  · subst g2; rw [rwl_p0 (by omega), if_neg e0, hv]
  · subst g3; rw [rwl_p1 g1 g2, if_neg e0, hv]
theorem RWL.b (h : RWL T K M c q a) (hz : AZ K M) (hr : AR K M) (hm : 0 < M 0 0) : 0 ≤ a ∧ a < 20000 ∧ a < M 0 1 := by
  obtain ⟨h1, h2, h3, h4, h5⟩ := h
  have e := hr.resolve_left (by omega)
  have e2 := hz.2.resolve_left (by omega)
  have l := pG_m hz.1 c.toNat (M 0 0 - c).toNat (by omega)
  rw [show c.toNat + (M 0 0 - c).toNat = (M 0 0).toNat by omega] at l
  omega
theorem RWL.end (h : RWL T K M c q a) (hc : M 0 0 ≤ c) : rwl T K M (M 0 0).toNat 0 0 0 = (0, q, a) := by
  rw [h.1, show (M 0 0 - c).toNat = 0 by omega]
  rfl
end RWS
theorem VC.ok {T : TT} {K : PH} {k p r q : Int} (h : ∀ (s : SV) (x : Int × Int × Int), VRs T K 1 s 0 q r x → VRs T K 0 s k p 0 x) : val T K k p = (0, q, r) := (h [] _ VRs.done).val
theorem VC.no {T : TT} {K : PH} {k p f l : Int} (h : ∀ s : SV, VRs T K 0 s k p 0 (f, l, 0)) : val T K k p = (f, l, 0) := (h []).val
section RWE
variable {T : TT} {K M : PH} {q a : Int}
theorem rwR_0 (h : M 0 0 ≤ 0) : rwR T K M = (1, 0, 0) := by unfold rwR; rw [if_pos h]
theorem rwR_f (h : 0 < M 0 0) {x : Int × Int × Int} (e : rwl T K M (M 0 0).toNat 0 0 0 = x) (hx : x.1 ≠ 0) : rwR T K M = x := by unfold rwR; rw [if_neg (by omega), e, if_pos hx]
theorem rwR_e (h : 0 < M 0 0) (e : rwl T K M (M 0 0).toNat 0 0 0 = (0, q, a)) (hk : tK T q = 0) : rwR T K M = (0, -1, a) := by
  unfold rwR
  rw [if_neg (by omega), e, if_neg (fun z => z rfl), if_pos hk]
theorem rwR_b (h : 0 < M 0 0) (e : rwl T K M (M 0 0).toNat 0 0 0 = (0, q, a)) (hk : tK T q ≠ 0) : rwR T K M = (1, fh T q, 0) := by
  unfold rwR
  rw [if_neg (by omega), e, if_neg (fun z => z rfl), if_neg hk]
end RWE
theorem XZ.arm {K M : PH} {o : Nat} {P : PH} {g : Int} (h : XZ K M o P) : XZ K (aNew M g) o P := ⟨h.1, fun c c0 c1 => by rw [aNew_0.1] at c1; rw [aNew_1]; exact h.2 c c0 c1⟩
theorem XZ.up {K M : PH} {o : Nat} {P : PH} {j z : Int} (h : XZ K M o P) (j0 : j ≠ 0) : XZ K (up M 0 j z) o P := ⟨h.1, fun c c0 c1 => by rw [up_k (fun e => j0 e.symm)] at c1; rw [up_row (by decide)]; exact h.2 c c0 c1⟩
theorem mul_n {a b A B : Int} (ha : 0 ≤ a ∧ a ≤ A) (hb : 0 ≤ b ∧ b ≤ B) : 0 ≤ a * b ∧ a * b ≤ A * B := ⟨Int.mul_nonneg ha.1 hb.1, Int.mul_le_mul ha.2 hb.2 hb.1 (by omega)⟩
