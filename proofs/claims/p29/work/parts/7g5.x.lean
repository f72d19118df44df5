section
/-! Texts: the constructor of a value; letters, numbers, values written one behind another. -/
def inC (K : PH) (k v c : Int) : Prop := 0 ≤ c ∧ c < K 0 1 ∧ K 5 c = k ∧ K 10 c ≤ v ∧ v < K 10 c + cpr K c
theorem inC.un {K : PH} (hb : AB K) {k v c d : Int} (h : inC K k v c) (h2 : inC K k v d) : c = d := by
  obtain ⟨a1, a2, a3, a4, a5⟩ := h
  obtain ⟨b1, b2, b3, b4, b5⟩ := h2
  by_cases e : c = d
  · exact e
  · exfalso
    by_cases z : c < d
    · have q := (hb c a1 a2).2.1 d z b2 (by omega); omega
    · have q := (hb d b1 b2).2.1 c (by omega) a2 (by omega); omega
noncomputable def cO (K : PH) (k v : Int) : Int := Classical.epsilon (inC K k v)
theorem cO_of {K : PH} (hb : AB K) {k v c : Int} (h : inC K k v c) : cO K k v = c := (Classical.epsilon_spec (p := inC K k v) ⟨c, h⟩).un hb h
theorem cO_go {K : PH} (hb : AB K) {k v : Int} (hv : v < K 2 k) : ∀ (n : Nat) (c : Int), 0 ≤ c → c < K 0 1 → K 5 c = k → K 10 c ≤ v → (K 0 1 - c).toNat ≤ n → ∃ d, inC K k v d := by
  intro n
  induction n with
  | zero => intro c h0 h1 h2 h3 h4; omega
  | succ n ih =>
    intro c h0 h1 h2 h3 h4
    by_cases z : v < K 10 c + cpr K c
    · exact ⟨c, h0, h1, h2, h3, z⟩
    · rcases (hb c h0 h1).2.2.1 with q | ⟨q1, q2, q3⟩
      · rw [h2] at q; omega
      · exact ih (c + 1) (by omega) q1 (by omega) (by omega) (by omega)
theorem cO_in {K : PH} (hw : AW K) (hb : AB K) {k v : Int} (hk : 0 ≤ k ∧ k < K 0 0) (hv : 0 ≤ v ∧ v < K 2 k) : inC K k v (cO K k v) := by
  have w := hw.2.1 k hk.1 hk.2
  have e0 : K 5 (K 9 k) = k := (hw.2.2.2 (K 9 k) k (by omega) (by omega) hk.1 hk.2).mpr (by omega)
  have b0 : K 10 (K 9 k) = 0 := by
    rcases (hb (K 9 k) (by omega) (by omega)).2.2.2 with q | ⟨q1, q2⟩
    · exact q
    · have q3 := (hw.2.2.2 (K 9 k - 1) k (by omega) (by omega) hk.1 hk.2).mp (by omega)
      omega
  obtain ⟨d, hd⟩ := cO_go hb hv.2 (K 0 1 - K 9 k).toNat (K 9 k) (by omega) (by omega) e0 (by omega) (Nat.le_refl _)
  rw [cO_of hb hd]
  exact hd
/-- letters of a name -/
def nmA (W : TT) (v : Int) : Nat → TT
  | 0 => W
  | k + 1 => if 0 < lt v (k : Int) then tadd (nmA W v k) (96 + lt v (k : Int)) else nmA W v k
def gmA (W : TT) (g : Nat → Int) : Nat → TT
  | 0 => W
  | k + 1 => tadd (gmA W g k) (96 + g k)
theorem nm_g {W : TT} {g : Nat → Int} {L : Nat} (hL : L ≤ 6) (hg : ∀ i, i < L → 1 ≤ g i ∧ g i ≤ 26) : ∀ k : Nat, k ≤ 6 → nmA W (e27 g L * p27 (6 - L)) k = gmA W g (if k ≤ L then k else L) := by
  intro k
  induction k with
  | zero => intro _; rw [if_pos (Nat.zero_le _)]; rfl
  | succ k ih =>
    intro hk
    show (if 0 < lt _ (k : Int) then _ else _) = _
    rcases lt_g hL hg (k := (k : Int)) ⟨by omega, by omega⟩ with ⟨h1, h2⟩ | ⟨h1, h2⟩
    · have q := hg k (by omega)
      rw [show ((k : Int)).toNat = k by omega] at h2
      rw [if_pos (by omega), ih (by omega), h2, if_pos (by omega), if_pos (by omega)]
      rfl
    · rw [if_neg (by omega), ih (by omega)]
      by_cases e : k ≤ L
      · rw [if_pos e, if_neg (by omega), show k = L by omega]
      · rw [if_neg e, if_neg (by omega)]
theorem nm_len (W : TT) (v : Int) : ∀ k : Nat, W.2 ≤ (nmA W v k).2 ∧ (nmA W v k).2 ≤ W.2 + k := by
  intro k
  induction k with
  | zero => exact ⟨Int.le_refl _, by show W.2 ≤ W.2 + ((0 : Nat) : Int); omega⟩
  | succ k ih =>
    show W.2 ≤ (if 0 < lt v (k : Int) then _ else _ : TT).2 ∧ (if 0 < lt v (k : Int) then _ else _ : TT).2 ≤ _
    by_cases e : 0 < lt v (k : Int)
    · rw [if_pos e, tadd_2]; omega
    · rw [if_neg e]; omega
def nuA (W : TT) (v : Int) : TT := tadd (if 9 < v then tadd W (48 + v / 10) else W) (48 + v % 10)
/-- a value -/
noncomputable def vt (K : PH) : Nat → TT → Int → Int → TT
  | 0, W, _, _ => W
  | n + 1, W, k, v =>
    if k = -1 then nuA W v
    else if K 6 (cO K k v) = 0 then nmA W (K 4 (cO K k v)) 6
    else if K 6 (cO K k v) = 1 then tadd (vt K n (tadd (nmA W (K 4 (cO K k v)) 6) 40) (K 7 (cO K k v)) (v - K 10 (cO K k v))) 41
    else tadd (vt K n (tadd (vt K n (tadd (nmA W (K 4 (cO K k v)) 6) 40) (K 7 (cO K k v)) ((v - K 10 (cO K k v)) / sz K (K 8 (cO K k v)))) 44) (K 8 (cO K k v)) ((v - K 10 (cO K k v)) % sz K (K 8 (cO K k v)))) 41
/-- fields' values are values of their kinds -/
theorem fld_1 {K : PH} {k v c : Int} (h : inC K k v c) (h6 : K 6 c = 1) : 0 ≤ v - K 10 c ∧ v - K 10 c < sz K (K 7 c) := by
  have q := h.2.2.2
  rw [cpr_1 h6] at q
  omega
theorem fld_2 {K : PH} {k v c : Int} (hb : AB K) (h : inC K k v c) (h6 : K 6 c = 2) (h8 : 0 ≤ sz K (K 8 c)) : (0 < sz K (K 8 c)) ∧ (0 ≤ (v - K 10 c) / sz K (K 8 c) ∧ (v - K 10 c) / sz K (K 8 c) < sz K (K 7 c)) ∧ (0 ≤ (v - K 10 c) % sz K (K 8 c) ∧ (v - K 10 c) % sz K (K 8 c) < sz K (K 8 c)) := by
  have q := h.2.2.2
  have b := (cpr_b hb h.1 h.2.1).1
  rw [cpr_2 h6] at q b
  have hp : 0 < sz K (K 8 c) := by
    rcases (show sz K (K 8 c) = 0 ∨ 0 < sz K (K 8 c) by omega) with z | z
    · rw [z, Int.mul_zero] at b; omega
    · exact z
  refine ⟨hp, ⟨Int.ediv_nonneg (by omega) (by omega), ?_⟩, ⟨Int.emod_nonneg _ (by omega), Int.emod_lt_of_pos _ hp⟩⟩
  exact Int.ediv_lt_of_lt_mul hp (by omega)
theorem vt_up {K : PH} (hw : AW K) (hb : AB K) : ∀ (n : Nat) (W : TT) (k v : Int), -1 ≤ k → k < K 0 0 → k < (n : Int) - 1 → 0 ≤ v → v < sz K k → vt K (n + 1) W k v = vt K n W k v := by
  intro n
  induction n with
  | zero => intro W k v h0 h1 h2; omega
  | succ n ih =>
    intro W k v h0 h1 h2 h3 h4
    by_cases e : k = -1
    · show (if k = -1 then _ else _) = (if k = -1 then _ else _)
      rw [if_pos e, if_pos e]
    · have es := sz_s K k
      have hc := cO_in hw hb ⟨by omega, h1⟩ ⟨h3, show v < K 2 k by omega⟩
      have w := hw.2.2.1 (cO K k v) hc.1 hc.2.1
      have e5 := hc.2.2.1
      show (if k = -1 then _ else _) = (if k = -1 then _ else _)
      rw [if_neg e, if_neg e]
      by_cases e0 : K 6 (cO K k v) = 0
      · rw [if_pos e0, if_pos e0]
      · rw [if_neg e0, if_neg e0]
        by_cases e1 : K 6 (cO K k v) = 1
        · have f := fld_1 hc e1
          rw [if_pos e1, if_pos e1, ih _ _ _ (by omega) (by omega) (by omega) f.1 f.2]
        · have f := fld_2 hb hc (by omega) (sz_le hw ⟨by omega, by omega⟩).1
          rw [if_neg e1, if_neg e1, ih _ _ _ (by omega) (by omega) (by omega) f.2.1.1 f.2.1.2, ih _ _ _ (by omega) (by omega) (by omega) f.2.2.1 f.2.2.2]
noncomputable def vT (K : PH) (W : TT) (k v : Int) : TT := vt K 6 W k v
theorem vt_ge {K : PH} (hw : AW K) (hb : AB K) {W : TT} {k v : Int} (h0 : -1 ≤ k) (h1 : k < K 0 0) (h3 : 0 ≤ v) (h4 : v < sz K k) : ∀ j : Nat, vt K (5 + j) W k v = vt K 5 W k v := by
  have w := hw.1
  intro j
  induction j with
  | zero => rfl
  | succ j ih => rw [show 5 + (j + 1) = (5 + j) + 1 by omega, vt_up hw hb (5 + j) W k v h0 h1 (by omega) h3 h4]; exact ih
section VTS
variable {K : PH} {W : TT} {k v : Int}
theorem vT_n (h : k = -1) : vT K W k v = nuA W v := by
  show (if k = -1 then _ else _) = _
  rw [if_pos h]
theorem vT_0 {c : Int} (h : k ≠ -1) (hc : cO K k v = c) (h6 : K 6 c = 0) : vT K W k v = nmA W (K 4 c) 6 := by
  subst hc
  show (if k = -1 then _ else _) = _
  rw [if_neg h, if_pos h6]
theorem vT_1 {c : Int} (hw : AW K) (hb : AB K) (h : k ≠ -1) (hi : inC K k v c) (h6 : K 6 c = 1) : vT K W k v = tadd (vT K (tadd (nmA W (K 4 c) 6) 40) (K 7 c) (v - K 10 c)) 41 := by
  have w := hw.2.2.1 c hi.1 hi.2.1
  have e5 := hi.2.2.1
  have f := fld_1 hi h6
  have hc := cO_of hb hi
  subst hc
  show (if k = -1 then _ else _) = _
  rw [if_neg h, if_neg (by omega), if_pos h6]
  unfold vT
  rw [show (6 : Nat) = 5 + 1 from rfl, vt_ge hw hb (by omega) (by omega) f.1 f.2 1]
theorem vT_2 {c : Int} (hw : AW K) (hb : AB K) (h : k ≠ -1) (hi : inC K k v c) (h6 : K 6 c = 2) : vT K W k v = tadd (vT K (tadd (vT K (tadd (nmA W (K 4 c) 6) 40) (K 7 c) ((v - K 10 c) / sz K (K 8 c))) 44) (K 8 c) ((v - K 10 c) % sz K (K 8 c))) 41 := by
  have w := hw.2.2.1 c hi.1 hi.2.1
  have e5 := hi.2.2.1
  have f := fld_2 hb hi h6 (sz_le hw ⟨by omega, by omega⟩).1
  have hc := cO_of hb hi
  subst hc
  show (if k = -1 then _ else _) = _
  rw [if_neg h, if_neg (by omega), if_neg (by omega)]
  unfold vT
  rw [show (6 : Nat) = 5 + 1 from rfl, vt_ge hw hb (by omega) (by omega) f.2.1.1 f.2.1.2 1, vt_ge hw hb (by omega) (by omega) f.2.2.1 f.2.2.2 1]
end VTS
/-- no text is long -/
def vLm : Nat → Int
  | 0 => 2
  | n + 1 => 2 * vLm n + 9
theorem vLm_p : ∀ n : Nat, 2 ≤ vLm n := by
  intro n
  induction n with
  | zero => exact Int.le_refl _
  | succ n ih => show 2 ≤ 2 * vLm n + 9; omega
theorem vL_m : ∀ (n j : Nat), vLm n ≤ vLm (n + j) := by
  intro n j
  induction j with
  | zero => exact Int.le_refl _
  | succ j ih =>
    have q := vLm_p (n + j)
    show vLm n ≤ 2 * vLm (n + j) + 9
    omega
theorem vt_len {K : PH} (hw : AW K) (hb : AB K) : ∀ (n : Nat) (W : TT) (k v : Int), -1 ≤ k → k < K 0 0 → 0 ≤ v → v < sz K k → W.2 ≤ (vt K n W k v).2 ∧ (vt K n W k v).2 ≤ W.2 + vLm (k + 1).toNat := by
  intro n
  induction n with
  | zero => intro W k v h0 h1 h3 h4; have q := vLm_p (k + 1).toNat; exact ⟨Int.le_refl _, by show W.2 ≤ W.2 + _; omega⟩
  | succ n ih =>
    intro W k v h0 h1 h3 h4
    by_cases e : k = -1
    · show W.2 ≤ (if k = -1 then _ else _ : TT).2 ∧ (if k = -1 then _ else _ : TT).2 ≤ _
      rw [if_pos e]
      unfold nuA
      rw [tadd_2, e]
      have q := vLm_p (-1 + 1 : Int).toNat
      by_cases z : 9 < v
      · rw [if_pos z, tadd_2]; omega
      · rw [if_neg z]; omega
    · have es := sz_s K k
      have hc := cO_in hw hb ⟨by omega, h1⟩ ⟨h3, show v < K 2 k by omega⟩
      have w := hw.2.2.1 (cO K k v) hc.1 hc.2.1
      have e5 := hc.2.2.1
      have n1 := nm_len W (K 4 (cO K k v)) 6
      have hk : (k + 1).toNat = k.toNat + 1 := by omega
      have q2 := vLm_p k.toNat
      rw [hk]
      show W.2 ≤ (if k = -1 then _ else _ : TT).2 ∧ (if k = -1 then _ else _ : TT).2 ≤ W.2 + (2 * vLm k.toNat + 9)
      rw [if_neg e]
      by_cases e0 : K 6 (cO K k v) = 0
      · rw [if_pos e0]; omega
      · rw [if_neg e0]
        have m7 : vLm (K 7 (cO K k v) + 1).toNat ≤ vLm k.toNat := by
          have q := vL_m (K 7 (cO K k v) + 1).toNat (k.toNat - (K 7 (cO K k v) + 1).toNat)
          rw [show (K 7 (cO K k v) + 1).toNat + (k.toNat - (K 7 (cO K k v) + 1).toNat) = k.toNat by omega] at q
          exact q
        have m8 : vLm (K 8 (cO K k v) + 1).toNat ≤ vLm k.toNat := by
          have q := vL_m (K 8 (cO K k v) + 1).toNat (k.toNat - (K 8 (cO K k v) + 1).toNat)
          rw [show (K 8 (cO K k v) + 1).toNat + (k.toNat - (K 8 (cO K k v) + 1).toNat) = k.toNat by omega] at q
          exact q
        by_cases e1 : K 6 (cO K k v) = 1
        · have f := fld_1 hc e1
          rw [if_pos e1, tadd_2]
          have i1 := ih (tadd (nmA W (K 4 (cO K k v)) 6) 40) (K 7 (cO K k v)) (v - K 10 (cO K k v)) (by omega) (by omega) f.1 f.2
          rw [tadd_2] at i1
          omega
        · have f := fld_2 hb hc (by omega) (sz_le hw ⟨by omega, by omega⟩).1
          rw [if_neg e1, tadd_2]
          have i1 := ih (tadd (nmA W (K 4 (cO K k v)) 6) 40) (K 7 (cO K k v)) ((v - K 10 (cO K k v)) / sz K (K 8 (cO K k v))) (by omega) (by omega) f.2.1.1 f.2.1.2
          have i2 := ih (tadd (vt K n (tadd (nmA W (K 4 (cO K k v)) 6) 40) (K 7 (cO K k v)) ((v - K 10 (cO K k v)) / sz K (K 8 (cO K k v)))) 44) (K 8 (cO K k v)) ((v - K 10 (cO K k v)) % sz K (K 8 (cO K k v))) (by omega) (by omega) f.2.2.1 f.2.2.2
          rw [tadd_2] at i1 i2
          omega
theorem vT_len {K : PH} {W : TT} {k v : Int} (hw : AW K) (hb : AB K) (h0 : -1 ≤ k) (h1 : k < K 0 0) (h3 : 0 ≤ v) (h4 : v < sz K k) : W.2 ≤ (vT K W k v).2 ∧ (vT K W k v).2 ≤ W.2 + 167 := by
  have w := hw.1
  have q := vt_len hw hb 6 W k v h0 h1 h3 h4
  have m := vL_m (k + 1).toNat (4 - (k + 1).toNat)
  rw [show (k + 1).toNat + (4 - (k + 1).toNat) = 4 by omega] at m
  have e : vLm 4 = 167 := rfl
  unfold vT
  omega
/-! what lies written on both sides -/
def TZ : TT := (fun _ => 0, 0)
def XW (W : TT) (P : PH) : Prop := P 3 1 = W.2 ∧ ∀ i : Int, 0 ≤ i → i < W.2 → P 4 i = W.1 i
def MW (W : TT) (P : PH) : Prop := P 0 70 = W.2 ∧ ∀ i : Int, 0 ≤ i → i < W.2 → P 46 i = W.1 i
theorem XW.fr {W : TT} {P P1 : PH} {F : FSX} (h : XW W P) (hf : FrX F P P1) (hd : disX F ([(3, 1)], [4]) = true) : XW W P1 := by
  refine ⟨by rw [disX_f hd hf (o := 3) (k := 3) (j := 1) ⟨by decide, rfl⟩ (by decide)]; exact h.1, fun i i0 i1 => ?_⟩
  rw [disX_a hd hf (o := 4) (k := 4) ⟨by decide, rfl⟩ (by decide)]
  exact h.2 i i0 i1
theorem MW.fr {W : TT} {P P1 : PH} {F : FS} (h : MW W P) (hf : FrM F P P1) (hd : disF F ([70], [46]) = true) : MW W P1 := by
  unfold MW at h ⊢
  rw [disF_k hd hf (k := 70) (by decide), disF_o hd hf (o := 46) (by decide) rfl]
  exact h
theorem XW.nil {P : PH} (h : P 3 1 = 0) : XW TZ P := ⟨h, fun i i0 i1 => by exfalso; have i1 : i < 0 := i1; omega⟩
theorem MW.nil {P : PH} (h : P 0 70 = 0) : MW TZ P := ⟨h, fun i i0 i1 => by exfalso; have i1 : i < 0 := i1; omega⟩
theorem XW.add {W : TT} {P P1 : PH} {c : Int} (h : XW W P) (h1 : P1 3 1 = P 3 1 + 1) (s1 : P1 4 (P 3 1) = c) (q1 : ∀ j : Int, j ≠ P 3 1 → P1 4 j = P 4 j) : XW (tadd W c) P1 := by
  refine ⟨by rw [tadd_2, h1, h.1], fun i i0 i1 => ?_⟩
  rw [tadd_2] at i1
  show _ = if i = W.2 then c else W.1 i
  by_cases e : i = W.2
  · rw [if_pos e, e, ← h.1, s1]
  · rw [if_neg e, q1 i (by rw [h.1]; exact e)]
    exact h.2 i i0 (by omega)
theorem MW.add {W : TT} {P P1 : PH} {c : Int} (h : MW W P) (h1 : P1 0 70 = P 0 70 + 1) (s1 : P1 46 (P 0 70) = c) (q1 : ∀ j : Int, j ≠ P 0 70 → P1 46 j = P 46 j) : MW (tadd W c) P1 := by
  refine ⟨by rw [tadd_2, h1, h.1], fun i i0 i1 => ?_⟩
  rw [tadd_2] at i1
  show _ = if i = W.2 then c else W.1 i
  by_cases e : i = W.2
  · rw [if_pos e, e, ← h.1, s1]
  · rw [if_neg e, q1 i (by rw [h.1]; exact e)]
    exact h.2 i i0 (by omega)
/-! the values of a row: column by column, from the last one -/
def rLs (K M : PH) (r : Int) : Nat → Int
  | 0 => r
  | n + 1 => rLs K M r n / sz K (M 1 (M 0 0 - 1 - (n : Int)))
/-- the value in column c -/
def vIn (K M : PH) (r c : Int) : Int := rLs K M r (M 0 0 - 1 - c).toNat % sz K (M 1 c)
/-- columns 0 .. n - 1 written -/
noncomputable def tRw (K M : PH) (r : Int) : Nat → TT
  | 0 => TZ
  | n + 1 => vT K (if n = 0 then tRw K M r n else tadd (tRw K M r n) 44) (M 1 (n : Int)) (vIn K M r (n : Int))
theorem vIn_b {K M : PH} {r c : Int} (hz : 1 ≤ sz K (M 1 c)) : 0 ≤ vIn K M r c ∧ vIn K M r c < sz K (M 1 c) := ⟨Int.emod_nonneg _ (by omega), Int.emod_lt_of_pos _ (by omega)⟩
theorem tRw_len {K M : PH} {r : Int} (hw : AW K) (hb : AB K) (hv : AV K M) (hz : AZ K M) : ∀ n : Nat, (n : Int) ≤ M 0 0 → 0 ≤ (tRw K M r n).2 ∧ (tRw K M r n).2 ≤ 168 * n := by
  intro n
  induction n with
  | zero => intro _; exact ⟨Int.le_refl _, Int.le_refl _⟩
  | succ n ih =>
    intro hn
    have i1 := ih (by omega)
    have k1 := hv.2.2.2.2 (n : Int) (by omega) (by omega)
    have z1 := hz.1 (n : Int) (by omega) (by omega)
    have b1 := vIn_b (r := r) z1
    show 0 ≤ (vT K _ _ _).2 ∧ (vT K _ _ _).2 ≤ _
    by_cases e : n = 0
    · rw [if_pos e]
      have l := vT_len (W := tRw K M r n) hw hb k1.1 k1.2 b1.1 b1.2
      omega
    · rw [if_neg e]
      have l := vT_len (W := tadd (tRw K M r n) 44) hw hb k1.1 k1.2 b1.1 b1.2
      rw [tadd_2] at l
      omega
theorem iand_255 {x : Int} (h : 0 ≤ x ∧ x ≤ 255) : iand x 255 = x := by
  have q : ∀ n : Nat, n < 256 → iand (n : Int) 255 = (n : Int) := by decide +kernel
  have e := q x.toNat (by omega)
  rw [show ((x.toNat : Nat) : Int) = x by omega] at e
  exact e
theorem lt_b (v k : Int) : 0 ≤ lt v k ∧ lt v k ≤ 26 := by
  unfold lt
  omega
/-- the class's search for a value's constructor: the last one so far that begins no later -/
def CSI (K : PH) (k v f i d : Int) : Prop := (d = -1 ∧ i = 0) ∨ ((f ≤ d ∧ d < f + i) ∧ K 10 d ≤ v ∧ (∀ c : Int, d < c → c < f + i → v < K 10 c))
theorem CSI.fin {K : PH} (hw : AW K) (hb : AB K) {k v d : Int} (hk : 0 ≤ k ∧ k < K 0 0) (hv : 0 ≤ v ∧ v < K 2 k) (h : CSI K k v (K 9 k) (K 3 k) d) : inC K k v d := by
  have w := hw.2.1 k hk.1 hk.2
  rcases h with ⟨h1, h2⟩ | ⟨⟨h1, h2⟩, h3, h4⟩
  · omega
  · have e5 := (hw.2.2.2 d k (by omega) (by omega) hk.1 hk.2).mpr (by omega)
    refine ⟨by omega, by omega, e5, h3, ?_⟩
    rcases (hb d (by omega) (by omega)).2.2.1 with q | ⟨q1, q2, q3⟩
    · rw [e5] at q; omega
    · have q4 := (hw.2.2.2 (d + 1) k (by omega) q1 hk.1 hk.2).mp (by omega)
      have q5 := h4 (d + 1) (by omega) (by omega)
      omega
theorem CSI.go {K : PH} {k v f i d : Int} (h : CSI K k v f i d) (hi : 0 ≤ i) (hv : K 10 (f + i) ≤ v) : CSI K k v f (i + 1) (f + i) := Or.inr ⟨⟨by omega, by omega⟩, hv, fun c c0 c1 => by exfalso; omega⟩
theorem CSI.no {K : PH} (hw : AW K) (hb : AB K) {k v i d : Int} (hk : 0 ≤ k ∧ k < K 0 0) (h : CSI K k v (K 9 k) i d) (hi : 0 ≤ i ∧ i < K 3 k) (hv0 : 0 ≤ v) (hv : v < K 10 (K 9 k + i)) : CSI K k v (K 9 k) (i + 1) d := by
  have w := hw.2.1 k hk.1 hk.2
  rcases h with ⟨h1, h2⟩ | ⟨⟨h1, h2⟩, h3, h4⟩
  · exfalso
    subst h2
    rw [Int.add_zero] at hv
    have e0 : K 5 (K 9 k) = k := (hw.2.2.2 (K 9 k) k (by omega) (by omega) hk.1 hk.2).mpr (by omega)
    rcases (hb (K 9 k) (by omega) (by omega)).2.2.2 with q | ⟨q1, q2⟩
    · omega
    · have q3 := (hw.2.2.2 (K 9 k - 1) k (by omega) (by omega) hk.1 hk.2).mp (by omega)
      omega
  · refine Or.inr ⟨⟨h1, by omega⟩, h3, fun c c0 c1 => ?_⟩
    by_cases e : c = K 9 k + i
    · rw [e]; exact hv
    · exact h4 c c0 (by omega)
theorem rLs_b {K M : PH} {r : Int} (hz : ∀ c : Int, 0 ≤ c → c < M 0 0 → 1 ≤ sz K (M 1 c)) (hr : 0 ≤ r) : ∀ n : Nat, (n : Int) ≤ M 0 0 → 0 ≤ rLs K M r n ∧ rLs K M r n ≤ r := by
  intro n
  induction n with
  | zero => intro _; exact ⟨hr, Int.le_refl _⟩
  | succ n ih =>
    intro hn
    have i1 := ih (by omega)
    have z1 := hz (M 0 0 - 1 - (n : Int)) (by omega) (by omega)
    show 0 ≤ rLs K M r n / sz K (M 1 (M 0 0 - 1 - (n : Int))) ∧ rLs K M r n / sz K (M 1 (M 0 0 - 1 - (n : Int))) ≤ r
    have q1 := Int.ediv_nonneg i1.1 (show 0 ≤ sz K (M 1 (M 0 0 - 1 - (n : Int))) by omega)
    have q2 := Int.ediv_le_self (sz K (M 1 (M 0 0 - 1 - (n : Int)))) i1.1
    omega
theorem vT_lv {K : PH} {W : TT} {k v : Int} (hw : AW K) (hb : AB K) (h0 : -1 ≤ k) (h1 : k < K 0 0) (h3 : 0 ≤ v) (h4 : v < sz K k) : W.2 ≤ (vT K W k v).2 ∧ (vT K W k v).2 ≤ W.2 + vLm (k + 1).toNat := vt_len hw hb 6 W k v h0 h1 h3 h4
theorem vL_in {a b : Int} (ha : -1 ≤ a) (hab : a < b) : vLm (a + 1).toNat ≤ vLm b.toNat := by
  have q := vL_m (a + 1).toNat (b.toNat - (a + 1).toNat)
  rw [show (a + 1).toNat + (b.toNat - (a + 1).toNat) = b.toNat by omega] at q
  exact q
theorem vL_s {b : Int} (hb : 0 ≤ b) : vLm (b + 1).toNat = 2 * vLm b.toNat + 9 := by
  rw [show (b + 1).toNat = b.toNat + 1 by omega]
  rfl
/-- a text, an image as they are written -/
noncomputable def wTx (K M : PH) (r : Int) (W : TT) : TT := @ite _ (0 < M 0 0 ∧ 0 ≤ r ∧ r < M 0 1) (Classical.propDecidable _) (tRw K M r (M 0 0).toNat) W
theorem wTx_y {K M : PH} {r : Int} {W : TT} (h : 0 < M 0 0 ∧ 0 ≤ r ∧ r < M 0 1) : wTx K M r W = tRw K M r (M 0 0).toNat := by unfold wTx; rw [if_pos h]
theorem wTx_n {K M : PH} {r : Int} {W : TT} (h : ¬ (0 < M 0 0 ∧ 0 ≤ r ∧ r < M 0 1)) : wTx K M r W = W := by unfold wTx; rw [if_neg h]
def wAr (A : PH) : Nat → TT
  | 0 => tadd TZ (iand (A 0 0) 255)
  | n + 1 => tadd (wAr A n) (iand (A 1 (n : Int)) 255)
theorem wAr_2 (A : PH) : ∀ n : Nat, (wAr A n).2 = (n : Int) + 1 := by
  intro n
  induction n with
  | zero => rfl
  | succ n ih => show (wAr A n).2 + 1 = _; rw [ih]; omega
theorem wAr_s {A : PH} {n : Int} (h : 0 ≤ n) : wAr A (n + 1).toNat = tadd (wAr A n.toNat) (iand (A 1 n) 255) := by
  rw [show (n + 1).toNat = n.toNat + 1 by omega]
  show tadd (wAr A n.toNat) (iand (A 1 ((n.toNat : Nat) : Int)) 255) = _
  rw [show ((n.toNat : Nat) : Int) = n by omega]
def wOn (A : PH) : TT := tadd (tadd (wAr A (A 0 0).toNat) (iand (A 0 1) 255)) (iand (A 0 2) 255)
def wIm (A : PH) : TT := tadd (wOn A) (iand (ckF (wOn A) (wOn A).2.toNat) 255)
theorem vL_4 {k : Int} (h : -1 ≤ k ∧ k ≤ 3) : vLm (k + 1).toNat ≤ 167 := by
  have m := vL_m (k + 1).toNat (4 - (k + 1).toNat)
  rw [show (k + 1).toNat + (4 - (k + 1).toNat) = 4 by omega] at m
  exact m
end
section
/-! The reader's rows of values that fit: what fill, fillCase, setPattern leave. -/
/-- the row o is w from a to b, else as in P; the other rows are as in P -/
def FLx (o : Nat) (a b w : Int) (P P1 : PH) : Prop := (∀ v : Int, 0 ≤ v → P1 o v = if a ≤ v ∧ v ≤ b then w else P o v) ∧ ∀ i : Nat, kx i 50 → i ≠ o → ∀ v : Int, P1 i v = P i v
theorem FLx.fr {o : Nat} {a b w : Int} {P P1 P2 : PH} {F : FSX} (h : FLx o a b w P P1) (ho : kx o 50) (hf : FrX F P1 P2) (hd : disX F ([], [50]) = true) : FLx o a b w P P2 :=
  ⟨fun v h0 => (disX_a hd hf ho (by decide) v).trans (h.1 v h0), fun i hi hn v => (disX_a hd hf hi (by decide) v).trans (h.2 i hi hn v)⟩
theorem FLx.pre {o : Nat} {a b w : Int} {P0 P P1 : PH} (h : FLx o a b w P P1) (e : ∀ i : Nat, kx i 50 → ∀ v : Int, P i v = P0 i v) (ho : kx o 50) : FLx o a b w P0 P1 :=
  ⟨fun v h0 => by rw [h.1 v h0, e o ho], fun i hi hn v => (h.2 i hi hn v).trans (e i hi v)⟩
theorem FLx.start {o : Nat} {a l w : Int} {P : PH} (hl : l ≤ a ∨ l ≤ 0) : FLx o a (l - 1) w P P :=
  ⟨fun v h0 => by rw [if_neg (by omega)], fun _ _ _ _ => rfl⟩
theorem FLx.step {o : Nat} {a l w : Int} {P P1 : PH} (h : FLx o a (l - 1) w P P1) (ha : a ≤ l) : FLx o a (l + 1 - 1) w P (up P1 o l w) := by
  refine ⟨fun v h0 => ?_, fun i hi hn v => (up_o hn).trans (h.2 i hi hn v)⟩
  by_cases e : v = l
  · rw [e, up_same, if_pos (by omega)]
  · rw [up_k e, h.1 v h0]
    by_cases q : a ≤ v ∧ v ≤ l - 1
    · rw [if_pos q, if_pos (by omega)]
    · rw [if_neg q, if_neg (by omega)]
/-- the end of a filling -/
theorem FLx.end {o : Nat} {a b l w : Int} {P P1 : PH} (h : FLx o a (l - 1) w P P1) (e : l = b + 1 ∨ (l ≤ a ∧ b < a) ∨ (l ≤ 0 ∧ b < 0)) : FLx o a b w P P1 := by
  refine ⟨fun v h0 => ?_, h.2⟩
  rw [h.1 v h0]
  by_cases q : a ≤ v ∧ v ≤ l - 1
  · rw [if_pos q, if_pos (by omega)]
  · rw [if_neg q, if_neg (by omega)]
theorem fr9_k {j : Int} (h : 0 ≤ j ∧ j ≤ 9) : kx (fr9 j) 50 := (show ∀ n : Nat, n < 10 → crX 114 n < 154 ∧ kdX (crX 114 n) = 50 by decide +kernel) j.toNat (by omega)
theorem fr9_i {i j : Int} (hi : 0 ≤ i ∧ i ≤ 9) (hj : 0 ≤ j ∧ j ≤ 9) (h : i ≠ j) : fr9 i ≠ fr9 j := by
  have q := (show ∀ n : Nat, n < 10 → ∀ m : Nat, m < 10 → crX 114 n = crX 114 m → n = m by decide +kernel) i.toNat (by omega) j.toNat (by omega)
  intro e
  have := q e
  omega
/-- the rows of no greater depth -/
theorem FLx.fo {j a b w e : Int} {P P1 : PH} (h : FLx (fr9 j) a b w P P1) (hj : 0 ≤ j ∧ j ≤ 9) (he : e ≤ 4) : FO j e P P1 := fun i hi hl v => by
  have q := fr9_i (i := (i : Int)) (by omega) hj hi
  have k := fr9_k (j := (i : Int)) (by omega)
  unfold fr9 at q k
  rw [Int.toNat_natCast] at q k
  exact h.2 _ k q v
theorem FLx.fu {j n : Int} {a b : Int} {P P1 : PH} {d : Int → Int} (h : FLx (fr9 j) a b 1 P P1) (e : ∀ v : Int, 0 ≤ v → v < n → (d v = 1 ↔ (a ≤ v ∧ v ≤ b))) : FU (fr9 j) n d P P1 := fun v h0 h1 => by
  rw [h.1 v h0]
  by_cases q : a ≤ v ∧ v ≤ b
  · rw [if_pos q, if_pos ((e v h0 h1).mpr q)]
  · rw [if_neg q, if_neg (fun z => q ((e v h0 h1).mp z))]
/-- the values of a constructor whose fields fit -/
abbrev cFi (K : PH) (c : Int) (A B : Int → Int) (v : Int) : Prop := K 10 c ≤ v ∧ A ((v - K 10 c) / (if K 6 c = 2 then sz K (K 8 c) else 1)) ≠ 0 ∧ (K 6 c ≠ 2 ∨ B ((v - K 10 c) % (if K 6 c = 2 then sz K (K 8 c) else 1)) ≠ 0)
def FCx (K : PH) (c n : Int) (o : Nat) (A B : Int → Int) (P P1 : PH) : Prop := (∀ v : Int, 0 ≤ v → P1 o v = if v < n ∧ cFi K c A B v then 1 else P o v) ∧ ∀ i : Nat, kx i 50 → i ≠ o → ∀ v : Int, P1 i v = P i v
theorem FCx.start {K : PH} {c n : Int} {o : Nat} {A B : Int → Int} {P : PH} (hn : n ≤ K 10 c) : FCx K c n o A B P P :=
  ⟨fun v h0 => by rw [if_neg (fun q => by have := q.2.1; omega)], fun _ _ _ _ => rfl⟩
/-- a value more that doesn't fit -/
theorem FCx.skip {K : PH} {c n m : Int} {o : Nat} {A B : Int → Int} {P P1 : PH} (h : FCx K c n o A B P P1) (hm : n ≤ m) (hn : ∀ v : Int, n ≤ v → v < m → ¬ cFi K c A B v) : FCx K c m o A B P P1 := by
  refine ⟨fun v h0 => ?_, h.2⟩
  rw [h.1 v h0]
  by_cases q : v < n ∧ cFi K c A B v
  · rw [if_pos q, if_pos ⟨by omega, q.2⟩]
  · rw [if_neg q]
    by_cases q2 : v < m ∧ cFi K c A B v
    · exact absurd q2.2 (hn v (by by_cases z : v < n; exact absurd ⟨z, q2.2⟩ q; omega) q2.1)
    · rw [if_neg q2]
/-- a value more that fits -/
theorem FCx.put {K : PH} {c n : Int} {o : Nat} {A B : Int → Int} {P P1 P2 : PH} (h : FCx K c n o A B P P1) (hc : cFi K c A B n) (ho : kx o 50) (hf : FLx o n n 1 P1 P2) : FCx K c (n + 1) o A B P P2 := by
  refine ⟨fun v h0 => ?_, fun i hi hn v => (hf.2 i hi hn v).trans (h.2 i hi hn v)⟩
  rw [hf.1 v h0]
  by_cases e : v = n
  · rw [if_pos (by omega), if_pos ⟨by omega, by rw [e]; exact hc⟩]
  · rw [if_neg (by omega), h.1 v h0]
    by_cases q : v < n ∧ cFi K c A B v
    · rw [if_pos q, if_pos ⟨by omega, q.2⟩]
    · rw [if_neg q, if_neg (fun z => q ⟨by omega, z.2⟩)]
/-- the place of a value in its constructor -/
theorem cFi_at {K : PH} {c a b s : Int} {A B : Int → Int} (hs : s = if K 6 c = 2 then sz K (K 8 c) else 1) (hb : 0 ≤ b ∧ b < s) (h0 : 0 ≤ a) : cFi K c A B (K 10 c + a * s + b) ↔ (A a ≠ 0 ∧ (K 6 c ≠ 2 ∨ B b ≠ 0)) := by
  unfold cFi
  rw [← hs, show K 10 c + a * s + b - K 10 c = b + a * s by omega, Int.add_mul_ediv_right _ _ (by omega), Int.add_mul_emod_self_right, Int.ediv_eq_zero_of_lt hb.1 hb.2, Int.emod_eq_of_lt hb.1 hb.2, Int.zero_add]
  have : 0 ≤ a * s := Int.mul_nonneg h0 (by omega)
  constructor
  · intro q; exact q.2
  · intro q; exact ⟨by omega, q⟩
/-- a whole block of values whose first field doesn't fit -/
theorem cFi_no {K : PH} {c a s : Int} {A B : Int → Int} (hs : s = if K 6 c = 2 then sz K (K 8 c) else 1) (h1 : 1 ≤ s) (h0 : 0 ≤ a) (hA : A a = 0) : ∀ v : Int, K 10 c + a * s ≤ v → v < K 10 c + (a + 1) * s → ¬ cFi K c A B v := by
  intro v v0 v1 q
  have e : v = K 10 c + a * s + (v - (K 10 c + a * s)) := by omega
  have e2 : (a + 1) * s = a * s + s := by rw [Int.add_mul, Int.one_mul]
  rw [e, cFi_at hs ⟨by omega, by omega⟩ h0] at q
  exact q.1 hA
/-- the values of a constructor by what its fields' codes say -/
theorem cFi_d {K : PH} {c v : Int} {A B dA dB : Int → Int} (hK : K 6 c = 1 ∨ K 6 c = 2) (hr : inR K c v) (hc : cpr K c = if K 6 c = 2 then sz K (K 7 c) * sz K (K 8 c) else sz K (K 7 c)) (h1 : 1 ≤ sz K (K 7 c)) (h2 : K 6 c = 2 → 1 ≤ sz K (K 8 c))
    (eA : ∀ w : Int, 0 ≤ w → w < sz K (K 7 c) → A w = if dA w = 1 then 1 else 0) (eB : K 6 c = 2 → ∀ w : Int, 0 ≤ w → w < sz K (K 8 c) → B w = if dB w = 1 then 1 else 0) :
    cFi K c A B v ↔ (dA (fdV K v c 0) = 1 ∧ (K 6 c = 2 → dB (fdV K v c 1) = 1)) := by
  have hr0 : 0 ≤ v - K 10 c ∧ v - K 10 c < cpr K c := by unfold inR at hr; omega
  have k01 : ∀ x : Int, ((if x = 1 then (1 : Int) else 0) ≠ 0) ↔ x = 1 := fun x => by
    by_cases z : x = 1
    · rw [if_pos z]; exact ⟨fun _ => z, fun _ => by decide⟩
    · rw [if_neg z]; exact ⟨fun q => absurd rfl q, fun q => absurd q z⟩
  rcases hK with hk | hk
  · unfold cFi fdV
    rw [if_pos hr, if_pos hk, if_neg (by omega), Int.ediv_one]
    rw [if_neg (by omega)] at hc
    rw [eA _ hr0.1 (by omega), k01]
    constructor
    · intro q; exact ⟨q.2.1, fun z => by omega⟩
    · intro q; exact ⟨by omega, q.1, Or.inl (by omega)⟩
  · have hs := h2 hk
    have hk1 : ¬ K 6 c = 1 := by omega
    unfold cFi fdV
    simp only [if_pos hr, if_neg hk1, if_pos hk, if_neg (show ¬ (1 : Int) = 0 by decide), if_pos (rfl : (0 : Int) = 0)]
    rw [if_pos hk] at hc
    have q1 : 0 ≤ (v - K 10 c) / sz K (K 8 c) := Int.ediv_nonneg hr0.1 (by omega)
    have q2 : (v - K 10 c) / sz K (K 8 c) < sz K (K 7 c) := Int.ediv_lt_of_lt_mul (by omega) (by omega)
    have q3 := Int.emod_nonneg (v - K 10 c) (show sz K (K 8 c) ≠ 0 by omega)
    have q4 := Int.emod_lt_of_pos (v - K 10 c) (show 0 < sz K (K 8 c) by omega)
    rw [eA _ q1 q2, eB hk _ q3 q4, k01, k01]
    constructor
    · intro q; exact ⟨q.2.1, fun _ => q.2.2.resolve_left (fun z => z hk)⟩
    · intro q; exact ⟨by omega, q.1, Or.inr (q.2 hk)⟩
/-! The table's rows: the arms that a value fits. -/
def XF (K M : PH) (F : FT) (o : Nat) (P : PH) : Prop := kx o 28 ∧ ∀ c v : Int, 0 ≤ c → c < M 0 0 → 0 ≤ v → v < sz K (M 1 c) → P (crX (crX o 5) c.toNat) v = msk K F c v (M 0 2).toNat
theorem XF.no {K M : PH} {F : FT} {o : Nat} {P : PH} (hk : kx o 28) (h : M 0 0 ≤ 0) : XF K M F o P := ⟨hk, fun c v h0 h1 => by omega⟩
theorem XF.cg {K M K1 M1 : PH} {F F1 : FT} {o : Nat} {P : PH} (h : XF K M F o P) (e : ∀ c v : Int, 0 ≤ c → c < M1 0 0 → 0 ≤ v → v < sz K1 (M1 1 c) → c < M 0 0 ∧ v < sz K (M 1 c) ∧ msk K1 F1 c v (M1 0 2).toNat = msk K F c v (M 0 2).toNat) : XF K1 M1 F1 o P :=
  ⟨h.1, fun c v h0 h1 h2 h3 => by obtain ⟨a, b, d⟩ := e c v h0 h1 h2 h3; rw [d]; exact h.2 c v h0 a h2 b⟩
theorem ior_comm9 (x y : Int) : ior x y = ior y x := by unfold ior; rw [Int32.or_comm]
theorem ior_bit {x : Int} {A : Nat} (hA : A ≤ 11) (hx : 0 ≤ x ∧ x < 2 ^ A) : ior x (2 ^ A) = x + 2 ^ A := by
  have hN : (2 : Nat) ^ A ≤ 2 ^ 11 := Nat.pow_le_pow_right (by decide) hA
  have e : (2 : Int) ^ A = ((2 ^ A : Nat) : Int) := by rw [Int.natCast_pow]; rfl
  rw [e] at hx ⊢
  have hM : ((2 ^ A : Nat) : Int) ≤ ((2 ^ 11 : Nat) : Int) := Int.ofNat_le.mpr hN
  have h9 : ((2 ^ 11 : Nat) : Int) = 2048 := by decide
  have h := ior_hl A (x := x) (y := 1) hx (by decide) (by omega)
  rw [Int.one_mul] at h
  rw [ior_comm9, h]
  omega
/-- the row o has the bit z more at the values below n that fit d -/
def SPx (o : Nat) (z n : Int) (d : Int → Int) (P P1 : PH) : Prop := (∀ v : Int, 0 ≤ v → P1 o v = if v < n ∧ d v = 1 then P o v + z else P o v) ∧ ∀ i : Nat, kx i 44 → i ≠ o → ∀ v : Int, P1 i v = P i v
theorem SPx.start {o : Nat} {z : Int} {d : Int → Int} {P : PH} : SPx o z 0 d P P := ⟨fun v h0 => by rw [if_neg (fun q => by omega)], fun _ _ _ _ => rfl⟩
theorem SPx.skip {o : Nat} {z n : Int} {d : Int → Int} {P P1 : PH} (h : SPx o z n d P P1) (hd : d n ≠ 1) : SPx o z (n + 1) d P P1 := by
  refine ⟨fun v h0 => ?_, h.2⟩
  rw [h.1 v h0]
  by_cases e : v = n
  · rw [if_neg (fun q => by omega), if_neg (fun q => hd (by rw [← e]; exact q.2))]
  · by_cases q : v < n ∧ d v = 1
    · rw [if_pos q, if_pos ⟨by omega, q.2⟩]
    · rw [if_neg q, if_neg (fun w => q ⟨by omega, w.2⟩)]
theorem SPx.put {o : Nat} {z n y : Int} {d : Int → Int} {P P1 : PH} (h : SPx o z n d P P1) (hd : d n = 1) (h0 : 0 ≤ n) (hy : y = P o n + z) : SPx o z (n + 1) d P (up P1 o n y) := by
  refine ⟨fun v v0 => ?_, fun i hi hn v => (up_o hn).trans (h.2 i hi hn v)⟩
  by_cases e : v = n
  · rw [e, up_same, if_pos ⟨by omega, hd⟩]; exact hy
  · rw [up_k e, h.1 v v0]
    by_cases q : v < n ∧ d v = 1
    · rw [if_pos q, if_pos ⟨by omega, q.2⟩]
    · rw [if_neg q, if_neg (fun w => q ⟨by omega, w.2⟩)]
/-- the columns so far of the arm that is told: G its codes, n how many columns -/
def XF1 (K M : PH) (F : FT) (G : Int → List OP) (n : Int) (o : Nat) (P : PH) : Prop := kx o 28 ∧ ∀ c v : Int, 0 ≤ c → c < M 0 0 → 0 ≤ v → v < sz K (M 1 c) → P (crX (crX o 5) c.toNat) v = msk K F c v (M 0 2).toNat + (if c < n ∧ tv K (G c) v = 1 then 2 ^ (M 0 2).toNat else 0)
theorem XF1.start {K M : PH} {F : FT} {G : Int → List OP} {o : Nat} {P : PH} (h : XF K M F o P) : XF1 K M F G 0 o P := ⟨h.1, fun c v h0 h1 h2 h3 => by rw [if_neg (fun q => by omega), Int.add_zero]; exact h.2 c v h0 h1 h2 h3⟩
theorem XF1.col {K M : PH} {F : FT} {G : Int → List OP} {n : Int} {o : Nat} {d : Int → Int} {P P1 : PH} (h : XF1 K M F G n o P) (hn : 0 ≤ n ∧ n < M 0 0 ∧ M 0 0 ≤ 4) (hd : ∀ v : Int, tv K (G n) v = d v) (hs : SPx (crX (crX o 5) n.toNat) (2 ^ (M 0 2).toNat) (sz K (M 1 n)) d P P1) (hk : ∀ j : Nat, j < 4 → kx (crX (crX o 5) j) 44) (hi : ∀ j : Nat, j < 4 → ∀ l : Nat, l < 4 → crX (crX o 5) j = crX (crX o 5) l → j = l) : XF1 K M F G (n + 1) o P1 := by
  refine ⟨h.1, fun c v h0 h1 h2 h3 => ?_⟩
  by_cases e : c = n
  · subst e
    by_cases q : d v = 1
    · rw [hs.1 v h2, if_pos ⟨h3, q⟩, h.2 c v h0 h1 h2 h3, if_neg (fun q => by omega), Int.add_zero, if_pos ⟨by omega, (hd v).trans q⟩]
    · rw [hs.1 v h2, if_neg (fun w => q w.2), h.2 c v h0 h1 h2 h3, if_neg (fun w => q ((hd v).symm.trans w.2)), if_neg (fun w => q ((hd v).symm.trans w.2))]
  · rw [hs.2 _ (hk c.toNat (by omega)) (fun q => e (by have := hi c.toNat (by omega) n.toNat (by omega) q; omega)) v, h.2 c v h0 h1 h2 h3]
    by_cases q : c < n ∧ tv K (G c) v = 1
    · rw [if_pos q, if_pos ⟨by omega, q.2⟩]
    · rw [if_neg q, if_neg (fun w => q ⟨by omega, w.2⟩)]
theorem XF1.fin {K M : PH} {F F1 : FT} {G : Int → List OP} {g n : Int} {o : Nat} {P : PH} (h : XF1 K M F G n o P) (hn : n = M 0 0) (h2 : 0 ≤ M 0 2) (e1 : ∀ c : Int, F1 (M 0 2) c = G c) (e2 : ∀ a c : Int, a ≠ M 0 2 → F1 a c = F a c) : XF K (aNew M g) F1 o P := by
  refine ⟨h.1, fun c v h0 h1 h3 h4 => ?_⟩
  rw [aNew_0.1] at h1
  rw [aNew_1] at h4
  rw [aNew_0.2.1, show (M 0 2 + 1).toNat = (M 0 2).toNat + 1 by omega, msk_up, h.2 c v h0 h1 h3 h4, msk_cg (F := F1) (G := F) _ (fun a ha => e2 a c (by omega)), show (((M 0 2).toNat : Nat) : Int) = M 0 2 by omega, e1]
  by_cases q : tv K (G c) v = 1
  · rw [if_pos ⟨by omega, q⟩, if_pos q]
  · rw [if_neg (fun w => q w.2), if_neg q]
end
