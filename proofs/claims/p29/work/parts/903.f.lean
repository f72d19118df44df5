/-! The sets of arms by value, the unlike ones in the order in which they come. -/
def dsl (f : Int → Int) : Nat → List Int
  | 0 => []
  | n + 1 => if f (n : Int) ∈ dsl f n then dsl f n else dsl f n ++ [f (n : Int)]
theorem dsl_in {f : Int → Int} {n : Nat} (h : f (n : Int) ∈ dsl f n) : dsl f (n + 1) = dsl f n := by
  show (if f (n : Int) ∈ dsl f n then dsl f n else _) = _
  rw [if_pos h]
theorem dsl_no {f : Int → Int} {n : Nat} (h : ¬ f (n : Int) ∈ dsl f n) : dsl f (n + 1) = dsl f n ++ [f (n : Int)] := by
  show (if f (n : Int) ∈ dsl f n then dsl f n else _) = _
  rw [if_neg h]
theorem dsl_le {f : Int → Int} : ∀ n : Nat, (dsl f n).length ≤ n := by
  intro n
  induction n with
  | zero => exact Nat.le_refl 0
  | succ n ih =>
    by_cases h : f (n : Int) ∈ dsl f n
    · rw [dsl_in h]; omega
    · rw [dsl_no h, List.length_append]
      show (dsl f n).length + 1 ≤ n + 1
      omega
theorem dsl_mem {f : Int → Int} : ∀ (n v : Nat), v < n → f (v : Int) ∈ dsl f n := by
  intro n
  induction n with
  | zero => intro v h; omega
  | succ n ih =>
    intro v h
    by_cases e : v = n
    · subst e
      by_cases h1 : f (v : Int) ∈ dsl f v
      · rw [dsl_in h1]; exact h1
      · rw [dsl_no h1]; exact List.mem_append_right _ (List.mem_singleton.mpr rfl)
    · have q := ih v (by omega)
      by_cases h1 : f (n : Int) ∈ dsl f n
      · rw [dsl_in h1]; exact q
      · rw [dsl_no h1]; exact List.mem_append_left _ q
theorem dsl_sub {f : Int → Int} : ∀ (n : Nat) (x : Int), x ∈ dsl f n → ∃ v : Nat, v < n ∧ x = f (v : Int) := by
  intro n
  induction n with
  | zero => intro x h; exact absurd h (by simp [dsl])
  | succ n ih =>
    intro x h
    by_cases h1 : f (n : Int) ∈ dsl f n
    · rw [dsl_in h1] at h
      obtain ⟨v, a, b⟩ := ih x h
      exact ⟨v, by omega, b⟩
    · rw [dsl_no h1] at h
      rcases List.mem_append.mp h with q | q
      · obtain ⟨v, a, b⟩ := ih x q
        exact ⟨v, by omega, b⟩
      · exact ⟨n, by omega, List.mem_singleton.mp q⟩
theorem getD_l {D E : List Int} {i : Nat} (h : i < D.length) : (D ++ E).getD i 0 = D.getD i 0 := by
  rw [List.getD_eq_getElem?_getD, List.getD_eq_getElem?_getD, List.getElem?_append_left h]
theorem getD_r {D : List Int} {x : Int} : (D ++ [x]).getD D.length 0 = x := by
  rw [List.getD_eq_getElem?_getD, List.getElem?_append_right (Nat.le_refl _), Nat.sub_self]
  rfl
theorem getD_m {D : List Int} {i : Nat} (h : i < D.length) : D.getD i 0 ∈ D := by
  rw [List.getD_eq_getElem?_getD, List.getElem?_eq_getElem h]
  exact List.getElem_mem h
/-- one column's sets: its first n values -/
abbrev mkf (K M : PH) (F : FT) (c : Int) : Int → Int := fun v => msk K F c v (M 0 2).toNat
def LYc (K M : PH) (F : FT) (c n : Int) (P : PH) : Prop := 0 ≤ n ∧ P 33 c = ((dsl (mkf K M F c) n.toNat).length : Int) ∧ (∀ i : Nat, i < (dsl (mkf K M F c) n.toNat).length → P 32 (2010 * c + (i : Int)) = (dsl (mkf K M F c) n.toNat).getD i 0) ∧
  ∀ v : Int, 0 ≤ v → v < n → 0 ≤ P 31 (2010 * c + v) ∧ P 31 (2010 * c + v) < ((dsl (mkf K M F c) n.toNat).length : Int) ∧ (dsl (mkf K M F c) n.toNat).getD (P 31 (2010 * c + v)).toNat 0 = mkf K M F c v
theorem LYc.fr {K M : PH} {F : FT} {c n : Int} {P P1 : PH} {G : FS} (h : LYc K M F c n P) (hf : FrM G P P1) (hd : disF G ([], [31, 32, 33]) = true) : LYc K M F c n P1 := by
  unfold LYc at h ⊢
  rw [disF_o hd hf (o := 31) (by decide) rfl, disF_o hd hf (o := 32) (by decide) rfl, disF_o hd hf (o := 33) (by decide) rfl]
  exact h
/-- the columns ahead of c -/
def LYs (K M : PH) (F : FT) (c : Int) (P : PH) : Prop := ∀ d : Int, 0 ≤ d → d < c → LYc K M F d (sz K (M 1 d)) P
theorem LYs.fr {K M : PH} {F : FT} {c : Int} {P P1 : PH} {G : FS} (h : LYs K M F c P) (hf : FrM G P P1) (hd : disF G ([], [31, 32, 33]) = true) : LYs K M F c P1 := fun d d0 d1 => (h d d0 d1).fr hf hd
/-- the sets' numbers -/
def SNx (D : List Int) (P : PH) : Prop := ∀ s : Int, 0 ≤ s → s < 4096 → (P 34 s = -1 ∧ ¬ s ∈ D) ∨ (0 ≤ P 34 s ∧ P 34 s < (D.length : Int) ∧ D.getD (P 34 s).toNat 0 = s)
theorem SNx.fr {D : List Int} {P P1 : PH} {G : FS} (h : SNx D P) (hf : FrM G P P1) (hd : disF G ([], [34]) = true) : SNx D P1 := by
  unfold SNx at h ⊢
  rw [disF_o hd hf (o := 34) (by decide) rfl]
  exact h
def LYT (K M : PH) (F : FT) (P : PH) : Prop := LYs K M F (M 0 0) P
theorem LYT.fr {K M : PH} {F : FT} {P P1 : PH} {G : FS} (h : LYT K M F P) (hf : FrM G P P1) (hd : disF G ([], [31, 32, 33]) = true) : LYT K M F P1 := LYs.fr h hf hd
section LYS
variable {K M : PH} {F : FT} {c n st z : Int} {P P1 : PH}
theorem LYs.other (h : LYs K M F c P) (hc : 0 ≤ c) (hz : ∀ d : Int, 0 ≤ d → d < c → sz K (M 1 d) ≤ 2006) (o31 : ∀ j : Int, j < 2010 * c → P1 31 j = P 31 j) (o32 : ∀ j : Int, j < 2010 * c → P1 32 j = P 32 j) (o33 : ∀ j : Int, j < c → P1 33 j = P 33 j) : LYs K M F c P1 := fun d d0 d1 => by
  obtain ⟨a0, a1, a2, a3⟩ := h d d0 d1
  have hl := dsl_le (f := mkf K M F d) (sz K (M 1 d)).toNat
  have hz := hz d d0 d1
  refine ⟨a0, (o33 d d1).trans a1, fun i hi => (o32 _ (by omega)).trans (a2 i hi), fun v v0 v1 => ?_⟩
  rw [o31 _ (by omega)]
  exact a3 v v0 v1
theorem LYc.start (h33 : P 33 c = 0) : LYc K M F c 0 P := ⟨Int.le_refl 0, h33, fun i hi => absurd hi (Nat.not_lt_zero _), fun v v0 v1 => by omega⟩
theorem SNx.start (h : ∀ s : Int, 0 ≤ s → s < 4096 → P 34 s = -1) : SNx (dsl (mkf K M F c) 0) P := fun s s0 s1 => Or.inl ⟨h s s0 s1, by simp [dsl]⟩
theorem LYc.up (h0 : 0 ≤ n) : (n + 1).toNat = n.toNat + 1 ∧ ((n.toNat : Nat) : Int) = n := ⟨by omega, by omega⟩
/-- a value whose set is there already -/
theorem LYc.old (h : LYc K M F c n P) (hs : SNx (dsl (mkf K M F c) n.toNat) P) (e : st = mkf K M F c n) (hb : 0 ≤ st ∧ st < 4096) (h34 : P 34 st ≠ -1) (o32 : ∀ j, P1 32 j = P 32 j) (o33 : ∀ j, P1 33 j = P 33 j) (s31 : P1 31 (2010 * c + n) = P 34 st) (o31 : ∀ j : Int, j ≠ 2010 * c + n → P1 31 j = P 31 j) (o34 : ∀ j, P1 34 j = P 34 j) : LYc K M F c (n + 1) P1 ∧ SNx (dsl (mkf K M F c) (n + 1).toNat) P1 := by
  obtain ⟨a0, a1, a2, a3⟩ := h
  obtain ⟨b1, b2, b3⟩ := (hs st hb.1 hb.2).resolve_left (fun q => h34 q.1)
  have u := LYc.up a0
  have hm : mkf K M F c ((n.toNat : Nat) : Int) ∈ dsl (mkf K M F c) n.toNat := by
    rw [u.2, ← e, ← b3]
    exact getD_m (by omega)
  rw [u.1, dsl_in hm]
  refine ⟨?_, fun s s0 s1 => by rw [o34]; exact hs s s0 s1⟩
  unfold LYc
  rw [u.1, dsl_in hm]
  refine ⟨by omega, (o33 c).trans a1, fun i hi => (o32 _).trans (a2 i hi), fun v v0 v1 => ?_⟩
  by_cases ev : v = n
  · rw [ev, s31]; exact ⟨b1, b2, b3.trans e⟩
  · rw [o31 _ (by omega)]; exact a3 v v0 (by omega)
/-- a value whose set is new -/
theorem LYc.new (h : LYc K M F c n P) (hs : SNx (dsl (mkf K M F c) n.toNat) P) (e : st = mkf K M F c n) (hb : 0 ≤ st ∧ st < 4096) (h34 : P 34 st = -1) (hz : z = P 33 c) (s32 : P1 32 (2010 * c + z) = st) (o32 : ∀ j : Int, j ≠ 2010 * c + z → P1 32 j = P 32 j) (s33 : P1 33 c = z + 1) (s31 : P1 31 (2010 * c + n) = z) (o31 : ∀ j : Int, j ≠ 2010 * c + n → P1 31 j = P 31 j) (s34 : P1 34 st = z) (o34 : ∀ j : Int, j ≠ st → P1 34 j = P 34 j) : LYc K M F c (n + 1) P1 ∧ SNx (dsl (mkf K M F c) (n + 1).toNat) P1 := by
  obtain ⟨a0, a1, a2, a3⟩ := h
  have hn := ((hs st hb.1 hb.2).resolve_right (fun q => by omega)).2
  have u := LYc.up a0
  have hm : ¬ mkf K M F c ((n.toNat : Nat) : Int) ∈ dsl (mkf K M F c) n.toNat := by rw [u.2, ← e]; exact hn
  have hD := dsl_no hm
  rw [u.2, ← e] at hD
  have hl : (dsl (mkf K M F c) n.toNat ++ [st]).length = (dsl (mkf K M F c) n.toNat).length + 1 := by rw [List.length_append]; rfl
  have hzl : z = ((dsl (mkf K M F c) n.toNat).length : Int) := hz.trans a1
  rw [u.1, hD]
  refine ⟨?_, fun s s0 s1 => ?_⟩
  · unfold LYc
    rw [u.1, hD, hl]
    refine ⟨by omega, by rw [s33, hzl]; omega, fun i hi => ?_, fun v v0 v1 => ?_⟩
    · by_cases ei : i = (dsl (mkf K M F c) n.toNat).length
      · rw [ei, ← hzl, s32, getD_r]
      · rw [o32 _ (by omega), a2 i (by omega), getD_l (by omega)]
    · by_cases ev : v = n
      · rw [ev, s31, hzl]
        refine ⟨by omega, by omega, ?_⟩
        rw [Int.toNat_natCast, getD_r]
        exact e
      · rw [o31 _ (by omega)]
        obtain ⟨q1, q2, q3⟩ := a3 v v0 (by omega)
        exact ⟨q1, by omega, by rw [getD_l (by omega)]; exact q3⟩
  · by_cases es : s = st
    · rw [es, s34, hzl, hl]
      refine Or.inr ⟨by omega, by omega, ?_⟩
      rw [Int.toNat_natCast, getD_r]
    · rw [o34 _ es, hl]
      rcases hs s s0 s1 with q | ⟨q1, q2, q3⟩
      · refine Or.inl ⟨q.1, fun w => ?_⟩
        rcases List.mem_append.mp w with y | y
        · exact q.2 y
        · exact es (List.mem_singleton.mp y)
      · exact Or.inr ⟨q1, by omega, by rw [getD_l (by omega)]; exact q3⟩
theorem LYs.next (h : LYs K M F c P) (h1 : LYc K M F c n P) (e : n = sz K (M 1 c)) : LYs K M F (c + 1) P := fun d d0 d1 => by
  by_cases z : d = c
  · rw [z, ← e]; exact h1
  · exact h d d0 (by omega)
/-- what a value's number tells -/
theorem LYT.set (h : LYT K M F P) (c0 : 0 ≤ c) (c1 : c < M 0 0) {v : Int} (v0 : 0 ≤ v) (v1 : v < sz K (M 1 c)) : 0 ≤ P 31 (2010 * c + v) ∧ P 31 (2010 * c + v) < P 33 c ∧ P 32 (2010 * c + P 31 (2010 * c + v)) = msk K F c v (M 0 2).toNat := by
  obtain ⟨a0, a1, a2, a3⟩ := h c c0 c1
  obtain ⟨b1, b2, b3⟩ := a3 v v0 v1
  refine ⟨b1, by omega, ?_⟩
  have q := a2 (P 31 (2010 * c + v)).toNat (by omega)
  rw [show (((P 31 (2010 * c + v)).toNat : Nat) : Int) = P 31 (2010 * c + v) by omega] at q
  exact q.trans b3
end LYS
theorem msk_12 {K M : PH} {F : FT} {c v : Int} (h : 0 ≤ M 0 2 ∧ M 0 2 ≤ 12) : 0 ≤ mkf K M F c v ∧ mkf K M F c v < 4096 := by
  have q := msk_r (K := K) (F := F) (c := c) (v := v) (M 0 2).toNat
  have e : (2 : Int) ^ (M 0 2).toNat ≤ 4096 := by
    have h1 : (2 : Nat) ^ (M 0 2).toNat ≤ 2 ^ 12 := Nat.pow_le_pow_right (by decide) (by omega)
    have h2 : ((2 : Int) ^ (M 0 2).toNat) = (((2 : Nat) ^ (M 0 2).toNat : Nat) : Int) := by rw [Int.natCast_pow]; rfl
    rw [h2]
    exact Int.ofNat_le.mpr h1
  show 0 ≤ msk K F c v (M 0 2).toNat ∧ msk K F c v (M 0 2).toNat < 4096
  exact ⟨q.1, by omega⟩
/-- an arm's bit more -/
theorem msk_or {K : PH} {F : FT} {c v x : Int} {a : Nat} (ha : a ≤ 11) (hx : x = msk K F c v a) {b : Int} (hb : (b = ishl 1 (a : Int) ∧ tv K (F a c) v = 1) ∨ (b = 0 ∧ tv K (F a c) v ≠ 1)) : ior x b = msk K F c v (a + 1) := by
  have r := msk_r (K := K) (F := F) (c := c) (v := v) a
  rw [msk_up, hx]
  rcases hb with ⟨h1, h2⟩ | ⟨h1, h2⟩
  · rw [if_pos h2, h1, ishl1_all a (by omega), show (((2 ^ a : Nat)) : Int) = (2 : Int) ^ a by rw [Int.natCast_pow]; rfl]
    exact ior_bit ha r
  · rw [if_neg h2, h1, Int.add_zero]
    unfold ior
    have hN : (2 : Int) ^ a ≤ 2048 := by
      have h1 : (2 : Nat) ^ a ≤ 2 ^ 11 := Nat.pow_le_pow_right (by decide) ha
      have h2 : ((2 : Int) ^ a) = (((2 : Nat) ^ a : Nat) : Int) := by rw [Int.natCast_pow]; rfl
      rw [h2]
      exact Int.ofNat_le.mpr h1
    rw [show Int32.ofInt 0 = 0 from rfl, Int32.or_zero]
    exact oI ⟨by omega, by omega⟩
