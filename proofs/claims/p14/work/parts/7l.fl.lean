/-! Constructors' first values: one behind another. -/
def cpr (K : PH) (c : Int) : Int := if K 6 c = 0 then 1 else if K 6 c = 1 then sz K (K 7 c) else sz K (K 7 c) * sz K (K 8 c)
def AB (K : PH) : Prop := ∀ c : Int, 0 ≤ c → c < K 0 1 → (1 ≤ cpr K c ∧ 0 ≤ K 10 c ∧ K 10 c + cpr K c ≤ K 2 (K 5 c)) ∧ (∀ d : Int, c < d → d < K 0 1 → K 5 d = K 5 c → K 10 c + cpr K c ≤ K 10 d) ∧
  (K 10 c + cpr K c = K 2 (K 5 c) ∨ (c + 1 < K 0 1 ∧ K 5 (c + 1) = K 5 c ∧ K 10 (c + 1) = K 10 c + cpr K c)) ∧ (K 10 c = 0 ∨ (0 < c ∧ K 5 (c - 1) = K 5 c))
theorem AB.zero : AB K0 := fun c h0 h1 => absurd h1 (by show ¬ c < 0; omega)
theorem sz_N {K : PH} {v k : Int} (h : k ≠ K 0 0) : sz (kNew K v) k = sz K k := by
  unfold sz
  rw [kNew_2, if_neg h]
theorem cpr_N {K : PH} {v c : Int} (ha : AW K) (h0 : 0 ≤ c) (h1 : c < K 0 1) : cpr (kNew K v) c = cpr K c := by
  have w := ha.2.2.1 c h0 h1
  have e6 : kNew K v 6 = K 6 := kNew_c (by decide) (by decide) (by decide) (by decide) (by decide)
  have e7 : kNew K v 7 = K 7 := kNew_c (by decide) (by decide) (by decide) (by decide) (by decide)
  have e8 : kNew K v 8 = K 8 := kNew_c (by decide) (by decide) (by decide) (by decide) (by decide)
  have s7 : sz (kNew K v) (K 7 c) = sz K (K 7 c) := sz_N (by omega)
  have s8 : sz (kNew K v) (K 8 c) = sz K (K 8 c) := sz_N (by omega)
  unfold cpr
  rw [e6, e7, e8, s7, s8]
theorem AB.kind {K : PH} {v : Int} (h : AB K) (ha : AW K) : AB (kNew K v) := by
  intro c h0 h1
  rw [kNew_0.2] at h1
  have w := ha.2.2.1 c h0 h1
  have e5 : kNew K v 5 = K 5 := kNew_c (by decide) (by decide) (by decide) (by decide) (by decide)
  have e10 : kNew K v 10 = K 10 := kNew_c (by decide) (by decide) (by decide) (by decide) (by decide)
  have e2 : kNew K v 2 (K 5 c) = K 2 (K 5 c) := by rw [kNew_2, if_neg (by omega)]
  rw [cpr_N ha h0 h1, e5, e10, e2, kNew_0.2]
  exact h c h0 h1
section ABC
variable {K : PH} {v n a b i : Int}
theorem sz_C {k : Int} (h : k ≠ K 0 0 - 1) : sz (cNew K v n a b i) k = sz K k := by
  unfold sz
  rw [cNew_2, if_neg h]
theorem cpr_C {c : Int} (ha : AW K) (h0 : 0 ≤ c) (h1 : c < K 0 1) : cpr (cNew K v n a b i) c = cpr K c := by
  have w := ha.2.2.1 c h0 h1
  have hn : c ≠ K 0 1 := by omega
  have s7 : sz (cNew K v n a b i) (K 7 c) = sz K (K 7 c) := sz_C (by omega)
  have s8 : sz (cNew K v n a b i) (K 8 c) = sz K (K 8 c) := sz_C (by omega)
  unfold cpr
  rw [cNew_6, if_neg hn, cNew_7, if_neg hn, cNew_8, if_neg hn, s7, s8]
/-- the number of values by the fields -/
def FI (K : PH) (n a b i : Int) : Prop := (n = 0 ∧ i = 1) ∨ (n = 1 ∧ i = sz K a) ∨ (n = 2 ∧ i = sz K a * sz K b)
theorem cpr_Cn (ha : a < K 0 0 - 1) (hb : b < K 0 0 - 1) (hi : FI K n a b i) : cpr (cNew K v n a b i) (K 0 1) = i := by
  have s7 : sz (cNew K v n a b i) a = sz K a := sz_C (by omega)
  have s8 : sz (cNew K v n a b i) b = sz K b := sz_C (by omega)
  unfold cpr
  rw [cNew_6, if_pos rfl, cNew_7, if_pos rfl, cNew_8, if_pos rfl, s7, s8]
  rcases hi with ⟨h1, h2⟩ | ⟨h1, h2⟩ | ⟨h1, h2⟩
  · rw [if_pos h1, h2]
  · rw [if_neg (by omega), if_pos h1, h2]
  · rw [if_neg (by omega), if_neg (by omega), h2]
theorem AB.con (h : AB K) (hw : AW K) (hk : 1 ≤ K 0 0) (ha : -1 ≤ a ∧ a < K 0 0 - 1) (hb : -1 ≤ b ∧ b < K 0 0 - 1) (hi1 : 1 ≤ i) (hi : FI K n a b i) : AB (cNew K v n a b i) := by
  have hL := hw.2.1 (K 0 0 - 1) (by omega) (by omega)
  have hN0 := hw.1
  have c5 : ∀ d : Int, d < K 0 1 → cNew K v n a b i 5 d = K 5 d := fun d hd => by rw [cNew_5, if_neg (by omega)]
  have c10 : ∀ d : Int, d < K 0 1 → cNew K v n a b i 10 d = K 10 d := fun d hd => by rw [cNew_10, if_neg (by omega)]
  have n5 : cNew K v n a b i 5 (K 0 1) = K 0 0 - 1 := by rw [cNew_5, if_pos rfl]
  have n10 : cNew K v n a b i 10 (K 0 1) = K 2 (K 0 0 - 1) := by rw [cNew_10, if_pos rfl]
  have nL : cNew K v n a b i 2 (K 0 0 - 1) = K 2 (K 0 0 - 1) + i := by rw [cNew_2, if_pos rfl]
  have oL : ∀ k : Int, k ≠ K 0 0 - 1 → cNew K v n a b i 2 k = K 2 k := fun k hk => by rw [cNew_2, if_neg hk]
  intro c h0 h1
  rw [cNew_0.2] at h1 ⊢
  by_cases e : c = K 0 1
  · rw [e, cpr_Cn ha.2 hb.2 hi, n5, n10, nL]
    refine ⟨⟨hi1, by omega, by omega⟩, fun d hd1 hd2 => by omega, Or.inl rfl, ?_⟩
    by_cases z : K 3 (K 0 0 - 1) = 0
    · exact Or.inl (by omega)
    · refine Or.inr ⟨by omega, ?_⟩
      rw [c5 _ (by omega)]
      exact (hw.2.2.2 (K 0 1 - 1) (K 0 0 - 1) (by omega) (by omega) (by omega) (by omega)).mpr (by omega)
  · have h1 : c < K 0 1 := by omega
    have w := hw.2.2.1 c h0 h1
    obtain ⟨⟨a1, a2, a3⟩, a4, a5, a6⟩ := h c h0 h1
    rw [cpr_C hw h0 h1, c5 c h1, c10 c h1]
    have h2 : cNew K v n a b i 2 (K 5 c) = K 2 (K 5 c) ∨ (K 5 c = K 0 0 - 1 ∧ cNew K v n a b i 2 (K 5 c) = K 2 (K 0 0 - 1) + i) := by
      by_cases z : K 5 c = K 0 0 - 1
      · rw [z]; exact Or.inr ⟨rfl, nL⟩
      · exact Or.inl (oL _ z)
    have h3 : K 5 c = K 0 0 - 1 → K 2 (K 5 c) = K 2 (K 0 0 - 1) := fun z => by rw [z]
    refine ⟨⟨a1, a2, by omega⟩, fun d hd1 hd2 hd3 => ?_, ?_, ?_⟩
    · by_cases z : d = K 0 1
      · rw [z, n5] at hd3
        rw [z, n10]
        omega
      · rw [c5 d (by omega)] at hd3
        rw [c10 d (by omega)]
        exact a4 d hd1 (by omega) hd3
    · rcases a5 with q | ⟨q1, q2, q3⟩
      · by_cases z : K 5 c = K 0 0 - 1
        · have hc1 : c + 1 = K 0 1 := by
            by_cases y : c + 1 < K 0 1
            · have hc := (hw.2.2.2 c (K 0 0 - 1) h0 h1 (by omega) (by omega)).mp z
              have hc2 := (hw.2.2.2 (c + 1) (K 0 0 - 1) (by omega) y (by omega) (by omega)).mpr (by omega)
              obtain ⟨⟨b1, b2, b3⟩, -⟩ := h (c + 1) (by omega) y
              have b4 := a4 (c + 1) (by omega) y (by omega)
              rw [hc2] at b3
              omega
            · omega
          refine Or.inr ⟨by omega, ?_, ?_⟩
          · rw [hc1, n5]; omega
          · rw [hc1, n10]; omega
        · exact Or.inl (by rw [oL _ z]; exact q)
      · refine Or.inr ⟨by omega, ?_, ?_⟩
        · rw [c5 _ q1]; exact q2
        · rw [c10 _ q1]; exact q3
    · rcases a6 with q | ⟨q1, q2⟩
      · exact Or.inl q
      · refine Or.inr ⟨q1, ?_⟩
        rw [c5 _ (by omega)]; exact q2
end ABC
theorem fld_i {T : TT} {K : PH} : ∀ (r : Nat) (n a b i p : Int), n + r = 2 → 0 ≤ n → FI K n a b i → (fld T K r n a b i p).1 = 0 → FI K (fld T K r n a b i p).2.2.1 (fld T K r n a b i p).2.2.2.1 (fld T K r n a b i p).2.2.2.2.1 (fld T K r n a b i p).2.2.2.2.2 := by
  intro r
  induction r with
  | zero =>
    intro n a b i p hr hn hi h0
    rcases (show kGo T K (K 0 0 - 1) n 2 (K 2 (K 0 0 - 1)) i 2000 p = 1 ∨ kGo T K (K 0 0 - 1) n 2 (K 2 (K 0 0 - 1)) i 2000 p ≠ 1 by omega) with e | e
    · rw [fld_end e]
      exact hi
    · have hs := kGo_s T K (K 0 0 - 1) n 2 (K 2 (K 0 0 - 1)) i 2000 p
      rw [fld_bad e (by omega)] at h0
      exfalso
      have h0 : kGo T K (K 0 0 - 1) n 2 (K 2 (K 0 0 - 1)) i 2000 p = 0 := h0
      omega
  | succ r ih =>
    intro n a b i p hr hn hi h0
    rcases (show kGo T K (K 0 0 - 1) n 2 (K 2 (K 0 0 - 1)) i 2000 p = 1 ∨ kGo T K (K 0 0 - 1) n 2 (K 2 (K 0 0 - 1)) i 2000 p = 0 ∨ (kGo T K (K 0 0 - 1) n 2 (K 2 (K 0 0 - 1)) i 2000 p ≠ 1 ∧ kGo T K (K 0 0 - 1) n 2 (K 2 (K 0 0 - 1)) i 2000 p ≠ 0) by omega) with e | e | e
    · rw [fld_end e]
      exact hi
    · rw [fld_go e] at h0 ⊢
      refine ih (n + 1) (if n = 0 then kHe T K p else a) (if n = 0 then b else kHe T K p) (i * sz K (kHe T K p)) (tE T p) (by omega) (by omega) ?_ h0
      rcases hi with ⟨h1, h2⟩ | ⟨h1, h2⟩ | ⟨h1, h2⟩
      · rw [if_pos h1, h2]
        exact Or.inr (Or.inl ⟨by omega, Int.one_mul _⟩)
      · rw [if_neg (by omega), if_neg (by omega), h2]
        exact Or.inr (Or.inr ⟨by omega, rfl⟩)
      · omega
    · rw [fld_bad e.1 e.2] at h0
      exact absurd h0 e.2
theorem AB.st {T : TT} {K M : PH} {p : Int} (h : AB K) (hw : AW K) (hs : (sSt T K M p).1 = 0) : AB (kSt T K p) := by
  unfold kSt
  unfold sSt at hs
  by_cases h0 : tO T p = 0
  · rw [if_pos h0] at hs ⊢
    exact h.kind hw
  · rw [if_neg h0] at hs ⊢
    by_cases h1 : tO T p = 1
    · rw [if_pos h1] at hs ⊢
      have hc := sCo_s T K M p
      have hf := fre_s T K (tE T p)
      have e : (fre T K (tE T p)).1 = 0 := by omega
      have e2 : (fre T K (tE T p)).2 = tE T (tE T p) := by omega
      rw [e2] at hc
      have hx : (fldX T K (tE T (tE T p))).1 = 0 := by omega
      have hx2 := fldX_w hw (by omega) (tE T (tE T p)) hx
      have hi : FI K (fldX T K (tE T (tE T p))).2.2.1 (fldX T K (tE T (tE T p))).2.2.2.1 (fldX T K (tE T (tE T p))).2.2.2.2.1 (fldX T K (tE T (tE T p))).2.2.2.2.2 := by
        unfold fldX at hx ⊢
        exact fld_i 2 0 (-1) (-1) 1 _ (by decide) (by decide) (Or.inl ⟨rfl, rfl⟩) hx
      unfold kCo
      exact h.con hw (by omega) hx2.2.2.1 hx2.2.2.2.1 hx2.2.2.2.2.1 hi
    · rw [if_neg h1]
      exact h
theorem mlo_b {T : TT} : ∀ (r : Nat) (n : Int) (K M : PH) (p : Int), AW K → AB K → (mlo T r n K M p).1 = 0 → AB (mlo T r n K M p).2.2.1 := by
  intro r
  induction r with
  | zero =>
    intro n K M p hw ha h0
    by_cases e : tK T p = 0
    · rw [mlo_end e]; exact ha
    · rw [mlo_much e] at h0
      exact absurd h0 (show (6 : Int) ≠ 0 by decide)
  | succ r ih =>
    intro n K M p hw ha h0
    by_cases e : tK T p = 0
    · rw [mlo_end e]; exact ha
    · by_cases h1 : (sSt T K M p).1 = 0
      · by_cases h2 : (sgn T 59 (sSt T K M p).2).1 = 0
        · rw [mlo_go e h1 h2] at h0 ⊢
          exact ih _ _ _ _ (hw.st h1) (ha.st hw h1) h0
        · rw [mlo_eF e h1 h2] at h0
          exact absurd h0 h2
      · rw [mlo_sF e h1] at h0
        exact absurd h0 h1
theorem mlR_b {T : TT} (h : (mlR T).1 = 0) : AB (mlR T).2.2.1 := mlo_b 60 0 K0 M0 0 AW.zero AB.zero h
/-! Values read: a small machine over a stack of (constructor, field, what is read of it). -/
abbrev SV : Type := List (Int × Int × Int)
def fK (K : PH) (c f : Int) : Int := if f = 0 then K 7 c else K 8 c
def vrun (T : TT) (K : PH) : Nat → Int → SV → Int → Int → Int → Option (Int × Int × Int)
  | 0, _, _, _, _, _ => none
  | n + 1, m, s, k, p, v =>
    if m = 0 then
      (if k = -1 then (if (num T 0 19 p).1 = 0 then vrun T K n 1 s 0 (tE T p) (tV T p) else some ((num T 0 19 p).1, (num T 0 19 p).2, 0))
      else if (cas T K k p).1 = 0 then
        (if K 6 (cNm K (tV T p)) = 0 then vrun T K n 1 s 0 (tE T p) (K 10 (cNm K (tV T p)))
        else if (sgn T 40 (tE T p)).1 = 0 then vrun T K n 0 ((cNm K (tV T p), 0, 0) :: s) (K 7 (cNm K (tV T p))) (tE T (tE T p)) 0
        else some ((sgn T 40 (tE T p)).1, (sgn T 40 (tE T p)).2, 0))
      else some ((cas T K k p).1, (cas T K k p).2, 0))
    else match s with
      | [] => some (0, p, v)
      | (c, f, a) :: s1 =>
        if f + 1 < K 6 c then (if (sgn T 44 p).1 = 0 then vrun T K n 0 ((c, f + 1, a * sz K (fK K c f) + v) :: s1) (K 8 c) (tE T p) 0 else some ((sgn T 44 p).1, (sgn T 44 p).2, 0))
        else if (sgn T 41 p).1 = 0 then vrun T K n 1 s1 0 (tE T p) (K 10 c + (a * sz K (fK K c f) + v)) else some ((sgn T 41 p).1, (sgn T 41 p).2, 0)
def VRs (T : TT) (K : PH) (m : Int) (s : SV) (k p v : Int) (x : Int × Int × Int) : Prop := ∃ n, vrun T K n m s k p v = some x
theorem vrun_eq (T : TT) (K : PH) (n : Nat) (m : Int) (s : SV) (k p v : Int) : vrun T K (n + 1) m s k p v = (if m = 0 then
      (if k = -1 then (if (num T 0 19 p).1 = 0 then vrun T K n 1 s 0 (tE T p) (tV T p) else some ((num T 0 19 p).1, (num T 0 19 p).2, 0))
      else if (cas T K k p).1 = 0 then
        (if K 6 (cNm K (tV T p)) = 0 then vrun T K n 1 s 0 (tE T p) (K 10 (cNm K (tV T p)))
        else if (sgn T 40 (tE T p)).1 = 0 then vrun T K n 0 ((cNm K (tV T p), 0, 0) :: s) (K 7 (cNm K (tV T p))) (tE T (tE T p)) 0
        else some ((sgn T 40 (tE T p)).1, (sgn T 40 (tE T p)).2, 0))
      else some ((cas T K k p).1, (cas T K k p).2, 0))
    else match s with
      | [] => some (0, p, v)
      | (c, f, a) :: s1 =>
        if f + 1 < K 6 c then (if (sgn T 44 p).1 = 0 then vrun T K n 0 ((c, f + 1, a * sz K (fK K c f) + v) :: s1) (K 8 c) (tE T p) 0 else some ((sgn T 44 p).1, (sgn T 44 p).2, 0))
        else if (sgn T 41 p).1 = 0 then vrun T K n 1 s1 0 (tE T p) (K 10 c + (a * sz K (fK K c f) + v)) else some ((sgn T 41 p).1, (sgn T 41 p).2, 0)) := by cases s <;> rfl
theorem vrun_up (T : TT) (K : PH) (x : Int × Int × Int) : ∀ (n : Nat) (m : Int) (s : SV) (k p v : Int), vrun T K n m s k p v = some x → vrun T K (n + 1) m s k p v = some x := by
  intro n
  induction n with
  | zero => intro m s k p v h; cases h
  | succ n ih =>
    intro m s k p v h
    rw [vrun_eq] at h ⊢
    by_cases h1 : m = 0
    · rw [if_pos h1] at h ⊢
      by_cases h3 : k = -1
      · rw [if_pos h3] at h ⊢
        by_cases h4 : (num T 0 19 p).1 = 0
        · rw [if_pos h4] at h ⊢; exact ih _ _ _ _ _ h
        · rw [if_neg h4] at h ⊢; exact h
      · rw [if_neg h3] at h ⊢
        by_cases h4 : (cas T K k p).1 = 0
        · rw [if_pos h4] at h ⊢
          by_cases h5 : K 6 (cNm K (tV T p)) = 0
          · rw [if_pos h5] at h ⊢; exact ih _ _ _ _ _ h
          · rw [if_neg h5] at h ⊢
            by_cases h6 : (sgn T 40 (tE T p)).1 = 0
            · rw [if_pos h6] at h ⊢; exact ih _ _ _ _ _ h
            · rw [if_neg h6] at h ⊢; exact h
        · rw [if_neg h4] at h ⊢; exact h
    · rw [if_neg h1] at h ⊢
      cases s with
      | nil => exact h
      | cons c s1 =>
        obtain ⟨c, f, a⟩ := c
        have h : (if f + 1 < K 6 c then (if (sgn T 44 p).1 = 0 then vrun T K n 0 ((c, f + 1, a * sz K (fK K c f) + v) :: s1) (K 8 c) (tE T p) 0 else some ((sgn T 44 p).1, (sgn T 44 p).2, 0)) else if (sgn T 41 p).1 = 0 then vrun T K n 1 s1 0 (tE T p) (K 10 c + (a * sz K (fK K c f) + v)) else some ((sgn T 41 p).1, (sgn T 41 p).2, 0)) = some x := h
        show (if f + 1 < K 6 c then (if (sgn T 44 p).1 = 0 then vrun T K (n + 1) 0 ((c, f + 1, a * sz K (fK K c f) + v) :: s1) (K 8 c) (tE T p) 0 else some ((sgn T 44 p).1, (sgn T 44 p).2, 0)) else if (sgn T 41 p).1 = 0 then vrun T K (n + 1) 1 s1 0 (tE T p) (K 10 c + (a * sz K (fK K c f) + v)) else some ((sgn T 41 p).1, (sgn T 41 p).2, 0)) = some x
        by_cases h3 : f + 1 < K 6 c
        · rw [if_pos h3] at h ⊢
          by_cases h4 : (sgn T 44 p).1 = 0
          · rw [if_pos h4] at h ⊢; exact ih _ _ _ _ _ h
          · rw [if_neg h4] at h ⊢; exact h
        · rw [if_neg h3] at h ⊢
          by_cases h4 : (sgn T 41 p).1 = 0
          · rw [if_pos h4] at h ⊢; exact ih _ _ _ _ _ h
          · rw [if_neg h4] at h ⊢; exact h
theorem vrun_le {T : TT} {K : PH} {x : Int × Int × Int} {n : Nat} {m : Int} {s : SV} {k p v : Int} (h : vrun T K n m s k p v = some x) : ∀ j : Nat, vrun T K (n + j) m s k p v = some x := by
  intro j
  induction j with
  | zero => exact h
  | succ j ih => exact vrun_up T K x (n + j) m s k p v ih
theorem VRs.fn {T : TT} {K : PH} {m : Int} {s : SV} {k p v : Int} {x y : Int × Int × Int} (h : VRs T K m s k p v x) (h2 : VRs T K m s k p v y) : x = y := by
  obtain ⟨n, hn⟩ := h
  obtain ⟨j, hj⟩ := h2
  have e1 := vrun_le hn j
  have e2 := vrun_le hj n
  rw [Nat.add_comm] at e2
  rw [e1] at e2
  exact Option.some.inj e2
section VN
variable {T : TT} {K : PH} {s : SV} {k p v : Int} {x : Int × Int × Int}
theorem VRs.nu0 (hk : k = -1) (hg : (num T 0 19 p).1 = 0) (hr : VRs T K 1 s 0 (tE T p) (tV T p) x) : VRs T K 0 s k p v x := by
  obtain ⟨n, hn⟩ := hr
  refine ⟨n + 1, ?_⟩
  rw [vrun_eq, if_pos rfl, if_pos hk, if_pos hg]
  exact hn
theorem VRs.numF (hk : k = -1) (hg : (num T 0 19 p).1 ≠ 0) : VRs T K 0 s k p v ((num T 0 19 p).1, (num T 0 19 p).2, 0) := by
  refine ⟨1, ?_⟩
  rw [vrun_eq, if_pos rfl, if_pos hk, if_neg hg]
theorem VRs.caseF (hk : k ≠ -1) (hg : (cas T K k p).1 ≠ 0) : VRs T K 0 s k p v ((cas T K k p).1, (cas T K k p).2, 0) := by
  refine ⟨1, ?_⟩
  rw [vrun_eq, if_pos rfl, if_neg hk, if_neg hg]
theorem VRs.case0 (hk : k ≠ -1) (hg : (cas T K k p).1 = 0) (h6 : K 6 (cNm K (tV T p)) = 0) (hr : VRs T K 1 s 0 (tE T p) (K 10 (cNm K (tV T p))) x) : VRs T K 0 s k p v x := by
  obtain ⟨n, hn⟩ := hr
  refine ⟨n + 1, ?_⟩
  rw [vrun_eq, if_pos rfl, if_neg hk, if_pos hg, if_pos h6]
  exact hn
theorem VRs.intoF (hk : k ≠ -1) (hg : (cas T K k p).1 = 0) (h6 : K 6 (cNm K (tV T p)) ≠ 0) (hs : (sgn T 40 (tE T p)).1 ≠ 0) : VRs T K 0 s k p v ((sgn T 40 (tE T p)).1, (sgn T 40 (tE T p)).2, 0) := by
  refine ⟨1, ?_⟩
  rw [vrun_eq, if_pos rfl, if_neg hk, if_pos hg, if_neg h6, if_neg hs]
theorem VRs.into (hk : k ≠ -1) (hg : (cas T K k p).1 = 0) (h6 : K 6 (cNm K (tV T p)) ≠ 0) (hs : (sgn T 40 (tE T p)).1 = 0) (hr : VRs T K 0 ((cNm K (tV T p), 0, 0) :: s) (K 7 (cNm K (tV T p))) (tE T (tE T p)) 0 x) : VRs T K 0 s k p v x := by
  obtain ⟨n, hn⟩ := hr
  refine ⟨n + 1, ?_⟩
  rw [vrun_eq, if_pos rfl, if_neg hk, if_pos hg, if_neg h6, if_pos hs]
  exact hn
theorem VRs.done : VRs T K 1 [] k p v (0, p, v) := ⟨1, rfl⟩
theorem VRs.commaF {c f a : Int} (hf : f + 1 < K 6 c) (hs : (sgn T 44 p).1 ≠ 0) : VRs T K 1 ((c, f, a) :: s) k p v ((sgn T 44 p).1, (sgn T 44 p).2, 0) := by
  refine ⟨1, ?_⟩
  rw [vrun_eq, if_neg (by decide)]
  show (if f + 1 < K 6 c then _ else _) = _
  rw [if_pos hf, if_neg hs]
theorem VRs.comma {c f a : Int} (hf : f + 1 < K 6 c) (hs : (sgn T 44 p).1 = 0) (hr : VRs T K 0 ((c, f + 1, a * sz K (fK K c f) + v) :: s) (K 8 c) (tE T p) 0 x) : VRs T K 1 ((c, f, a) :: s) k p v x := by
  obtain ⟨n, hn⟩ := hr
  refine ⟨n + 1, ?_⟩
  rw [vrun_eq, if_neg (by decide)]
  show (if f + 1 < K 6 c then _ else _) = _
  rw [if_pos hf, if_pos hs]
  exact hn
theorem VRs.closeF {c f a : Int} (hf : ¬ f + 1 < K 6 c) (hs : (sgn T 41 p).1 ≠ 0) : VRs T K 1 ((c, f, a) :: s) k p v ((sgn T 41 p).1, (sgn T 41 p).2, 0) := by
  refine ⟨1, ?_⟩
  rw [vrun_eq, if_neg (by decide)]
  show (if f + 1 < K 6 c then _ else _) = _
  rw [if_neg hf, if_neg hs]
theorem VRs.close {c f a : Int} (hf : ¬ f + 1 < K 6 c) (hs : (sgn T 41 p).1 = 0) (hr : VRs T K 1 s 0 (tE T p) (K 10 c + (a * sz K (fK K c f) + v)) x) : VRs T K 1 ((c, f, a) :: s) k p v x := by
  obtain ⟨n, hn⟩ := hr
  refine ⟨n + 1, ?_⟩
  rw [vrun_eq, if_neg (by decide)]
  show (if f + 1 < K 6 c then _ else _) = _
  rw [if_neg hf, if_pos hs]
  exact hn
end VN
/-- a value: fault, place behind it, the value -/
noncomputable def val (T : TT) (K : PH) (k p : Int) : Int × Int × Int := Classical.epsilon fun x => VRs T K 0 [] k p 0 x
theorem VRs.val {T : TT} {K : PH} {k p : Int} {x : Int × Int × Int} (h : VRs T K 0 [] k p 0 x) : val T K k p = x := (Classical.epsilon_spec (p := fun x => VRs T K 0 [] k p 0 x) ⟨x, h⟩).fn h
/-- the columns' values one behind another -/
noncomputable def rwl (T : TT) (K M : PH) : Nat → Int → Int → Int → Int × Int × Int
  | 0, _, p, a => (0, p, a)
  | r + 1, c, p, a =>
    if 0 < c ∧ (sgn T 44 p).1 ≠ 0 then ((sgn T 44 p).1, (sgn T 44 p).2, 0)
    else if (val T K (M 1 c) (if 0 < c then tE T p else p)).1 ≠ 0 then val T K (M 1 c) (if 0 < c then tE T p else p)
    else rwl T K M r (c + 1) (val T K (M 1 c) (if 0 < c then tE T p else p)).2.1 (a * sz K (M 1 c) + (val T K (M 1 c) (if 0 < c then tE T p else p)).2.2)
theorem rwl_sF {T : TT} {K M : PH} {r : Nat} {c p a : Int} (h : 0 < c) (hs : (sgn T 44 p).1 ≠ 0) : rwl T K M (r + 1) c p a = ((sgn T 44 p).1, (sgn T 44 p).2, 0) := by
  show (if 0 < c ∧ (sgn T 44 p).1 ≠ 0 then _ else _) = _
  rw [if_pos ⟨h, hs⟩]
theorem rwl_p0 {T : TT} {K M : PH} {r : Nat} {c p a : Int} (h : c ≤ 0) : rwl T K M (r + 1) c p a = if (val T K (M 1 c) p).1 ≠ 0 then val T K (M 1 c) p else rwl T K M r (c + 1) (val T K (M 1 c) p).2.1 (a * sz K (M 1 c) + (val T K (M 1 c) p).2.2) := by
  show (if 0 < c ∧ (sgn T 44 p).1 ≠ 0 then _ else _) = _
  rw [if_neg (fun q => by omega), if_neg (show ¬ 0 < c by omega)]
theorem rwl_p1 {T : TT} {K M : PH} {r : Nat} {c p a : Int} (h : 0 < c) (hs : (sgn T 44 p).1 = 0) : rwl T K M (r + 1) c p a = if (val T K (M 1 c) (tE T p)).1 ≠ 0 then val T K (M 1 c) (tE T p) else rwl T K M r (c + 1) (val T K (M 1 c) (tE T p)).2.1 (a * sz K (M 1 c) + (val T K (M 1 c) (tE T p)).2.2) := by
  show (if 0 < c ∧ (sgn T 44 p).1 ≠ 0 then _ else _) = _
  rw [if_neg (fun q => q.2 hs), if_pos h]
/-- a row's text: fault, place, the row -/
noncomputable def rwR (T : TT) (K M : PH) : Int × Int × Int :=
  if M 0 0 ≤ 0 then (1, 0, 0) else if (rwl T K M (M 0 0).toNat 0 0 0).1 ≠ 0 then rwl T K M (M 0 0).toNat 0 0 0
  else if tK T (rwl T K M (M 0 0).toNat 0 0 0).2.1 = 0 then (0, -1, (rwl T K M (M 0 0).toNat 0 0 0).2.2) else (1, fh T (rwl T K M (M 0 0).toNat 0 0 0).2.1, 0)
