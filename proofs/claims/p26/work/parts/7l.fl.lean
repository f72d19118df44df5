section
/-! Constructors' first values: one behind another. -/
def AB (K : PH) : Prop := ∀ c : Int, 0 ≤ c → c < K 0 1 → (1 ≤ cpr K c ∧ 0 ≤ K 10 c ∧ K 10 c + cpr K c ≤ K 2 (K 5 c)) ∧ (∀ d : Int, c < d → d < K 0 1 → K 5 d = K 5 c → K 10 c + cpr K c ≤ K 10 d) ∧
  (K 10 c + cpr K c = K 2 (K 5 c) ∨ (c + 1 < K 0 1 ∧ K 5 (c + 1) = K 5 c ∧ K 10 (c + 1) = K 10 c + cpr K c)) ∧ (K 10 c = 0 ∨ (0 < c ∧ K 5 (c - 1) = K 5 c))
theorem AB.zero : AB K0 := fun c h0 h1 => absurd h1 (by show ¬ c < 0; omega)
theorem sz_N {K : PH} {v k : Int} (h : k ≠ K 0 0) : sz (kNew K v) k = sz K k := by
  unfold sz
  rw [kNew_2, if_neg h]
theorem cpr_N {K : PH} {v c : Int} (ha : AW K) (h0 : 0 ≤ c) (h1 : c < K 0 1) : cpr (kNew K v) c = cpr K c := by
  have w := ha.2.2.1 c h0 h1
  have e6 : kNew K v 6 = K 6 := kNew_c (by decide) (by decide) (by decide) (by decide) (by decide)
  have e7 : kNew K v 7 = K 7 := kNew_c (by decide) (by decide) (by decide) (by decide) (by decide)
  have e8 : kNew K v 8 = K 8 := kNew_c (by decide) (by decide) (by decide) (by decide) (by decide)
  have s7 : sz (kNew K v) (K 7 c) = sz K (K 7 c) := sz_N (by omega)
  have s8 : sz (kNew K v) (K 8 c) = sz K (K 8 c) := sz_N (by omega)
  unfold cpr
  rw [e6, e7, e8, s7, s8]
theorem AB.kind {K : PH} {v : Int} (h : AB K) (ha : AW K) : AB (kNew K v) := by
  intro c h0 h1
  rw [kNew_0.2] at h1
  have w := ha.2.2.1 c h0 h1
  have e5 : kNew K v 5 = K 5 := kNew_c (by decide) (by decide) (by decide) (by decide) (by decide)
  have e10 : kNew K v 10 = K 10 := kNew_c (by decide) (by decide) (by decide) (by decide) (by decide)
  have e2 : kNew K v 2 (K 5 c) = K 2 (K 5 c) := by rw [kNew_2, if_neg (by omega)]
  rw [cpr_N ha h0 h1, e5, e10, e2, kNew_0.2]
  exact h c h0 h1
section ABC
variable {K : PH} {v n a b i : Int}
theorem sz_C {k : Int} (h : k ≠ K 0 0 - 1) : sz (cNew K v n a b i) k = sz K k := by
  unfold sz
  rw [cNew_2, if_neg h]
theorem cpr_C {c : Int} (ha : AW K) (h0 : 0 ≤ c) (h1 : c < K 0 1) : cpr (cNew K v n a b i) c = cpr K c := by
  have w := ha.2.2.1 c h0 h1
  have hn : c ≠ K 0 1 := by omega
  have s7 : sz (cNew K v n a b i) (K 7 c) = sz K (K 7 c) := sz_C (by omega)
  have s8 : sz (cNew K v n a b i) (K 8 c) = sz K (K 8 c) := sz_C (by omega)
  unfold cpr
  rw [cNew_6, if_neg hn, cNew_7, if_neg hn, cNew_8, if_neg hn, s7, s8]
/-- the number of values by the fields -/
def FI (K : PH) (n a b i : Int) : Prop := (n = 0 ∧ i = 1) ∨ (n = 1 ∧ i = sz K a) ∨ (n = 2 ∧ i = sz K a * sz K b)
theorem cpr_Cn (ha : a < K 0 0 - 1) (hb : b < K 0 0 - 1) (hi : FI K n a b i) : cpr (cNew K v n a b i) (K 0 1) = i := by
  have s7 : sz (cNew K v n a b i) a = sz K a := sz_C (by omega)
  have s8 : sz (cNew K v n a b i) b = sz K b := sz_C (by omega)
  unfold cpr
  rw [cNew_6, if_pos rfl, cNew_7, if_pos rfl, cNew_8, if_pos rfl, s7, s8]
  rcases hi with ⟨h1, h2⟩ | ⟨h1, h2⟩ | ⟨h1, h2⟩
  · rw [if_pos h1, h2]
  · rw [if_neg (by omega), if_pos h1, h2]
  · rw [if_neg (by omega), if_neg (by omega), h2]
theorem AB.con (h : AB K) (hw : AW K) (hk : 1 ≤ K 0 0) (ha : -1 ≤ a ∧ a < K 0 0 - 1) (hb : -1 ≤ b ∧ b < K 0 0 - 1) (hi1 : 1 ≤ i) (hi : FI K n a b i) : AB (cNew K v n a b i) := by
  have hL := hw.2.1 (K 0 0 - 1) (by omega) (by omega)
  have hN0 := hw.1
  have c5 : ∀ d : Int, d < K 0 1 → cNew K v n a b i 5 d = K 5 d := fun d hd => by rw [cNew_5, if_neg (by omega)]
  have c10 : ∀ d : Int, d < K 0 1 → cNew K v n a b i 10 d = K 10 d := fun d hd => by rw [cNew_10, if_neg (by omega)]
  have n5 : cNew K v n a b i 5 (K 0 1) = K 0 0 - 1 := by rw [cNew_5, if_pos rfl]
  have n10 : cNew K v n a b i 10 (K 0 1) = K 2 (K 0 0 - 1) := by rw [cNew_10, if_pos rfl]
  have nL : cNew K v n a b i 2 (K 0 0 - 1) = K 2 (K 0 0 - 1) + i := by rw [cNew_2, if_pos rfl]
  have oL : ∀ k : Int, k ≠ K 0 0 - 1 → cNew K v n a b i 2 k = K 2 k := fun k hk => by rw [cNew_2, if_neg hk]
  intro c h0 h1
  rw [cNew_0.2] at h1 ⊢
  by_cases e : c = K 0 1
  · rw [e, cpr_Cn ha.2 hb.2 hi, n5, n10, nL]
    refine ⟨⟨hi1, by omega, by omega⟩, fun d hd1 hd2 => by omega, Or.inl rfl, ?_⟩
    by_cases z : K 3 (K 0 0 - 1) = 0
    · exact Or.inl (by omega)
    · refine Or.inr ⟨by omega, ?_⟩
      rw [c5 _ (by omega)]
      exact (hw.2.2.2 (K 0 1 - 1) (K 0 0 - 1) (by omega) (by omega) (by omega) (by omega)).mpr (by omega)
  · have h1 : c < K 0 1 := by omega
    have w := hw.2.2.1 c h0 h1
    obtain ⟨⟨a1, a2, a3⟩, a4, a5, a6⟩ := h c h0 h1
    rw [cpr_C hw h0 h1, c5 c h1, c10 c h1]
    have h2 : cNew K v n a b i 2 (K 5 c) = K 2 (K 5 c) ∨ (K 5 c = K 0 0 - 1 ∧ cNew K v n a b i 2 (K 5 c) = K 2 (K 0 0 - 1) + i) := by
      by_cases z : K 5 c = K 0 0 - 1
      · rw [z]; exact Or.inr ⟨rfl, nL⟩
      · exact Or.inl (oL _ z)
    have h3 : K 5 c = K 0 0 - 1 → K 2 (K 5 c) = K 2 (K 0 0 - 1) := fun z => by rw [z]
    refine ⟨⟨a1, a2, by omega⟩, fun d hd1 hd2 hd3 => ?_, ?_, ?_⟩
    · by_cases z : d = K 0 1
      · rw [z, n5] at hd3
        rw [z, n10]
        omega
      · rw [c5 d (by omega)] at hd3
        rw [c10 d (by omega)]
        exact a4 d hd1 (by omega) hd3
    · rcases a5 with q | ⟨q1, q2, q3⟩
      · by_cases z : K 5 c = K 0 0 - 1
        · have hc1 : c + 1 = K 0 1 := by
            by_cases y : c + 1 < K 0 1
            · have hc := (hw.2.2.2 c (K 0 0 - 1) h0 h1 (by omega) (by omega)).mp z
              have hc2 := (hw.2.2.2 (c + 1) (K 0 0 - 1) (by omega) y (by omega) (by omega)).mpr (by omega)
              obtain ⟨⟨b1, b2, b3⟩, -⟩ := h (c + 1) (by omega) y
              have b4 := a4 (c + 1) (by omega) y (by omega)
              rw [hc2] at b3
              omega
            · omega
          refine Or.inr ⟨by omega, ?_, ?_⟩
          · rw [hc1, n5]; omega
          · rw [hc1, n10]; omega
        · exact Or.inl (by rw [oL _ z]; exact q)
      · refine Or.inr ⟨by omega, ?_, ?_⟩
        · rw [c5 _ q1]; exact q2
        · rw [c10 _ q1]; exact q3
    · rcases a6 with q | ⟨q1, q2⟩
      · exact Or.inl q
      · refine Or.inr ⟨q1, ?_⟩
        rw [c5 _ (by omega)]; exact q2
end ABC
theorem fld_i {T : TT} {K : PH} : ∀ (r : Nat) (n a b i p : Int), n + r = 2 → 0 ≤ n → FI K n a b i → (fld T K r n a b i p).1 = 0 → FI K (fld T K r n a b i p).2.2.1 (fld T K r n a b i p).2.2.2.1 (fld T K r n a b i p).2.2.2.2.1 (fld T K r n a b i p).2.2.2.2.2 := by
  intro r
  induction r with
  | zero =>
    intro n a b i p hr hn hi h0
    rcases (show kGo T K (K 0 0 - 1) n 2 (K 2 (K 0 0 - 1)) i 2000 p = 1 ∨ kGo T K (K 0 0 - 1) n 2 (K 2 (K 0 0 - 1)) i 2000 p ≠ 1 by omega) with e | e
    · rw [fld_end e]
      exact hi
    · have hs := kGo_s T K (K 0 0 - 1) n 2 (K 2 (K 0 0 - 1)) i 2000 p
      rw [fld_bad e (by omega)] at h0
      exfalso
      have h0 : kGo T K (K 0 0 - 1) n 2 (K 2 (K 0 0 - 1)) i 2000 p = 0 := h0
      omega
  | succ r ih =>
    intro n a b i p hr hn hi h0
    rcases (show kGo T K (K 0 0 - 1) n 2 (K 2 (K 0 0 - 1)) i 2000 p = 1 ∨ kGo T K (K 0 0 - 1) n 2 (K 2 (K 0 0 - 1)) i 2000 p = 0 ∨ (kGo T K (K 0 0 - 1) n 2 (K 2 (K 0 0 - 1)) i 2000 p ≠ 1 ∧ kGo T K (K 0 0 - 1) n 2 (K 2 (K 0 0 - 1)) i 2000 p ≠ 0) by omega) with e | e | e
    · rw [fld_end e]
      exact hi
    · rw [fld_go e] at h0 ⊢
      refine ih (n + 1) (if n = 0 then kHe T K p else a) (if n = 0 then b else kHe T K p) (i * sz K (kHe T K p)) (tE T p) (by omega) (by omega) ?_ h0
      rcases hi with ⟨h1, h2⟩ | ⟨h1, h2⟩ | ⟨h1, h2⟩
      · rw [if_pos h1, h2]
        exact Or.inr (Or.inl ⟨by omega, Int.one_mul _⟩)
      · rw [if_neg (by omega), if_neg (by omega), h2]
        exact Or.inr (Or.inr ⟨by omega, rfl⟩)
      · omega
    · rw [fld_bad e.1 e.2] at h0
      exact absurd h0 e.2
theorem AB.st {T : TT} {K M : PH} {p : Int} (h : AB K) (hw : AW K) (hs : (sSt T K M p).1 = 0) : AB (kSt T K p) := by
  unfold kSt
  unfold sSt at hs
  by_cases h0 : tO T p = 0
  · rw [if_pos h0] at hs ⊢
    exact h.kind hw
  · rw [if_neg h0] at hs ⊢
    by_cases h1 : tO T p = 1
    · rw [if_pos h1] at hs ⊢
      have hc := sCo_s T K M p
      have hf := fre_s T K (tE T p)
      have e : (fre T K (tE T p)).1 = 0 := by omega
      have e2 : (fre T K (tE T p)).2 = tE T (tE T p) := by omega
      rw [e2] at hc
      have hx : (fldX T K (tE T (tE T p))).1 = 0 := by omega
      have hx2 := fldX_w hw (by omega) (tE T (tE T p)) hx
      have hi : FI K (fldX T K (tE T (tE T p))).2.2.1 (fldX T K (tE T (tE T p))).2.2.2.1 (fldX T K (tE T (tE T p))).2.2.2.2.1 (fldX T K (tE T (tE T p))).2.2.2.2.2 := by
        unfold fldX at hx ⊢
        exact fld_i 2 0 (-1) (-1) 1 _ (by decide) (by decide) (Or.inl ⟨rfl, rfl⟩) hx
      unfold kCo
      exact h.con hw (by omega) hx2.2.2.1 hx2.2.2.2.1 hx2.2.2.2.2.1 hi
    · rw [if_neg h1]
      exact h
theorem mlo_b {T : TT} : ∀ (r : Nat) (n : Int) (K M : PH) (p : Int), AW K → AB K → (mlo T r n K M p).1 = 0 → AB (mlo T r n K M p).2.2.1 := by
  intro r
  induction r with
  | zero =>
    intro n K M p hw ha h0
    by_cases e : tK T p = 0
    · rw [mlo_end e]; exact ha
    · rw [mlo_much e] at h0
      exact absurd h0 (show (6 : Int) ≠ 0 by decide)
  | succ r ih =>
    intro n K M p hw ha h0
    by_cases e : tK T p = 0
    · rw [mlo_end e]; exact ha
    · by_cases h1 : (sSt T K M p).1 = 0
      · by_cases h2 : (sgn T 59 (sSt T K M p).2).1 = 0
        · rw [mlo_go e h1 h2] at h0 ⊢
          exact ih _ _ _ _ (hw.st h1) (ha.st hw h1) h0
        · rw [mlo_eF e h1 h2] at h0
          exact absurd h0 h2
      · rw [mlo_sF e h1] at h0
        exact absurd h0 h1
theorem mlR_b {T : TT} (h : (mlR T).1 = 0) : AB (mlR T).2.2.1 := mlo_b 60 0 K0 M0 0 AW.zero AB.zero h
/-! Values read: a small machine over a stack of (constructor, field, what is read of it). -/
abbrev SV : Type := List (Int × Int × Int)
def fK (K : PH) (c f : Int) : Int := if f = 0 then K 7 c else K 8 c
def vrun (T : TT) (K : PH) : Nat → Int → SV → Int → Int → Int → Option (Int × Int × Int)
  | 0, _, _, _, _, _ => none
  | n + 1, m, s, k, p, v =>
    if m = 0 then
      (if k = -1 then (if (num T 0 19 p).1 = 0 then vrun T K n 1 s 0 (tE T p) (tV T p) else some ((num T 0 19 p).1, (num T 0 19 p).2, 0))
      else if (cas T K k p).1 = 0 then
        (if K 6 (cNm K (tV T p)) = 0 then vrun T K n 1 s 0 (tE T p) (K 10 (cNm K (tV T p)))
        else if (sgn T 40 (tE T p)).1 = 0 then vrun T K n 0 ((cNm K (tV T p), 0, 0) :: s) (K 7 (cNm K (tV T p))) (tE T (tE T p)) 0
        else some ((sgn T 40 (tE T p)).1, (sgn T 40 (tE T p)).2, 0))
      else some ((cas T K k p).1, (cas T K k p).2, 0))
    else match s with
      | [] => some (0, p, v)
      | (c, f, a) :: s1 =>
        if f + 1 < K 6 c then (if (sgn T 44 p).1 = 0 then vrun T K n 0 ((c, f + 1, a * sz K (fK K c f) + v) :: s1) (K 8 c) (tE T p) 0 else some ((sgn T 44 p).1, (sgn T 44 p).2, 0))
        else if (sgn T 41 p).1 = 0 then vrun T K n 1 s1 0 (tE T p) (K 10 c + (a * sz K (fK K c f) + v)) else some ((sgn T 41 p).1, (sgn T 41 p).2, 0)
def VRs (T : TT) (K : PH) (m : Int) (s : SV) (k p v : Int) (x : Int × Int × Int) : Prop := ∃ n, vrun T K n m s k p v = some x
theorem vrun_eq (T : TT) (K : PH) (n : Nat) (m : Int) (s : SV) (k p v : Int) : vrun T K (n + 1) m s k p v = (if m = 0 then
      (if k = -1 then (if (num T 0 19 p).1 = 0 then vrun T K n 1 s 0 (tE T p) (tV T p) else some ((num T 0 19 p).1, (num T 0 19 p).2, 0))
      else if (cas T K k p).1 = 0 then
        (if K 6 (cNm K (tV T p)) = 0 then vrun T K n 1 s 0 (tE T p) (K 10 (cNm K (tV T p)))
        else if (sgn T 40 (tE T p)).1 = 0 then vrun T K n 0 ((cNm K (tV T p), 0, 0) :: s) (K 7 (cNm K (tV T p))) (tE T (tE T p)) 0
        else some ((sgn T 40 (tE T p)).1, (sgn T 40 (tE T p)).2, 0))
      else some ((cas T K k p).1, (cas T K k p).2, 0))
    else match s with
      | [] => some (0, p, v)
      | (c, f, a) :: s1 =>
        if f + 1 < K 6 c then (if (sgn T 44 p).1 = 0 then vrun T K n 0 ((c, f + 1, a * sz K (fK K c f) + v) :: s1) (K 8 c) (tE T p) 0 else some ((sgn T 44 p).1, (sgn T 44 p).2, 0))
        else if (sgn T 41 p).1 = 0 then vrun T K n 1 s1 0 (tE T p) (K 10 c + (a * sz K (fK K c f) + v)) else some ((sgn T 41 p).1, (sgn T 41 p).2, 0)) := by cases s <;> rfl
theorem vrun_up (T : TT) (K : PH) (x : Int × Int × Int) : ∀ (n : Nat) (m : Int) (s : SV) (k p v : Int), vrun T K n m s k p v = some x → vrun T K (n + 1) m s k p v = some x := by
  intro n
  induction n with
  | zero => intro m s k p v h; cases h
  | succ n ih =>
    intro m s k p v h
    rw [vrun_eq] at h ⊢
    by_cases h1 : m = 0
    · rw [if_pos h1] at h ⊢
      by_cases h3 : k = -1
      · rw [if_pos h3] at h ⊢
        by_cases h4 : (num T 0 19 p).1 = 0
        · rw [if_pos h4] at h ⊢; exact ih _ _ _ _ _ h
        · rw [if_neg h4] at h ⊢; exact h
      · rw [if_neg h3] at h ⊢
        by_cases h4 : (cas T K k p).1 = 0
        · rw [if_pos h4] at h ⊢
          by_cases h5 : K 6 (cNm K (tV T p)) = 0
          · rw [if_pos h5] at h ⊢; exact ih _ _ _ _ _ h
          · rw [if_neg h5] at h ⊢
            by_cases h6 : (sgn T 40 (tE T p)).1 = 0
            · rw [if_pos h6] at h ⊢; exact ih _ _ _ _ _ h
            · rw [if_neg h6] at h ⊢; exact h
        · rw [if_neg h4] at h ⊢; exact h
    · rw [if_neg h1] at h ⊢
      cases s with
      | nil => exact h
      | cons c s1 =>
        obtain ⟨c, f, a⟩ := c
        have h : (if f + 1 < K 6 c then (if (sgn T 44 p).1 = 0 then vrun T K n 0 ((c, f + 1, a * sz K (fK K c f) + v) :: s1) (K 8 c) (tE T p) 0 else some ((sgn T 44 p).1, (sgn T 44 p).2, 0)) else if (sgn T 41 p).1 = 0 then vrun T K n 1 s1 0 (tE T p) (K 10 c + (a * sz K (fK K c f) + v)) else some ((sgn T 41 p).1, (sgn T 41 p).2, 0)) = some x := h
        show (if f + 1 < K 6 c then (if (sgn T 44 p).1 = 0 then vrun T K (n + 1) 0 ((c, f + 1, a * sz K (fK K c f) + v) :: s1) (K 8 c) (tE T p) 0 else some ((sgn T 44 p).1, (sgn T 44 p).2, 0)) else if (sgn T 41 p).1 = 0 then vrun T K (n + 1) 1 s1 0 (tE T p) (K 10 c + (a * sz K (fK K c f) + v)) else some ((sgn T 41 p).1, (sgn T 41 p).2, 0)) = some x
        by_cases h3 : f + 1 < K 6 c
        · rw [if_pos h3] at h ⊢
          by_cases h4 : (sgn T 44 p).1 = 0
          · rw [if_pos h4] at h ⊢; exact ih _ _ _ _ _ h
          · rw [if_neg h4] at h ⊢; exact h
        · rw [if_neg h3] at h ⊢
          by_cases h4 : (sgn T 41 p).1 = 0
          · rw [if_pos h4] at h ⊢; exact ih _ _ _ _ _ h
          · rw [if_neg h4] at h ⊢; exact h
theorem vrun_le {T : TT} {K : PH} {x : Int × Int × Int} {n : Nat} {m : Int} {s : SV} {k p v : Int} (h : vrun T K n m s k p v = some x) : ∀ j : Nat, vrun T K (n + j) m s k p v = some x := by
  intro j
  induction j with
  | zero => exact h
  | succ j ih => exact vrun_up T K x (n + j) m s k p v ih
theorem VRs.fn {T : TT} {K : PH} {m : Int} {s : SV} {k p v : Int} {x y : Int × Int × Int} (h : VRs T K m s k p v x) (h2 : VRs T K m s k p v y) : x = y := by
  obtain ⟨n, hn⟩ := h
  obtain ⟨j, hj⟩ := h2
  have e1 := vrun_le hn j
  have e2 := vrun_le hj n
  rw [Nat.add_comm] at e2
  rw [e1] at e2
  exact Option.some.inj e2
section VN
variable {T : TT} {K : PH} {s : SV} {k p v : Int} {x : Int × Int × Int}
theorem VRs.nu0 (hk : k = -1) (hg : (num T 0 19 p).1 = 0) (hr : VRs T K 1 s 0 (tE T p) (tV T p) x) : VRs T K 0 s k p v x := by
  obtain ⟨n, hn⟩ := hr
  refine ⟨n + 1, ?_⟩
  rw [vrun_eq, if_pos rfl, if_pos hk, if_pos hg]
  exact hn
theorem VRs.numF (hk : k = -1) (hg : (num T 0 19 p).1 ≠ 0) : VRs T K 0 s k p v ((num T 0 19 p).1, (num T 0 19 p).2, 0) := by
  refine ⟨1, ?_⟩
  rw [vrun_eq, if_pos rfl, if_pos hk, if_neg hg]
theorem VRs.caseF (hk : k ≠ -1) (hg : (cas T K k p).1 ≠ 0) : VRs T K 0 s k p v ((cas T K k p).1, (cas T K k p).2, 0) := by
  refine ⟨1, ?_⟩
  rw [vrun_eq, if_pos rfl, if_neg hk, if_neg hg]
theorem VRs.case0 (hk : k ≠ -1) (hg : (cas T K k p).1 = 0) (h6 : K 6 (cNm K (tV T p)) = 0) (hr : VRs T K 1 s 0 (tE T p) (K 10 (cNm K (tV T p))) x) : VRs T K 0 s k p v x := by
  obtain ⟨n, hn⟩ := hr
  refine ⟨n + 1, ?_⟩
  rw [vrun_eq, if_pos rfl, if_neg hk, if_pos hg, if_pos h6]
  exact hn
theorem VRs.intoF (hk : k ≠ -1) (hg : (cas T K k p).1 = 0) (h6 : K 6 (cNm K (tV T p)) ≠ 0) (hs : (sgn T 40 (tE T p)).1 ≠ 0) : VRs T K 0 s k p v ((sgn T 40 (tE T p)).1, (sgn T 40 (tE T p)).2, 0) := by
  refine ⟨1, ?_⟩
  rw [vrun_eq, if_pos rfl, if_neg hk, if_pos hg, if_neg h6, if_neg hs]
theorem VRs.into (hk : k ≠ -1) (hg : (cas T K k p).1 = 0) (h6 : K 6 (cNm K (tV T p)) ≠ 0) (hs : (sgn T 40 (tE T p)).1 = 0) (hr : VRs T K 0 ((cNm K (tV T p), 0, 0) :: s) (K 7 (cNm K (tV T p))) (tE T (tE T p)) 0 x) : VRs T K 0 s k p v x := by
  obtain ⟨n, hn⟩ := hr
  refine ⟨n + 1, ?_⟩
  rw [vrun_eq, if_pos rfl, if_neg hk, if_pos hg, if_neg h6, if_pos hs]
  exact hn
theorem VRs.done : VRs T K 1 [] k p v (0, p, v) := ⟨1, rfl⟩
theorem VRs.commaF {c f a : Int} (hf : f + 1 < K 6 c) (hs : (sgn T 44 p).1 ≠ 0) : VRs T K 1 ((c, f, a) :: s) k p v ((sgn T 44 p).1, (sgn T 44 p).2, 0) := by
  refine ⟨1, ?_⟩
  rw [vrun_eq, if_neg (by decide)]
  show (if f + 1 < K 6 c then _ else _) = _
  rw [if_pos hf, if_neg hs]
theorem VRs.comma {c f a : Int} (hf : f + 1 < K 6 c) (hs : (sgn T 44 p).1 = 0) (hr : VRs T K 0 ((c, f + 1, a * sz K (fK K c f) + v) :: s) (K 8 c) (tE T p) 0 x) : VRs T K 1 ((c, f, a) :: s) k p v x := by
  obtain ⟨n, hn⟩ := hr
  refine ⟨n + 1, ?_⟩
  rw [vrun_eq, if_neg (by decide)]
  show (if f + 1 < K 6 c then _ else _) = _
  rw [if_pos hf, if_pos hs]
  exact hn
theorem VRs.closeF {c f a : Int} (hf : ¬ f + 1 < K 6 c) (hs : (sgn T 41 p).1 ≠ 0) : VRs T K 1 ((c, f, a) :: s) k p v ((sgn T 41 p).1, (sgn T 41 p).2, 0) := by
  refine ⟨1, ?_⟩
  rw [vrun_eq, if_neg (by decide)]
  show (if f + 1 < K 6 c then _ else _) = _
  rw [if_neg hf, if_neg hs]
theorem VRs.close {c f a : Int} (hf : ¬ f + 1 < K 6 c) (hs : (sgn T 41 p).1 = 0) (hr : VRs T K 1 s 0 (tE T p) (K 10 c + (a * sz K (fK K c f) + v)) x) : VRs T K 1 ((c, f, a) :: s) k p v x := by
  obtain ⟨n, hn⟩ := hr
  refine ⟨n + 1, ?_⟩
  rw [vrun_eq, if_neg (by decide)]
  show (if f + 1 < K 6 c then _ else _) = _
  rw [if_neg hf, if_pos hs]
  exact hn
end VN
/-- a value: fault, place behind it, the value -/
noncomputable def val (T : TT) (K : PH) (k p : Int) : Int × Int × Int := Classical.epsilon fun x => VRs T K 0 [] k p 0 x
theorem VRs.val {T : TT} {K : PH} {k p : Int} {x : Int × Int × Int} (h : VRs T K 0 [] k p 0 x) : val T K k p = x := (Classical.epsilon_spec (p := fun x => VRs T K 0 [] k p 0 x) ⟨x, h⟩).fn h
/-- the columns' values one behind another -/
noncomputable def rwl (T : TT) (K M : PH) : Nat → Int → Int → Int → Int × Int × Int
  | 0, _, p, a => (0, p, a)
  | r + 1, c, p, a =>
    if 0 < c ∧ (sgn T 44 p).1 ≠ 0 then ((sgn T 44 p).1, (sgn T 44 p).2, 0)
    else if (val T K (M 1 c) (if 0 < c then tE T p else p)).1 ≠ 0 then val T K (M 1 c) (if 0 < c then tE T p else p)
    else rwl T K M r (c + 1) (val T K (M 1 c) (if 0 < c then tE T p else p)).2.1 (a * sz K (M 1 c) + (val T K (M 1 c) (if 0 < c then tE T p else p)).2.2)
theorem rwl_sF {T : TT} {K M : PH} {r : Nat} {c p a : Int} (h : 0 < c) (hs : (sgn T 44 p).1 ≠ 0) : rwl T K M (r + 1) c p a = ((sgn T 44 p).1, (sgn T 44 p).2, 0) := by
  show (if 0 < c ∧ (sgn T 44 p).1 ≠ 0 then _ else _) = _
  rw [if_pos ⟨h, hs⟩]
theorem rwl_p0 {T : TT} {K M : PH} {r : Nat} {c p a : Int} (h : c ≤ 0) : rwl T K M (r + 1) c p a = if (val T K (M 1 c) p).1 ≠ 0 then val T K (M 1 c) p else rwl T K M r (c + 1) (val T K (M 1 c) p).2.1 (a * sz K (M 1 c) + (val T K (M 1 c) p).2.2) := by
  show (if 0 < c ∧ (sgn T 44 p).1 ≠ 0 then _ else _) = _
  rw [if_neg (fun q => by omega), if_neg (show ¬ 0 < c by omega)]
theorem rwl_p1 {T : TT} {K M : PH} {r : Nat} {c p a : Int} (h : 0 < c) (hs : (sgn T 44 p).1 = 0) : rwl T K M (r + 1) c p a = if (val T K (M 1 c) (tE T p)).1 ≠ 0 then val T K (M 1 c) (tE T p) else rwl T K M r (c + 1) (val T K (M 1 c) (tE T p)).2.1 (a * sz K (M 1 c) + (val T K (M 1 c) (tE T p)).2.2) := by
  show (if 0 < c ∧ (sgn T 44 p).1 ≠ 0 then _ else _) = _
  rw [if_neg (fun q => q.2 hs), if_pos h]
/-- a row's text: fault, place, the row -/
noncomputable def rwR (T : TT) (K M : PH) : Int × Int × Int :=
  if M 0 0 ≤ 0 then (1, 0, 0) else if (rwl T K M (M 0 0).toNat 0 0 0).1 ≠ 0 then rwl T K M (M 0 0).toNat 0 0 0
  else if tK T (rwl T K M (M 0 0).toNat 0 0 0).2.1 = 0 then (0, -1, (rwl T K M (M 0 0).toNat 0 0 0).2.2) else (1, fh T (rwl T K M (M 0 0).toNat 0 0 0).2.1, 0)
end
section
/-! A value's reading by the class; the columns' sizes. -/
theorem cpr_b {K : PH} (h : AB K) {c : Int} (h0 : 0 ≤ c) (h1 : c < K 0 1) : 1 ≤ cpr K c ∧ 0 ≤ K 10 c ∧ K 10 c + cpr K c ≤ K 2 (K 5 c) := (h c h0 h1).1
theorem cpr_0 {K : PH} {c : Int} (h : K 6 c = 0) : cpr K c = 1 := by unfold cpr; rw [if_pos h]
theorem cpr_1 {K : PH} {c : Int} (h : K 6 c = 1) : cpr K c = sz K (K 7 c) := by unfold cpr; rw [if_neg (by omega), if_pos h]
theorem cpr_2 {K : PH} {c : Int} (h : K 6 c = 2) : cpr K c = sz K (K 7 c) * sz K (K 8 c) := by unfold cpr; rw [if_neg (by omega), if_neg (by omega)]
theorem lex_lt {a b s t : Int} (ha : 0 ≤ a ∧ a < s) (hb : 0 ≤ b ∧ b < t) : 0 ≤ a * t + b ∧ a * t + b < s * t := by
  have h1 : 0 ≤ a * t := Int.mul_nonneg ha.1 (by omega)
  have h2 : (a + 1) * t ≤ s * t := Int.mul_le_mul_of_nonneg_right (by omega) (by omega)
  rw [Int.add_mul, Int.one_mul] at h2
  omega
def VC (T : TT) (K : PH) (k p r : Int) (P P1 : PH) : Prop := (0 ≤ r ∧ r < sz K k ∧ P1 110 3 = P 110 3 ∧ P1 110 4 = P 110 4 ∧ ∃ q : Int, XS T q P1 ∧ ∀ (s : SV) (x : Int × Int × Int), VRs T K 1 s 0 q r x → VRs T K 0 s k p 0 x) ∨ (r = -1 ∧ P1 110 3 ≠ 0 ∧ ∀ s : SV, VRs T K 0 s k p 0 (P1 110 3, P1 110 4, 0))
section VCS
variable {T : TT} {K : PH} {k p r c q f a v : Int} {P P1 : PH}
theorem tri_eq {x : Int × Int} {a b : Int} (h1 : a = x.1) (h2 : b = x.2) : (a, b, (0 : Int)) = (x.1, x.2, 0) := by rw [h1, h2]
theorem VC.tr {P0 : PH} (h : VC T K k p r P P1) (h3 : P 110 3 = P0 110 3) (h4 : P 110 4 = P0 110 4) : VC T K k p r P0 P1 := by
  rcases h with ⟨a1, a2, a3, a4, a5⟩ | h
  · exact Or.inl ⟨a1, a2, a3.trans h3, a4.trans h4, a5⟩
  · exact Or.inr h
theorem VC.nu0 (hk : k = -1) (h : (r = tV T p ∧ 0 ≤ r ∧ r ≤ 19 ∧ (num T 0 19 p).1 = 0 ∧ P1 110 3 = P 110 3 ∧ P1 110 4 = P 110 4) ∨ (r = -1 ∧ (num T 0 19 p).1 ≠ 0 ∧ P1 110 3 = (num T 0 19 p).1 ∧ P1 110 4 = (num T 0 19 p).2)) (hs : (num T 0 19 p).1 = 0 → XS T (num T 0 19 p).2 P1) : VC T K k p r P P1 := by
  have hn := num_s T 0 19 p
  rcases h with ⟨h1, h2, h3, h4, h5, h6⟩ | ⟨h1, h2, h3, h4⟩
  · refine Or.inl ⟨h2, ?_, h5, h6, (num T 0 19 p).2, hs h4, fun s x hx => ?_⟩
    · have e := sz_s K k; omega
    · rw [show (num T 0 19 p).2 = tE T p by omega, h1] at hx
      exact VRs.nu0 hk h4 hx
  · refine Or.inr ⟨h1, by omega, fun s => ?_⟩
    rw [tri_eq h3 h4]
    exact VRs.numF hk h2
theorem VC.caseF (hk : k ≠ -1) (h0 : (cas T K k p).1 ≠ 0) (h3 : P1 110 3 = (cas T K k p).1) (h4 : P1 110 4 = (cas T K k p).2) : VC T K k p (-1) P P1 := by
  refine Or.inr ⟨rfl, by omega, fun s => ?_⟩
  rw [tri_eq h3 h4]
  exact VRs.caseF hk h0
theorem VC.case0 (hb : AB K) (hk : k ≠ -1) (h0 : (cas T K k p).1 = 0) (hc : c = cNm K (tV T p)) (hc0 : 0 ≤ c ∧ c < K 0 1) (h5 : K 5 c = k) (h6 : K 6 c = 0) (hr : r = K 10 c) (h3 : P1 110 3 = P 110 3) (h4 : P1 110 4 = P 110 4) (hs : XS T (tE T p) P1) : VC T K k p r P P1 := by
  have b := cpr_b hb hc0.1 hc0.2
  have e := sz_s K k
  subst hc
  rw [h5] at b
  refine Or.inl ⟨by omega, by omega, h3, h4, tE T p, hs, fun s x hx => ?_⟩
  rw [hr] at hx
  exact VRs.case0 hk h0 h6 hx
theorem VC.intoF (hk : k ≠ -1) (h0 : (cas T K k p).1 = 0) (h6 : K 6 (cNm K (tV T p)) ≠ 0) (hn : (sgn T 40 (tE T p)).1 ≠ 0) (h3 : P1 110 3 = (sgn T 40 (tE T p)).1) (h4 : P1 110 4 = (sgn T 40 (tE T p)).2) : VC T K k p (-1) P P1 := by
  refine Or.inr ⟨rfl, by omega, fun s => ?_⟩
  rw [tri_eq h3 h4]
  exact VRs.intoF hk h0 h6 hn
/-- a field's fault -/
theorem VC.inF {k1 q1 : Int} (hr : ∀ (s : SV) (x : Int × Int × Int), VRs T K 0 ((c, f, a) :: s) k1 q1 0 x → VRs T K 0 s k p 0 x) (h0 : P1 110 3 ≠ 0) (h : ∀ s : SV, VRs T K 0 s k1 q1 0 (P1 110 3, P1 110 4, 0)) : VC T K k p (-1) P P1 := Or.inr ⟨rfl, h0, fun s => hr s _ (h _)⟩
theorem VC.commaF (hC : ∀ (s : SV) (x : Int × Int × Int), VRs T K 1 ((c, f, a) :: s) 0 q v x → VRs T K 0 s k p 0 x) (hf : f + 1 < K 6 c) (hn : (sgn T 44 q).1 ≠ 0) (h3 : P1 110 3 = (sgn T 44 q).1) (h4 : P1 110 4 = (sgn T 44 q).2) : VC T K k p (-1) P P1 := by
  refine Or.inr ⟨rfl, by omega, fun s => ?_⟩
  rw [tri_eq h3 h4]
  exact hC s _ (VRs.commaF hf hn)
theorem VC.closeF (hC : ∀ (s : SV) (x : Int × Int × Int), VRs T K 1 ((c, f, a) :: s) 0 q v x → VRs T K 0 s k p 0 x) (hf : ¬ f + 1 < K 6 c) (hn : (sgn T 41 q).1 ≠ 0) (h3 : P1 110 3 = (sgn T 41 q).1) (h4 : P1 110 4 = (sgn T 41 q).2) : VC T K k p (-1) P P1 := by
  refine Or.inr ⟨rfl, by omega, fun s => ?_⟩
  rw [tri_eq h3 h4]
  exact hC s _ (VRs.closeF hf hn)
theorem VC.close (hC : ∀ (s : SV) (x : Int × Int × Int), VRs T K 1 ((c, f, a) :: s) 0 q v x → VRs T K 0 s k p 0 x) (hf : ¬ f + 1 < K 6 c) (hn : (sgn T 41 q).1 = 0) (hr : r = K 10 c + (a * sz K (fK K c f) + v)) (hr0 : 0 ≤ r ∧ r < sz K k) (h3 : P1 110 3 = P 110 3) (h4 : P1 110 4 = P 110 4) (hs : XS T (sgn T 41 q).2 P1) : VC T K k p r P P1 := by
  have hg := sgn_s T 41 q
  refine Or.inl ⟨hr0.1, hr0.2, h3, h4, (sgn T 41 q).2, hs, fun s x hx => ?_⟩
  rw [show (sgn T 41 q).2 = tE T q by omega, hr] at hx
  exact hC s x (VRs.close hf hn hx)
/-- a constructor's value by its fields' -/
theorem val_1 (hb : AB K) (hc : 0 ≤ c ∧ c < K 0 1) (h6 : K 6 c = 1) (hv : 0 ≤ v ∧ v < sz K (K 7 c)) : K 10 c + v = K 10 c + (0 * sz K (fK K c 0) + v) ∧ 0 ≤ K 10 c + v ∧ K 10 c + v < K 2 (K 5 c) := by
  have b := cpr_b hb hc.1 hc.2
  rw [cpr_1 h6] at b
  rw [Int.zero_mul, Int.zero_add]
  exact ⟨rfl, by omega, by omega⟩
theorem val_2 {w : Int} (hb : AB K) (hc : 0 ≤ c ∧ c < K 0 1) (h6 : K 6 c = 2) (hv : 0 ≤ v ∧ v < sz K (K 7 c)) (hw : 0 ≤ w ∧ w < sz K (K 8 c)) : K 10 c + v * sz K (K 8 c) + w = K 10 c + ((0 * sz K (fK K c 0) + v) * sz K (fK K c 1) + w) ∧ 0 ≤ K 10 c + v * sz K (K 8 c) + w ∧ K 10 c + v * sz K (K 8 c) + w < K 2 (K 5 c) := by
  have b := cpr_b hb hc.1 hc.2
  have l := lex_lt hv hw
  rw [cpr_2 h6] at b
  rw [Int.zero_mul, Int.zero_add, show fK K c 1 = K 8 c from rfl]
  exact ⟨by omega, by omega, by omega⟩
end VCS
/-- the columns' sizes -/
def XZ (K M : PH) (o : Nat) (P : PH) : Prop := kx o 28 ∧ ∀ c : Int, 0 ≤ c → c < M 0 0 → P (crX o 2) c = sz K (M 1 c)
theorem XZ.fr {K M : PH} {o : Nat} {P P1 : PH} {F : FSX} (h : XZ K M o P) (hf : FrX F P P1) (hd : disX F ([], [40]) = true) : XZ K M o P1 := by
  refine ⟨h.1, fun c c0 c1 => ?_⟩
  rw [disX_a hd hf (ck_28_2 h.1) (by decide)]
  exact h.2 c c0 c1
theorem XZ.no {K M : PH} {o : Nat} {P : PH} (ho : kx o 28) (h : M 0 0 ≤ 0) : XZ K M o P := ⟨ho, fun c c0 c1 => by exfalso; omega⟩
theorem XZ.col {K M : PH} {o : Nat} {P P1 : PH} {k r : Int} (h : XZ K M o P) (h6 : P o 6 = M 0 0) (s : P1 (crX o 2) (P o 6) = sz K k) (q : ∀ j : Int, j ≠ P o 6 → P1 (crX o 2) j = P (crX o 2) j) : XZ K (mCol M k r) o P1 := by
  rw [h6] at s q
  refine ⟨h.1, fun c c0 c1 => ?_⟩
  rw [(mCol_0 (M := M) (k := k) (r := r)).1] at c1
  rw [mCol_1]
  by_cases e : c = M 0 0
  · rw [if_pos e, e]; exact s
  · rw [if_neg e, q c e]; exact h.2 c c0 (by omega)
theorem KT.xz {t o : Nat} {K M P P1 : PH} (h : KT t P P1) (ho : kx o 28) (hn : o ≠ t) (hk : XZ K M o P) : XZ K M o P1 := by
  have ht := tb28 ho
  have hc : tbX (crX o 2) = o ∧ crX o 2 < 154 := (show ∀ o : Nat, o < 154 → kdX o = 28 → tbX (crX o 2) = o ∧ crX o 2 < 154 by decide +kernel) o ho.1 ho.2
  refine ⟨hk.1, fun c c0 c1 => ?_⟩
  rw [h _ hc.2 (by rw [hc.1]; exact ht.2) (by rw [hc.1]; exact hn) c]
  exact hk.2 c c0 c1
def XZT (K M P : PH) : Prop := XZ K M (P 0 10).toNat P
theorem XZT.fr {K M P P1 : PH} {F : FSX} (h : XZT K M P) (hf : FrX F P P1) (hd : disX F ([(0, 10)], [40]) = true) : XZT K M P1 := by
  have e : P1 0 10 = P 0 10 := disX_f hd hf (o := 0) (k := 0) (j := 10) ⟨by decide, rfl⟩ (by decide)
  unfold XZT at h ⊢
  rw [e]
  refine ⟨h.1, fun c c0 c1 => ?_⟩
  rw [disX_a hd hf (ck_28_2 h.1) (by decide)]
  exact h.2 c c0 c1
/-- sizes' products: rows are few -/
def AZ (K M : PH) : Prop := (∀ c : Int, 0 ≤ c → c < M 0 0 → 1 ≤ sz K (M 1 c)) ∧ (M 0 0 ≤ 0 ∨ M 0 1 ≤ 20000)
theorem AZ.no {K M : PH} (h : M 0 0 ≤ 0) : AZ K M := ⟨fun c c0 c1 => by exfalso; omega, Or.inl h⟩
theorem sz_le {K : PH} (h : AW K) {k : Int} (hk : -1 ≤ k ∧ k < K 0 0) : 0 ≤ sz K k ∧ sz K k ≤ 2006 := by
  have e := sz_s K k
  by_cases z : k = -1
  · omega
  · have w := h.2.1 k (by omega) (by omega)
    omega
theorem col_z {T : TT} {K : PH} (hw : AW K) : ∀ (r : Nat) (M : PH) (i p : Int), 0 ≤ M 0 0 → AZ K M → AZ K (col T K r M i p).2.2 := by
  intro r
  induction r with
  | zero =>
    intro M i p h0 hz
    exact hz
  | succ r ih =>
    intro M i p h0 hz
    by_cases e : kGo T K (-1) (M 0 0) 4 0 i 20000 p = 0
    · rw [col_go e]
      have hs := kGo_s T K (-1) (M 0 0) 4 0 i 20000 p
      have hs := ((((hs.resolve_left (by omega)).resolve_left (by omega)).resolve_left (by omega)).resolve_left (by omega))
      obtain ⟨s1, s2, s3, s4, s5, s6⟩ := hs
      have hb0 := kHe_b (T := T) hw p
      have hh := kHe_s T K p
      have hz1 : 1 ≤ sz K (kHe T K p) := by
        rcases sz_s K (kHe T K p) with q | q
        · omega
        · have := hw.2.1 (kHe T K p) (by omega) (by omega)
          omega
      refine ih _ _ _ (by rw [mCol_0.1]; omega) ⟨fun c c0 c1 => ?_, Or.inr ?_⟩
      · rw [mCol_0.1] at c1
        rw [mCol_1]
        by_cases z : c = M 0 0
        · rw [if_pos z]; exact hz1
        · rw [if_neg z]; exact hz.1 c c0 (by omega)
      · rw [mCol_0.2.1]; omega
    · by_cases e1 : kGo T K (-1) (M 0 0) 4 0 i 20000 p = 1
      · rw [col_end e1]; exact hz
      · rw [col_bad e1 e]; exact hz
theorem AZ.st {T : TT} {K M : PH} {p : Int} (hw : AW K) (hv : AV K M) (h : AZ K M) (hs : (sSt T K M p).1 = 0) : AZ (kSt T K p) (mSt T K M p) := by
  have v1 := hv.1
  unfold sSt at hs
  unfold mSt kSt
  by_cases h0 : tO T p = 0
  · rw [if_pos h0] at hs
    have q := sKi_s T K M p
    rw [if_pos h0, if_neg (by omega), if_neg (by omega), if_neg (by omega), if_neg (by omega)]
    exact AZ.no (by omega)
  · rw [if_neg h0] at hs ⊢
    by_cases h1 : tO T p = 1
    · rw [if_pos h1] at hs
      have q := sCo_s T K M p
      rw [if_pos h1, if_neg (by omega), if_neg (by omega), if_neg (by omega), if_neg (by omega)]
      exact AZ.no (by omega)
    · rw [if_neg h1] at hs ⊢
      by_cases h2 : tO T p = 2
      · rw [if_pos h2] at hs ⊢
        have hs : (sMa T K M p).1 = 0 := hs
        have q := sMa_s T K M p
        have e := sMa_M (T := T) (K := K) (M := M) (p := p) (by omega) (by omega)
        rw [e]
        exact col_z hw 4 M 1 (tE T p) (by omega) h
      · rw [if_neg h2] at hs ⊢
        by_cases h3 : tO T p = 3
        · rw [if_pos h3]
          unfold mAr AZ
          rw [aNew_0.1, aNew_01, aNew_1]
          exact h
        · rw [if_neg h3]
          have hu : ∀ (j z : Int), j ≠ 0 → j ≠ 1 → AZ K (up M 0 j z) := fun j z j0 j1 => by
            unfold AZ
            rw [up_k (fun e => j0 e.symm), up_k (fun e => j1 e.symm), up_row (by decide)]
            exact h
          by_cases h5 : tO T p = 5
          · rw [if_pos h5]; exact hu 3 _ (by decide) (by decide)
          · rw [if_neg h5]
            by_cases h6 : tO T p = 6
            · rw [if_pos h6]; exact hu 4 _ (by decide) (by decide)
            · rw [if_neg h6]; exact h
theorem mlo_z {T : TT} : ∀ (r : Nat) (n : Int) (K M : PH) (p : Int), AW K → AV K M → AZ K M → (mlo T r n K M p).1 = 0 → AZ (mlo T r n K M p).2.2.1 (mlo T r n K M p).2.2.2 := by
  intro r
  induction r with
  | zero =>
    intro n K M p hw hv ha h0
    by_cases e : tK T p = 0
    · rw [mlo_end e]; exact ha
    · rw [mlo_much e] at h0
      exact absurd h0 (show (6 : Int) ≠ 0 by decide)
  | succ r ih =>
    intro n K M p hw hv ha h0
    by_cases e : tK T p = 0
    · rw [mlo_end e]; exact ha
    · by_cases h1 : (sSt T K M p).1 = 0
      · by_cases h2 : (sgn T 59 (sSt T K M p).2).1 = 0
        · rw [mlo_go e h1 h2] at h0 ⊢
          exact ih _ _ _ _ (hw.st h1) (hv.st hw h1) (ha.st hw hv h1) h0
        · rw [mlo_eF e h1 h2] at h0
          exact absurd h0 h2
      · rw [mlo_sF e h1] at h0
        exact absurd h0 h1
theorem mlR_z {T : TT} (h : (mlR T).1 = 0) : AZ (mlR T).2.2.1 (mlR T).2.2.2 := mlo_z 60 0 K0 M0 0 AW.zero AV.zero (AZ.no (by decide)) h
theorem pG_1 {K M : PH} (h : ∀ c : Int, 0 ≤ c → c < M 0 0 → 1 ≤ sz K (M 1 c)) : ∀ n : Nat, (n : Int) ≤ M 0 0 → 1 ≤ pG K M n := by
  intro n
  induction n with
  | zero => intro _; exact Int.le_refl 1
  | succ n ih =>
    intro hn
    exact Int.mul_pos (ih (by omega)) (by have q := h (n : Int) (by omega) (by omega); omega)
theorem pG_m {K M : PH} (h : ∀ c : Int, 0 ≤ c → c < M 0 0 → 1 ≤ sz K (M 1 c)) (n : Nat) : ∀ j : Nat, ((n + j : Nat) : Int) ≤ M 0 0 → pG K M n ≤ pG K M (n + j) := by
  intro j
  induction j with
  | zero => intro _; exact Int.le_refl _
  | succ j ih =>
    intro hj
    have h1 := ih (by omega)
    have h2 := h ((n + j : Nat) : Int) (by omega) (by omega)
    have h3 := pG_1 h n (by omega)
    have h4 : pG K M (n + j) * 1 ≤ pG K M (n + j) * sz K (M 1 ((n + j : Nat) : Int)) := Int.mul_le_mul_of_nonneg_left h2 (by omega)
    show pG K M n ≤ pG K M (n + j) * sz K (M 1 ((n + j : Nat) : Int))
    omega
/-- a row's reading: behind c columns -/
def RWL (T : TT) (K M : PH) (c q a : Int) : Prop := rwl T K M (M 0 0).toNat 0 0 0 = rwl T K M (M 0 0 - c).toNat c q a ∧ 0 ≤ a ∧ a < pG K M c.toNat ∧ 0 ≤ c ∧ c ≤ M 0 0
theorem RWL.z {T : TT} {K M : PH} (h : 0 ≤ M 0 0) : RWL T K M 0 0 0 := ⟨by rw [show (M 0 0 - 0).toNat = (M 0 0).toNat by omega], Int.le_refl _, (by show (0 : Int) < 1; decide), Int.le_refl _, h⟩
section RWS
variable {T : TT} {K M : PH} {c q a : Int}
theorem RWL.sF (h : RWL T K M c q a) (hc : 0 < c) (hm : c < M 0 0) (hs : (sgn T 44 q).1 ≠ 0) : rwl T K M (M 0 0).toNat 0 0 0 = ((sgn T 44 q).1, (sgn T 44 q).2, 0) := by
  rw [h.1, show (M 0 0 - c).toNat = (M 0 0 - (c + 1)).toNat + 1 by omega, rwl_sF hc hs]
theorem RWL.vF {p : Int} (h : RWL T K M c q a) (hm : c < M 0 0) (hp : (c = 0 ∧ p = q) ∨ (0 < c ∧ (sgn T 44 q).1 = 0 ∧ p = tE T q)) (hv : (val T K (M 1 c) p).1 ≠ 0) : rwl T K M (M 0 0).toNat 0 0 0 = val T K (M 1 c) p := by
  rw [h.1, show (M 0 0 - c).toNat = (M 0 0 - (c + 1)).toNat + 1 by omega]
  rcases hp with ⟨h1, h2⟩ | ⟨h1, h2, h3⟩
  · subst h2; rw [rwl_p0 (by omega), if_pos hv]
  · subst h3; rw [rwl_p1 h1 h2, if_pos hv]
theorem RWL.go {p w r : Int} (h : RWL T K M c q a) (hm : c < M 0 0) (hp : (c = 0 ∧ p = q) ∨ (0 < c ∧ (sgn T 44 q).1 = 0 ∧ p = tE T q)) (hv : val T K (M 1 c) p = (0, w, r)) (hr : 0 ≤ r ∧ r < sz K (M 1 c)) : RWL T K M (c + 1) w (a * sz K (M 1 c) + r) := by
  obtain ⟨h1, h2, h3, h4, h5⟩ := h
  have l := lex_lt ⟨h2, h3⟩ hr
  have hg : pG K M (c + 1).toNat = pG K M c.toNat * sz K (M 1 c) := by
    rw [show (c + 1).toNat = c.toNat + 1 by omega]
    show pG K M c.toNat * sz K (M 1 ((c.toNat : Nat) : Int)) = _
    rw [show ((c.toNat : Nat) : Int) = c by omega]
  refine ⟨?_, l.1, by rw [hg]; exact l.2, by omega, by omega⟩
  rw [h1, show (M 0 0 - c).toNat = (M 0 0 - (c + 1)).toNat + 1 by omega]
  have e0 : ¬ (val T K (M 1 c) p).1 ≠ 0 := by rw [hv]; exact fun z => z rfl
  rcases hp with ⟨g1, g2⟩ | ⟨g1, g2, g3⟩
  · subst g2; rw [rwl_p0 (by omega), if_neg e0, hv]
  · subst g3; rw [rwl_p1 g1 g2, if_neg e0, hv]
theorem RWL.b (h : RWL T K M c q a) (hz : AZ K M) (hr : AR K M) (hm : 0 < M 0 0) : 0 ≤ a ∧ a < 20000 ∧ a < M 0 1 := by
  obtain ⟨h1, h2, h3, h4, h5⟩ := h
  have e := hr.resolve_left (by omega)
  have e2 := hz.2.resolve_left (by omega)
  have l := pG_m hz.1 c.toNat (M 0 0 - c).toNat (by omega)
  rw [show c.toNat + (M 0 0 - c).toNat = (M 0 0).toNat by omega] at l
  omega
theorem RWL.end (h : RWL T K M c q a) (hc : M 0 0 ≤ c) : rwl T K M (M 0 0).toNat 0 0 0 = (0, q, a) := by
  rw [h.1, show (M 0 0 - c).toNat = 0 by omega]
  rfl
end RWS
theorem VC.ok {T : TT} {K : PH} {k p r q : Int} (h : ∀ (s : SV) (x : Int × Int × Int), VRs T K 1 s 0 q r x → VRs T K 0 s k p 0 x) : val T K k p = (0, q, r) := (h [] _ VRs.done).val
theorem VC.no {T : TT} {K : PH} {k p f l : Int} (h : ∀ s : SV, VRs T K 0 s k p 0 (f, l, 0)) : val T K k p = (f, l, 0) := (h []).val
section RWE
variable {T : TT} {K M : PH} {q a : Int}
theorem rwR_0 (h : M 0 0 ≤ 0) : rwR T K M = (1, 0, 0) := by unfold rwR; rw [if_pos h]
theorem rwR_f (h : 0 < M 0 0) {x : Int × Int × Int} (e : rwl T K M (M 0 0).toNat 0 0 0 = x) (hx : x.1 ≠ 0) : rwR T K M = x := by unfold rwR; rw [if_neg (by omega), e, if_pos hx]
theorem rwR_e (h : 0 < M 0 0) (e : rwl T K M (M 0 0).toNat 0 0 0 = (0, q, a)) (hk : tK T q = 0) : rwR T K M = (0, -1, a) := by
  unfold rwR
  rw [if_neg (by omega), e, if_neg (fun z => z rfl), if_pos hk]
theorem rwR_b (h : 0 < M 0 0) (e : rwl T K M (M 0 0).toNat 0 0 0 = (0, q, a)) (hk : tK T q ≠ 0) : rwR T K M = (1, fh T q, 0) := by
  unfold rwR
  rw [if_neg (by omega), e, if_neg (fun z => z rfl), if_neg hk]
end RWE
theorem XZ.arm {K M : PH} {o : Nat} {P : PH} {g : Int} (h : XZ K M o P) : XZ K (aNew M g) o P := ⟨h.1, fun c c0 c1 => by rw [aNew_0.1] at c1; rw [aNew_1]; exact h.2 c c0 c1⟩
theorem XZ.up {K M : PH} {o : Nat} {P : PH} {j z : Int} (h : XZ K M o P) (j0 : j ≠ 0) : XZ K (up M 0 j z) o P := ⟨h.1, fun c c0 c1 => by rw [up_k (fun e => j0 e.symm)] at c1; rw [up_row (by decide)]; exact h.2 c c0 c1⟩
theorem mul_n {a b A B : Int} (ha : 0 ≤ a ∧ a ≤ A) (hb : 0 ≤ b ∧ b ≤ B) : 0 ≤ a * b ∧ a * b ≤ A * B := ⟨Int.mul_nonneg ha.1 hb.1, Int.mul_le_mul ha.2 hb.2 hb.1 (by omega)⟩
end
section
/-! A value's reading by the reference: its stack of constructors begun. -/
def SVL (P : PH) : SV → Prop
  | [] => True
  | (c, f, a) :: s => P 26 ((s.length : Int) + 1) = c ∧ P 27 ((s.length : Int) + 1) = f ∧ P 25 ((s.length : Int) + 1) = a ∧ SVL P s
theorem SVL.eq {P P1 : PH} : ∀ (s : SV), SVL P s → (∀ j : Int, 1 ≤ j → j ≤ s.length → P1 25 j = P 25 j ∧ P1 26 j = P 26 j ∧ P1 27 j = P 27 j) → SVL P1 s := by
  intro s
  induction s with
  | nil => intro _ _; trivial
  | cons x s ih =>
    obtain ⟨c, f, a⟩ := x
    intro h e
    have e1 := e ((s.length : Int) + 1) (by omega) (by rw [List.length_cons]; omega)
    exact ⟨e1.2.1.trans h.1, e1.2.2.trans h.2.1, e1.1.trans h.2.2.1, ih h.2.2.2 (fun j j1 j2 => e j j1 (by rw [List.length_cons]; omega))⟩
/-- what is begun fits: the kind of the value that is to come, the kind at the bottom -/
def TSV (K : PH) (k0 : Int) : SV → Int → Prop
  | [], k => k = k0
  | (c, f, a) :: s, k => k = fK K c f ∧ (0 ≤ c ∧ c < K 0 1) ∧ (0 ≤ f ∧ f < K 6 c) ∧ ((f = 0 ∧ a = 0) ∨ (f = 1 ∧ 0 ≤ a ∧ a < sz K (K 7 c))) ∧ TSV K k0 s (K 5 c)
theorem TSV.len {K : PH} {k0 : Int} (hw : AW K) (hk : k0 ≤ 3) : ∀ (s : SV) (k : Int), TSV K k0 s k → (s.length : Int) + k ≤ 3 := by
  intro s
  induction s with
  | nil => intro k h; have h : k = k0 := h; show ((0 : Nat) : Int) + k ≤ 3; omega
  | cons x s ih =>
    obtain ⟨c, f, a⟩ := x
    intro k h
    obtain ⟨h1, h2, h3, h4, h5⟩ := h
    have q := ih _ h5
    have w := hw.2.2.1 c h2.1 h2.2
    have e : k < K 5 c := by
      rw [h1]
      unfold fK
      by_cases z : f = 0
      · rw [if_pos z]; omega
      · rw [if_neg z]; omega
    rw [List.length_cons]
    omega
/-- constructors begun: the stack -/
def STW (s : SV) (P : PH) : Prop := P 0 43 = (s.length : Int) + 1 ∧ SVL P s
theorem STW.fr {s : SV} {P P1 : PH} {F : FS} (h : STW s P) (hf : FrM F P P1) (hd : disF F ([43], [25, 26, 27]) = true) : STW s P1 := by
  obtain ⟨h1, h3⟩ := h
  refine ⟨by rw [disF_k hd hf (k := 43) (by decide)]; exact h1, h3.eq s (fun j _ _ => ?_)⟩
  rw [disF_o hd hf (o := 25) (by decide) rfl, disF_o hd hf (o := 26) (by decide) rfl, disF_o hd hf (o := 27) (by decide) rfl]
  exact ⟨rfl, rfl, rfl⟩
/-- .. and a value's kind on top -/
def STV (s : SV) (k : Int) (P : PH) : Prop := STW s P ∧ K4 (P 24 (P 0 43)) k
theorem STV.fr {s : SV} {k : Int} {P P1 : PH} {F : FS} (h : STV s k P) (hf : FrM F P P1) (hd : disF F ([43], [24, 25, 26, 27]) = true) : STV s k P1 := by
  obtain ⟨⟨h1, h3⟩, h2⟩ := h
  refine ⟨⟨by rw [disF_k hd hf (k := 43) (by decide)]; exact h1, h3.eq s (fun j _ _ => ?_)⟩, by rw [disF_k hd hf (k := 43) (by decide), disF_o hd hf (o := 24) (by decide) rfl]; exact h2⟩
  rw [disF_o hd hf (o := 25) (by decide) rfl, disF_o hd hf (o := 26) (by decide) rfl, disF_o hd hf (o := 27) (by decide) rfl]
  exact ⟨rfl, rfl, rfl⟩
theorem STV.start {k z : Int} {P : PH} (h43 : P 0 43 = 1) (h24 : P 24 1 = z) (hk : K4 z k) : STV [] k P := ⟨⟨h43, trivial⟩, by rw [h43, h24]; exact hk⟩
theorem STV.b {s : SV} {k : Int} {P : PH} (h : STV s k P) : P 0 43 = (s.length : Int) + 1 ∧ ((P 24 (P 0 43) = 4 ∧ k = -1) ∨ (0 ≤ P 24 (P 0 43) ∧ P 24 (P 0 43) ≤ 3 ∧ k = P 24 (P 0 43))) := ⟨h.1.1, h.2⟩
theorem STW.top {c f a : Int} {s : SV} {P : PH} (h : STW ((c, f, a) :: s) P) : P 26 (P 0 43 - 1) = c ∧ P 27 (P 0 43 - 1) = f ∧ P 25 (P 0 43 - 1) = a := by
  obtain ⟨h1, h3, h4, h5, h6⟩ := h
  have h1 : P 0 43 = ((s.length : Int) + 1) + 1 := by rw [h1, List.length_cons]; omega
  rw [show P 0 43 - 1 = (s.length : Int) + 1 by omega]
  exact ⟨h3, h4, h5⟩
/-- a constructor is begun -/
theorem STV.push {c k1 z w : Int} {s : SV} {P P1 : PH} (h : STW s P) (hw : w = P 0 43) (hz : K4 z k1) (h43 : P1 0 43 = w + 1) (s24 : P1 24 (w + 1) = z) (s26 : P1 26 w = c) (q26 : ∀ j : Int, j ≠ w → P1 26 j = P 26 j) (s27 : P1 27 w = 0) (q27 : ∀ j : Int, j ≠ w → P1 27 j = P 27 j)
    (s25 : P1 25 w = 0) (q25 : ∀ j : Int, j ≠ w → j ≠ w + 1 → P1 25 j = P 25 j) : STV ((c, 0, 0) :: s) k1 P1 := by
  obtain ⟨h1, h3⟩ := h
  have e : w = (s.length : Int) + 1 := by omega
  exact ⟨⟨by rw [h43, e, List.length_cons]; omega, by rw [← e]; exact s26, by rw [← e]; exact s27, by rw [← e]; exact s25, h3.eq s (fun j j1 j2 => ⟨q25 j (by omega) (by omega), q26 j (by omega), q27 j (by omega)⟩)⟩, by rw [h43, s24]; exact hz⟩
/-- the next field of the one on top (P: as it stood with the value on top; z: where it stands) -/
theorem STV.next {c f a k1 y z b : Int} {s : SV} {P P1 : PH} (h : STW ((c, f, a) :: s) P) (hz : z = P 0 43 - 1) (hy : K4 y k1) (h43 : P1 0 43 = z + 1) (s24 : P1 24 (z + 1) = y) (q26 : ∀ j : Int, P1 26 j = P 26 j) (s27 : P1 27 z = f + 1) (q27 : ∀ j : Int, j ≠ z → P1 27 j = P 27 j)
    (s25 : P1 25 z = b) (q25 : ∀ j : Int, j ≠ z → j ≠ z + 1 → P1 25 j = P 25 j) : STV ((c, f + 1, b) :: s) k1 P1 := by
  obtain ⟨h1, h3, h4, h5, h6⟩ := h
  have h1 : P 0 43 = ((s.length : Int) + 1) + 1 := by rw [h1, List.length_cons]; omega
  have e : z = (s.length : Int) + 1 := by omega
  exact ⟨⟨by rw [h43, e, List.length_cons]; omega, by rw [q26]; exact h3, by rw [← e]; exact s27, by rw [← e]; exact s25, h6.eq s (fun j j1 j2 => ⟨q25 j (by omega) (by omega), q26 j, q27 j (by omega)⟩)⟩, by rw [h43, s24]; exact hy⟩
/-- the one on top is whole: what stands below it -/
theorem STW.low {c f a z : Int} {s : SV} {P P1 : PH} (h : STW ((c, f, a) :: s) P) (hz : z = P 0 43 - 1) (h43 : P1 0 43 = z) (q26 : ∀ j : Int, P1 26 j = P 26 j) (q27 : ∀ j : Int, P1 27 j = P 27 j) (q25 : ∀ j : Int, j ≠ z → P1 25 j = P 25 j) : STW s P1 := by
  obtain ⟨h1, h3, h4, h5, h6⟩ := h
  have h1 : P 0 43 = ((s.length : Int) + 1) + 1 := by rw [h1, List.length_cons]; omega
  exact ⟨by omega, h6.eq s (fun j j1 j2 => ⟨q25 j (by omega), q26 j, q27 j⟩)⟩
/-- what the going on behind a whole value leaves -/
def VN (T : TT) (K : PH) (k0 : Int) (s : SV) (p v r : Int) (P : PH) : Prop := (0 < P 0 8 ∧ VRs T K 1 s 0 p v (P 0 8, P 0 9, 0)) ∨
  (P 0 8 ≤ 0 ∧ r = 1 ∧ ∃ (s1 : SV) (k1 q : Int), MS T q P ∧ STV s1 k1 P ∧ TSV K k0 s1 k1 ∧ ∀ x, VRs T K 0 s1 k1 q 0 x → VRs T K 1 s 0 p v x) ∨
  (P 0 8 ≤ 0 ∧ r = 0 ∧ ∃ q w : Int, MS T q P ∧ P 25 0 = w ∧ (0 ≤ w ∧ w < sz K k0) ∧ VRs T K 1 s 0 p v (0, q, w))
/-- what the reading of a value leaves -/
def VL (T : TT) (K : PH) (k0 p m : Int) (P : PH) : Prop := (0 < P 0 8 ∧ VRs T K 0 [] k0 p 0 (P 0 8, P 0 9, 0)) ∨
  (P 0 8 ≤ 0 ∧ m = 1 ∧ ∃ (s1 : SV) (k1 q : Int), MS T q P ∧ STV s1 k1 P ∧ TSV K k0 s1 k1 ∧ ∀ x, VRs T K 0 s1 k1 q 0 x → VRs T K 0 [] k0 p 0 x) ∨
  (P 0 8 ≤ 0 ∧ m = 0 ∧ ∃ q w : Int, MS T q P ∧ P 25 0 = w ∧ (0 ≤ w ∧ w < sz K k0) ∧ VRs T K 0 [] k0 p 0 (0, q, w))
/-- a whole value on its way: the constructors begun below it, the place behind it, its kind -/
def VG (T : TT) (K : PH) (k0 : Int) (s : SV) (p v v1 : Int) (P : PH) : Prop := (0 < P 0 8 ∧ VRs T K 1 s 0 p v (P 0 8, P 0 9, 0)) ∨
  (P 0 8 ≤ 0 ∧ ∃ (s1 : SV) (k1 q : Int), MS T q P ∧ STW s1 P ∧ TSV K k0 s1 k1 ∧ (0 ≤ v1 ∧ v1 < sz K k1) ∧ ∀ x, VRs T K 1 s1 0 q v1 x → VRs T K 1 s 0 p v x)
section VNS
variable {T : TT} {K : PH} {k0 p v v1 r k q : Int} {s : SV} {P P1 : PH}
theorem VG.start (h0 : P 0 8 ≤ 0) (hs : MS T p P) (hw : STW s P) (ht : TSV K k0 s k) (hv : 0 ≤ v ∧ v < sz K k) : VG T K k0 s p v v P := Or.inr ⟨h0, s, k, p, hs, hw, ht, hv, fun _ hx => hx⟩
theorem VG.flt (h : VG T K k0 s p v v1 P) (h0 : 0 < P 0 8) : VN T K k0 s p v r P := by
  rcases h with h | h
  · exact Or.inl h
  · exact absurd h.1 (by omega)
theorem VN.done {w : Int} (hr : ∀ x, VRs T K 1 [] 0 q v1 x → VRs T K 1 s 0 p v x) (ht : TSV K k0 [] k) (hv : 0 ≤ v1 ∧ v1 < sz K k) (h8 : P 0 8 ≤ 0) (hs : MS T q P) (h25 : P 25 0 = w) (hw : w = v1) : VN T K k0 s p v 0 P := by
  have ht : k = k0 := ht
  subst hw
  subst ht
  exact Or.inr (Or.inr ⟨h8, rfl, q, w, hs, h25, hv, hr _ VRs.done⟩)
theorem VN.commaF {c f a : Int} {s1 : SV} (hr : ∀ x, VRs T K 1 ((c, f, a) :: s1) 0 q v1 x → VRs T K 1 s 0 p v x) (hf : f + 1 < K 6 c) (hn : (sgn T 44 q).1 ≠ 0) (h8 : P 0 8 = (sgn T 44 q).1) (h80 : 0 ≤ P 0 8) (h9 : P 0 9 = (sgn T 44 q).2) : VN T K k0 s p v r P := by
  refine Or.inl ⟨by omega, ?_⟩
  rw [h8, h9]
  exact hr _ (VRs.commaF hf hn)
theorem TSV.next {c f a : Int} {s1 : SV} (ht : TSV K k0 ((c, f, a) :: s1) k) (hf : f + 1 < K 6 c) (h6 : K 6 c ≤ 2) (hv : 0 ≤ v1 ∧ v1 < sz K k) : TSV K k0 ((c, f + 1, a * sz K (fK K c f) + v1) :: s1) (K 8 c) := by
  obtain ⟨h1, h2, h3, h4, h5⟩ := ht
  have f0 : f = 0 := by omega
  have a0 : a = 0 := by omega
  subst f0
  subst a0
  rw [show (0 : Int) * sz K (fK K c 0) + v1 = v1 by rw [Int.zero_mul]; omega]
  exact ⟨rfl, h2, ⟨by omega, hf⟩, Or.inr ⟨rfl, by rw [h1] at hv; exact hv⟩, h5⟩
theorem VN.comma {c f a : Int} {s1 : SV} (hr : ∀ x, VRs T K 1 ((c, f, a) :: s1) 0 q v1 x → VRs T K 1 s 0 p v x) (ht : TSV K k0 ((c, f, a) :: s1) k) (h6 : K 6 c ≤ 2) (hv : 0 ≤ v1 ∧ v1 < sz K k) (hf : f + 1 < K 6 c) (hn : (sgn T 44 q).1 = 0) (h8 : P 0 8 ≤ 0) (hs : MS T (tE T q) P) (hw : STV ((c, f + 1, a * sz K (fK K c f) + v1) :: s1) (K 8 c) P) : VN T K k0 s p v 1 P :=
  Or.inr (Or.inl ⟨h8, rfl, _, _, tE T q, hs, hw, ht.next hf h6 hv, fun x hx => hr x (VRs.comma hf hn hx)⟩)
theorem VG.closeF {c f a : Int} {s1 : SV} (hr : ∀ x, VRs T K 1 ((c, f, a) :: s1) 0 q v1 x → VRs T K 1 s 0 p v x) (hf : ¬ f + 1 < K 6 c) (hn : (sgn T 41 q).1 ≠ 0) (h8 : P 0 8 = (sgn T 41 q).1) (h80 : 0 ≤ P 0 8) (h9 : P 0 9 = (sgn T 41 q).2) : VG T K k0 s p v r P := by
  refine Or.inl ⟨by omega, ?_⟩
  rw [h8, h9]
  exact hr _ (VRs.closeF hf hn)
/-- a constructor's value -/
theorem TSV.val {c f a : Int} {s1 : SV} (hb : AB K) (ht : TSV K k0 ((c, f, a) :: s1) k) (hf : ¬ f + 1 < K 6 c) (h6 : K 6 c ≤ 2) (hk : 0 ≤ K 5 c) (hv : 0 ≤ v1 ∧ v1 < sz K k) : (0 ≤ a * sz K (fK K c f) + v1 ∧ a * sz K (fK K c f) + v1 < cpr K c) ∧ 0 ≤ K 10 c + (a * sz K (fK K c f) + v1) ∧ K 10 c + (a * sz K (fK K c f) + v1) < sz K (K 5 c) := by
  obtain ⟨h1, h2, h3, h4, h5⟩ := ht
  have b := cpr_b hb h2.1 h2.2
  have e := sz_s K (K 5 c)
  have l : 0 ≤ a * sz K (fK K c f) + v1 ∧ a * sz K (fK K c f) + v1 < cpr K c := by
    rcases h4 with ⟨f0, a0⟩ | ⟨f0, a0⟩
    · subst f0
      subst a0
      rw [cpr_1 (by omega), Int.zero_mul, Int.zero_add]
      rw [h1] at hv
      exact hv
    · subst f0
      rw [cpr_2 (by omega)]
      rw [h1] at hv
      exact lex_lt a0 hv
  exact ⟨l, by omega, by omega⟩
theorem VG.close {c f a w : Int} {s1 : SV} (hb : AB K) (hr : ∀ x, VRs T K 1 ((c, f, a) :: s1) 0 q v1 x → VRs T K 1 s 0 p v x) (ht : TSV K k0 ((c, f, a) :: s1) k) (h6 : K 6 c ≤ 2) (hk : 0 ≤ K 5 c) (hv : 0 ≤ v1 ∧ v1 < sz K k) (hf : ¬ f + 1 < K 6 c) (hn : (sgn T 41 q).1 = 0) (h8 : P 0 8 ≤ 0) (hs : MS T (tE T q) P) (hw : STW s1 P) (e : w = K 10 c + (a * sz K (fK K c f) + v1)) : VG T K k0 s p v w P := by
  have l := (ht.val hb hf h6 hk hv).2
  subst e
  exact Or.inr ⟨h8, s1, K 5 c, tE T q, hs, hw, ht.2.2.2.2, l, fun x hx => hr x (VRs.close hf hn hx)⟩
/-- a value's reading begins -/
theorem VL.start (h8 : P 0 8 ≤ 0) (hs : MS T p P) (hw : STV [] k0 P) : VL T K k0 p 1 P := Or.inr (Or.inl ⟨h8, rfl, [], k0, p, hs, hw, rfl, fun _ hx => hx⟩)
theorem VRs.bad {v : Int} (h : tK T q = 4) : VRs T K 0 s k q v (1, tS T q, 0) := by
  by_cases hk : k = -1
  · have e := num_4 (lo := 0) (hi := 19) h
    have := VRs.numF (T := T) (K := K) (s := s) (p := q) (v := v) hk (by rw [e]; exact (show (1 : Int) ≠ 0 by decide))
    rw [e] at this
    exact this
  · have e : cas T K k q = (1, tS T q) := by
      unfold cas fh
      rw [if_neg (by omega), if_pos h]
    have := VRs.caseF (T := T) (K := K) (s := s) (p := q) (v := v) hk (by rw [e]; exact (show (1 : Int) ≠ 0 by decide))
    rw [e] at this
    exact this
theorem VL.bad {m : Int} (hr : ∀ x, VRs T K 0 s k q 0 x → VRs T K 0 [] k0 p 0 x) (h : tK T q = 4) (h8 : P 0 8 = 1) (h9 : P 0 9 = tS T q) : VL T K k0 p m P := by
  refine Or.inl ⟨by omega, ?_⟩
  rw [h8, h9]
  exact hr _ (VRs.bad h)
theorem VL.flt {m : Int} {f l : Int} (hr : VRs T K 0 [] k0 p 0 (f, l, 0)) (h0 : 0 < P 0 8) (h8 : P 0 8 = f) (h9 : P 0 9 = l) : VL T K k0 p m P := Or.inl ⟨h0, by rw [h8, h9]; exact hr⟩
/-- the value goes on -/
theorem VL.more {m : Int} (hr : ∀ x, VRs T K 1 s 0 q v x → VRs T K 0 [] k0 p 0 x) (h : VN T K k0 s q v m P) : VL T K k0 p m P := by
  rcases h with ⟨h1, h2⟩ | ⟨h1, h2, s1, k1, q1, h3, h4, h5, h6⟩ | ⟨h1, h2, q1, w, h3, h4, h5, h6⟩
  · exact Or.inl ⟨h1, hr _ h2⟩
  · exact Or.inr (Or.inl ⟨h1, h2, s1, k1, q1, h3, h4, h5, fun x hx => hr x (h6 x hx)⟩)
  · exact Or.inr (Or.inr ⟨h1, h2, q1, w, h3, h4, h5, hr _ h6⟩)
theorem VL.into {c : Int} (hr : ∀ x, VRs T K 0 s k q 0 x → VRs T K 0 [] k0 p 0 x) (ht : TSV K k0 s k) (hk : k ≠ -1) (hc : (cas T K k q).1 = 0) (he : c = cNm K (tV T q)) (hc0 : 0 ≤ c ∧ c < K 0 1) (h5 : K 5 c = k) (h6 : K 6 c ≠ 0) (h60 : 0 ≤ K 6 c) (hn : (sgn T 40 (tE T q)).1 = 0) (h8 : P 0 8 ≤ 0) (hs : MS T (tE T (tE T q)) P) (hw : STV ((c, 0, 0) :: s) (K 7 c) P) : VL T K k0 p 1 P := by
  subst he
  exact Or.inr (Or.inl ⟨h8, rfl, _, _, _, hs, hw, ⟨rfl, hc0, ⟨Int.le_refl _, by omega⟩, Or.inl ⟨rfl, rfl⟩, by rw [h5]; exact ht⟩, fun x hx => hr x (VRs.into hk hc h6 hn hx)⟩)
end VNS
/-! the tables of the bank in use -/
theorem MKB.cc {K P : PH} (h : MKB K P) {c : Int} (h0 : 0 ≤ c) (h1 : c < K 0 1) : NW (K 4 c) (P 23 (24 * P 0 13 + c)) ∧ P 6 (24 * P 0 13 + c) = K 5 c ∧ P 7 (24 * P 0 13 + c) = K 6 c ∧ (1 ≤ K 6 c → K4 (P 8 (2 * (24 * P 0 13 + c))) (K 7 c)) ∧ (2 ≤ K 6 c → K4 (P 8 (2 * (24 * P 0 13 + c) + 1)) (K 8 c)) ∧ P 9 (24 * P 0 13 + c) = K 10 c := h.2.2.2 c h0 h1
theorem MKB.cn {K P : PH} (h : MKB K P) (ha : AW K) {v w : Int} (hw : NW v w) : fxi (fun i => P 23 (24 * P 0 13 + i)) w (P 5 (P 0 13)).toNat = cNm K v := by
  unfold cNm
  rw [h.2.1]
  refine fxi_cg _ (fun i h0 h1 => ?_)
  have := ha.1
  exact ((h.cc (c := i) h0 (by omega)).1.inj hw).symm
theorem MKB.fld {K P : PH} (h : MKB K P) {c f : Int} (h0 : 0 ≤ c) (h1 : c < K 0 1) (h2 : K 6 c ≤ 2) (hf : 0 ≤ f ∧ f < K 6 c) : K4 (P 8 (2 * (24 * P 0 13 + c) + f)) (fK K c f) := by
  have q := h.cc h0 h1
  unfold fK
  by_cases z : f = 0
  · rw [if_pos z, z, Int.add_zero]; exact q.2.2.2.1 (by omega)
  · rw [if_neg z, show f = 1 by omega]; exact q.2.2.2.2.1 (by omega)
theorem MKB.vla {K P : PH} (h : MKB K P) {x k r : Int} (hx : K4 x k) (hk : k < K 0 0) (hr : (x = 4 ∧ r = 20) ∨ (x < 4 ∧ r = P 3 (4 * P 0 13 + x))) : r = sz K k := by
  have e := sz_s K k
  rcases hx with ⟨h1, h2⟩ | ⟨h1, h2, h3⟩
  · omega
  · have q := (h.k (k := x) h1 (by omega)).2.1
    subst h3
    omega
theorem MKB.vl {K P : PH} (h : MKB K P) {x k : Int} (hx : K4 x k) (hk : k < K 0 0) : vals P (P 0 13) x = sz K k := by
  unfold vals
  rcases hx with ⟨h1, h2⟩ | ⟨h1, h2, h3⟩
  · rw [if_pos h1, h2]; rfl
  · have e := sz_s K k
    have q := (h.k (k := x) h1 (by omega)).2.1
    rw [if_neg (by omega), q, h3]
    subst h3
    omega
/-- a row's reading by the reference: behind c columns -/
def RWM (T : TT) (K M : PH) (c a : Int) (P : PH) : Prop := (0 < P 0 8 ∧ (rwR T K M).1 = P 0 8 ∧ (rwR T K M).2.1 = P 0 9) ∨ (P 0 8 ≤ 0 ∧ 0 < M 0 0 ∧ ∃ q : Int, MS T q P ∧ RWL T K M c q a)
section RWMS
variable {T : TT} {K M : PH} {c a q : Int} {P : PH}
theorem RWM.no (h : M 0 0 ≤ 0) (h8 : P 0 8 = 1) (h9 : P 0 9 = 0) : RWM T K M c a P := by
  refine Or.inl ⟨by omega, ?_, ?_⟩
  · rw [rwR_0 h, h8]
  · rw [rwR_0 h, h9]
theorem RWM.start (h : 0 < M 0 0) (h8 : P 0 8 ≤ 0) (hs : MS T 0 P) : RWM T K M 0 0 P := Or.inr ⟨h8, h, 0, hs, RWL.z (by omega)⟩
theorem RWM.flt {x : Int × Int × Int} (h : 0 < M 0 0) (e : rwl T K M (M 0 0).toNat 0 0 0 = x) (h0 : 0 < P 0 8) (h8 : P 0 8 = x.1) (h9 : P 0 9 = x.2.1) : RWM T K M c a P := by
  refine Or.inl ⟨h0, ?_, ?_⟩
  · rw [rwR_f h e (by omega), h8]
  · rw [rwR_f h e (by omega), h9]
end RWMS
theorem ofi_inj {z x : Int} (h : Int32.ofInt z = Int32.ofInt x) (hz : IR z) (hx : IR x) : x = z := by
  have e := congrArg Int32.toInt h
  rw [oI hz, oI hx] at e
  exact e.symm
/-! the fault told -/
def XFA (F : Int × Int) (P : PH) : Prop := P 110 3 = F.1 ∧ P 110 4 = F.2
def MFA (F : Int × Int) (P : PH) : Prop := P 0 10 = F.1 ∧ P 0 11 = F.2
theorem XFA.fr {F0 : Int × Int} {P P1 : PH} {F : FSX} (h : XFA F0 P) (hf : FrX F P P1) (hd : disX F ([(45, 3), (45, 4)], []) = true) : XFA F0 P1 :=
  ⟨(disX_f hd hf (o := 110) (k := 45) (j := 3) ⟨by decide, rfl⟩ (by decide)).trans h.1, (disX_f hd hf (o := 110) (k := 45) (j := 4) ⟨by decide, rfl⟩ (by decide)).trans h.2⟩
theorem MFA.fr {F0 : Int × Int} {P P1 : PH} {F : FS} (h : MFA F0 P) (hf : FrM F P P1) (hd : disF F ([10, 11], []) = true) : MFA F0 P1 :=
  ⟨(disF_k hd hf (k := 10) (by decide)).trans h.1, (disF_k hd hf (k := 11) (by decide)).trans h.2⟩
end
section
/-! Texts: the constructor of a value; letters, numbers, values written one behind another. -/
def inC (K : PH) (k v c : Int) : Prop := 0 ≤ c ∧ c < K 0 1 ∧ K 5 c = k ∧ K 10 c ≤ v ∧ v < K 10 c + cpr K c
theorem inC.un {K : PH} (hb : AB K) {k v c d : Int} (h : inC K k v c) (h2 : inC K k v d) : c = d := by
  obtain ⟨a1, a2, a3, a4, a5⟩ := h
  obtain ⟨b1, b2, b3, b4, b5⟩ := h2
  by_cases e : c = d
  · exact e
  · exfalso
    by_cases z : c < d
    · have q := (hb c a1 a2).2.1 d z b2 (by omega); omega
    · have q := (hb d b1 b2).2.1 c (by omega) a2 (by omega); omega
noncomputable def cO (K : PH) (k v : Int) : Int := Classical.epsilon (inC K k v)
section VTS
variable {K : PH} {W : TT} {k v : Int}
end VTS
/-! what lies written on both sides -/
def TZ : TT := (fun _ => 0, 0)
def XW (W : TT) (P : PH) : Prop := P 3 1 = W.2 ∧ ∀ i : Int, 0 ≤ i → i < W.2 → P 4 i = W.1 i
def MW (W : TT) (P : PH) : Prop := P 0 70 = W.2 ∧ ∀ i : Int, 0 ≤ i → i < W.2 → P 46 i = W.1 i
theorem XW.fr {W : TT} {P P1 : PH} {F : FSX} (h : XW W P) (hf : FrX F P P1) (hd : disX F ([(3, 1)], [4]) = true) : XW W P1 := by
  refine ⟨by rw [disX_f hd hf (o := 3) (k := 3) (j := 1) ⟨by decide, rfl⟩ (by decide)]; exact h.1, fun i i0 i1 => ?_⟩
  rw [disX_a hd hf (o := 4) (k := 4) ⟨by decide, rfl⟩ (by decide)]
  exact h.2 i i0 i1
theorem MW.fr {W : TT} {P P1 : PH} {F : FS} (h : MW W P) (hf : FrM F P P1) (hd : disF F ([70], [46]) = true) : MW W P1 := by
  unfold MW at h ⊢
  rw [disF_k hd hf (k := 70) (by decide), disF_o hd hf (o := 46) (by decide) rfl]
  exact h
theorem XW.nil {P : PH} (h : P 3 1 = 0) : XW TZ P := ⟨h, fun i i0 i1 => by exfalso; have i1 : i < 0 := i1; omega⟩
theorem MW.nil {P : PH} (h : P 0 70 = 0) : MW TZ P := ⟨h, fun i i0 i1 => by exfalso; have i1 : i < 0 := i1; omega⟩
theorem XW.add {W : TT} {P P1 : PH} {c : Int} (h : XW W P) (h1 : P1 3 1 = P 3 1 + 1) (s1 : P1 4 (P 3 1) = c) (q1 : ∀ j : Int, j ≠ P 3 1 → P1 4 j = P 4 j) : XW (tadd W c) P1 := by
  refine ⟨by rw [tadd_2, h1, h.1], fun i i0 i1 => ?_⟩
  rw [tadd_2] at i1
  show _ = if i = W.2 then c else W.1 i
  by_cases e : i = W.2
  · rw [if_pos e, e, ← h.1, s1]
  · rw [if_neg e, q1 i (by rw [h.1]; exact e)]
    exact h.2 i i0 (by omega)
theorem MW.add {W : TT} {P P1 : PH} {c : Int} (h : MW W P) (h1 : P1 0 70 = P 0 70 + 1) (s1 : P1 46 (P 0 70) = c) (q1 : ∀ j : Int, j ≠ P 0 70 → P1 46 j = P 46 j) : MW (tadd W c) P1 := by
  refine ⟨by rw [tadd_2, h1, h.1], fun i i0 i1 => ?_⟩
  rw [tadd_2] at i1
  show _ = if i = W.2 then c else W.1 i
  by_cases e : i = W.2
  · rw [if_pos e, e, ← h.1, s1]
  · rw [if_neg e, q1 i (by rw [h.1]; exact e)]
    exact h.2 i i0 (by omega)
/-! the values of a row: column by column, from the last one -/
def rLs (K M : PH) (r : Int) : Nat → Int
  | 0 => r
  | n + 1 => rLs K M r n / sz K (M 1 (M 0 0 - 1 - (n : Int)))
/-- the value in column c -/
def vIn (K M : PH) (r c : Int) : Int := rLs K M r (M 0 0 - 1 - c).toNat % sz K (M 1 c)
theorem vIn_b {K M : PH} {r c : Int} (hz : 1 ≤ sz K (M 1 c)) : 0 ≤ vIn K M r c ∧ vIn K M r c < sz K (M 1 c) := ⟨Int.emod_nonneg _ (by omega), Int.emod_lt_of_pos _ (by omega)⟩
/-- the class's search for a value's constructor: the last one so far that begins no later -/
def CSI (K : PH) (k v f i d : Int) : Prop := (d = -1 ∧ i = 0) ∨ ((f ≤ d ∧ d < f + i) ∧ K 10 d ≤ v ∧ (∀ c : Int, d < c → c < f + i → v < K 10 c))
theorem CSI.fin {K : PH} (hw : AW K) (hb : AB K) {k v d : Int} (hk : 0 ≤ k ∧ k < K 0 0) (hv : 0 ≤ v ∧ v < K 2 k) (h : CSI K k v (K 9 k) (K 3 k) d) : inC K k v d := by
  have w := hw.2.1 k hk.1 hk.2
  rcases h with ⟨h1, h2⟩ | ⟨⟨h1, h2⟩, h3, h4⟩
  · omega
  · have e5 := (hw.2.2.2 d k (by omega) (by omega) hk.1 hk.2).mpr (by omega)
    refine ⟨by omega, by omega, e5, h3, ?_⟩
    rcases (hb d (by omega) (by omega)).2.2.1 with q | ⟨q1, q2, q3⟩
    · rw [e5] at q; omega
    · have q4 := (hw.2.2.2 (d + 1) k (by omega) q1 hk.1 hk.2).mp (by omega)
      have q5 := h4 (d + 1) (by omega) (by omega)
      omega
theorem CSI.go {K : PH} {k v f i d : Int} (h : CSI K k v f i d) (hi : 0 ≤ i) (hv : K 10 (f + i) ≤ v) : CSI K k v f (i + 1) (f + i) := Or.inr ⟨⟨by omega, by omega⟩, hv, fun c c0 c1 => by exfalso; omega⟩
theorem CSI.no {K : PH} (hw : AW K) (hb : AB K) {k v i d : Int} (hk : 0 ≤ k ∧ k < K 0 0) (h : CSI K k v (K 9 k) i d) (hi : 0 ≤ i ∧ i < K 3 k) (hv0 : 0 ≤ v) (hv : v < K 10 (K 9 k + i)) : CSI K k v (K 9 k) (i + 1) d := by
  have w := hw.2.1 k hk.1 hk.2
  rcases h with ⟨h1, h2⟩ | ⟨⟨h1, h2⟩, h3, h4⟩
  · exfalso
    subst h2
    rw [Int.add_zero] at hv
    have e0 : K 5 (K 9 k) = k := (hw.2.2.2 (K 9 k) k (by omega) (by omega) hk.1 hk.2).mpr (by omega)
    rcases (hb (K 9 k) (by omega) (by omega)).2.2.2 with q | ⟨q1, q2⟩
    · omega
    · have q3 := (hw.2.2.2 (K 9 k - 1) k (by omega) (by omega) hk.1 hk.2).mp (by omega)
      omega
  · refine Or.inr ⟨⟨h1, by omega⟩, h3, fun c c0 c1 => ?_⟩
    by_cases e : c = K 9 k + i
    · rw [e]; exact hv
    · exact h4 c c0 (by omega)
theorem rLs_b {K M : PH} {r : Int} (hz : ∀ c : Int, 0 ≤ c → c < M 0 0 → 1 ≤ sz K (M 1 c)) (hr : 0 ≤ r) : ∀ n : Nat, (n : Int) ≤ M 0 0 → 0 ≤ rLs K M r n ∧ rLs K M r n ≤ r := by
  intro n
  induction n with
  | zero => intro _; exact ⟨hr, Int.le_refl _⟩
  | succ n ih =>
    intro hn
    have i1 := ih (by omega)
    have z1 := hz (M 0 0 - 1 - (n : Int)) (by omega) (by omega)
    show 0 ≤ rLs K M r n / sz K (M 1 (M 0 0 - 1 - (n : Int))) ∧ rLs K M r n / sz K (M 1 (M 0 0 - 1 - (n : Int))) ≤ r
    have q1 := Int.ediv_nonneg i1.1 (show 0 ≤ sz K (M 1 (M 0 0 - 1 - (n : Int))) by omega)
    have q2 := Int.ediv_le_self (sz K (M 1 (M 0 0 - 1 - (n : Int)))) i1.1
    omega
end
