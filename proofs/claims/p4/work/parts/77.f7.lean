/-! The reference's stack of patterns begun; what a reading of a pattern ends with. -/
def STL (P : PH) : SK → Prop
  | [] => True
  | (c, f, k) :: s => P 26 ((s.length : Int) + 1) = c ∧ P 27 ((s.length : Int) + 1) = f ∧ K4 (P 24 ((s.length : Int) + 1)) k ∧ STL P s
theorem STL.eq {P P1 : PH} : ∀ (s : SK), STL P s → (∀ j : Int, 1 ≤ j → j ≤ s.length → P1 24 j = P 24 j ∧ P1 26 j = P 26 j ∧ P1 27 j = P 27 j) → STL P1 s := by
  intro s
  induction s with
  | nil => intro _ _; trivial
  | cons x s ih =>
    obtain ⟨c, f, k⟩ := x
    intro h e
    have e1 := e ((s.length : Int) + 1) (by omega) (by rw [List.length_cons]; omega)
    refine ⟨by rw [e1.2.1]; exact h.1, by rw [e1.2.2]; exact h.2.1, by rw [e1.1]; exact h.2.2.1, ih h.2.2.2 (fun j j1 j2 => e j j1 (by rw [List.length_cons]; omega))⟩
/-- patterns begun: the stack, the kind of the one on top -/
def STK (s : SK) (k : Int) (P : PH) : Prop := P 0 43 = (s.length : Int) + 1 ∧ K4 (P 24 (P 0 43)) k ∧ STL P s
theorem STK.fr {s : SK} {k : Int} {P P1 : PH} {F : FS} (h : STK s k P) (hf : FrM F P P1) (hd : disF F ([43], [24, 26, 27]) = true) : STK s k P1 := by
  obtain ⟨h1, h2, h3⟩ := h
  refine ⟨by rw [disF_k hd hf (k := 43) (by decide)]; exact h1, by rw [disF_k hd hf (k := 43) (by decide), disF_o hd hf (o := 24) (by decide) rfl]; exact h2, h3.eq s (fun j _ _ => ?_)⟩
  rw [disF_o hd hf (o := 24) (by decide) rfl, disF_o hd hf (o := 26) (by decide) rfl, disF_o hd hf (o := 27) (by decide) rfl]
  exact ⟨rfl, rfl, rfl⟩
theorem STK.start {k z : Int} {P : PH} (h43 : P 0 43 = 1) (h24 : P 24 1 = z) (hk : K4 z k) : STK [] k P := ⟨h43, by rw [h43, h24]; exact hk, trivial⟩
theorem STK.pop {c f k1 k : Int} {s : SK} {P P1 : PH} (h : STK ((c, f, k1) :: s) k P) (h43 : P1 0 43 = P 0 43 - 1) (q24 : ∀ j, P1 24 j = P 24 j) (q26 : ∀ j, P1 26 j = P 26 j) (q27 : ∀ j, P1 27 j = P 27 j) : STK s k1 P1 ∧ P1 26 (P1 0 43) = c ∧ P1 27 (P1 0 43) = f := by
  obtain ⟨h1, h2, h3, h4, h5, h6⟩ := h
  have h1 : P 0 43 = ((s.length : Int) + 1) + 1 := by rw [h1, List.length_cons]; omega
  have e : P1 0 43 = (s.length : Int) + 1 := by omega
  refine ⟨⟨e, by rw [e, q24]; exact h5, h6.eq s (fun j _ _ => ⟨q24 j, q26 j, q27 j⟩)⟩, by rw [e, q26]; exact h3, by rw [e, q27]; exact h4⟩
theorem STK.push {c f k k1 z : Int} {s : SK} {P P1 : PH} (h : STK s k P) (hz : K4 z k1) (h43 : P1 0 43 = P 0 43 + 1) (s24 : P1 24 (P 0 43 + 1) = z) (q24 : ∀ j : Int, j ≠ P 0 43 + 1 → P1 24 j = P 24 j) (s26 : P1 26 (P 0 43) = c) (q26 : ∀ j : Int, j ≠ P 0 43 → P1 26 j = P 26 j) (s27 : P1 27 (P 0 43) = f) (q27 : ∀ j : Int, j ≠ P 0 43 → P1 27 j = P 27 j) : STK ((c, f, k) :: s) k1 P1 := by
  obtain ⟨h1, h2, h3⟩ := h
  refine ⟨by rw [h43, h1, List.length_cons]; omega, by rw [h43, s24]; exact hz, by rw [← h1]; exact s26, by rw [← h1]; exact s27, by rw [← h1, q24 _ (by omega)]; exact h2, h3.eq s (fun j j1 j2 => ⟨q24 j (by omega), q26 j (by omega), q27 j (by omega)⟩)⟩
theorem STK.b {s : SK} {k : Int} {P : PH} (h : STK s k P) : P 0 43 = (s.length : Int) + 1 ∧ ((P 24 (P 0 43) = 4 ∧ k = -1) ∨ (0 ≤ P 24 (P 0 43) ∧ P 24 (P 0 43) ≤ 3 ∧ k = P 24 (P 0 43))) := ⟨h.1, h.2.1⟩
/-- a fault: the machine's own, or that of a token that can't be anywhere, just behind a whole pattern -/
def LFa (T : TT) (K : PH) (m : Int) (s : SK) (k p f pl : Int) : Prop := Runs T K m s k p (f, pl) ∨ ∃ q, tK T q = 4 ∧ f = 1 ∧ pl = tS T q ∧ Runs T K m s k p (0, q)
theorem LFa.go {T : TT} {K : PH} {m m1 : Int} {s s1 : SK} {k k1 p p1 f pl : Int} (h : LFa T K m1 s1 k1 p1 f pl) (hr : ∀ x, Runs T K m1 s1 k1 p1 x → Runs T K m s k p x) : LFa T K m s k p f pl := by
  rcases h with h | ⟨q, h1, h2, h3, h4⟩
  · exact Or.inl (hr _ h)
  · exact Or.inr ⟨q, h1, h2, h3, hr _ h4⟩
theorem tO_4 {T : TT} {p : Int} (h : tK T p ≠ 1) : tO T p = -1 := by
  unfold tO
  rw [if_neg h]
theorem sgn_4 {T : TT} {c p : Int} (h : tK T p = 4) : sgn T c p = (1, tS T p) := by
  unfold sgn fh
  rw [if_neg (by omega), if_pos h]
/-- a token that can't be anywhere behind an alternative -/
theorem LFa.bad {T : TT} {K : PH} {s : SK} {k p f pl : Int} (h : tK T p = 4) (hf : f = 1) (hp : pl = tS T p) : LFa T K 1 s k p f pl := by
  have ho : tO T p ≠ 9 := by rw [tO_4 (by omega)]; decide
  subst hf
  subst hp
  cases s with
  | nil => exact Or.inr ⟨p, h, rfl, rfl, Runs.done ho⟩
  | cons x s =>
    obtain ⟨c, g, k1⟩ := x
    left
    by_cases hg : g + 1 < K 6 c
    · have := Runs.commaF (T := T) (K := K) (s := s) (k := k) (p := p) (k1 := k1) ho hg (by rw [sgn_4 h]; show (1 : Int) ≠ 0; decide)
      rw [sgn_4 h] at this
      exact this
    · have := Runs.closeF (T := T) (K := K) (s := s) (k := k) (p := p) (k1 := k1) ho hg (by rw [sgn_4 h]; show (1 : Int) ≠ 0; decide)
      rw [sgn_4 h] at this
      exact this
/-- what an alternative leaves -/
def AL (T : TT) (K : PH) (s : SK) (k p r : Int) (P : PH) : Prop := (0 < P 0 8 ∧ LFa T K 0 s k p (P 0 8) (P 0 9)) ∨ (P 0 8 ≤ 0 ∧ r = 1 ∧ ∃ q, MS T q P ∧ STK s k P ∧ ∀ x, Runs T K 1 s k q x → Runs T K 0 s k p x) ∨ (P 0 8 ≤ 0 ∧ r = 0 ∧ ∃ s1 k1 q, MS T q P ∧ STK s1 k1 P ∧ ∀ x, Runs T K 0 s1 k1 q x → Runs T K 0 s k p x)
/-- what the going on behind an alternative leaves -/
def GN (T : TT) (K : PH) (s : SK) (k p r : Int) (P : PH) : Prop := (0 < P 0 8 ∧ LFa T K 1 s k p (P 0 8) (P 0 9)) ∨ (P 0 8 ≤ 0 ∧ r = 1 ∧ ∃ s1 k1 q, MS T q P ∧ STK s1 k1 P ∧ ∀ x, Runs T K 0 s1 k1 q x → Runs T K 1 s k p x) ∨ (P 0 8 ≤ 0 ∧ r = 0 ∧ ∃ q, MS T q P ∧ Runs T K 1 s k p (0, q))
/-- a reading that ends at q, or with a fault, or with one of a token that can't be anywhere just there -/
def REn (T : TT) (x : Int × Int) (P : PH) : Prop := (P 0 8 = x.1 ∧ (x.1 = 0 ∨ P 0 9 = x.2)) ∨ (x.1 = 0 ∧ tK T x.2 = 4 ∧ P 0 8 = 1 ∧ P 0 9 = tS T x.2)
theorem LFa.pat {T : TT} {K : PH} {k p : Int} {P : PH} (h : LFa T K 0 [] k p (P 0 8) (P 0 9)) : REn T (pat T K k p) P := by
  rcases h with h | ⟨q, h1, h2, h3, h4⟩
  · rw [h.pat]
    exact Or.inl ⟨rfl, Or.inr rfl⟩
  · rw [h4.pat]
    exact Or.inr ⟨rfl, h1, h2, h3⟩
theorem STK.top {c f k1 k : Int} {s : SK} {P : PH} (h : STK ((c, f, k1) :: s) k P) : P 26 (P 0 43 - 1) = c ∧ P 27 (P 0 43 - 1) = f := by
  obtain ⟨h1, h2, h3, h4, h5, h6⟩ := h
  have h1 : P 0 43 = ((s.length : Int) + 1) + 1 := by rw [h1, List.length_cons]; omega
  rw [show P 0 43 - 1 = (s.length : Int) + 1 by omega]
  exact ⟨h3, h4⟩
theorem num_4 {T : TT} {lo hi p : Int} (h : tK T p = 4) : num T lo hi p = (1, tS T p) := by
  unfold num fh
  rw [if_neg (by omega), if_pos h]
theorem LFa.bad0 {T : TT} {K : PH} {s : SK} {k p f pl : Int} (h : tK T p = 4) (hf : f = 1) (hp : pl = tS T p) : LFa T K 0 s k p f pl := by
  have ho : tO T p ≠ 8 := by rw [tO_4 (by omega)]; decide
  subst hf
  subst hp
  left
  by_cases hk : k = -1
  · have e : rng T p = (1, tS T p) := by
      unfold rng
      rw [num_4 h]
      rfl
    have := Runs.rangeF (T := T) (K := K) (s := s) (k := k) (p := p) ho hk (by rw [e]; show (1 : Int) ≠ 0; decide)
    rw [e] at this
    exact this
  · have e : cas T K k p = (1, tS T p) := by
      unfold cas fh
      rw [if_neg (by omega), if_pos h]
    have := Runs.caseF (T := T) (K := K) (s := s) (k := k) (p := p) ho hk (by rw [e]; show (1 : Int) ≠ 0; decide)
    rw [e] at this
    exact this
theorem pair_eq {x : Int × Int} {a b : Int} (h1 : a = x.1) (h2 : b = x.2) : (a, b) = x := by
  subst h1
  subst h2
  rfl
theorem AL.bad {T : TT} {K : PH} {s : SK} {k p r : Int} {P : PH} (h : tK T p = 4) (h8 : P 0 8 = 1) (h9 : P 0 9 = tS T p) : AL T K s k p r P := Or.inl ⟨by omega, LFa.bad0 h h8 h9⟩
theorem AL.any {T : TT} {K : PH} {s : SK} {k p : Int} {P : PH} (h : tO T p = 8) (h8 : P 0 8 ≤ 0) (hs : MS T (tE T p) P) (hk : STK s k P) : AL T K s k p 1 P := Or.inr (Or.inl ⟨h8, rfl, tE T p, hs, hk, fun _ hx => Runs.any h hx⟩)
theorem AL.range {T : TT} {K : PH} {s : SK} {k p : Int} {P : PH} (ho : tO T p ≠ 8) (hk : k = -1) (hr : REn T (rng T p) P) (h0 : 0 ≤ P 0 8) (hs : P 0 8 = 0 → MS T (rng T p).2 P) (hst : STK s k P) : AL T K s k p 1 P := by
  rcases hr with ⟨h1, h2⟩ | ⟨h1, h2, h3, h4⟩
  · by_cases e : (rng T p).1 = 0
    · exact Or.inr (Or.inl ⟨by omega, rfl, (rng T p).2, hs (by omega), hst, fun _ hx => Runs.range ho hk e hx⟩)
    · refine Or.inl ⟨by omega, Or.inl ?_⟩
      rw [pair_eq h1 (h2.resolve_left e)]
      exact Runs.rangeF ho hk e
  · exact Or.inl ⟨by omega, (LFa.bad h2 h3 h4).go (fun _ hx => Runs.range ho hk h1 hx)⟩
theorem AL.caseF {T : TT} {K : PH} {s : SK} {k p r : Int} {P : PH} (ho : tO T p ≠ 8) (hk : k ≠ -1) (h0 : 0 < P 0 8) (h1 : P 0 8 = (cas T K k p).1) (h2 : P 0 9 = (cas T K k p).2) : AL T K s k p r P := by
  refine Or.inl ⟨h0, Or.inl ?_⟩
  rw [pair_eq h1 h2]
  exact Runs.caseF ho hk (by omega)
theorem AL.case0 {T : TT} {K : PH} {s : SK} {k p : Int} {P : PH} (ho : tO T p ≠ 8) (hk : k ≠ -1) (h0 : P 0 8 ≤ 0) (hc : (cas T K k p).1 = 0) (h6 : K 6 (cNm K (tV T p)) = 0) (hs : MS T (tE T p) P) (hst : STK s k P) : AL T K s k p 1 P := Or.inr (Or.inl ⟨h0, rfl, tE T p, hs, hst, fun _ hx => Runs.case0 ho hk hc h6 hx⟩)
theorem AL.intoF {T : TT} {K : PH} {s : SK} {k p r : Int} {P : PH} (ho : tO T p ≠ 8) (hk : k ≠ -1) (h0 : 0 < P 0 8) (hc : (cas T K k p).1 = 0) (h6 : K 6 (cNm K (tV T p)) ≠ 0) (h1 : P 0 8 = (sgn T 40 (tE T p)).1) (h2 : P 0 9 = (sgn T 40 (tE T p)).2) : AL T K s k p r P := by
  refine Or.inl ⟨h0, Or.inl ?_⟩
  rw [pair_eq h1 h2]
  exact Runs.intoF ho hk hc h6 (by omega)
theorem AL.into {T : TT} {K : PH} {s : SK} {k p c : Int} {P : PH} (ho : tO T p ≠ 8) (hk : k ≠ -1) (h0 : P 0 8 ≤ 0) (hc : (cas T K k p).1 = 0) (e : c = cNm K (tV T p)) (h6 : K 6 (cNm K (tV T p)) ≠ 0) (h1 : (sgn T 40 (tE T p)).1 = 0) (hs : MS T (tE T (tE T p)) P) (hst : STK ((c, 0, k) :: s) (K 7 c) P) : AL T K s k p 0 P := by
  subst e
  exact Or.inr (Or.inr ⟨h0, rfl, _, _, _, hs, hst, fun _ hx => Runs.into ho hk hc h6 h1 hx⟩)
theorem AL.one {T : TT} {K : PH} {s : SK} {k p r : Int} {P : PH} (h : AL T K s k p r P) (hr : r ≠ 0) : ∃ q, (0 < P 0 8 ∧ LFa T K 0 s k p (P 0 8) (P 0 9)) ∨ (P 0 8 ≤ 0 ∧ MS T q P ∧ STK s k P ∧ ∀ x, Runs T K 1 s k q x → Runs T K 0 s k p x) := by
  rcases h with h | ⟨h1, h2, q, h3, h4, h5⟩ | ⟨h1, h2, h3⟩
  · exact ⟨0, Or.inl h⟩
  · exact ⟨q, Or.inr ⟨h1, h3, h4, h5⟩⟩
  · exact absurd h2 hr
/-- the reading of a pattern goes on, or has ended -/
def PL (T : TT) (K : PH) (k p l : Int) (P : PH) : Prop := (0 < P 0 8 → REn T (pat T K k p) P) ∧ (P 0 8 ≤ 0 → (l = 1 ∧ ∃ s1 k1 q, MS T q P ∧ STK s1 k1 P ∧ ∀ x, Runs T K 0 s1 k1 q x → Runs T K 0 [] k p x) ∨ (l = 0 ∧ MS T (pat T K k p).2 P ∧ (pat T K k p).1 = 0))
theorem PL.start {T : TT} {K : PH} {k p : Int} {P : PH} (h8 : P 0 8 ≤ 0) (hs : MS T p P) (hk : STK [] k P) : PL T K k p 1 P := ⟨fun h => by omega, fun _ => Or.inl ⟨rfl, [], k, p, hs, hk, fun _ hx => hx⟩⟩
theorem PL.al {T : TT} {K : PH} {s1 : SK} {k p k1 q r l : Int} {P : PH} (hl : l = 1) (h : AL T K s1 k1 q r P) (hr : r = 0) (hR : ∀ x, Runs T K 0 s1 k1 q x → Runs T K 0 [] k p x) : PL T K k p l P := by
  subst hl
  rcases h with ⟨h1, h2⟩ | ⟨h1, h2, _⟩ | ⟨h1, h2, s2, k2, q2, h3, h4, h5⟩
  · exact ⟨fun _ => (h2.go hR).pat, fun h => by omega⟩
  · omega
  · exact ⟨fun h => by omega, fun _ => Or.inl ⟨rfl, s2, k2, q2, h3, h4, fun x hx => hR x (h5 x hx)⟩⟩
theorem PL.gn {T : TT} {K : PH} {s1 : SK} {k p k1 q q1 r : Int} {P P1 : PH} (ha : (0 < P 0 8 ∧ LFa T K 0 s1 k1 q (P 0 8) (P 0 9)) ∨ (P 0 8 ≤ 0 ∧ MS T q1 P ∧ STK s1 k1 P ∧ ∀ x, Runs T K 1 s1 k1 q1 x → Runs T K 0 s1 k1 q x)) (hR : ∀ x, Runs T K 0 s1 k1 q x → Runs T K 0 [] k p x)
    (h : (0 < P 0 8 ∧ P1 0 8 = P 0 8 ∧ P1 0 9 = P 0 9) ∨ (P 0 8 ≤ 0 ∧ GN T K s1 k1 q1 r P1)) : PL T K k p r P1 := by
  rcases h with ⟨h1, h2, h3⟩ | ⟨h1, h2⟩
  · have ha := (ha.resolve_right (by omega)).2
    rw [← h2, ← h3] at ha
    exact ⟨fun _ => (ha.go hR).pat, fun h => by omega⟩
  · have ha := ha.resolve_left (by omega)
    have hR1 : ∀ x, Runs T K 1 s1 k1 q1 x → Runs T K 0 [] k p x := fun x hx => hR x (ha.2.2.2 x hx)
    rcases h2 with ⟨g1, g2⟩ | ⟨g1, g2, s2, k2, q2, g3, g4, g5⟩ | ⟨g1, g2, q2, g3, g4⟩
    · exact ⟨fun _ => (g2.go hR1).pat, fun h => by omega⟩
    · exact ⟨fun h => by omega, fun _ => Or.inl ⟨g2, s2, k2, q2, g3, g4, fun x hx => hR1 x (g5 x hx)⟩⟩
    · have e := (hR1 _ g4).pat
      exact ⟨fun h => by omega, fun _ => Or.inr ⟨g2, by rw [e]; exact g3, by rw [e]⟩⟩
/-- behind an alternative, round the loop -/
def GL (T : TT) (K : PH) (s : SK) (k p : Int) (P : PH) : Prop := ∃ (s1 : SK) (k1 q : Int), (P 0 8 ≤ 0 → MS T q P ∧ STK s1 k1 P ∧ ∀ x, Runs T K 1 s1 k1 q x → Runs T K 1 s k p x) ∧ (0 < P 0 8 → LFa T K 1 s k p (P 0 8) (P 0 9))
theorem GL.start {T : TT} {K : PH} {s : SK} {k p : Int} {P : PH} (h8 : P 0 8 ≤ 0) (h : MS T p P ∧ STK s k P) : GL T K s k p P := ⟨s, k, p, fun _ => ⟨h.1, h.2, fun _ hx => hx⟩, fun h => by omega⟩
theorem GL.lr {T : TT} {K : PH} {s : SK} {k p : Int} {P : PH} (h : GL T K s k p P) (h0 : 0 < P 0 8) : LFa T K 1 s k p (P 0 8) (P 0 9) := by
  obtain ⟨s1, k1, q, _, h2⟩ := h
  exact h2 h0
section GNS
variable {T : TT} {K : PH} {s s1 : SK} {k p k1 q c f g r : Int} {P : PH}
theorem GN.bad (hR : ∀ x, Runs T K 1 s1 k1 q x → Runs T K 1 s k p x) (h : tK T q = 4) (h8 : P 0 8 = 1) (h9 : P 0 9 = tS T q) : GN T K s k p r P := Or.inl ⟨by omega, (LFa.bad h h8 h9).go hR⟩
theorem GN.or (hR : ∀ x, Runs T K 1 s1 k1 q x → Runs T K 1 s k p x) (h : tO T q = 9) (h8 : P 0 8 ≤ 0) (hs : MS T (tE T q) P) (hk : STK s1 k1 P) : GN T K s k p 1 P := Or.inr (Or.inl ⟨h8, rfl, s1, k1, tE T q, hs, hk, fun x hx => hR x (Runs.or h hx)⟩)
theorem GN.done (hR : ∀ x, Runs T K 1 s1 k1 q x → Runs T K 1 s k p x) (hl : s1.length = 0) (h : tO T q ≠ 9) (h8 : P 0 8 ≤ 0) (hs : MS T q P) : GN T K s k p 0 P := by
  obtain rfl : s1 = [] := List.length_eq_zero_iff.mp hl
  exact Or.inr (Or.inr ⟨h8, rfl, q, hs, hR _ (Runs.done h)⟩)
theorem GN.commaF (hR : ∀ x, Runs T K 1 ((c, f, g) :: s1) k1 q x → Runs T K 1 s k p x) (ho : tO T q ≠ 9) (hf : f + 1 < K 6 c) (h0 : 0 < P 0 8) (h1 : P 0 8 = (sgn T 44 q).1) (h2 : P 0 9 = (sgn T 44 q).2) : GN T K s k p r P := by
  refine Or.inl ⟨h0, Or.inl ?_⟩
  rw [pair_eq h1 h2]
  exact hR _ (Runs.commaF ho hf (by omega))
theorem GN.comma (hR : ∀ x, Runs T K 1 ((c, f, g) :: s1) k1 q x → Runs T K 1 s k p x) (ho : tO T q ≠ 9) (hf : f + 1 < K 6 c) (h0 : P 0 8 ≤ 0) (h1 : (sgn T 44 q).1 = 0) (hs : MS T (tE T q) P) (hk : STK ((c, f + 1, g) :: s1) (K 8 c) P) : GN T K s k p 1 P :=
  Or.inr (Or.inl ⟨h0, rfl, _, _, _, hs, hk, fun x hx => hR x (Runs.comma ho hf h1 hx)⟩)
theorem GL.close (hR : ∀ x, Runs T K 1 ((c, f, g) :: s1) k1 q x → Runs T K 1 s k p x) (ho : tO T q ≠ 9) (hf : ¬ f + 1 < K 6 c) (h1 : P 0 8 = (sgn T 41 q).1) (h2 : (sgn T 41 q).1 = 0 ∨ P 0 9 = (sgn T 41 q).2) (hs : (sgn T 41 q).1 = 0 → MS T (tE T q) P) (hk : STK s1 g P) (h0 : 0 ≤ P 0 8) : GL T K s k p P := by
  refine ⟨s1, g, tE T q, fun h8 => ⟨hs (by omega), hk, fun x hx => hR x (Runs.close ho hf (by omega) hx)⟩, fun h8 => Or.inl ?_⟩
  rw [pair_eq h1 (h2.resolve_left (by omega))]
  exact hR _ (Runs.closeF ho hf (by omega))
end GNS
theorem fh_ok {T : TT} {p : Int} (h : tK T p ≠ 4) : fh T p = tA T p := by unfold fh; rw [if_neg h]
theorem fh_no {T : TT} {p : Int} (h : tK T p = 4) : fh T p = tS T p := by unfold fh; rw [if_pos h]
theorem fre_4 {T : TT} {K : PH} {p : Int} (h : tK T p = 4) : fre T K p = (1, tS T p) := by unfold fre; rw [if_neg (by omega), fh_no h]
