section
/-! The reference's stack of patterns begun, with the codes emitted; what a reading of a pattern ends with. -/
abbrev FL : Type := List (Int × Int × Int × Int)
/-- whether there are alternatives -/
def OA (x a : Int) : Prop := (x ≤ 0 ∧ a = 0) ∨ (0 < x ∧ a = 1)
def STL (P : PH) : FL → Prop
  | [] => True
  | (c, f, k, a) :: s => (P 26 ((s.length : Int) + 1) = c ∧ P 27 ((s.length : Int) + 1) = f ∧ K4 (P 24 ((s.length : Int) + 1)) k ∧ OA (P 25 ((s.length : Int) + 1)) a) ∧ STL P s
theorem STL.eq {P P1 : PH} : ∀ (s : FL), STL P s → (∀ j : Int, 1 ≤ j → j ≤ s.length → P1 24 j = P 24 j ∧ P1 25 j = P 25 j ∧ P1 26 j = P 26 j ∧ P1 27 j = P 27 j) → STL P1 s := by
  intro s
  induction s with
  | nil => intro _ _; trivial
  | cons x s ih =>
    obtain ⟨c, f, k, a⟩ := x
    intro h e
    have e1 := e ((s.length : Int) + 1) (by omega) (by rw [List.length_cons]; omega)
    refine ⟨⟨by rw [e1.2.2.1]; exact h.1.1, by rw [e1.2.2.2]; exact h.1.2.1, by rw [e1.1]; exact h.1.2.2.1, by rw [e1.2.1]; exact h.1.2.2.2⟩, ih h.2 (fun j j1 j2 => e j j1 (by rw [List.length_cons]; omega))⟩
/-- codes, the latest first, that end at n -/
def CDL (P : PH) (b : Int) : List OP → Int → Prop
  | [], _ => True
  | x :: E, n => (P 19 (2800 * b + (n - 1)) = x.1 ∧ P 20 (2800 * b + (n - 1)) = x.2.1 ∧ P 21 (2800 * b + (n - 1)) = x.2.2) ∧ CDL P b E (n - 1)
theorem CDL.eq {P P1 : PH} {b : Int} : ∀ (E : List OP) (n : Int), CDL P b E n → (∀ j : Int, n - E.length ≤ j → j < n → P1 19 (2800 * b + j) = P 19 (2800 * b + j) ∧ P1 20 (2800 * b + j) = P 20 (2800 * b + j) ∧ P1 21 (2800 * b + j) = P 21 (2800 * b + j)) → CDL P1 b E n := by
  intro E
  induction E with
  | nil => intro _ _ _; trivial
  | cons x E ih =>
    intro n h e
    have e1 := e (n - 1) (by rw [List.length_cons]; omega) (by omega)
    exact ⟨⟨e1.1.trans h.1.1, e1.2.1.trans h.1.2.1, e1.2.2.trans h.1.2.2⟩, ih (n - 1) h.2 (fun j j1 j2 => e j (by rw [List.length_cons]; omega) (by omega))⟩
/-- patterns begun: where the codes began, the stack, the kind of the one on top -/
def STK (f : Int) (s : SK) (k : Int) (P : PH) : Prop := (P 0 43 = (s.1.length : Int) + 1 ∧ K4 (P 24 (P 0 43)) k) ∧ OA (P 25 (P 0 43)) s.2.1 ∧ STL P s.1 ∧ P 0 36 = f + s.2.2.length ∧ 0 ≤ f ∧ CDL P (P 0 37) s.2.2 (P 0 36)
theorem STK.fr {f : Int} {s : SK} {k : Int} {P P1 : PH} {F : FS} (h : STK f s k P) (hf : FrM F P P1) (hd : disF F ([36, 37, 43], [19, 20, 21, 24, 25, 26, 27]) = true) : STK f s k P1 := by
  obtain ⟨⟨h1, h2⟩, h3, h4, h5, h6, h7⟩ := h
  unfold STK
  rw [disF_k hd hf (k := 43) (by decide), disF_k hd hf (k := 36) (by decide), disF_k hd hf (k := 37) (by decide), disF_o hd hf (o := 24) (by decide) rfl, disF_o hd hf (o := 25) (by decide) rfl]
  refine ⟨⟨h1, h2⟩, h3, h4.eq s.1 (fun j _ _ => ?_), h5, h6, h7.eq _ _ (fun j _ _ => ?_)⟩
  · rw [disF_o hd hf (o := 24) (by decide) rfl, disF_o hd hf (o := 25) (by decide) rfl, disF_o hd hf (o := 26) (by decide) rfl, disF_o hd hf (o := 27) (by decide) rfl]
    exact ⟨rfl, rfl, rfl, rfl⟩
  · rw [disF_o hd hf (o := 19) (by decide) rfl, disF_o hd hf (o := 20) (by decide) rfl, disF_o hd hf (o := 21) (by decide) rfl]
    exact ⟨rfl, rfl, rfl⟩
theorem STK.start {f k z : Int} {P : PH} (h43 : P 0 43 = 1) (h24 : P 24 1 = z) (hk : K4 z k) (h25 : P 25 1 = 0) (h36 : P 0 36 = f) (h0 : 0 ≤ f) : STK f s0 k P := ⟨⟨h43, by rw [h43, h24]; exact hk⟩, by rw [h43, h25]; exact Or.inl ⟨Int.le_refl 0, rfl⟩, trivial, by show P 0 36 = f + (0 : Nat); omega, h0, trivial⟩
/-- a code more -/
theorem STK.emi {f k a b c : Int} {s : SK} {P P1 : PH} (h : STK f s k P) (he : EM a b c P P1) (hf : FrM ([36], [19, 20, 21]) P P1) : STK f (em s (a, b, c)) k P1 := by
  obtain ⟨⟨h1, h2⟩, h3, h4, h5, h6, h7⟩ := h
  obtain ⟨e1, e2, e3, e4, e5⟩ := he
  have e37 : P1 0 37 = P 0 37 := hf.1 37 (by decide)
  have e43 : P1 0 43 = P 0 43 := hf.1 43 (by decide)
  have r24 := hf.2 24 rfl (by decide)
  have r25 := hf.2 25 rfl (by decide)
  have r26 := hf.2 26 rfl (by decide)
  have r27 := hf.2 27 rfl (by decide)
  unfold STK em
  rw [e37, e43, r24, r25]
  refine ⟨⟨h1, h2⟩, h3, h4.eq s.1 (fun j _ _ => ?_), by show P1 0 36 = f + ((s.2.2.length + 1 : Nat) : Int); omega, h6, ⟨?_, ?_⟩⟩
  · rw [r24, r25, r26, r27]; exact ⟨rfl, rfl, rfl, rfl⟩
  · rw [e1, show P 0 36 + 1 - 1 = P 0 36 by omega]; exact ⟨e3, e4, e5⟩
  · rw [e1, show P 0 36 + 1 - 1 = P 0 36 by omega]
    exact h7.eq _ _ (fun j j1 j2 => e2 _ (by omega))
/-- an alternative more -/
theorem STK.alt {f k : Int} {s : SK} {P P1 : PH} (h : STK f (s.1, s.2.1, orE s.2.1 s.2.2) k P) (s25 : P1 25 (P 0 43) = P 25 (P 0 43) + 1) (h0 : 0 ≤ P 25 (P 0 43)) (q25 : ∀ j : Int, j ≠ P 0 43 → P1 25 j = P 25 j) (q36 : P1 0 36 = P 0 36) (q37 : P1 0 37 = P 0 37) (q43 : P1 0 43 = P 0 43) (q19 : ∀ j, P1 19 j = P 19 j) (q20 : ∀ j, P1 20 j = P 20 j) (q21 : ∀ j, P1 21 j = P 21 j) (q24 : ∀ j, P1 24 j = P 24 j) (q26 : ∀ j, P1 26 j = P 26 j) (q27 : ∀ j, P1 27 j = P 27 j) : STK f (alE s) k P1 := by
  obtain ⟨⟨h1, h2⟩, h3, h4, h5, h6, h7⟩ := h
  unfold STK
  rw [q36, q37, q43, q24, s25]
  exact ⟨⟨h1, h2⟩, Or.inr ⟨by omega, rfl⟩, h4.eq _ (fun j _ j2 => ⟨q24 j, q25 j (by have h1 : P 0 43 = (s.1.length : Int) + 1 := h1; have j2 : j ≤ (s.1.length : Int) := j2; omega), q26 j, q27 j⟩), h5, h6, h7.eq _ _ (fun j _ _ => ⟨q19 _, q20 _, q21 _⟩)⟩
/-- what was in it goes on -/
def upS (s : SK) (a : Int) (s1 : FL) : SK := (s1, a, s.2.2)
theorem STK.pop {f c g k1 a1 k : Int} {s : SK} {s1 : FL} {P P1 : PH} (h : STK f s k P) (e : s.1 = (c, g, k1, a1) :: s1) (h43 : P1 0 43 = P 0 43 - 1) (q24 : ∀ j, P1 24 j = P 24 j) (q25 : ∀ j, P1 25 j = P 25 j) (q26 : ∀ j, P1 26 j = P 26 j) (q27 : ∀ j, P1 27 j = P 27 j) (q36 : P1 0 36 = P 0 36) (q37 : P1 0 37 = P 0 37) (q19 : ∀ j, P1 19 j = P 19 j) (q20 : ∀ j, P1 20 j = P 20 j) (q21 : ∀ j, P1 21 j = P 21 j) : STK f (upS s a1 s1) k1 P1 ∧ P1 26 (P1 0 43) = c ∧ P1 27 (P1 0 43) = g := by
  obtain ⟨⟨h1, h2⟩, h3, h4, h5, h6, h7⟩ := h
  rw [e] at h1 h4
  obtain ⟨⟨a2, a3, a4, a5⟩, a6⟩ := h4
  have h1 : P 0 43 = ((s1.length : Int) + 1) + 1 := by rw [h1, List.length_cons]; omega
  have e9 : P1 0 43 = (s1.length : Int) + 1 := by omega
  refine ⟨⟨⟨e9, by rw [e9, q24]; exact a4⟩, by rw [e9, q25]; exact a5, a6.eq s1 (fun j _ _ => ⟨q24 j, q25 j, q26 j, q27 j⟩), by rw [q36]; exact h5, h6, by rw [q36, q37]; exact h7.eq _ _ (fun j _ _ => ⟨q19 _, q20 _, q21 _⟩)⟩, by rw [e9, q26]; exact a2, by rw [e9, q27]; exact a3⟩
theorem poS_up {s : SK} {a : Int} {s1 : FL} : em (em (upS (alE s) a s1) (4, 0, 0)) (5, 0, 0) = poS s a s1 := rfl
/-- a field begins: its code is emitted already, its frame pushed -/
theorem STK.push {f c g k k1 z : Int} {s : SK} {P P1 : PH} (h : STK f (em s (3, c, g)) k P) (hz : K4 z k1) (h43 : P1 0 43 = P 0 43 + 1) (s24 : P1 24 (P 0 43 + 1) = z) (q24 : ∀ j : Int, j ≠ P 0 43 + 1 → P1 24 j = P 24 j) (s25 : P1 25 (P 0 43 + 1) = 0) (q25 : ∀ j : Int, j ≠ P 0 43 + 1 → P1 25 j = P 25 j) (s26 : P1 26 (P 0 43) = c) (q26 : ∀ j : Int, j ≠ P 0 43 → P1 26 j = P 26 j) (s27 : P1 27 (P 0 43) = g) (q27 : ∀ j : Int, j ≠ P 0 43 → P1 27 j = P 27 j) (q36 : P1 0 36 = P 0 36) (q37 : P1 0 37 = P 0 37) (q19 : ∀ j, P1 19 j = P 19 j) (q20 : ∀ j, P1 20 j = P 20 j) (q21 : ∀ j, P1 21 j = P 21 j) : STK f (fbS s c g k) k1 P1 := by
  obtain ⟨⟨h1, h2⟩, h3, h4, h5, h6, h7⟩ := h
  have h1 : P 0 43 = (s.1.length : Int) + 1 := h1
  refine ⟨⟨by rw [h43, h1]; show _ = ((s.1.length + 1 : Nat) : Int) + 1; omega, by rw [h43, s24]; exact hz⟩, by rw [h43, s25]; exact Or.inl ⟨Int.le_refl 0, rfl⟩, ⟨⟨by rw [← h1]; exact s26, by rw [← h1]; exact s27, by rw [← h1, q24 _ (by omega)]; exact h2, by rw [← h1, q25 _ (by omega)]; exact h3⟩, h4.eq s.1 (fun j j1 j2 => ⟨q24 j (by omega), q25 j (by omega), q26 j (by omega), q27 j (by omega)⟩)⟩, by rw [q36]; exact h5, h6, by rw [q36, q37]; exact h7.eq _ _ (fun j _ _ => ⟨q19 _, q20 _, q21 _⟩)⟩
theorem STK.b {f : Int} {s : SK} {k : Int} {P : PH} (h : STK f s k P) : P 0 43 = (s.1.length : Int) + 1 ∧ ((P 24 (P 0 43) = 4 ∧ k = -1) ∨ (0 ≤ P 24 (P 0 43) ∧ P 24 (P 0 43) ≤ 3 ∧ k = P 24 (P 0 43))) := ⟨h.1.1, h.1.2⟩
theorem STK.top {f c g k1 a1 k : Int} {s : SK} {s1 : FL} {P : PH} (h : STK f s k P) (e : s.1 = (c, g, k1, a1) :: s1) : P 26 (P 0 43 - 1) = c ∧ P 27 (P 0 43 - 1) = g := by
  obtain ⟨⟨h1, h2⟩, h3, h4, h5, h6, h7⟩ := h
  rw [e] at h1 h4
  have h1 : P 0 43 = ((s1.length : Int) + 1) + 1 := by rw [h1, List.length_cons]; omega
  rw [show P 0 43 - 1 = (s1.length : Int) + 1 by omega]
  exact ⟨h4.1.1, h4.1.2.1⟩
/-- a fault: the machine's own, or that of a token that can't be anywhere, just behind a whole pattern -/
def LFa (T : TT) (K : PH) (m : Int) (s : SK) (k p f pl : Int) : Prop := Runs T K m s k p (f, pl, []) ∨ ∃ q E, tK T q = 4 ∧ f = 1 ∧ pl = tS T q ∧ Runs T K m s k p (0, q, E)
theorem LFa.go {T : TT} {K : PH} {m m1 : Int} {s s1 : SK} {k k1 p p1 f pl : Int} (h : LFa T K m1 s1 k1 p1 f pl) (hr : ∀ x, Runs T K m1 s1 k1 p1 x → Runs T K m s k p x) : LFa T K m s k p f pl := by
  rcases h with h | ⟨q, E, h1, h2, h3, h4⟩
  · exact Or.inl (hr _ h)
  · exact Or.inr ⟨q, E, h1, h2, h3, hr _ h4⟩
theorem tO_4 {T : TT} {p : Int} (h : tK T p ≠ 1) : tO T p = -1 := by
  unfold tO
  rw [if_neg h]
theorem sgn_4 {T : TT} {c p : Int} (h : tK T p = 4) : sgn T c p = (1, tS T p) := by
  unfold sgn fh
  rw [if_neg (by omega), if_pos h]
/-- a token that can't be anywhere behind an alternative -/
theorem LFa.bad {T : TT} {K : PH} {s : SK} {k p f pl : Int} (h : tK T p = 4) (hf : f = 1) (hp : pl = tS T p) : LFa T K 1 s k p f pl := by
  have ho : tO T p ≠ 9 := by rw [tO_4 (by omega)]; decide
  subst hf
  subst hp
  rcases hs : s.1 with _ | ⟨⟨c, g, k1, a1⟩, s1⟩
  · exact Or.inr ⟨p, _, h, rfl, rfl, Runs.done ho hs⟩
  · left
    by_cases hg : g + 1 < K 6 c
    · have := Runs.commaF (T := T) (K := K) (k := k) hs ho hg (by rw [sgn_4 h]; show (1 : Int) ≠ 0; decide)
      rw [sgn_4 h] at this
      exact this
    · have := Runs.closeF (T := T) (K := K) (k := k) hs ho hg (by rw [sgn_4 h]; show (1 : Int) ≠ 0; decide)
      rw [sgn_4 h] at this
      exact this
/-- what an alternative leaves -/
def AL (f : Int) (T : TT) (K : PH) (s : SK) (k p r : Int) (P : PH) : Prop := (0 < P 0 8 ∧ LFa T K 0 s k p (P 0 8) (P 0 9)) ∨ (P 0 8 ≤ 0 ∧ r = 1 ∧ ∃ s1 q, MS T q P ∧ STK f s1 k P ∧ ∀ x, Runs T K 1 s1 k q x → Runs T K 0 s k p x) ∨ (P 0 8 ≤ 0 ∧ r = 0 ∧ ∃ s1 k1 q, MS T q P ∧ STK f s1 k1 P ∧ ∀ x, Runs T K 0 s1 k1 q x → Runs T K 0 s k p x)
/-- the codes of a pattern that is whole -/
def CDe (f : Int) (E : List OP) (P : PH) : Prop := P 0 36 = f + E.length ∧ 0 ≤ f ∧ CDL P (P 0 37) E (P 0 36)
/-- what the going on behind an alternative leaves -/
def GN (f : Int) (T : TT) (K : PH) (s : SK) (k p r : Int) (P : PH) : Prop := (0 < P 0 8 ∧ LFa T K 1 s k p (P 0 8) (P 0 9)) ∨ (P 0 8 ≤ 0 ∧ r = 1 ∧ ∃ s1 k1 q, MS T q P ∧ STK f s1 k1 P ∧ ∀ x, Runs T K 0 s1 k1 q x → Runs T K 1 s k p x) ∨ (P 0 8 ≤ 0 ∧ r = 0 ∧ ∃ q E, MS T q P ∧ CDe f E P ∧ Runs T K 1 s k p (0, q, E))
/-- a reading that ends at q, or with a fault, or with one of a token that can't be anywhere just there -/
def REn (T : TT) (x : Int × Int) (P : PH) : Prop := (P 0 8 = x.1 ∧ (x.1 = 0 ∨ P 0 9 = x.2)) ∨ (x.1 = 0 ∧ tK T x.2 = 4 ∧ P 0 8 = 1 ∧ P 0 9 = tS T x.2)
theorem LFa.pat {T : TT} {K : PH} {k p : Int} {P : PH} (h : LFa T K 0 s0 k p (P 0 8) (P 0 9)) : REn T (pat T K k p) P := by
  rcases h with h | ⟨q, E, h1, h2, h3, h4⟩
  · rw [h.paT]
    exact Or.inl ⟨rfl, Or.inr rfl⟩
  · rw [h4.paT]
    exact Or.inr ⟨rfl, h1, h2, h3⟩
theorem num_4 {T : TT} {lo hi p : Int} (h : tK T p = 4) : num T lo hi p = (1, tS T p) := by
  unfold num fh
  rw [if_neg (by omega), if_pos h]
theorem LFa.bad0 {T : TT} {K : PH} {s : SK} {k p f pl : Int} (h : tK T p = 4) (hf : f = 1) (hp : pl = tS T p) : LFa T K 0 s k p f pl := by
  have ho : tO T p ≠ 8 := by rw [tO_4 (by omega)]; decide
  subst hf
  subst hp
  left
  by_cases hk : k = -1
  · have e : rng T p = (1, tS T p) := by
      unfold rng
      rw [num_4 h]
      rfl
    have := Runs.rangeF (T := T) (K := K) (s := s) (k := k) (p := p) ho hk (by rw [e]; show (1 : Int) ≠ 0; decide)
    rw [e] at this
    exact this
  · have e : cas T K k p = (1, tS T p) := by
      unfold cas fh
      rw [if_neg (by omega), if_pos h]
    have := Runs.caseF (T := T) (K := K) (s := s) (k := k) (p := p) ho hk (by rw [e]; show (1 : Int) ≠ 0; decide)
    rw [e] at this
    exact this
theorem pair_eq {x : Int × Int} {a b : Int} (h1 : a = x.1) (h2 : b = x.2) : (a, b, ([] : List OP)) = fx x := by
  subst h1
  subst h2
  rfl
theorem AL.bad {f : Int} {T : TT} {K : PH} {s : SK} {k p r : Int} {P : PH} (h : tK T p = 4) (h8 : P 0 8 = 1) (h9 : P 0 9 = tS T p) : AL f T K s k p r P := Or.inl ⟨by omega, LFa.bad0 h h8 h9⟩
theorem AL.any {f : Int} {T : TT} {K : PH} {s : SK} {k p : Int} {P : PH} (h : tO T p = 8) (h8 : P 0 8 ≤ 0) (hs : MS T (tE T p) P) (hk : STK f (em s (0, 0, 0)) k P) : AL f T K s k p 1 P := Or.inr (Or.inl ⟨h8, rfl, _, tE T p, hs, hk, fun _ hx => Runs.any h hx⟩)
theorem AL.range {f : Int} {T : TT} {K : PH} {s : SK} {k p : Int} {P : PH} (ho : tO T p ≠ 8) (hk : k = -1) (hr : REn T (rng T p) P) (h0 : 0 ≤ P 0 8) (hs : P 0 8 = 0 → MS T (rng T p).2 P) (hst : P 0 8 = 0 → STK f (em s (1, tV T p, hiV T p)) k P) : AL f T K s k p 1 P := by
  rcases hr with ⟨h1, h2⟩ | ⟨h1, h2, h3, h4⟩
  · by_cases e : (rng T p).1 = 0
    · exact Or.inr (Or.inl ⟨by omega, rfl, _, (rng T p).2, hs (by omega), hst (by omega), fun _ hx => Runs.range ho hk e hx⟩)
    · refine Or.inl ⟨by omega, Or.inl ?_⟩
      rw [pair_eq h1 (h2.resolve_left e)]
      exact Runs.rangeF ho hk e
  · exact Or.inl ⟨by omega, (LFa.bad h2 h3 h4).go (fun _ hx => Runs.range ho hk h1 hx)⟩
theorem AL.caseF {f : Int} {T : TT} {K : PH} {s : SK} {k p r : Int} {P : PH} (ho : tO T p ≠ 8) (hk : k ≠ -1) (h0 : 0 < P 0 8) (h1 : P 0 8 = (cas T K k p).1) (h2 : P 0 9 = (cas T K k p).2) : AL f T K s k p r P := by
  refine Or.inl ⟨h0, Or.inl ?_⟩
  rw [pair_eq h1 h2]
  exact Runs.caseF ho hk (by omega)
theorem AL.case0 {f : Int} {T : TT} {K : PH} {s : SK} {k p : Int} {P : PH} (ho : tO T p ≠ 8) (hk : k ≠ -1) (h0 : P 0 8 ≤ 0) (hc : (cas T K k p).1 = 0) (h6 : K 6 (cNm K (tV T p)) = 0) (hs : MS T (tE T p) P) (hst : STK f (em s (2, cNm K (tV T p), 0)) k P) : AL f T K s k p 1 P := Or.inr (Or.inl ⟨h0, rfl, _, tE T p, hs, hst, fun _ hx => Runs.case0 ho hk hc h6 hx⟩)
theorem AL.intoF {f : Int} {T : TT} {K : PH} {s : SK} {k p r : Int} {P : PH} (ho : tO T p ≠ 8) (hk : k ≠ -1) (h0 : 0 < P 0 8) (hc : (cas T K k p).1 = 0) (h6 : K 6 (cNm K (tV T p)) ≠ 0) (h1 : P 0 8 = (sgn T 40 (tE T p)).1) (h2 : P 0 9 = (sgn T 40 (tE T p)).2) : AL f T K s k p r P := by
  refine Or.inl ⟨h0, Or.inl ?_⟩
  rw [pair_eq h1 h2]
  exact Runs.intoF ho hk hc h6 (by omega)
theorem AL.into {f : Int} {T : TT} {K : PH} {s : SK} {k p c : Int} {P : PH} (ho : tO T p ≠ 8) (hk : k ≠ -1) (h0 : P 0 8 ≤ 0) (hc : (cas T K k p).1 = 0) (e : c = cNm K (tV T p)) (h6 : K 6 (cNm K (tV T p)) ≠ 0) (h1 : (sgn T 40 (tE T p)).1 = 0) (hs : MS T (tE T (tE T p)) P) (hst : STK f (fbS (em s (2, c, 0)) c 0 k) (K 7 c) P) : AL f T K s k p 0 P := by
  subst e
  exact Or.inr (Or.inr ⟨h0, rfl, _, _, _, hs, hst, fun _ hx => Runs.into ho hk hc h6 h1 hx⟩)
theorem AL.one {f : Int} {T : TT} {K : PH} {s : SK} {k p r : Int} {P : PH} (h : AL f T K s k p r P) (hr : r ≠ 0) : ∃ s1 q, (0 < P 0 8 ∧ LFa T K 0 s k p (P 0 8) (P 0 9)) ∨ (P 0 8 ≤ 0 ∧ MS T q P ∧ STK f s1 k P ∧ ∀ x, Runs T K 1 s1 k q x → Runs T K 0 s k p x) := by
  rcases h with h | ⟨h1, h2, s1, q, h3, h4, h5⟩ | ⟨h1, h2, h3⟩
  · exact ⟨s, 0, Or.inl h⟩
  · exact ⟨s1, q, Or.inr ⟨h1, h3, h4, h5⟩⟩
  · exact absurd h2 hr
/-- the reading of a pattern ends -/
def PRn (T : TT) (K : PH) (k p : Int) : Prop := ∃ x, Runs T K 0 s0 k p x
/-- the reading of a pattern goes on, or has ended -/
def PL (f : Int) (T : TT) (K : PH) (k p l : Int) (P : PH) : Prop := (0 < P 0 8 → REn T (pat T K k p) P) ∧ (P 0 8 ≤ 0 → (l = 1 ∧ ∃ s1 k1 q, MS T q P ∧ STK f s1 k1 P ∧ ∀ x, Runs T K 0 s1 k1 q x → Runs T K 0 s0 k p x) ∨ (l = 0 ∧ MS T (pat T K k p).2 P ∧ (pat T K k p).1 = 0 ∧ CDe f (cds T K k p) P ∧ PRn T K k p))
theorem PL.start {f : Int} {T : TT} {K : PH} {k p : Int} {P : PH} (h8 : P 0 8 ≤ 0) (hs : MS T p P) (hk : STK f s0 k P) : PL f T K k p 1 P := ⟨fun h => by omega, fun _ => Or.inl ⟨rfl, s0, k, p, hs, hk, fun _ hx => hx⟩⟩
theorem PL.al {f : Int} {T : TT} {K : PH} {s1 : SK} {k p k1 q r l : Int} {P : PH} (hl : l = 1) (h : AL f T K s1 k1 q r P) (hr : r = 0) (hR : ∀ x, Runs T K 0 s1 k1 q x → Runs T K 0 s0 k p x) : PL f T K k p l P := by
  subst hl
  rcases h with ⟨h1, h2⟩ | ⟨h1, h2, _⟩ | ⟨h1, h2, s2, k2, q2, h3, h4, h5⟩
  · exact ⟨fun _ => (h2.go hR).pat, fun h => by omega⟩
  · omega
  · exact ⟨fun h => by omega, fun _ => Or.inl ⟨rfl, s2, k2, q2, h3, h4, fun x hx => hR x (h5 x hx)⟩⟩
theorem PL.gn {f : Int} {T : TT} {K : PH} {s1 s3 : SK} {k p k1 q q1 r : Int} {P P1 : PH} (ha : (0 < P 0 8 ∧ LFa T K 0 s1 k1 q (P 0 8) (P 0 9)) ∨ (P 0 8 ≤ 0 ∧ MS T q1 P ∧ STK f s3 k1 P ∧ ∀ x, Runs T K 1 s3 k1 q1 x → Runs T K 0 s1 k1 q x)) (hR : ∀ x, Runs T K 0 s1 k1 q x → Runs T K 0 s0 k p x)
    (h : (0 < P 0 8 ∧ P1 0 8 = P 0 8 ∧ P1 0 9 = P 0 9) ∨ (P 0 8 ≤ 0 ∧ GN f T K s3 k1 q1 r P1)) : PL f T K k p r P1 := by
  rcases h with ⟨h1, h2, h3⟩ | ⟨h1, h2⟩
  · have ha := (ha.resolve_right (by omega)).2
    rw [← h2, ← h3] at ha
    exact ⟨fun _ => (ha.go hR).pat, fun h => by omega⟩
  · have ha := ha.resolve_left (by omega)
    have hR1 : ∀ x, Runs T K 1 s3 k1 q1 x → Runs T K 0 s0 k p x := fun x hx => hR x (ha.2.2.2 x hx)
    rcases h2 with ⟨g1, g2⟩ | ⟨g1, g2, s2, k2, q2, g3, g4, g5⟩ | ⟨g1, g2, q2, E2, g3, g5, g4⟩
    · exact ⟨fun _ => (g2.go hR1).pat, fun h => by omega⟩
    · exact ⟨fun h => by omega, fun _ => Or.inl ⟨g2, s2, k2, q2, g3, g4, fun x hx => hR1 x (g5 x hx)⟩⟩
    · have e := (hR1 _ g4).paT
      exact ⟨fun h => by omega, fun _ => Or.inr ⟨g2, by rw [e]; exact g3, by rw [e], by rw [(hR1 _ g4).cdS]; exact g5, ⟨_, hR1 _ g4⟩⟩⟩
/-- behind an alternative, round the loop -/
def GL (f : Int) (T : TT) (K : PH) (s : SK) (k p : Int) (P : PH) : Prop := ∃ (s1 : SK) (k1 q : Int), (P 0 8 ≤ 0 → MS T q P ∧ STK f s1 k1 P ∧ ∀ x, Runs T K 1 s1 k1 q x → Runs T K 1 s k p x) ∧ (0 < P 0 8 → LFa T K 1 s k p (P 0 8) (P 0 9))
theorem GL.start {f : Int} {T : TT} {K : PH} {s : SK} {k p : Int} {P : PH} (h8 : P 0 8 ≤ 0) (h : MS T p P ∧ STK f s k P) : GL f T K s k p P := ⟨s, k, p, fun _ => ⟨h.1, h.2, fun _ hx => hx⟩, fun h => by omega⟩
theorem GL.lr {f : Int} {T : TT} {K : PH} {s : SK} {k p : Int} {P : PH} (h : GL f T K s k p P) (h0 : 0 < P 0 8) : LFa T K 1 s k p (P 0 8) (P 0 9) := by
  obtain ⟨s1, k1, q, _, h2⟩ := h
  exact h2 h0
section GNS
variable {b : Int} {T : TT} {K : PH} {s s1 : SK} {l1 : FL} {k p k1 q c f g a r : Int} {P : PH}
theorem GN.bad (hR : ∀ x, Runs T K 1 s1 k1 q x → Runs T K 1 s k p x) (h : tK T q = 4) (h8 : P 0 8 = 1) (h9 : P 0 9 = tS T q) : GN b T K s k p r P := Or.inl ⟨by omega, (LFa.bad h h8 h9).go hR⟩
theorem GN.or (hR : ∀ x, Runs T K 1 s1 k1 q x → Runs T K 1 s k p x) (h : tO T q = 9) (h8 : P 0 8 ≤ 0) (hs : MS T (tE T q) P) (hk : STK b (alE s1) k1 P) : GN b T K s k p 1 P := Or.inr (Or.inl ⟨h8, rfl, alE s1, k1, tE T q, hs, hk, fun x hx => hR x (Runs.or h hx)⟩)
theorem GN.done (hR : ∀ x, Runs T K 1 s1 k1 q x → Runs T K 1 s k p x) (hl : s1.1.length = 0) (h : tO T q ≠ 9) (h8 : P 0 8 ≤ 0) (hs : MS T q P) (hE : CDe b (alE s1).2.2 P) : GN b T K s k p 0 P := Or.inr (Or.inr ⟨h8, rfl, q, _, hs, hE, hR _ (Runs.done h (List.length_eq_zero_iff.mp hl))⟩)
theorem GN.commaF (e : s1.1 = (c, f, g, a) :: l1) (hR : ∀ x, Runs T K 1 s1 k1 q x → Runs T K 1 s k p x) (ho : tO T q ≠ 9) (hf : f + 1 < K 6 c) (h0 : 0 < P 0 8) (h1 : P 0 8 = (sgn T 44 q).1) (h2 : P 0 9 = (sgn T 44 q).2) : GN b T K s k p r P := by
  refine Or.inl ⟨h0, Or.inl ?_⟩
  rw [pair_eq h1 h2]
  exact hR _ (Runs.commaF e ho hf (by omega))
theorem GN.comma (e : s1.1 = (c, f, g, a) :: l1) (hR : ∀ x, Runs T K 1 s1 k1 q x → Runs T K 1 s k p x) (ho : tO T q ≠ 9) (hf : f + 1 < K 6 c) (h0 : P 0 8 ≤ 0) (h1 : (sgn T 44 q).1 = 0) (hs : MS T (tE T q) P) (hk : STK b (fbS (poS s1 a l1) c (f + 1) g) (K 8 c) P) : GN b T K s k p 1 P :=
  Or.inr (Or.inl ⟨h0, rfl, _, _, _, hs, hk, fun x hx => hR x (Runs.comma e ho hf h1 hx)⟩)
theorem GL.close (e : s1.1 = (c, f, g, a) :: l1) (hR : ∀ x, Runs T K 1 s1 k1 q x → Runs T K 1 s k p x) (ho : tO T q ≠ 9) (hf : ¬ f + 1 < K 6 c) (h1 : P 0 8 = (sgn T 41 q).1) (h2 : (sgn T 41 q).1 = 0 ∨ P 0 9 = (sgn T 41 q).2) (hs : (sgn T 41 q).1 = 0 → MS T (tE T q) P) (hk : STK b (poS s1 a l1) g P) (h0 : 0 ≤ P 0 8) : GL b T K s k p P := by
  refine ⟨poS s1 a l1, g, tE T q, fun h8 => ⟨hs (by omega), hk, fun x hx => hR x (Runs.close e ho hf (by omega) hx)⟩, fun h8 => Or.inl ?_⟩
  rw [pair_eq h1 (h2.resolve_left (by omega))]
  exact hR _ (Runs.closeF e ho hf (by omega))
end GNS
theorem fh_ok {T : TT} {p : Int} (h : tK T p ≠ 4) : fh T p = tA T p := by unfold fh; rw [if_neg h]
theorem fh_no {T : TT} {p : Int} (h : tK T p = 4) : fh T p = tS T p := by unfold fh; rw [if_pos h]
theorem fre_4 {T : TT} {K : PH} {p : Int} (h : tK T p = 4) : fre T K p = (1, tS T p) := by unfold fre; rw [if_neg (by omega), fh_no h]
end
section
/-! Arms, statements: lemmas for the reference's loops. -/
theorem MM.arm2 {M P P1 : PH} {g : Int} (h : MM M P) (e37 : P1 0 37 = P 0 37) (e13 : P1 13 (P 0 37) = P 13 (P 0 37) + 1) (s14 : P1 14 (12 * P 0 37 + P 13 (P 0 37)) = g) (q14 : ∀ j : Int, j ≠ 12 * P 0 37 + P 13 (P 0 37) → P1 14 j = P 14 j) (q11 : ∀ j, P1 11 j = P 11 j) (q12 : ∀ j, P1 12 j = P 12 j) (q15 : ∀ j, P1 15 j = P 15 j) (q16 : ∀ j, P1 16 j = P 16 j) : MM (aNew M g) P1 := by
  obtain ⟨h1, h2, h3, h4, h5, h6⟩ := h
  unfold MM
  rw [aNew_0.1, aNew_0.2.1, aNew_0.2.2.1, aNew_0.2.2.2, aNew_1, e37, e13, q11, q15, q16]
  refine ⟨h1, by omega, h3, h4, fun c c0 c1 => by rw [q12]; exact h5 c c0 c1, fun a a0 a1 => ?_⟩
  rw [aNew_2]
  by_cases e : a = M 0 2
  · rw [if_pos e, e, ← h2, s14]
  · rw [if_neg e, q14 _ (by omega)]
    exact h6 a a0 (by omega)
theorem arl_end {T : TT} {K M : PH} {c p : Int} : arl T K M 0 c p = (0, p) := rfl
theorem arl_bad {T : TT} {K M : PH} {r : Nat} {c p : Int} (hc : 0 < c) (h : tK T p = 4) : arl T K M r c p = if r = 0 then (0, p) else (1, tS T p) := by
  cases r with
  | zero => rfl
  | succ r =>
    rw [if_neg (by omega), arl_sF hc (by rw [sgn_4 h]; show (1 : Int) ≠ 0; decide), sgn_4 h]
/-- a column's pattern more -/
theorem ARn {T : TT} {K M : PH} {r : Nat} {c q q1 : Int} {X : Int × Int} {P : PH} (hX : X = arl T K M (r + 1) c q) (h0 : 0 ≤ c) (hq : (c ≤ 0 ∧ q1 = q) ∨ (0 < c ∧ (sgn T 44 q).1 = 0 ∧ q1 = tE T q)) (hp : REn T (pat T K (M 1 c) q1) P) (h8 : 0 ≤ P 0 8) (hs : P 0 8 = 0 → MS T (pat T K (M 1 c) q1).2 P) :
    ∃ q2 : Int, (P 0 8 ≤ 0 → X = arl T K M r (c + 1) q2 ∧ MS T q2 P) ∧ (0 < P 0 8 → REn T X P) := by
  have e : arl T K M (r + 1) c q = if (pat T K (M 1 c) q1).1 ≠ 0 then pat T K (M 1 c) q1 else arl T K M r (c + 1) (pat T K (M 1 c) q1).2 := by
    rcases hq with ⟨h, rfl⟩ | ⟨h, h2, rfl⟩
    · exact arl_p0 h
    · exact arl_p1 h h2
  rw [e] at hX
  rcases hp with ⟨h1, h2⟩ | ⟨h1, h2, h3, h4⟩
  · by_cases z : (pat T K (M 1 c) q1).1 = 0
    · rw [if_neg (by omega)] at hX
      exact ⟨(pat T K (M 1 c) q1).2, fun _ => ⟨hX, hs (by omega)⟩, fun h => by omega⟩
    · rw [if_pos z] at hX
      rw [hX]
      exact ⟨0, fun h => by omega, fun _ => Or.inl ⟨h1, h2⟩⟩
  · rw [if_neg (by omega), arl_bad (by omega) h2] at hX
    refine ⟨0, fun h => by omega, fun _ => ?_⟩
    rw [hX]
    by_cases z : r = 0
    · rw [if_pos z]
      exact Or.inr ⟨rfl, h2, h3, h4⟩
    · rw [if_neg z]
      exact Or.inl ⟨h3, Or.inr h4⟩
theorem ARs {T : TT} {K M : PH} {r : Nat} {c q : Int} {X : Int × Int} {P : PH} (hX : X = arl T K M (r + 1) c q) (hc : 0 < c) (h0 : 0 < P 0 8) (h1 : P 0 8 = (sgn T 44 q).1) (h2 : P 0 9 = (sgn T 44 q).2) :
    ∃ q2 : Int, (P 0 8 ≤ 0 → X = arl T K M r (c + 1) q2 ∧ MS T q2 P) ∧ (0 < P 0 8 → REn T X P) := by
  rw [arl_sF hc (by omega)] at hX
  refine ⟨0, fun h => by omega, fun _ => ?_⟩
  rw [hX]
  exact Or.inl ⟨h1, Or.inr h2⟩
theorem tA_E {T : TT} {p : Int} : (tA T p < T.2 ∧ tK T p ≠ 0) ∨ (T.2 ≤ tA T p ∧ tK T p = 0) := by
  rcases Int.lt_or_le (tA T p) T.2 with h | h
  · refine Or.inl ⟨h, fun e => ?_⟩
    unfold tK at e
    rw [if_neg (by omega)] at e
    repeat' split at e
    all_goals omega
  · exact Or.inr ⟨h, tK_0 h⟩
theorem fld_le {T : TT} {K : PH} (h : AW K) (v : Int) (hv : (fre T K v).1 = 0) : tK T v = 1 := by
  rcases fre_s T K v with q | q | q <;> omega
theorem AW.st {T : TT} {K M : PH} {p : Int} (h : AW K) (hs : (sSt T K M p).1 = 0) : AW (kSt T K p) := by
  unfold kSt
  unfold sSt at hs
  by_cases h0 : tO T p = 0
  · rw [if_pos h0] at hs ⊢
    have hk := sKi_s T K M p
    exact h.kind (by omega)
  · rw [if_neg h0] at hs ⊢
    by_cases h1 : tO T p = 1
    · rw [if_pos h1] at hs ⊢
      have hc := sCo_s T K M p
      have hf := fre_s T K (tE T p)
      have e : (fre T K (tE T p)).1 = 0 := by omega
      have e2 : (fre T K (tE T p)).2 = tE T (tE T p) := by omega
      rw [e2] at hc
      have hx : (fldX T K (tE T (tE T p))).1 = 0 := by omega
      have hw := fldX_w h (by omega) (tE T (tE T p)) hx
      unfold kCo
      exact h.con (by omega) (by omega) ⟨hw.1, hw.2.1⟩ hw.2.2.1 hw.2.2.2.1 hw.2.2.2.2.1 hw.2.2.2.2.2
    · rw [if_neg h1]
      exact h
/-- the statements so far -/
theorem mlo_n {T : TT} {n : Int} {K M : PH} {q : Int} (h0 : 0 ≤ n) (hn : n < 60) (h : tK T q ≠ 0) :
    ((sSt T K M q).1 ≠ 0 → mlo T (60 - n).toNat n K M q = ((sSt T K M q).1, (sSt T K M q).2, K, M)) ∧
    ((sSt T K M q).1 = 0 → (sgn T 59 (sSt T K M q).2).1 ≠ 0 → mlo T (60 - n).toNat n K M q = ((sgn T 59 (sSt T K M q).2).1, (sgn T 59 (sSt T K M q).2).2, K, M)) ∧
    ((sSt T K M q).1 = 0 → (sgn T 59 (sSt T K M q).2).1 = 0 → mlo T (60 - n).toNat n K M q = mlo T (60 - (n + 1)).toNat (n + 1) (kSt T K q) (mSt T K M q) (sgn T 59 (sSt T K M q).2).2) := by
  rw [show (60 - n).toNat = (60 - (n + 1)).toNat + 1 by omega]
  refine ⟨fun h1 => mlo_sF h h1, fun h1 h2 => mlo_eF h h1 h2, fun h1 h2 => ?_⟩
  rw [mlo_go h h1 h2]
  have := sgn_s T 59 (sSt T K M q).2
  rw [show (sgn T 59 (sSt T K M q).2).2 = tE T (sSt T K M q).2 by omega]
theorem ML.fault {T : TT} {n : Int} {K M : PH} {q f pl : Int} (h0 : 0 ≤ n) (hn : n < 60) (hk : tK T q ≠ 0) (hR : mlR T = mlo T (60 - n).toNat n K M q)
    (h : ((sSt T K M q).1 ≠ 0 ∧ f = (sSt T K M q).1 ∧ pl = (sSt T K M q).2) ∨ ((sSt T K M q).1 = 0 ∧ (sgn T 59 (sSt T K M q).2).1 ≠ 0 ∧ f = (sgn T 59 (sSt T K M q).2).1 ∧ pl = (sgn T 59 (sSt T K M q).2).2) ∨
      ((sSt T K M q).1 = 0 ∧ (sgn T 59 (sSt T K M q).2).1 = 0 ∧ n + 1 = 60 ∧ tA T (tE T (sSt T K M q).2) < T.2 ∧ f = 6 ∧ pl = tA T (tE T (sSt T K M q).2))) : (mlR T).1 = f ∧ (mlR T).2.1 = pl := by
  obtain ⟨m1, m2, m3⟩ := mlo_n (T := T) (K := K) (M := M) h0 hn hk
  rcases h with ⟨a, b, c⟩ | ⟨a, a2, b, c⟩ | ⟨a, a2, a3, a4, b, c⟩
  · rw [hR, m1 a]; exact ⟨b.symm, c.symm⟩
  · rw [hR, m2 a a2]; exact ⟨b.symm, c.symm⟩
  · have hs := sgn_s T 59 (sSt T K M q).2
    have hte := tA_E (T := T) (p := tE T (sSt T K M q).2)
    rw [hR, m3 a a2, show (60 - (n + 1)).toNat = 0 by omega, show (sgn T 59 (sSt T K M q).2).2 = tE T (sSt T K M q).2 by omega, mlo_much (by omega)]
    exact ⟨b.symm, c.symm⟩
theorem ML.go {T : TT} {n : Int} {K M : PH} {q : Int} (h0 : 0 ≤ n) (hn : n < 60) (hk : tK T q ≠ 0) (hR : mlR T = mlo T (60 - n).toNat n K M q) (h1 : (sSt T K M q).1 = 0) (h2 : (sgn T 59 (sSt T K M q).2).1 = 0) : mlR T = mlo T (60 - (n + 1)).toNat (n + 1) (kSt T K q) (mSt T K M q) (sgn T 59 (sSt T K M q).2).2 := hR.trans ((mlo_n h0 hn hk).2.2 h1 h2)
theorem ML.fin {T : TT} {n : Int} {K M : PH} {q : Int} (hk : tK T q = 0) (hR : mlR T = mlo T (60 - n).toNat n K M q) : (M 0 0 ≤ 0 ∧ (mlR T).1 = 1 ∧ (mlR T).2.1 = tA T q) ∨ (0 < M 0 0 ∧ (mlR T).1 = 0 ∧ (mlR T).2.1 = n) := by
  rw [hR, mlo_end hk]
  by_cases h : M 0 0 ≤ 0
  · left
    exact ⟨h, by show (if M 0 0 ≤ 0 then (1 : Int) else 0) = 1; rw [if_pos h], by show (if M 0 0 ≤ 0 then tA T q else n) = _; rw [if_pos h]⟩
  · right
    exact ⟨by omega, by show (if M 0 0 ≤ 0 then (1 : Int) else 0) = 0; rw [if_neg h], by show (if M 0 0 ≤ 0 then tA T q else n) = _; rw [if_neg h]⟩
theorem ML.tab {T : TT} {n : Int} {K M : PH} {q : Int} (hk : tK T q = 0) (hR : mlR T = mlo T (60 - n).toNat n K M q) : (mlR T).2.2.1 = K ∧ (mlR T).2.2.2 = M := by
  rw [hR, mlo_end hk]
  exact ⟨rfl, rfl⟩
theorem MK.zero {P : PH} {b : Int} (e37 : P 0 37 = b) (e2 : P 2 b = 0) (e5 : P 5 b = 0) : MK K0 P := by
  unfold MK
  rw [e37, e2, e5]
  exact ⟨rfl, rfl, fun k h0 h1 => by exfalso; have h1 : k < 0 := h1; omega, fun k h0 h1 => by exfalso; have h1 : k < 0 := h1; omega⟩
theorem MM.zero {P : PH} {b : Int} (e37 : P 0 37 = b) (e11 : P 11 b = 0) (e13 : P 13 b = 0) (e15 : P 15 b = 0) (e16 : P 16 b = 300) : MM M0 P := by
  unfold MM
  rw [e37, e11, e13, e15, e16]
  exact ⟨rfl, rfl, rfl, rfl, fun k h0 h1 => by exfalso; have h1 : k < 0 := h1; omega, fun k h0 h1 => by exfalso; have h1 : k < 0 := h1; omega⟩
/-- a statement and what ends it: round the loop, or a fault -/
theorem ML.cases {T : TT} {S : Int × Int} {s8 s9 h8 h9 n : Int} (hs : (s8 = S.1 ∧ (S.1 = 0 ∨ s9 = S.2)) ∨ (S.1 = 0 ∧ tK T S.2 = 4 ∧ s8 = 1 ∧ s9 = tS T S.2))
    (hf : (0 < s8 ∧ h8 = s8 ∧ h9 = s9) ∨ (s8 ≤ 0 ∧ (sgn T 59 S.2).1 = 0 ∧ n = 60 ∧ tA T (tE T S.2) < T.2 ∧ h8 = 6 ∧ h9 = tA T (tE T S.2)) ∨ (s8 ≤ 0 ∧ ((sgn T 59 S.2).1 ≠ 0 ∨ n ≠ 60 ∨ T.2 ≤ tA T (tE T S.2)) ∧ h8 = (sgn T 59 S.2).1 ∧ ((sgn T 59 S.2).1 = 0 ∨ h9 = (sgn T 59 S.2).2))) (h0 : 0 ≤ s8) :
    (h8 = 0 ∧ S.1 = 0 ∧ (sgn T 59 S.2).1 = 0 ∧ (n ≠ 60 ∨ T.2 ≤ tA T (tE T S.2))) ∨ (0 < h8 ∧ ((S.1 ≠ 0 ∧ h8 = S.1 ∧ h9 = S.2) ∨ (S.1 = 0 ∧ (sgn T 59 S.2).1 ≠ 0 ∧ h8 = (sgn T 59 S.2).1 ∧ h9 = (sgn T 59 S.2).2) ∨ (S.1 = 0 ∧ (sgn T 59 S.2).1 = 0 ∧ n = 60 ∧ tA T (tE T S.2) < T.2 ∧ h8 = 6 ∧ h9 = tA T (tE T S.2)))) := by
  rcases hs with ⟨a1, a2⟩ | ⟨a1, a2, a3, a4⟩
  · rcases hf with ⟨b1, b2, b3⟩ | ⟨b1, b2, b3, b4, b5, b6⟩ | ⟨b1, b2, b3, b4⟩
    · exact Or.inr ⟨by omega, Or.inl ⟨by omega, by omega, by omega⟩⟩
    · exact Or.inr ⟨by omega, Or.inr (Or.inr ⟨by omega, b2, b3, b4, b5, b6⟩)⟩
    · have hg := sgn_s T 59 S.2
      by_cases e : (sgn T 59 S.2).1 = 0
      · exact Or.inl ⟨by omega, by omega, e, by omega⟩
      · exact Or.inr ⟨by omega, Or.inr (Or.inl ⟨by omega, e, b3, by omega⟩)⟩
  · rcases hf with ⟨b1, b2, b3⟩ | ⟨b1, b2⟩ | ⟨b1, b2⟩
    · have hg : sgn T 59 S.2 = (1, tS T S.2) := sgn_4 a2
      have hg1 : (sgn T 59 S.2).1 = 1 ∧ (sgn T 59 S.2).2 = tS T S.2 := by rw [hg]; exact ⟨rfl, rfl⟩
      exact Or.inr ⟨by omega, Or.inr (Or.inl ⟨a1, by omega, by omega, by omega⟩)⟩
    · exfalso; omega
    · exfalso; omega
end
section
/-! The class's picture of a text, of the token ahead, of the tables told. -/
def disX (F : FSX) (s : List (Nat × Int) × List Nat) : Bool := s.1.all (fun q => !inF F q.1 q.2) && s.2.all (fun k => !F.2.contains k && F.1.all fun q => !(q.1 == k))
theorem disX_f {F : FSX} {s : List (Nat × Int) × List Nat} {P P1 : PH} (hd : disX F s = true) (hf : FrX F P P1) {o k : Nat} {j : Int} (hk : kx o k) (hm : (k, j) ∈ s.1) : P1 o j = P o j := by
  unfold disX at hd
  rw [Bool.and_eq_true] at hd
  refine hf.g hk ?_
  have := List.all_eq_true.mp hd.1 (k, j) hm
  simpa using this
theorem disX_a {F : FSX} {s : List (Nat × Int) × List Nat} {P P1 : PH} (hd : disX F s = true) (hf : FrX F P P1) {o k : Nat} (hk : kx o k) (hm : k ∈ s.2) (j : Int) : P1 o j = P o j := by
  unfold disX at hd
  rw [Bool.and_eq_true] at hd
  refine hf.g hk ?_
  have h := List.all_eq_true.mp hd.2 k hm
  rw [Bool.and_eq_true] at h
  unfold inF
  rw [Bool.or_eq_false_iff]
  refine ⟨by simpa using h.1, ?_⟩
  cases e : F.1.any fun q => q.1 == k && q.2 == j with
  | false => rfl
  | true =>
    obtain ⟨q, hq, he⟩ := List.any_eq_true.mp e
    have h2 := List.all_eq_true.mp h.2 q hq
    rw [Bool.and_eq_true] at he
    rw [he.1] at h2
    exact absurd h2 (by decide)
/-- the text -/
def XT (T : TT) (P : PH) : Prop := P 111 2 = T.2 ∧ ∀ i : Int, 0 ≤ i → i < T.2 → P 2 i = T.1 i
theorem XT.fr {T : TT} {P P1 : PH} {F : FSX} (h : XT T P) (hf : FrX F P P1) (hd : disX F ([(46, 2)], [2]) = true) : XT T P1 := by
  refine ⟨by rw [disX_f hd hf (o := 111) (k := 46) (j := 2) ⟨by decide, rfl⟩ (by decide)]; exact h.1, fun i h0 h1 => ?_⟩
  rw [disX_a hd hf (o := 2) (k := 2) ⟨by decide, rfl⟩ (by decide)]
  exact h.2 i h0 h1
/-- the token ahead, behind place p -/
def XS (T : TT) (p : Int) (P : PH) : Prop := P 111 4 = tK T p ∧ P 111 5 = tA T p ∧ P 111 8 = tO T p ∧ 0 ≤ p ∧ p ≤ T.2 ∧ (tK T p = 4 → P 111 6 = tS T p) ∧ (1 ≤ tK T p ∧ tK T p ≤ 3 → P 111 3 = tE T p ∧ P 111 7 = tV T p)
theorem XS.fr {T : TT} {p : Int} {P P1 : PH} {F : FSX} (h : XS T p P) (hf : FrX F P P1) (hd : disX F ([(46, 3), (46, 4), (46, 5), (46, 6), (46, 7), (46, 8)], []) = true) : XS T p P1 := by
  have hk : kx 111 46 := ⟨by decide, rfl⟩
  unfold XS at h ⊢
  rw [disX_f hd hf (j := 3) hk (by decide), disX_f hd hf (j := 4) hk (by decide), disX_f hd hf (j := 5) hk (by decide), disX_f hd hf (j := 6) hk (by decide), disX_f hd hf (j := 7) hk (by decide), disX_f hd hf (j := 8) hk (by decide)]
  exact h
theorem XS.b {T : TT} {p : Int} {P : PH} (h : XS T p P) : P 111 4 = tK T p ∧ P 111 5 = tA T p ∧ P 111 8 = tO T p ∧ 0 ≤ p ∧ p ≤ T.2 := ⟨h.1, h.2.1, h.2.2.1, h.2.2.2.1, h.2.2.2.2.1⟩
theorem XS.bad {T : TT} {p : Int} {P : PH} (h : XS T p P) (h4 : tK T p = 4) : P 111 6 = tS T p := h.2.2.2.2.2.1 h4
theorem XS.tok {T : TT} {p : Int} {P : PH} (h : XS T p P) (h4 : 1 ≤ tK T p ∧ tK T p ≤ 3) : P 111 3 = tE T p ∧ P 111 7 = tV T p := h.2.2.2.2.2.2 h4
/-- a letter or a digit just ahead of a place -/
def jn (T : TT) (q : Int) : Int := if 0 < q ∧ (bL (T.1 (q - 1)) || bN (T.1 (q - 1))) = true then 1 else 0
theorem jn_b (T : TT) (q : Int) : jn T q = 0 ∨ jn T q = 1 := by
  unfold jn
  split
  · exact Or.inr rfl
  · exact Or.inl rfl
theorem tJ_jn {T : TT} {q : Int} : tJn T q = if tA T q = q ∧ jn T q = 1 then 1 else 0 := by
  have key : tJ T q = true ↔ tA T q = q ∧ jn T q = 1 := by
    unfold tJ jn
    rw [Bool.and_eq_true, decide_eq_true_iff]
    constructor
    · intro h
      exact ⟨h.1.1, if_pos ⟨h.1.2, h.2⟩⟩
    · intro h
      by_cases e : 0 < q ∧ (bL (T.1 (q - 1)) || bN (T.1 (q - 1))) = true
      · exact ⟨⟨h.1, e.1⟩, e.2⟩
      · rw [if_neg e] at h
        exact absurd h.2 (by decide)
  unfold tJn
  by_cases h : tJ T q = true
  · rw [if_pos h, if_pos (key.mp h)]
  · rw [if_neg h, if_neg (fun z => h (key.mpr z))]
theorem tJ_s (T : TT) (q : Int) : (tA T q = q ∧ jn T q = 1 ∧ tJn T q = 1) ∨ ((tA T q ≠ q ∨ jn T q ≠ 1) ∧ tJn T q = 0) := by
  have h := tJ_jn (T := T) (q := q)
  by_cases e : tA T q = q ∧ jn T q = 1
  · rw [if_pos e] at h; exact Or.inl ⟨e.1, e.2, h⟩
  · rw [if_neg e] at h; exact Or.inr ⟨by omega, h⟩
/-- what a step wants -/
theorem XS.stp {T : TT} {p : Int} {P : PH} (h : XS T p P) (h4 : 1 ≤ tK T p ∧ tK T p ≤ 3) : (P 111 3 = tE T p ∧ 0 ≤ tE T p ∧ tE T p ≤ T.2) ∧ (((P 111 4 = 1 ∨ P 111 4 = 2) ∧ jn T (tE T p) = 1) ∨ (P 111 4 ≠ 1 ∧ P 111 4 ≠ 2 ∧ jn T (tE T p) = 0)) := by
  have hb := h.b
  have ht := h.tok h4
  have he := tE_b h4
  have hg := tA_ge T p
  have hc := tE_c h4
  refine ⟨⟨ht.1, by omega, he.2.2⟩, ?_⟩
  unfold jn
  rw [hc]
  by_cases e : tK T p = 3
  · right
    refine ⟨by omega, by omega, ?_⟩
    rw [if_neg]
    intro z
    rw [decide_eq_true_iff] at z
    exact z.2 e
  · left
    refine ⟨by omega, ?_⟩
    rw [if_pos ⟨by omega, decide_eq_true_iff.mpr e⟩]
/-- the own words, by 27 -/
def OWN (P : PH) : Prop := ∀ k : Nat, k < 11 → P 112 (k : Int) = o27 k
theorem OWN.fr {P P1 : PH} {F : FSX} (h : OWN P) (hf : FrX F P P1) (hd : disX F ([], [47]) = true) : OWN P1 := by
  intro k hk
  rw [disX_a hd hf (o := 112) (k := 47) ⟨by decide, rfl⟩ (by decide)]
  exact h k hk
/-- the table that the reader fills -/
def RT (o : Nat) (P : PH) : Prop := P 110 2 = (o : Int)
theorem RT.fr {o : Nat} {P P1 : PH} {F : FSX} (h : RT o P) (hf : FrX F P P1) (hd : disX F ([(45, 2)], []) = true) : RT o P1 := (disX_f hd hf (o := 110) (k := 45) (j := 2) ⟨by decide, rfl⟩ (by decide)).trans h
/-- kinds and constructors -/
def XK (K : PH) (o : Nat) (P : PH) : Prop := kx o 29 ∧ P o 9 = K 0 0 ∧ P o 10 = K 0 1 ∧
  (∀ k : Int, 0 ≤ k → k < K 0 0 → P (crX o 0) k = K 1 k ∧ P (crX o 1) k = K 9 k ∧ P (crX o 2) k = K 3 k ∧ P (crX o 3) k = K 2 k) ∧
  ∀ c : Int, 0 ≤ c → c < K 0 1 → P (crX o 4) c = K 4 c ∧ P (crX o 5) c = K 10 c ∧ P (crX o 6) c = K 6 c ∧ P (crX o 7) c = K 7 c ∧ P (crX o 8) c = K 8 c
theorem XK.fr {K : PH} {o : Nat} {P P1 : PH} {F : FSX} (h : XK K o P) (hf : FrX F P P1) (hd : disX F ([(29, 9), (29, 10)], [30, 31, 32, 33, 34, 35, 36, 37, 38]) = true) : XK K o P1 := by
  obtain ⟨hk, h1, h2, h3, h4⟩ := h
  refine ⟨hk, by rw [disX_f hd hf (j := 9) hk (by decide)]; exact h1, by rw [disX_f hd hf (j := 10) hk (by decide)]; exact h2, fun k k0 k1 => ?_, fun c c0 c1 => ?_⟩
  · rw [disX_a hd hf (ck_29_0 hk) (by decide), disX_a hd hf (ck_29_1 hk) (by decide), disX_a hd hf (ck_29_2 hk) (by decide), disX_a hd hf (ck_29_3 hk) (by decide)]
    exact h3 k k0 k1
  · rw [disX_a hd hf (ck_29_4 hk) (by decide), disX_a hd hf (ck_29_5 hk) (by decide), disX_a hd hf (ck_29_6 hk) (by decide), disX_a hd hf (ck_29_7 hk) (by decide), disX_a hd hf (ck_29_8 hk) (by decide)]
    exact h4 c c0 c1
theorem XK.b {K : PH} {o : Nat} {P : PH} (h : XK K o P) : P o 9 = K 0 0 ∧ P o 10 = K 0 1 := ⟨h.2.1, h.2.2.1⟩
theorem XK.k {K : PH} {o : Nat} {P : PH} (h : XK K o P) {k : Int} (k0 : 0 ≤ k) (k1 : k < K 0 0) : P (crX o 0) k = K 1 k ∧ P (crX o 1) k = K 9 k ∧ P (crX o 2) k = K 3 k ∧ P (crX o 3) k = K 2 k := h.2.2.2.1 k k0 k1
theorem XK.c {K : PH} {o : Nat} {P : PH} (h : XK K o P) {c : Int} (c0 : 0 ≤ c) (c1 : c < K 0 1) : P (crX o 4) c = K 4 c ∧ P (crX o 5) c = K 10 c ∧ P (crX o 6) c = K 6 c ∧ P (crX o 7) c = K 7 c ∧ P (crX o 8) c = K 8 c := h.2.2.2.2 c c0 c1
theorem XK.kn {K : PH} {o : Nat} {P : PH} (h : XK K o P) (v : Int) : fxi (fun i => P (crX o 0) i) v (P o 9).toNat = kNm K v := by
  unfold kNm
  rw [h.2.1]
  exact fxi_cg _ (fun i h0 h1 => by show P (crX o 0) i = v ↔ _; rw [(h.k (k := i) h0 (by omega)).1])
theorem XK.cn {K : PH} {o : Nat} {P : PH} (h : XK K o P) (v : Int) : fxi (fun i => P (crX o 4) i) v (P o 10).toNat = cNm K v := by
  unfold cNm
  rw [h.2.2.1]
  exact fxi_cg _ (fun i h0 h1 => by show P (crX o 4) i = v ↔ _; rw [(h.c (c := i) h0 (by omega)).1])
theorem XK.zero {o : Nat} {P : PH} (hk : kx o 29) (h9 : P o 9 = 0) (h10 : P o 10 = 0) : XK K0 o P := ⟨hk, h9, h10, fun k h0 h1 => by exfalso; have h1 : k < 0 := h1; omega, fun k h0 h1 => by exfalso; have h1 : k < 0 := h1; omega⟩
theorem XK.kind {K : PH} {o : Nat} {P P1 : PH} {v : Int} (h : XK K o P) (h9 : P1 o 9 = P o 9 + 1) (h10 : P1 o 10 = P o 10) (s0 : P1 (crX o 0) (P o 9) = v) (q0 : ∀ j : Int, j ≠ P o 9 → P1 (crX o 0) j = P (crX o 0) j) (s1 : P1 (crX o 1) (P o 9) = P o 10) (q1 : ∀ j : Int, j ≠ P o 9 → P1 (crX o 1) j = P (crX o 1) j)
    (s2 : P1 (crX o 2) (P o 9) = 0) (q2 : ∀ j : Int, j ≠ P o 9 → P1 (crX o 2) j = P (crX o 2) j) (s3 : P1 (crX o 3) (P o 9) = 0) (q3 : ∀ j : Int, j ≠ P o 9 → P1 (crX o 3) j = P (crX o 3) j)
    (q4 : ∀ j, P1 (crX o 4) j = P (crX o 4) j) (q5 : ∀ j, P1 (crX o 5) j = P (crX o 5) j) (q6 : ∀ j, P1 (crX o 6) j = P (crX o 6) j) (q7 : ∀ j, P1 (crX o 7) j = P (crX o 7) j) (q8 : ∀ j, P1 (crX o 8) j = P (crX o 8) j) : XK (kNew K v) o P1 := by
  have hb := h.b
  refine ⟨h.1, by rw [h9, kNew_0.1, hb.1], by rw [h10, kNew_0.2, hb.2], fun k k0 k1 => ?_, fun c c0 c1 => ?_⟩
  · rw [kNew_0.1] at k1
    rw [kNew_1, kNew_9, kNew_3, kNew_2]
    by_cases e : k = K 0 0
    · have e9 : k = P o 9 := by omega
      rw [if_pos e, if_pos e, if_pos e, if_pos e, e9, s0, s1, s2, s3]
      exact ⟨rfl, hb.2, rfl, rfl⟩
    · have e9 : k ≠ P o 9 := by omega
      rw [if_neg e, if_neg e, if_neg e, if_neg e, q0 _ e9, q1 _ e9, q2 _ e9, q3 _ e9]
      exact h.k k0 (by omega)
  · rw [kNew_0.2] at c1
    rw [kNew_c (o := 4) (by decide) (by decide) (by decide) (by decide) (by decide), kNew_c (o := 6) (by decide) (by decide) (by decide) (by decide) (by decide), kNew_c (o := 7) (by decide) (by decide) (by decide) (by decide) (by decide), kNew_c (o := 8) (by decide) (by decide) (by decide) (by decide) (by decide), kNew_c (o := 10) (by decide) (by decide) (by decide) (by decide) (by decide), q4, q5, q6, q7, q8]
    exact h.c c0 c1
theorem XK.con {K : PH} {o : Nat} {P P1 : PH} {v n a b i : Int} (h : XK K o P) (h9 : P1 o 9 = P o 9) (h10 : P1 o 10 = P o 10 + 1) (s4 : P1 (crX o 4) (P o 10) = v) (q4 : ∀ j : Int, j ≠ P o 10 → P1 (crX o 4) j = P (crX o 4) j) (s5 : P1 (crX o 5) (P o 10) = P (crX o 3) (P o 9 - 1)) (q5 : ∀ j : Int, j ≠ P o 10 → P1 (crX o 5) j = P (crX o 5) j)
    (s6 : P1 (crX o 6) (P o 10) = n) (q6 : ∀ j : Int, j ≠ P o 10 → P1 (crX o 6) j = P (crX o 6) j) (s7 : P1 (crX o 7) (P o 10) = a) (q7 : ∀ j : Int, j ≠ P o 10 → P1 (crX o 7) j = P (crX o 7) j) (s8 : P1 (crX o 8) (P o 10) = b) (q8 : ∀ j : Int, j ≠ P o 10 → P1 (crX o 8) j = P (crX o 8) j)
    (s2 : P1 (crX o 2) (P o 9 - 1) = P (crX o 2) (P o 9 - 1) + 1) (q2 : ∀ j : Int, j ≠ P o 9 - 1 → P1 (crX o 2) j = P (crX o 2) j) (s3 : P1 (crX o 3) (P o 9 - 1) = P (crX o 3) (P o 9 - 1) + i) (q3 : ∀ j : Int, j ≠ P o 9 - 1 → P1 (crX o 3) j = P (crX o 3) j)
    (q0 : ∀ j, P1 (crX o 0) j = P (crX o 0) j) (q1 : ∀ j, P1 (crX o 1) j = P (crX o 1) j) (h1 : 1 ≤ K 0 0) : XK (cNew K v n a b i) o P1 := by
  have hb := h.b
  have hl := h.k (k := K 0 0 - 1) (by omega) (by omega)
  rw [show P o 9 - 1 = K 0 0 - 1 by omega] at s2 s3 s5 q2 q3
  refine ⟨h.1, by rw [h9, cNew_0.1, hb.1], by rw [h10, cNew_0.2, hb.2], fun k k0 k1 => ?_, fun c c0 c1 => ?_⟩
  · rw [cNew_0.1] at k1
    rw [cNew_c (o := 1) (Or.inl rfl), cNew_c (o := 9) (Or.inr rfl), cNew_3, cNew_2, q0, q1]
    have hk := h.k k0 k1
    by_cases e : k = K 0 0 - 1
    · rw [if_pos e, if_pos e]
      rw [e] at hk ⊢
      rw [s2, s3]
      exact ⟨hk.1, hk.2.1, by rw [hk.2.2.1], by rw [hk.2.2.2]⟩
    · rw [if_neg e, if_neg e, q2 _ e, q3 _ e]
      exact hk
  · rw [cNew_0.2] at c1
    rw [cNew_4, cNew_10, cNew_6, cNew_7, cNew_8]
    by_cases e : c = K 0 1
    · have e9 : c = P o 10 := by omega
      rw [if_pos e, if_pos e, if_pos e, if_pos e, if_pos e, e9, s4, s5, s6, s7, s8]
      exact ⟨rfl, hl.2.2.2, rfl, rfl, rfl⟩
    · have e9 : c ≠ P o 10 := by omega
      rw [if_neg e, if_neg e, if_neg e, if_neg e, if_neg e, q4 _ e9, q5 _ e9, q6 _ e9, q7 _ e9, q8 _ e9]
      exact h.c c0 (by omega)
/-- columns, arms, rule, budget -/
def XM (M : PH) (o : Nat) (P : PH) : Prop := kx o 28 ∧ P o 6 = M 0 0 ∧ P o 7 = M 0 1 ∧ P o 8 = M 0 2 ∧ P o 9 = M 0 3 ∧ P o 10 = M 0 4 ∧ (∀ c : Int, 0 ≤ c → c < M 0 0 → P (crX o 1) c = M 1 c) ∧ ∀ a : Int, 0 ≤ a → a < M 0 2 → P (crX o 4) a = M 2 a
theorem XM.fr {M : PH} {o : Nat} {P P1 : PH} {F : FSX} (h : XM M o P) (hf : FrX F P P1) (hd : disX F ([(28, 6), (28, 7), (28, 8), (28, 9), (28, 10)], [39, 42]) = true) : XM M o P1 := by
  obtain ⟨hk, h1, h2, h3, h4, h5, h6, h7⟩ := h
  refine ⟨hk, by rw [disX_f hd hf (j := 6) hk (by decide)]; exact h1, by rw [disX_f hd hf (j := 7) hk (by decide)]; exact h2, by rw [disX_f hd hf (j := 8) hk (by decide)]; exact h3, by rw [disX_f hd hf (j := 9) hk (by decide)]; exact h4, by rw [disX_f hd hf (j := 10) hk (by decide)]; exact h5, fun c c0 c1 => ?_, fun a a0 a1 => ?_⟩
  · rw [disX_a hd hf (ck_28_1 hk) (by decide)]
    exact h6 c c0 c1
  · rw [disX_a hd hf (ck_28_4 hk) (by decide)]
    exact h7 a a0 a1
theorem XM.b {M : PH} {o : Nat} {P : PH} (h : XM M o P) : P o 6 = M 0 0 ∧ P o 7 = M 0 1 ∧ P o 8 = M 0 2 ∧ P o 9 = M 0 3 ∧ P o 10 = M 0 4 := ⟨h.2.1, h.2.2.1, h.2.2.2.1, h.2.2.2.2.1, h.2.2.2.2.2.1⟩
theorem XM.c {M : PH} {o : Nat} {P : PH} (h : XM M o P) {c : Int} (c0 : 0 ≤ c) (c1 : c < M 0 0) : P (crX o 1) c = M 1 c := h.2.2.2.2.2.2.1 c c0 c1
theorem XM.zero {o : Nat} {P : PH} (hk : kx o 28) (h6 : P o 6 = 0) (h7 : P o 7 = 0) (h8 : P o 8 = 0) (h9 : P o 9 = 0) (h10 : P o 10 = 300) : XM M0 o P := ⟨hk, h6, h7, h8, h9, h10, fun k h0 h1 => by exfalso; have h1 : k < 0 := h1; omega, fun k h0 h1 => by exfalso; have h1 : k < 0 := h1; omega⟩
theorem XM.col {M : PH} {o : Nat} {P P1 : PH} {k r : Int} (h : XM M o P) (h6 : P1 o 6 = P o 6 + 1) (h7 : P1 o 7 = r) (h8 : P1 o 8 = P o 8) (h9 : P1 o 9 = P o 9) (h10 : P1 o 10 = P o 10) (s1 : P1 (crX o 1) (P o 6) = k) (q1 : ∀ j : Int, j ≠ P o 6 → P1 (crX o 1) j = P (crX o 1) j) (q4 : ∀ j, P1 (crX o 4) j = P (crX o 4) j) : XM (mCol M k r) o P1 := by
  have hb := h.b
  refine ⟨h.1, by rw [h6, mCol_0.1, hb.1], by rw [h7, mCol_0.2.1], by rw [h8, mCol_0.2.2.1, hb.2.2.1], by rw [h9, mCol_0.2.2.2.1, hb.2.2.2.1], by rw [h10, mCol_0.2.2.2.2, hb.2.2.2.2], fun c c0 c1 => ?_, fun a a0 a1 => ?_⟩
  · rw [mCol_0.1] at c1
    rw [mCol_1]
    by_cases e : c = M 0 0
    · rw [if_pos e, show c = P o 6 by omega, s1]
    · rw [if_neg e, q1 _ (by omega)]
      exact h.c c0 (by omega)
  · rw [mCol_0.2.2.1] at a1
    rw [mCol_2, q4]
    exact h.2.2.2.2.2.2.2 a a0 a1
theorem XM.arm {M : PH} {o : Nat} {P P1 : PH} {g : Int} (h : XM M o P) (h6 : P1 o 6 = P o 6) (h7 : P1 o 7 = P o 7) (h8 : P1 o 8 = P o 8 + 1) (h9 : P1 o 9 = P o 9) (h10 : P1 o 10 = P o 10) (q1 : ∀ j, P1 (crX o 1) j = P (crX o 1) j) (s4 : P1 (crX o 4) (P o 8) = g) (q4 : ∀ j : Int, j ≠ P o 8 → P1 (crX o 4) j = P (crX o 4) j) : XM (aNew M g) o P1 := by
  have hb := h.b
  have e1 : aNew M g 0 1 = M 0 1 := by simp [aNew, up]
  refine ⟨h.1, by rw [h6, aNew_0.1, hb.1], by rw [h7, e1, hb.2.1], by rw [h8, aNew_0.2.1, hb.2.2.1], by rw [h9, aNew_0.2.2.1, hb.2.2.2.1], by rw [h10, aNew_0.2.2.2, hb.2.2.2.2], fun c c0 c1 => ?_, fun a a0 a1 => ?_⟩
  · rw [aNew_0.1] at c1
    rw [aNew_1, q1]
    exact h.c c0 c1
  · rw [aNew_0.2.1] at a1
    rw [aNew_2]
    by_cases e : a = M 0 2
    · rw [if_pos e, show a = P o 8 by omega, s4]
    · rw [if_neg e, q4 _ (by omega)]
      exact h.2.2.2.2.2.2.2 a a0 (by omega)
theorem XM.rule {M : PH} {o : Nat} {P P1 : PH} {g : Int} (h : XM M o P) (h6 : P1 o 6 = P o 6) (h7 : P1 o 7 = P o 7) (h8 : P1 o 8 = P o 8) (h9 : P1 o 9 = g) (h10 : P1 o 10 = P o 10) (q1 : ∀ j, P1 (crX o 1) j = P (crX o 1) j) (q4 : ∀ j, P1 (crX o 4) j = P (crX o 4) j) : XM (up M 0 3 g) o P1 := by
  have hb := h.b
  refine ⟨h.1, by rw [h6, up_k (by decide), hb.1], by rw [h7, up_k (by decide), hb.2.1], by rw [h8, up_k (by decide), hb.2.2.1], by rw [h9, up_same], by rw [h10, up_k (by decide), hb.2.2.2.2], fun c c0 c1 => ?_, fun a a0 a1 => ?_⟩
  · rw [up_k (by decide)] at c1
    rw [up_row (o1 := 1) (by decide), q1]
    exact h.c c0 c1
  · rw [up_k (by decide)] at a1
    rw [up_row (o1 := 2) (by decide), q4]
    exact h.2.2.2.2.2.2.2 a a0 a1
theorem XM.budget {M : PH} {o : Nat} {P P1 : PH} {g : Int} (h : XM M o P) (h6 : P1 o 6 = P o 6) (h7 : P1 o 7 = P o 7) (h8 : P1 o 8 = P o 8) (h9 : P1 o 9 = P o 9) (h10 : P1 o 10 = g) (q1 : ∀ j, P1 (crX o 1) j = P (crX o 1) j) (q4 : ∀ j, P1 (crX o 4) j = P (crX o 4) j) : XM (up M 0 4 g) o P1 := by
  have hb := h.b
  refine ⟨h.1, by rw [h6, up_k (by decide), hb.1], by rw [h7, up_k (by decide), hb.2.1], by rw [h8, up_k (by decide), hb.2.2.1], by rw [h9, up_k (by decide), hb.2.2.2.1], by rw [h10, up_same], fun c c0 c1 => ?_, fun a a0 a1 => ?_⟩
  · rw [up_k (by decide)] at c1
    rw [up_row (o1 := 1) (by decide), q1]
    exact h.c c0 c1
  · rw [up_k (by decide)] at a1
    rw [up_row (o1 := 2) (by decide), q4]
    exact h.2.2.2.2.2.2.2 a a0 a1
section XSM
variable {T : TT} {p : Int} {P : PH}
theorem XS.end (hp : 0 ≤ p ∧ p ≤ T.2) (h4 : P 111 4 = 0) (h5 : P 111 5 = tA T p) (h8 : P 111 8 = -1) (hn : T.2 ≤ tA T p) : XS T p P := by
  have hk := tK_0 hn
  exact ⟨by omega, h5, by rw [tO_4 (by omega)]; exact h8, hp.1, hp.2, fun q => by omega, fun q => by omega⟩
theorem XS.sig (hp : 0 ≤ p ∧ p ≤ T.2) (h4 : P 111 4 = 3) (h5 : P 111 5 = tA T p) (h8 : P 111 8 = -1) (h3 : P 111 3 = tA T p + 1) (h7 : P 111 7 = T.1 (tA T p)) (hn : tA T p < T.2) (hl : T.1 (tA T p) < 97 ∨ 122 < T.1 (tA T p)) (hd : T.1 (tA T p) < 48 ∨ 57 < T.1 (tA T p)) : XS T p P := by
  have hk := tK_3 hn (bL_f hl) (bN_f hd)
  have h9 := tK3 hk
  exact ⟨by omega, h5, by rw [tO_4 (by omega)]; exact h8, hp.1, hp.2, fun q => by omega, fun _ => ⟨by omega, by rw [h9.2.2.2]; exact h7⟩⟩
theorem XS.badj (hp : 0 ≤ p ∧ p ≤ T.2) (h4 : P 111 4 = 4) (h5 : P 111 5 = tA T p) (h8 : P 111 8 = -1) (h6 : P 111 6 = tA T p) (hn : tA T p < T.2) (hl : (97 ≤ T.1 (tA T p) ∧ T.1 (tA T p) ≤ 122) ∨ (48 ≤ T.1 (tA T p) ∧ T.1 (tA T p) ≤ 57)) (hj : tJn T p = 1) : XS T p P := by
  have hj := tJn_t hj
  have hk := tK_j hn (by rcases hl with h | h; exact Or.inl (bL_t.mpr h); exact Or.inr (bN_t.mpr h)) hj
  refine ⟨by omega, h5, by rw [tO_4 (by omega)]; exact h8, hp.1, hp.2, fun _ => ?_, fun q => by omega⟩
  unfold tS
  rw [if_pos hj]
  exact h6
theorem XS.nu (hp : 0 ≤ p ∧ p ≤ T.2) (h4 : P 111 4 = 2) (h5 : P 111 5 = tA T p) (h8 : P 111 8 = -1) (h3 : P 111 3 = rE bN T (tA T p)) (hle : rE bN T (tA T p) - tA T p ≤ 4) (h7 : P 111 7 = e10 (tD T (tA T p)) (rE bN T (tA T p) - tA T p).toNat) (hn : tA T p < T.2) (hl : 48 ≤ T.1 (tA T p) ∧ T.1 (tA T p) ≤ 57) (hj : tJn T p = 0) : XS T p P := by
  have hk := tK_n hn (bL_f (by omega)) (bN_t.mpr hl) (tJn_f hj)
  rw [if_pos hle] at hk
  refine ⟨by omega, h5, by rw [tO_4 (by omega)]; exact h8, hp.1, hp.2, fun q => by omega, fun _ => ⟨?_, ?_⟩⟩
  · unfold tE
    rw [if_neg (by omega), if_neg (by omega), if_pos hk]
    exact h3
  · unfold tV
    rw [if_neg (by omega), if_neg (by omega), if_pos hk]
    exact h7
theorem XS.nub (hp : 0 ≤ p ∧ p ≤ T.2) (h4 : P 111 4 = 4) (h5 : P 111 5 = tA T p) (h8 : P 111 8 = -1) (h6 : P 111 6 = tA T p + 4) (hle : 4 < rE bN T (tA T p) - tA T p) (hn : tA T p < T.2) (hl : 48 ≤ T.1 (tA T p) ∧ T.1 (tA T p) ≤ 57) (hj : tJn T p = 0) : XS T p P := by
  have hl0 : bL (T.1 (tA T p)) = false := bL_f (by omega)
  have hk := tK_n hn hl0 (bN_t.mpr hl) (tJn_f hj)
  rw [if_neg (by omega)] at hk
  refine ⟨by omega, h5, by rw [tO_4 (by omega)]; exact h8, hp.1, hp.2, fun _ => ?_, fun q => by omega⟩
  unfold tS
  rw [if_neg (by rw [tJn_f hj]; simp), if_neg (by rw [hl0]; simp)]
  exact h6
theorem XS.wo (hp : 0 ≤ p ∧ p ≤ T.2) (h4 : P 111 4 = 1) (h5 : P 111 5 = tA T p) (h8 : P 111 8 = oWF (P 111 7) 11) (h3 : P 111 3 = rE bL T (tA T p)) (hle : rE bL T (tA T p) - tA T p ≤ 6) (h7 : P 111 7 = e27 (tPad (tL T (tA T p)) (rE bL T (tA T p) - tA T p).toNat) 6) (hn : tA T p < T.2) (hl : 97 ≤ T.1 (tA T p) ∧ T.1 (tA T p) ≤ 122) (hj : tJn T p = 0) : XS T p P := by
  have hk := tK_w hn (bL_t.mpr hl) (tJn_f hj)
  rw [if_pos hle] at hk
  have hge := rE_ge bL T (tA T p)
  have hv : P 111 7 = tV T p := by
    unfold tV tN
    rw [if_neg (by omega), if_pos hk, h7]
    have := e27_pad (tL T (tA T p)) (rE bL T (tA T p) - tA T p).toNat (6 - (rE bL T (tA T p) - tA T p).toNat)
    rw [show (rE bL T (tA T p) - tA T p).toNat + (6 - (rE bL T (tA T p) - tA T p).toNat) = 6 by omega] at this
    exact this
  refine ⟨by omega, h5, ?_, hp.1, hp.2, fun q => by omega, fun _ => ⟨?_, hv⟩⟩
  · unfold tO
    rw [if_pos hk, h8, hv]
    rfl
  · unfold tE
    rw [if_neg (by omega), if_pos hk]
    exact h3
theorem XS.wob (hp : 0 ≤ p ∧ p ≤ T.2) (h4 : P 111 4 = 4) (h5 : P 111 5 = tA T p) (h8 : P 111 8 = -1) (h6 : P 111 6 = tA T p + 6) (hle : 6 < rE bL T (tA T p) - tA T p) (hn : tA T p < T.2) (hl : 97 ≤ T.1 (tA T p) ∧ T.1 (tA T p) ≤ 122) (hj : tJn T p = 0) : XS T p P := by
  have hk := tK_w hn (bL_t.mpr hl) (tJn_f hj)
  rw [if_neg (by omega)] at hk
  refine ⟨by omega, h5, by rw [tO_4 (by omega)]; exact h8, hp.1, hp.2, fun _ => ?_, fun q => by omega⟩
  unfold tS
  rw [if_neg (by rw [tJn_f hj]; simp), if_pos (bL_t.mpr hl)]
  exact h6
end XSM
/-- a letter more, by 27 -/
theorem e27_one {T : TT} {a v c : Int} {n : Nat} (h : v = e27 (tL T a) n) (hc : c = T.1 (a + n)) : v * 27 + c - 97 + 1 = e27 (tL T a) (n + 1) := by
  show v * 27 + c - 97 + 1 = e27 (tL T a) n * 27 + (T.1 (a + n) - 96)
  rw [← h, ← hc]
  omega
theorem e27_lt {T : TT} {a : Int} {n : Nat} (hn : n ≤ 5) (h : ∀ i, i < n → 1 ≤ tL T a i ∧ tL T a i ≤ 26) : 0 ≤ e27 (tL T a) n ∧ e27 (tL T a) n ≤ 14348906 := by
  have hb := e27_b (g := tL T a) n (by omega) (fun i hi => by have := h i hi; omega)
  have h2 : ∀ k : Nat, k < 6 → p27 k ≤ 14348907 := by decide
  have := h2 n (by omega)
  omega
theorem pad_lt {g : Nat → Int} {L k : Nat} (hk : k ≤ 5) (h : ∀ i, i < L → 1 ≤ g i ∧ g i ≤ 26) : 0 ≤ e27 (tPad g L) k ∧ e27 (tPad g L) k ≤ 14348906 := by
  have hb := e27_b (g := tPad g L) k (by omega) (fun i _ => by
    unfold tPad
    by_cases q : i < L
    · rw [if_pos q]; have := h i q; omega
    · rw [if_neg q]; omega)
  have h2 : ∀ k : Nat, k < 6 → p27 k ≤ 14348907 := by decide
  have := h2 k (by omega)
  omega
theorem pad_one {g : Nat → Int} {L k : Nat} (h : L ≤ k) : e27 (tPad g L) (k + 1) = e27 (tPad g L) k * 27 := by
  show e27 (tPad g L) k * 27 + tPad g L k = _
  rw [show tPad g L k = 0 by unfold tPad; rw [if_neg (by omega)]]
  omega
theorem pad_0 {g : Nat → Int} {L : Nat} : e27 (tPad g L) L = e27 g L := e27_cg L (fun i hi => by unfold tPad; rw [if_pos hi])
theorem oWF_s {v x : Int} {n : Nat} (h : x = o27 n) : (x = v ∧ oWF v (n + 1) = n) ∨ (x ≠ v ∧ oWF v (n + 1) = oWF v n) := by
  have e : oWF v (n + 1) = if o27 n = v then (n : Int) else oWF v n := rfl
  by_cases q : x = v
  · left; rw [e, if_pos (h ▸ q)]; exact ⟨q, rfl⟩
  · right; rw [e, if_neg (h ▸ q)]; exact ⟨q, rfl⟩
theorem jn_0 (T : TT) : jn T 0 = 0 := by
  unfold jn
  rw [if_neg (fun h => by omega)]
/-- a range, or any -/
def rg8 (T : TT) (p : Int) : Int × Int := if tO T p = 8 then (0, tE T p) else rng T p
theorem rg8_s (T : TT) (p : Int) : (tO T p = 8 ∧ (rg8 T p).1 = 0 ∧ (rg8 T p).2 = tE T p) ∨ (tO T p ≠ 8 ∧ (rg8 T p).1 = (rng T p).1 ∧ (rg8 T p).2 = (rng T p).2) := by
  unfold rg8
  by_cases h : tO T p = 8
  · rw [if_pos h]; exact Or.inl ⟨h, rfl, rfl⟩
  · rw [if_neg h]; exact Or.inr ⟨h, rfl, rfl⟩
theorem num_ge {T : TT} {lo hi p : Int} (h : (num T lo hi p).1 = 0) : p ≤ (num T lo hi p).2 := by
  have hs := num_s T lo hi p
  have := tE_b (T := T) (p := p)
  omega
theorem rg8_ge {T : TT} {p : Int} (h : (rg8 T p).1 = 0) : p ≤ (rg8 T p).2 := by
  have hs := rg8_s T p
  have hr := rng_s T p
  have hn := num_s T 0 19 p
  have hn2 := num_s T (tV T p) 19 (tE T (tE T p))
  have h1 := tE_b (T := T) (p := p)
  have h2 := tE_b (T := T) (p := tE T p)
  have h3 := tE_b (T := T) (p := tE T (tE T p))
  have h4 := tO_r T p
  have h5 := tO_r T (tE T p)
  omega
/-- the values that fit, in a row of the reader's -/
def FU (o : Nat) (n : Int) (d : Int → Int) (P P1 : PH) : Prop := ∀ v : Int, 0 ≤ v → v < n → P1 o v = if d v = 1 then 1 else P o v
def FD (o : Nat) (n : Int) (d : Int → Int) (P1 : PH) : Prop := ∀ v : Int, 0 ≤ v → v < n → P1 o v = if d v = 1 then 1 else 0
/-- the other rows of no greater depth stay -/
def FO (j d : Int) (P P1 : PH) : Prop := ∀ i : Nat, (i : Int) ≠ j → (i : Int) < 2 * (d + 1) → ∀ v : Int, P1 (crX 114 i) v = P (crX 114 i) v
def fr9 (j : Int) : Nat := crX 114 j.toNat
/-- what an alternative's reading leaves: j the row, e the depth -/
def AC (T : TT) (K : PH) (k j e p r : Int) (P P1 : PH) : Prop := (r = 1 ∧ P1 110 3 = P 110 3 ∧ P1 110 4 = P 110 4 ∧ FO j e P P1 ∧ ∃ (q : Int) (L : List OP) (d : Int → Int), p ≤ q ∧ XS T q P1 ∧ SC K L d ∧ FU (fr9 j) (sz K k) d P P1 ∧ ∀ (s : SK) (x : XR), Runs T K 1 (adL s L) k q x → Runs T K 0 s k p x) ∨ (r = 0 ∧ P1 110 3 ≠ 0 ∧ ∀ s : SK, Runs T K 0 s k p (P1 110 3, P1 110 4, []))
/-- what a pattern's reading leaves -/
def AP (T : TT) (K : PH) (k j e p r : Int) (P P1 : PH) : Prop := (r = 1 ∧ P1 110 3 = P 110 3 ∧ P1 110 4 = P 110 4 ∧ FO j e P P1 ∧ ∃ (q a : Int) (L : List OP) (d : Int → Int), p ≤ q ∧ tO T q ≠ 9 ∧ XS T q P1 ∧ SC K (orE a L) d ∧ FD (fr9 j) (sz K k) d P1 ∧ ∀ (s : SK) (x : XR), Runs T K 1 (s.1, a, L ++ s.2.2) k q x → Runs T K 0 (s.1, 0, s.2.2) k p x) ∨ (r = 0 ∧ P1 110 3 ≠ 0 ∧ ∀ s : SK, Runs T K 0 (s.1, 0, s.2.2) k p (P1 110 3, P1 110 4, []))
section ACS
variable {T : TT} {K : PH} {k j e p r c q f : Int} {P P1 : PH}
theorem AC.range (hk : k = -1) (h : (r = 1 ∧ (rg8 T p).1 = 0 ∧ P1 110 3 = P 110 3 ∧ P1 110 4 = P 110 4) ∨ (r = 0 ∧ (rg8 T p).1 ≠ 0 ∧ P1 110 3 = (rg8 T p).1 ∧ P1 110 4 = (rg8 T p).2)) (hs : (rg8 T p).1 = 0 → XS T (rg8 T p).2 P1) (ho : r = 1 → FO j e P P1)
    (hu : r = 1 → (tO T p = 8 → FU (fr9 j) 20 (fun _ => 1) P P1) ∧ (tO T p ≠ 8 → FU (fr9 j) 20 (fun v => b1 (tV T p ≤ v ∧ v ≤ hiV T p)) P P1)) : AC T K k j e p r P P1 := by
  have hg := rg8_s T p
  have hz : sz K k = 20 := by rw [hk]; exact if_pos rfl
  rcases h with ⟨h1, h2, h3, h4⟩ | ⟨h1, h2, h3, h4⟩
  · obtain ⟨u1, u2⟩ := hu h1
    rcases hg with ⟨g1, g2, g3⟩ | ⟨g1, g2, g3⟩
    · refine Or.inl ⟨h1, h3, h4, ho h1, (rg8 T p).2, [(0, 0, 0)], _, rg8_ge h2, hs h2, SC.any, by rw [hz]; exact u1 g1, fun s x hx => ?_⟩
      rw [g3] at hx; exact Runs.any g1 hx
    · refine Or.inl ⟨h1, h3, h4, ho h1, (rg8 T p).2, [(1, tV T p, hiV T p)], _, rg8_ge h2, hs h2, SC.rng, by rw [hz]; exact u2 g1, fun s x hx => ?_⟩
      rw [g3] at hx; exact Runs.range g1 hk (by omega) hx
  · refine Or.inr ⟨h1, by omega, fun s => ?_⟩
    rcases hg with ⟨g1, g2, g3⟩ | ⟨g1, g2, g3⟩
    · omega
    · rw [pair_eq (h3.trans g2) (h4.trans g3)]
      exact Runs.rangeF g1 hk (by omega)
theorem AC.any (ho : tO T p = 8) (h3 : P1 110 3 = P 110 3) (h4 : P1 110 4 = P 110 4) (hs : XS T (tE T p) P1) (hf : FO j e P P1) (hu : FU (fr9 j) (sz K k) (fun _ => 1) P P1) : AC T K k j e p 1 P P1 := by
  have h1 := tE_b (T := T) (p := p)
  have h5 := tO_r T p
  exact Or.inl ⟨rfl, h3, h4, hf, tE T p, [(0, 0, 0)], _, by omega, hs, SC.any, hu, fun s x hx => Runs.any ho hx⟩
theorem AC.caseF (ho : tO T p ≠ 8) (hk : k ≠ -1) (h0 : (cas T K k p).1 ≠ 0) (h3 : P1 110 3 = (cas T K k p).1) (h4 : P1 110 4 = (cas T K k p).2) : AC T K k j e p 0 P P1 := by
  refine Or.inr ⟨rfl, by omega, fun s => ?_⟩
  rw [pair_eq h3 h4]
  exact Runs.caseF ho hk h0
theorem AC.case0 (ho : tO T p ≠ 8) (hk : k ≠ -1) (h0 : (cas T K k p).1 = 0) (h6 : K 6 (cNm K (tV T p)) = 0) (h3 : P1 110 3 = P 110 3) (h4 : P1 110 4 = P 110 4) (hs : XS T (tE T p) P1) (hf : FO j e P P1) (hu : FU (fr9 j) (sz K k) (fun v => b1 (inR K (cNm K (tV T p)) v)) P P1) : AC T K k j e p 1 P P1 := by
  have h1 := tE_b (T := T) (p := p)
  have hc := cas_s T K k p
  exact Or.inl ⟨rfl, h3, h4, hf, tE T p, [(2, cNm K (tV T p), 0)], _, by omega, hs, SC.con, hu, fun s x hx => Runs.case0 ho hk h0 h6 hx⟩
theorem AC.intoF (ho : tO T p ≠ 8) (hk : k ≠ -1) (h0 : (cas T K k p).1 = 0) (h6 : K 6 (cNm K (tV T p)) ≠ 0) (hn : (sgn T 40 (tE T p)).1 ≠ 0) (h3 : P1 110 3 = (sgn T 40 (tE T p)).1) (h4 : P1 110 4 = (sgn T 40 (tE T p)).2) : AC T K k j e p 0 P P1 := by
  refine Or.inr ⟨rfl, by omega, fun s => ?_⟩
  rw [pair_eq h3 h4]
  exact Runs.intoF ho hk h0 h6 hn
/-- a con's fields so far: f the last, whose pattern is whole but for what ends it -/
def HC (T : TT) (K : PH) (k c f k1 q p : Int) : Prop := ∃ (a : Int) (L : List OP), ∀ (s : SK) (x : XR), Runs T K 1 ((c, f, k, s.2.1) :: s.1, a, L ++ s.2.2) k1 q x → Runs T K 0 s k p x
/-- a field's fault -/
theorem AC.inF {k1 q1 : Int} {s9 : SK → SK} (hr : ∀ (s : SK) (x : XR), Runs T K 0 ((s9 s).1, 0, (s9 s).2.2) k1 q1 x → Runs T K 0 s k p x) (h0 : P1 110 3 ≠ 0) (h : ∀ s : SK, Runs T K 0 (s.1, 0, s.2.2) k1 q1 (P1 110 3, P1 110 4, [])) : AC T K k j e p 0 P P1 := Or.inr ⟨rfl, h0, fun s => hr s _ (h _)⟩
theorem AC.commaF {k1 a : Int} {L : List OP} (hC : ∀ (s : SK) (x : XR), Runs T K 1 ((c, f, k, s.2.1) :: s.1, a, L ++ s.2.2) k1 q x → Runs T K 0 s k p x) (ho : tO T q ≠ 9) (hf : f + 1 < K 6 c) (hn : (sgn T 44 q).1 ≠ 0) (h3 : P1 110 3 = (sgn T 44 q).1) (h4 : P1 110 4 = (sgn T 44 q).2) : AC T K k j e p 0 P P1 := by
  refine Or.inr ⟨rfl, by omega, fun s => ?_⟩
  rw [pair_eq h3 h4]
  exact hC s _ (Runs.commaF rfl ho hf hn)
theorem orE_app {a : Int} {L E : List OP} : orE a (L ++ E) = orE a L ++ E := by
  unfold orE
  by_cases h : 0 < a
  · rw [if_pos h, if_pos h]; rfl
  · rw [if_neg h, if_neg h]
theorem AC.close {k1 a : Int} {L : List OP} {d : Int → Int} (hC : ∀ (s : SK) (x : XR), Runs T K 1 ((c, f, k, s.2.1) :: s.1, a, L ++ s.2.2) k1 q x → Runs T K 0 s k p x) (hp : p ≤ q) (ho : tO T q ≠ 9) (hf : ¬ f + 1 < K 6 c) (h : (r = 1 ∧ (sgn T 41 q).1 = 0 ∧ P1 110 3 = P 110 3 ∧ P1 110 4 = P 110 4) ∨ (r = 0 ∧ (sgn T 41 q).1 ≠ 0 ∧ P1 110 3 = (sgn T 41 q).1 ∧ P1 110 4 = (sgn T 41 q).2)) (hs : (sgn T 41 q).1 = 0 → XS T (sgn T 41 q).2 P1) (hfo : FO j e P P1) (hd : SC K ((5, 0, 0) :: (4, 0, 0) :: orE a L) d) (hu : FU (fr9 j) (sz K k) d P P1) : AC T K k j e p r P P1 := by
  have hg := sgn_s T 41 q
  have ht := tE_b (T := T) (p := q)
  rcases h with ⟨h1, h2, h3, h4⟩ | ⟨h1, h2, h3, h4⟩
  · refine Or.inl ⟨h1, h3, h4, hfo, (sgn T 41 q).2, _, d, by omega, hs h2, hd, hu, fun s x hx => ?_⟩
    rw [show (sgn T 41 q).2 = tE T q by omega] at hx
    refine hC s x (Runs.close rfl ho hf h2 ?_)
    have e : poS ((c, f, k, s.2.1) :: s.1, a, L ++ s.2.2) s.2.1 s.1 = adL s ((5, 0, 0) :: (4, 0, 0) :: orE a L) := by
      show (s.1, s.2.1, (5, 0, 0) :: (4, 0, 0) :: orE a (L ++ s.2.2)) = (s.1, s.2.1, (5, 0, 0) :: (4, 0, 0) :: (orE a L ++ s.2.2))
      rw [orE_app]
    rw [e]
    exact hx
  · refine Or.inr ⟨h1, by omega, fun s => ?_⟩
    rw [pair_eq h3 h4]
    exact hC s _ (Runs.closeF rfl ho hf h2)
end ACS
/-- columns' kinds are kinds -/
def AV (K M : PH) : Prop := 0 ≤ M 0 0 ∧ M 0 0 ≤ 4 ∧ 0 ≤ M 0 2 ∧ M 0 2 ≤ 12 ∧ ∀ c : Int, 0 ≤ c → c < M 0 0 → -1 ≤ M 1 c ∧ M 1 c < K 0 0
theorem AV.zero : AV K0 M0 := ⟨by decide, by decide, by decide, by decide, fun c h0 h1 => by exfalso; have h1 : c < 0 := h1; omega⟩
theorem col_v {T : TT} {K : PH} (h : AW K) : ∀ (r : Nat) (M : PH) (i p : Int), M 0 0 + r = 4 → AV K M → AV K (col T K r M i p).2.2 := by
  intro r
  induction r with
  | zero =>
    intro M i p hr hv
    exact hv
  | succ r ih =>
    intro M i p hr hv
    by_cases e : kGo T K (-1) (M 0 0) 4 0 i 20000 p = 0
    · rw [col_go e]
      refine ih _ _ _ (by rw [mCol_0.1]; omega) ?_
      have hb := kHe_b (T := T) h p
      obtain ⟨v1, v2, v3, v4, v5⟩ := hv
      refine ⟨by rw [mCol_0.1]; omega, by rw [mCol_0.1]; omega, by rw [mCol_0.2.2.1]; exact v3, by rw [mCol_0.2.2.1]; exact v4, fun c c0 c1 => ?_⟩
      rw [mCol_0.1] at c1
      rw [mCol_1]
      by_cases z : c = M 0 0
      · rw [if_pos z]; exact hb
      · rw [if_neg z]; exact v5 c c0 (by omega)
    · by_cases e1 : kGo T K (-1) (M 0 0) 4 0 i 20000 p = 1
      · rw [col_end e1]; exact hv
      · rw [col_bad e1 e]; exact hv
theorem AV.st {T : TT} {K M : PH} {p : Int} (hw : AW K) (h : AV K M) (hs : (sSt T K M p).1 = 0) : AV (kSt T K p) (mSt T K M p) := by
  have hk : kSt T K p 0 0 = if tO T p = 0 then K 0 0 + 1 else K 0 0 := by
    unfold kSt
    by_cases h0 : tO T p = 0
    · rw [if_pos h0, if_pos h0, kNew_0.1]
    · rw [if_neg h0, if_neg h0]
      by_cases h1 : tO T p = 1
      · rw [if_pos h1]; unfold kCo; rw [cNew_0.1]
      · rw [if_neg h1]
  obtain ⟨v1, v2, v3, v4, v5⟩ := h
  have hkw := hw.1
  unfold sSt at hs
  unfold mSt
  by_cases h2 : tO T p = 2
  · rw [if_pos h2]
    rw [if_neg (by omega), if_neg (by omega), if_pos h2] at hs
    have hm := sMa_s T K M p
    have hs : (sMa T K M p).1 = 0 := hs
    have e := sMa_M (T := T) (K := K) (M := M) (p := p) (by omega) (by omega)
    have hc := col_v (T := T) hw 4 M 1 (tE T p) (by omega) ⟨v1, v2, v3, v4, v5⟩
    rw [← e] at hc
    obtain ⟨w1, w2, w3, w4, w5⟩ := hc
    refine ⟨w1, w2, w3, w4, fun c c0 c1 => ?_⟩
    rw [hk, if_neg (by omega)]
    exact w5 c c0 c1
  · rw [if_neg h2]
    have key : ∀ c : Int, 0 ≤ c → c < M 0 0 → -1 ≤ M 1 c ∧ M 1 c < kSt T K p 0 0 := by
      intro c c0 c1
      have := v5 c c0 c1
      rw [hk]
      split <;> omega
    by_cases h3 : tO T p = 3
    · rw [if_pos h3]
      rw [if_neg (by omega), if_neg (by omega), if_neg (by omega), if_pos h3] at hs
      have ha := sAr_s T K M p
      unfold mAr
      refine ⟨by rw [aNew_0.1]; exact v1, by rw [aNew_0.1]; exact v2, by rw [aNew_0.2.1]; omega, by rw [aNew_0.2.1]; omega, fun c c0 c1 => ?_⟩
      rw [aNew_0.1] at c1
      rw [aNew_1]
      exact key c c0 c1
    · rw [if_neg h3]
      by_cases h5 : tO T p = 5
      · rw [if_pos h5]
        refine ⟨by rw [up_k (by decide)]; exact v1, by rw [up_k (by decide)]; exact v2, by rw [up_k (by decide)]; exact v3, by rw [up_k (by decide)]; exact v4, fun c c0 c1 => ?_⟩
        rw [up_k (by decide)] at c1
        rw [up_row (by decide)]
        exact key c c0 c1
      · rw [if_neg h5]
        by_cases h6 : tO T p = 6
        · rw [if_pos h6]
          refine ⟨by rw [up_k (by decide)]; exact v1, by rw [up_k (by decide)]; exact v2, by rw [up_k (by decide)]; exact v3, by rw [up_k (by decide)]; exact v4, fun c c0 c1 => ?_⟩
          rw [up_k (by decide)] at c1
          rw [up_row (by decide)]
          exact key c c0 c1
        · rw [if_neg h6]
          exact ⟨v1, v2, v3, v4, key⟩
theorem arl_x {T : TT} {K M : PH} {r : Nat} {c q q1 : Int} (hq : (c ≤ 0 ∧ q1 = q) ∨ (0 < c ∧ (sgn T 44 q).1 = 0 ∧ q1 = tE T q)) : arl T K M (r + 1) c q = if (pat T K (M 1 c) q1).1 ≠ 0 then pat T K (M 1 c) q1 else arl T K M r (c + 1) (pat T K (M 1 c) q1).2 := by
  rcases hq with ⟨h, rfl⟩ | ⟨h, h2, rfl⟩
  · exact arl_p0 h
  · exact arl_p1 h h2
theorem ARf {T : TT} {K M : PH} {r : Nat} {c q q1 f pl : Int} {X : Int × Int} (hX : X = arl T K M (r + 1) c q) (hq : (c ≤ 0 ∧ q1 = q) ∨ (0 < c ∧ (sgn T 44 q).1 = 0 ∧ q1 = tE T q)) (hp : pat T K (M 1 c) q1 = (f, pl)) (hf : f ≠ 0) : X.1 = f ∧ X.2 = pl := by
  rw [hX, arl_x hq, hp, if_pos hf]
  exact ⟨rfl, rfl⟩
theorem ARok {T : TT} {K M : PH} {r : Nat} {c q q1 q2 : Int} {X : Int × Int} (hX : X = arl T K M (r + 1) c q) (hq : (c ≤ 0 ∧ q1 = q) ∨ (0 < c ∧ (sgn T 44 q).1 = 0 ∧ q1 = tE T q)) (hp : pat T K (M 1 c) q1 = (0, q2)) : X = arl T K M r (c + 1) q2 := by
  rw [hX, arl_x hq, hp, if_neg (fun h => h rfl)]
end
section
/-! The tape on both sides: bytes behind one another. -/
def tadd (T : TT) (c : Int) : TT := (fun i => if i = T.2 then c else T.1 i, T.2 + 1)
def tput (T : TT) (a : Int) : Nat → TT
  | 0 => T
  | k + 1 => tadd (tput T a k) (iand (ishr a (24 - 8 * (k : Int))) 255)
def tfive (T : TT) (a b c d e : Int) : TT := tput (tput (tput (tput (tput T a 4) b 4) c 4) d 4) e 4
theorem tadd_2 (T : TT) (c : Int) : (tadd T c).2 = T.2 + 1 := rfl
theorem tput_2 (T : TT) (a : Int) : ∀ k : Nat, (tput T a k).2 = T.2 + k := by
  intro k
  induction k with
  | zero => show T.2 = T.2 + 0; omega
  | succ k ih =>
    show (tput T a k).2 + 1 = T.2 + ((k + 1 : Nat) : Int)
    rw [ih]
    omega
/-- the reference's tape -/
def CM (T : TT) (P : PH) : Prop := P 0 1 = T.2 ∧ ∀ i : Int, 0 ≤ i → i < T.2 → P 1 i = T.1 i
theorem CM.fr {T : TT} {P P1 : PH} {F : FS} (h : CM T P) (hf : FrM F P P1) (hd : disF F ([1], [1]) = true) : CM T P1 := by
  unfold CM at h ⊢
  rw [disF_k hd hf (k := 1) (by decide), disF_o hd hf (o := 1) (by decide) rfl]
  exact h
theorem CM.add {T : TT} {P P1 : PH} {c : Int} (h : CM T P) (h1 : P1 0 1 = P 0 1 + 1) (s1 : P1 1 (P 0 1) = c) (q1 : ∀ j : Int, j ≠ P 0 1 → P1 1 j = P 1 j) : CM (tadd T c) P1 := by
  refine ⟨by rw [tadd_2, h1, h.1], fun i i0 i1 => ?_⟩
  rw [tadd_2] at i1
  show _ = if i = T.2 then c else T.1 i
  by_cases e : i = T.2
  · rw [if_pos e, e, ← h.1, s1]
  · rw [if_neg e, q1 i (by rw [h.1]; exact e)]
    exact h.2 i i0 (by omega)
theorem CM.cut {T : TT} {P P1 : PH} {n : Int} (h : CM T P) (hn : n ≤ T.2) (h1 : P1 0 1 = n) (q1 : ∀ j : Int, P1 1 j = P 1 j) : CM (T.1, n) P1 := ⟨h1, fun i i0 i1 => by rw [q1]; exact h.2 i i0 (by have i1 : i < n := i1; omega)⟩
theorem CM.nil {P : PH} (h : P 0 1 = 0) : CM (fun _ => 0, 0) P := ⟨h, fun i i0 i1 => by exfalso; have i1 : i < 0 := i1; omega⟩
/-- the class's tape -/
def CX (T : TT) (P : PH) : Prop := P 1 1 = T.2 ∧ ∀ i : Int, 0 ≤ i → i < T.2 → P 2 i = T.1 i
theorem CX.fr {T : TT} {P P1 : PH} {F : FSX} (h : CX T P) (hf : FrX F P P1) (hd : disX F ([(1, 1)], [2]) = true) : CX T P1 := by
  refine ⟨by rw [disX_f hd hf (o := 1) (k := 1) (j := 1) ⟨by decide, rfl⟩ (by decide)]; exact h.1, fun i i0 i1 => ?_⟩
  rw [disX_a hd hf (o := 2) (k := 2) ⟨by decide, rfl⟩ (by decide)]
  exact h.2 i i0 i1
theorem CX.add {T : TT} {P P1 : PH} {c : Int} (h : CX T P) (h1 : P1 1 1 = P 1 1 + 1) (s1 : P1 2 (P 1 1) = c) (q1 : ∀ j : Int, j ≠ P 1 1 → P1 2 j = P 2 j) : CX (tadd T c) P1 := by
  refine ⟨by rw [tadd_2, h1, h.1], fun i i0 i1 => ?_⟩
  rw [tadd_2] at i1
  show _ = if i = T.2 then c else T.1 i
  by_cases e : i = T.2
  · rw [if_pos e, e, ← h.1, s1]
  · rw [if_neg e, q1 i (by rw [h.1]; exact e)]
    exact h.2 i i0 (by omega)
theorem CX.cut {T : TT} {P P1 : PH} {n : Int} (h : CX T P) (hn : n ≤ T.2) (h1 : P1 1 1 = n) (q1 : ∀ j : Int, P1 2 j = P 2 j) : CX (T.1, n) P1 := ⟨h1, fun i i0 i1 => by rw [q1]; exact h.2 i i0 (by have i1 : i < n := i1; omega)⟩
theorem CX.nil {P : PH} (h : P 1 1 = 0) : CX (fun _ => 0, 0) P := ⟨h, fun i i0 i1 => by exfalso; have i1 : i < 0 := i1; omega⟩
theorem ishr_0 {x : Int} (h : IR x) : ishr x 0 = x := by
  have := ishr_c 0 (by decide) h
  rw [show ((0 : Nat) : Int) = 0 from rfl, show ((2 ^ 0 : Nat) : Int) = 1 from rfl, Int.ediv_one] at this
  exact this
/-- four bytes, one behind the other -/
theorem tput_4 {T : TT} {a : Int} (h : IR a) : tput T a 4 = tadd (tadd (tadd (tadd T (iand (ishr a 24) 255)) (iand (ishr a 16) 255)) (iand (ishr a 8) 255)) (iand a 255) := by
  have e : tput T a 4 = tadd (tadd (tadd (tadd T (iand (ishr a 24) 255)) (iand (ishr a 16) 255)) (iand (ishr a 8) 255)) (iand (ishr a 0) 255) := rfl
  rw [e, ishr_0 h]
def ff (T : TT) (a b c d e : Int) : TT := if 1580 < T.2 then T else tfive T a b c d e
def fe (T : TT) (n : Int) : TT := if 0 ≤ n ∧ n ≤ T.2 then (T.1, n) else T
end
section
/-! The reference's token ahead: what its loop holds, as words of one piece. -/
def RX (m : Int) (T : TT) (a : Int) : Int := if m = 6 then rE bL T a else rE bN T a
def CC (m c : Int) : Prop := (m = 6 → 97 ≤ c ∧ c ≤ 122) ∧ (m = 4 → 48 ≤ c ∧ c ≤ 57)
theorem RX_ge (m : Int) (T : TT) (a : Int) : a ≤ RX m T a := by
  unfold RX
  split
  · exact rE_ge bL T a
  · exact rE_ge bN T a
theorem RX_go {m : Int} {T : TT} {l : Int} (hm : m = 6 ∨ m = 4) (hl : l < T.2) (hc : CC m (T.1 l)) : RX m T l = RX m T (l + 1) := by
  unfold RX
  rcases hm with e | e
  · rw [if_pos e, if_pos e]; exact rE_go hl (bL_t.mpr (hc.1 e))
  · rw [if_neg (by omega), if_neg (by omega)]; exact rE_go hl (bN_t.mpr (hc.2 e))
theorem RX_st {m : Int} {T : TT} {l : Int} (h : T.2 ≤ l ∨ (m = 6 ∧ (T.1 l < 97 ∨ 122 < T.1 l)) ∨ (m = 4 ∧ (T.1 l < 48 ∨ 57 < T.1 l))) : RX m T l = l := by
  unfold RX
  split
  · refine rE_st (fun z => ?_)
    have := bL_t.mp z.2
    omega
  · refine rE_st (fun z => ?_)
    have := bN_t.mp z.2
    omega
/-- the run so far: it ends where the whole ends -/
def RN (m : Int) (T : TT) (a l : Int) : Prop := RX m T a = RX m T l ∧ l ≤ RX m T a
theorem RN.start {m : Int} {T : TT} {a l : Int} (h : l = a) : RN m T a l := by
  subst h
  exact ⟨rfl, RX_ge _ _ _⟩
theorem RN.go {m : Int} {T : TT} {a l : Int} (h : RN m T a l) (hm : m = 6 ∨ m = 4) (hl : l < T.2) (hc : CC m (T.1 l)) : RN m T a (l + 1) := by
  have e := RX_go hm hl hc
  have g := RX_ge m T (l + 1)
  have h1 := h.1
  exact ⟨by omega, by omega⟩
theorem RN.stop {m : Int} {T : TT} {a l : Int} (h : RN m T a l) (hs : T.2 ≤ l ∨ (m = 6 ∧ (T.1 l < 97 ∨ 122 < T.1 l)) ∨ (m = 4 ∧ (T.1 l < 48 ∨ 57 < T.1 l))) : RX m T a = l := h.1.trans (RX_st hs)
theorem RN.l {T : TT} {a l : Int} (h : RN 6 T a l) (hb : a ≤ l) : ∀ i : Nat, a + i < l → 1 ≤ tL T a i ∧ tL T a i ≤ 26 := run_l (T := T) (a := a) (b := l) h.1 hb h.2
theorem RN.d {T : TT} {a l : Int} (h : RN 4 T a l) (hb : a ≤ l) : ∀ i : Nat, a + i < l → 48 ≤ T.1 (a + i) ∧ T.1 (a + i) ≤ 57 := run_d (T := T) (a := a) (b := l) hb h.2
/-- word and value of the run so far -/
def WV (m w v : Int) (T : TT) (a n : Int) : Prop := (m = 6 → n ≤ 6 → w = e56 (tL T a) n.toNat) ∧ (m = 4 → n ≤ 4 → v = e10 (tD T a) n.toNat)
theorem WV.start {m : Int} {T : TT} {a : Int} : WV m 0 0 T a 0 := ⟨fun _ _ => rfl, fun _ _ => rfl⟩
theorem WV.w {w v : Int} {T : TT} {a n l c x : Int} (h : WV 6 w v T a n) (hr : RN 6 T a l) (hn : 0 ≤ n ∧ n ≤ 5) (hl : l = a + n) (hc : c = T.1 l) (hcc : 97 ≤ T.1 l ∧ T.1 l ≤ 122) (hx : x = llor (llshl w 8) c) : WV 6 x v T a (n + 1) := by
  refine ⟨fun _ _ => ?_, fun e => absurd e (by decide)⟩
  rw [hx, show (n + 1).toNat = n.toNat + 1 by omega]
  exact e56_one (h.1 rfl (by omega)) (by omega) (fun i hi => hr.l (by omega) i (by omega)) (by rw [show a + ((n.toNat : Nat) : Int) = l by omega]; exact hc) (by omega)
theorem WV.vb {w v : Int} {T : TT} {a n l : Int} (h : WV 4 w v T a n) (hr : RN 4 T a l) (hn : 0 ≤ n ∧ n ≤ 3) (hl : l = a + n) : 0 ≤ v ∧ v ≤ 999 := by
  have q := e10_b (T := T) (a := a) n.toNat (by omega) (fun i hi => hr.d (by omega) i (by omega))
  have e := h.2 rfl (by omega)
  omega
theorem WV.v {w v : Int} {T : TT} {a n l c x : Int} (h : WV 4 w v T a n) (hn : 0 ≤ n ∧ n ≤ 3) (hl : l = a + n) (hc : c = T.1 l) (hx : x = v * 10 + (c - 48)) : WV 4 w x T a (n + 1) := by
  refine ⟨fun e => absurd e (by decide), fun _ _ => ?_⟩
  have e := h.2 rfl (by omega)
  rw [hx, show (n + 1).toNat = n.toNat + 1 by omega]
  show _ = e10 (tD T a) n.toNat * 10 + (T.1 (a + ((n.toNat : Nat) : Int)) - 48)
  rw [show a + ((n.toNat : Nat) : Int) = l by omega, ← hc, ← e]
theorem WV.big {m w1 v1 : Int} {T : TT} {a n : Int} (hm : m = 6 ∨ m = 4) (hn : m ≤ n) : WV m w1 v1 T a (n + 1) := ⟨fun e h => by omega, fun e h => by omega⟩
/-- word done, value not yet -/
def W2 (m w v : Int) (T : TT) (a n : Int) : Prop := (m = 6 → WV 6 w v T a (n + 1)) ∧ (m = 4 → WV 4 w v T a n)
theorem W2.six {w v : Int} {T : TT} {a n : Int} (h : WV 6 w v T a (n + 1)) : W2 6 w v T a n := ⟨fun _ => h, fun e => absurd e (by decide)⟩
theorem W2.four {w v : Int} {T : TT} {a n : Int} (h : WV 4 w v T a n) : W2 4 w v T a n := ⟨fun e => absurd e (by decide), fun _ => h⟩
/-- where a fault of the token itself is, n bytes of it read -/
def lx (T : TT) (p n m : Int) : Int := if tJn T p = 1 then tA T p else if n ≤ m then -1 else tA T p + m
theorem lx_hit {T : TT} {p n m : Int} (h : lx T p n m = -1) (hn : n = m) (h0 : 0 ≤ tA T p) : lx T p (n + 1) m = tA T p + m := by
  unfold lx at h ⊢
  by_cases j : tJn T p = 1
  · rw [if_pos j] at h; omega
  · rw [if_neg j, if_neg (by omega)]
theorem lx_no {T : TT} {p n m : Int} (h : n ≠ m ∨ lx T p n m ≠ -1) : lx T p (n + 1) m = lx T p n m := by
  unfold lx at h ⊢
  by_cases j : tJn T p = 1
  · rw [if_pos j, if_pos j]
  · rw [if_neg j] at h
    rw [if_neg j, if_neg j]
    by_cases e : n + 1 ≤ m
    · rw [if_pos e, if_pos (by omega)]
    · rw [if_neg e]
      by_cases e2 : n ≤ m
      · rw [if_pos e2] at h
        omega
      · rw [if_neg e2]
/-- the same ahead of the loop -/
def L0 (T : TT) (p l2 l3 x : Int) : Prop := (l2 = 0 ∧ l3 = 0 → x = -1) ∧ (l2 ≠ 0 ∨ l3 ≠ 0 → ∀ m : Int, 0 ≤ m → x = lx T p 0 m)
theorem L0.sign {T : TT} {p l2 l3 x : Int} (h : l2 = 0 ∧ l3 = 0) (hx : x = -1) : L0 T p l2 l3 x := ⟨fun _ => hx, fun z => by omega⟩
theorem L0.j {T : TT} {p l2 l3 x : Int} (h : l2 ≠ 0 ∨ l3 ≠ 0) (hj : tJ T p = true) (hx : x = tA T p) : L0 T p l2 l3 x := ⟨fun z => by omega, fun _ m _ => by unfold lx; rw [if_pos (tJn_1 hj)]; exact hx⟩
theorem L0.n {T : TT} {p l2 l3 x : Int} (h : l2 ≠ 0 ∨ l3 ≠ 0) (hj : tJ T p = false) (hx : x = -1) : L0 T p l2 l3 x := ⟨fun z => by omega, fun _ m hm => by unfold lx; rw [if_neg (by rw [tJn_0 hj]; decide), if_pos hm]; exact hx⟩
theorem lx_s (T : TT) (p n m : Int) : (tJn T p = 1 ∧ lx T p n m = tA T p) ∨ (tJn T p = 0 ∧ ((n ≤ m ∧ lx T p n m = -1) ∨ (m < n ∧ lx T p n m = tA T p + m))) := by
  unfold lx
  rcases (show tJn T p = 1 ∨ tJn T p = 0 by unfold tJn; split; exact Or.inl rfl; exact Or.inr rfl) with j | j
  · rw [if_pos j]; exact Or.inl ⟨j, rfl⟩
  · rw [if_neg (by omega)]
    by_cases e : n ≤ m
    · rw [if_pos e]; exact Or.inr ⟨j, Or.inl ⟨e, rfl⟩⟩
    · rw [if_neg e]; exact Or.inr ⟨j, Or.inr ⟨by omega, rfl⟩⟩
theorem MS.wor2 {T : TT} {p n l : Int} {P : PH} (hp : 0 ≤ p ∧ p ≤ T.2) (h4 : P 0 4 = tA T p) (hn : tA T p < T.2) (hl : 97 ≤ T.1 (tA T p) ∧ T.1 (tA T p) ≤ 122) (h3 : P 0 3 = 1) (h5 : P 0 5 = l) (hr : RX 6 T (tA T p) = l) (hln : l = tA T p + n) (hx : P 0 12 = lx T p n 6) (hw : WV 6 (P 0 7) (P 0 6) T (tA T p) n) : MS T p P := by
  have e : rE bL T (tA T p) = l := by rw [← hr]; unfold RX; rw [if_pos rfl]
  have hs := lx_s T p n 6
  refine MS.wor hp h4 hn hl h3 (by omega) (by omega) (fun h => ?_)
  rw [hw.1 rfl (by omega), show (rE bL T (tA T p) - tA T p).toNat = n.toNat by omega]
theorem MS.nu2 {T : TT} {p n l : Int} {P : PH} (hp : 0 ≤ p ∧ p ≤ T.2) (h4 : P 0 4 = tA T p) (hn : tA T p < T.2) (hl : 48 ≤ T.1 (tA T p) ∧ T.1 (tA T p) ≤ 57) (h3 : P 0 3 = 2) (h5 : P 0 5 = l) (hr : RX 4 T (tA T p) = l) (hln : l = tA T p + n) (hx : P 0 12 = lx T p n 4) (hw : WV 4 (P 0 7) (P 0 6) T (tA T p) n) : MS T p P := by
  have e : rE bN T (tA T p) = l := by rw [← hr]; unfold RX; rw [if_neg (by decide)]
  have hs := lx_s T p n 4
  refine MS.nu hp h4 hn hl h3 (by omega) (by omega) (fun h => ?_)
  rw [hw.2 rfl (by omega), show (rE bN T (tA T p) - tA T p).toNat = n.toNat by omega]
theorem RX_pos {m : Int} {T : TT} {a : Int} (hm : m = 6 ∨ m = 4) (hl : a < T.2) (hc : CC m (T.1 a)) : a + 1 ≤ RX m T a := by
  rw [RX_go hm hl hc]
  exact RX_ge m T (a + 1)
end
