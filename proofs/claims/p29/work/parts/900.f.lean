/-! Codes: the reference's steps that leave the stack, what codes name, the arms' codes in their bank. -/
theorem STK.un {f k : Int} {s : SK} {P P1 : PH} (h : STK f s k P) (q43 : P1 0 43 = P 0 43) (q36 : P1 0 36 = P 0 36) (q37 : P1 0 37 = P 0 37) (q19 : ∀ j, P1 19 j = P 19 j) (q20 : ∀ j, P1 20 j = P 20 j) (q21 : ∀ j, P1 21 j = P 21 j) (q24 : ∀ j, P1 24 j = P 24 j) (q25 : ∀ j, P1 25 j = P 25 j) (q26 : ∀ j : Int, j ≠ P 0 43 → P1 26 j = P 26 j) (q27 : ∀ j : Int, j ≠ P 0 43 → P1 27 j = P 27 j) : STK f s k P1 := by
  obtain ⟨⟨h1, h2⟩, h3, h4, h5, h6, h7⟩ := h
  unfold STK
  rw [q43, q36, q37, q24, q25]
  exact ⟨⟨h1, h2⟩, h3, h4.eq _ (fun j _ j2 => ⟨q24 j, q25 j, q26 j (by omega), q27 j (by omega)⟩), h5, h6, h7.eq _ _ (fun j _ _ => ⟨q19 _, q20 _, q21 _⟩)⟩
theorem STK.or1 {f k : Int} {s : SK} {P P1 : PH} (h : STK f s k P) (h0 : 0 < P 25 (P 0 43)) (h1 : STK f (em s (6, 0, 0)) k P1) : STK f (s.1, s.2.1, orE s.2.1 s.2.2) k P1 := by
  rcases h.2.1 with q | q
  · omega
  · unfold orE
    rw [if_pos (by omega)]
    exact h1
theorem STK.or0 {f k : Int} {s : SK} {P P1 : PH} (h : STK f s k P) (h0 : P 25 (P 0 43) ≤ 0) (h1 : STK f s k P1) : STK f (s.1, s.2.1, orE s.2.1 s.2.2) k P1 := by
  rcases h.2.1 with q | q
  · unfold orE
    rw [if_neg (by omega)]
    exact h1
  · omega
theorem STK.cde {f k : Int} {s : SK} {P P1 : PH} (h : STK f s k P) (q36 : P1 0 36 = P 0 36) (q37 : P1 0 37 = P 0 37) (q19 : ∀ j, P1 19 j = P 19 j) (q20 : ∀ j, P1 20 j = P 20 j) (q21 : ∀ j, P1 21 j = P 21 j) : CDe f s.2.2 P1 := by
  obtain ⟨⟨h1, h2⟩, h3, h4, h5, h6, h7⟩ := h
  unfold CDe
  rw [q36, q37]
  exact ⟨h5, h6, h7.eq _ _ (fun j _ _ => ⟨q19 _, q20 _, q21 _⟩)⟩
theorem CDe.fr {f : Int} {E : List OP} {P P1 : PH} {F : FS} (h : CDe f E P) (hf : FrM F P P1) (hd : disF F ([36, 37], [19, 20, 21]) = true) : CDe f E P1 := by
  obtain ⟨h1, h2, h3⟩ := h
  unfold CDe
  rw [disF_k hd hf (k := 36) (by decide), disF_k hd hf (k := 37) (by decide)]
  refine ⟨h1, h2, h3.eq _ _ (fun j _ _ => ?_)⟩
  rw [disF_o hd hf (o := 19) (by decide) rfl, disF_o hd hf (o := 20) (by decide) rfl, disF_o hd hf (o := 21) (by decide) rfl]
  exact ⟨rfl, rfl, rfl⟩
/-! what codes name -/
def OPw (K : PH) (E : List OP) : Prop := ∀ x, x ∈ E → (x.1 = 2 ∨ x.1 = 3) → 0 ≤ x.2.1 ∧ x.2.1 < K 0 1
theorem OPw.nil {K : PH} : OPw K [] := fun x h => absurd h (by simp)
theorem OPw.cons {K : PH} {E : List OP} {x : OP} (h : OPw K E) (hx : (x.1 = 2 ∨ x.1 = 3) → 0 ≤ x.2.1 ∧ x.2.1 < K 0 1) : OPw K (x :: E) := by
  intro y hy
  rcases List.mem_cons.mp hy with e | e
  · rw [e]; exact hx
  · exact h y e
theorem OPw.no {K : PH} {E : List OP} {x : OP} (h : OPw K E) (hx : x.1 ≠ 2 ∧ x.1 ≠ 3) : OPw K (x :: E) := h.cons (fun q => absurd q (by omega))
theorem OPw.orW {K : PH} {a : Int} {E : List OP} (h : OPw K E) : OPw K (orE a E) := by
  unfold orE
  by_cases q : 0 < a
  · rw [if_pos q]; exact h.no ⟨by show (6 : Int) ≠ 2; decide, by show (6 : Int) ≠ 3; decide⟩
  · rw [if_neg q]; exact h
def SKw (K : PH) (s : SK) : Prop := (∀ x, x ∈ s.1 → 0 ≤ x.1 ∧ x.1 < K 0 1) ∧ OPw K s.2.2
/-- codes that end in a truth -/
def hok (E : List OP) : Prop := ∃ y E1, E = y :: E1 ∧ y.1 ≠ 3 ∧ y.1 ≠ 4
theorem hok.mk {x : OP} {E : List OP} (h3 : x.1 ≠ 3) (h4 : x.1 ≠ 4) : hok (x :: E) := ⟨x, E, rfl, h3, h4⟩
theorem hok.or {a : Int} {E : List OP} (h : hok E) : hok (orE a E) := by
  unfold orE
  by_cases q : 0 < a
  · rw [if_pos q]; exact hok.mk (by show (6 : Int) ≠ 3; decide) (by show (6 : Int) ≠ 4; decide)
  · rw [if_neg q]; exact h
theorem emw {K : PH} {s : SK} {x : OP} (h : SKw K s) (h2 : x.1 ≠ 2) (h3 : x.1 ≠ 3) : SKw K (em s x) := ⟨h.1, h.2.no ⟨h2, h3⟩⟩
theorem prun_w {T : TT} {K : PH} (hw : AW K) : ∀ (n : Nat) (m : Int) (s : SK) (k p : Int) (x : XR), SKw K s → (m ≠ 0 → hok s.2.2) → prun T K n m s k p = some x → OPw K x.2.2 ∧ (x.1 = 0 → hok x.2.2) := by
  intro n
  induction n with
  | zero => intro m s k p x _ _ h; cases h
  | succ n ih =>
    intro m s k p x hs hm h
    have fxw : ∀ y : Int × Int, y.1 ≠ 0 → some (fx y) = some x → OPw K x.2.2 ∧ (x.1 = 0 → hok x.2.2) := fun y y0 e => by
      rw [← Option.some.inj e]; exact ⟨OPw.nil, fun z => absurd z y0⟩
    have m0 : ∀ E : List OP, (0 : Int) ≠ 0 → hok E := fun E q => absurd rfl q
    have alw : SKw K (alE s) := ⟨hs.1, hs.2.orW⟩
    have cb := cNm_b hw (tV T p)
    have cs := cas_s T K k p
    rw [prun_eq] at h
    by_cases h1 : m = 0
    · rw [if_pos h1] at h
      by_cases h2 : tO T p = 8
      · rw [if_pos h2] at h
        exact ih _ (em s (0, 0, 0)) _ _ _ (emw hs (by show (0 : Int) ≠ 2; decide) (by show (0 : Int) ≠ 3; decide)) (fun _ => hok.mk (x := (0, 0, 0)) (by show (0 : Int) ≠ 3; decide) (by show (0 : Int) ≠ 4; decide)) h
      · rw [if_neg h2] at h
        by_cases h3 : k = -1
        · rw [if_pos h3] at h
          by_cases h4 : (rng T p).1 = 0
          · rw [if_pos h4] at h
            exact ih _ (em s (1, tV T p, hiV T p)) _ _ _ (emw hs (by show (1 : Int) ≠ 2; decide) (by show (1 : Int) ≠ 3; decide)) (fun _ => hok.mk (x := (1, tV T p, hiV T p)) (by show (1 : Int) ≠ 3; decide) (by show (1 : Int) ≠ 4; decide)) h
          · rw [if_neg h4] at h; exact fxw _ h4 h
        · rw [if_neg h3] at h
          by_cases h4 : (cas T K k p).1 = 0
          · rw [if_pos h4] at h
            have c0 : 0 ≤ cNm K (tV T p) ∧ cNm K (tV T p) < K 0 1 := by omega
            have ew : SKw K (em s (2, cNm K (tV T p), 0)) := ⟨hs.1, hs.2.cons (fun _ => c0)⟩
            by_cases h5 : K 6 (cNm K (tV T p)) = 0
            · rw [if_pos h5] at h
              exact ih _ _ _ _ _ ew (fun _ => hok.mk (x := (2, cNm K (tV T p), 0)) (by show (2 : Int) ≠ 3; decide) (by show (2 : Int) ≠ 4; decide)) h
            · rw [if_neg h5] at h
              by_cases h6 : (sgn T 40 (tE T p)).1 = 0
              · rw [if_pos h6] at h
                refine ih _ _ _ _ _ ⟨fun y hy => ?_, ew.2.cons (fun _ => c0)⟩ (m0 _) h
                rcases List.mem_cons.mp hy with e | e
                · rw [e]; exact c0
                · exact hs.1 y e
              · rw [if_neg h6] at h; exact fxw _ h6 h
          · rw [if_neg h4] at h; exact fxw _ h4 h
    · rw [if_neg h1] at h
      by_cases h2 : tO T p = 9
      · rw [if_pos h2] at h; exact ih _ _ _ _ _ alw (m0 _) h
      · rw [if_neg h2] at h
        obtain ⟨s0, sa, se⟩ := s
        cases s0 with
        | nil =>
          have h : some ((0 : Int), p, (alE ([], sa, se)).2.2) = some x := h
          rw [← Option.some.inj h]
          exact ⟨alw.2, fun _ => (hm h1).or⟩
        | cons c s1 =>
          obtain ⟨c, f, k1, a1⟩ := c
          have c0 : 0 ≤ c ∧ c < K 0 1 := hs.1 (c, f, k1, a1) (List.mem_cons_self ..)
          have s1w : ∀ y, y ∈ s1 → 0 ≤ y.1 ∧ y.1 < K 0 1 := fun y hy => hs.1 y (List.mem_cons_of_mem _ hy)
          have pw : SKw K (poS ((c, f, k1, a1) :: s1, sa, se) a1 s1) := ⟨s1w, (alw.2.no ⟨by show (4 : Int) ≠ 2; decide, by show (4 : Int) ≠ 3; decide⟩).no ⟨by show (5 : Int) ≠ 2; decide, by show (5 : Int) ≠ 3; decide⟩⟩
          have h : (if f + 1 < K 6 c then (if (sgn T 44 p).1 = 0 then prun T K n 0 (fbS (poS ((c, f, k1, a1) :: s1, sa, se) a1 s1) c (f + 1) k1) (K 8 c) (tE T p) else some (fx (sgn T 44 p))) else if (sgn T 41 p).1 = 0 then prun T K n 1 (poS ((c, f, k1, a1) :: s1, sa, se) a1 s1) k1 (tE T p) else some (fx (sgn T 41 p))) = some x := h
          by_cases h3 : f + 1 < K 6 c
          · rw [if_pos h3] at h
            by_cases h4 : (sgn T 44 p).1 = 0
            · rw [if_pos h4] at h
              refine ih _ _ _ _ _ ⟨fun y hy => ?_, pw.2.cons (fun _ => c0)⟩ (m0 _) h
              rcases List.mem_cons.mp hy with e | e
              · rw [e]; exact c0
              · exact s1w y e
            · rw [if_neg h4] at h; exact fxw _ h4 h
          · rw [if_neg h3] at h
            by_cases h4 : (sgn T 41 p).1 = 0
            · rw [if_pos h4] at h
              exact ih _ _ _ _ _ pw (fun _ => hok.mk (by show (5 : Int) ≠ 3; decide) (by show (5 : Int) ≠ 4; decide)) h
            · rw [if_neg h4] at h; exact fxw _ h4 h
theorem PRn.w {T : TT} {K : PH} {k p : Int} (hw : AW K) (h : PRn T K k p) : OPw K (cds T K k p) ∧ ((pat T K k p).1 = 0 → hok (cds T K k p)) := by
  obtain ⟨x, hx⟩ := h
  rw [hx.cdS, hx.paT]
  obtain ⟨n, hn⟩ := hx
  exact prun_w hw n 0 s0 k p x ⟨fun y hy => absurd hy (by simp [s0]), OPw.nil⟩ (fun q => absurd rfl q) hn
/-! the arms' codes in a bank -/
/-- what the arms' codes name -/
def FWo (K M : PH) (F : FT) : Prop := ∀ a c : Int, 0 ≤ a → a < M 0 2 → 0 ≤ c → c < M 0 0 → OPw K (F a c) ∧ hok (F a c)
def MCb (b : Int) (M : PH) (F : FT) (P : PH) : Prop := ∀ a c : Int, 0 ≤ a → a < M 0 2 → 0 ≤ c → c < M 0 0 → P 18 (4 * (12 * b + a) + c) = P 17 (4 * (12 * b + a) + c) + (F a c).length ∧ CDL P b (F a c) (P 18 (4 * (12 * b + a) + c))
def MCn (M : PH) (P : PH) : Prop := ∀ a c : Int, 0 ≤ a → a < M 0 2 → 0 ≤ c → c < M 0 0 → P 18 (4 * (12 * P 0 37 + a) + c) ≤ P 0 36
def MC (K M : PH) (F : FT) (P : PH) : Prop := FWo K M F ∧ MCb (P 0 37) M F P ∧ MCn M P
theorem MCb.eq {M : PH} {F : FT} {b b1 : Int} {P P1 : PH} {G : FS} (h : MCb b M F P) (e : b1 = b) (hf : FrM G P P1) (hd : disF G ([], [17, 18, 19, 20, 21]) = true) : MCb b1 M F P1 := by
  subst e
  unfold MCb
  rw [disF_o hd hf (o := 17) (by decide) rfl, disF_o hd hf (o := 18) (by decide) rfl]
  refine fun a c a0 a1 c0 c1 => ⟨(h a c a0 a1 c0 c1).1, (h a c a0 a1 c0 c1).2.eq _ _ (fun j _ _ => ?_)⟩
  rw [disF_o hd hf (o := 19) (by decide) rfl, disF_o hd hf (o := 20) (by decide) rfl, disF_o hd hf (o := 21) (by decide) rfl]
  exact ⟨rfl, rfl, rfl⟩
theorem disF_w {F s t : FS} (h : disF F s = true) (h1 : t.1.all (fun k => s.1.contains k) = true) (h2 : t.2.all (fun k => s.2.contains k) = true) : disF F t = true := by
  unfold disF at h ⊢
  rw [Bool.and_eq_true] at h ⊢
  refine ⟨List.all_eq_true.mpr (fun k hk => List.all_eq_true.mp h.1 k ?_), List.all_eq_true.mpr (fun k hk => List.all_eq_true.mp h.2 k ?_)⟩
  · have := List.all_eq_true.mp h1 k hk
    simpa using this
  · have := List.all_eq_true.mp h2 k hk
    simpa using this
theorem MC.fr {K M : PH} {F : FT} {P P1 : PH} {G : FS} (h : MC K M F P) (hf : FrM G P P1) (hd : disF G ([36, 37], [17, 18, 19, 20, 21]) = true) : MC K M F P1 := by
  refine ⟨h.1, h.2.1.eq (disF_k hd hf (k := 37) (by decide)) hf (disF_w hd rfl rfl), ?_⟩
  unfold MCn
  rw [disF_k hd hf (k := 36) (by decide), disF_k hd hf (k := 37) (by decide), disF_o hd hf (o := 18) (by decide) rfl]
  exact h.2.2
theorem MC.no {K M : PH} {F : FT} {P : PH} (h : M 0 2 ≤ 0) : MC K M F P := ⟨fun a c a0 a1 => by omega, fun a c a0 a1 => by omega, fun a c a0 a1 => by omega⟩
theorem MC.cg {K M M1 : PH} {F : FT} {P : PH} (h : MC K M F P) (h0 : M1 0 0 = M 0 0) (h2 : M1 0 2 = M 0 2) : MC K M1 F P := by
  unfold MC FWo MCb MCn
  rw [h0, h2]
  exact h
/-- the arm that is told: its first n columns; the arms ahead of it -/
def MCx (K M : PH) (F : FT) (G : Int → List OP) (n : Int) (P : PH) : Prop := MC K M F P ∧ ∀ c : Int, 0 ≤ c → c < n → (OPw K (G c) ∧ hok (G c)) ∧ P 18 (4 * (12 * P 0 37 + M 0 2) + c) = P 17 (4 * (12 * P 0 37 + M 0 2) + c) + (G c).length ∧ P 18 (4 * (12 * P 0 37 + M 0 2) + c) ≤ P 0 36 ∧ CDL P (P 0 37) (G c) (P 18 (4 * (12 * P 0 37 + M 0 2) + c))
theorem MCx.fr {K M : PH} {F : FT} {G : Int → List OP} {n : Int} {P P1 : PH} {S : FS} (h : MCx K M F G n P) (hf : FrM S P P1) (hd : disF S ([36, 37], [17, 18, 19, 20, 21]) = true) : MCx K M F G n P1 := by
  refine ⟨h.1.fr hf hd, ?_⟩
  rw [disF_k hd hf (k := 36) (by decide), disF_k hd hf (k := 37) (by decide), disF_o hd hf (o := 17) (by decide) rfl, disF_o hd hf (o := 18) (by decide) rfl]
  refine fun c c0 c1 => ⟨(h.2 c c0 c1).1, (h.2 c c0 c1).2.1, (h.2 c c0 c1).2.2.1, (h.2 c c0 c1).2.2.2.eq _ _ (fun j _ _ => ?_)⟩
  rw [disF_o hd hf (o := 19) (by decide) rfl, disF_o hd hf (o := 20) (by decide) rfl, disF_o hd hf (o := 21) (by decide) rfl]
  exact ⟨rfl, rfl, rfl⟩
theorem MCx.start {K M : PH} {F : FT} {G : Int → List OP} {P : PH} (h : MC K M F P) : MCx K M F G 0 P := ⟨h, fun c c0 c1 => by omega⟩
/-- a column more: Pa behind the first note, Pb behind the pattern, Pc behind the second note -/
theorem MCx.next {K M : PH} {F : FT} {G : Int → List OP} {E : List OP} {n ix : Int} {P Pa Pb Pc : PH} (h : MCx K M F G n P) (hw : OPw K E ∧ hok E) (hn : 0 ≤ n ∧ n < M 0 0 ∧ M 0 0 ≤ 4) (hix : ix = 4 * (12 * P 0 37 + M 0 2) + n) (h37 : 0 ≤ P 0 37)
    (a37 : Pa 0 37 = P 0 37) (a36 : Pa 0 36 = P 0 36) (a17 : ∀ j : Int, j ≠ ix → Pa 17 j = P 17 j) (s17 : Pa 17 ix = P 0 36) (a18 : ∀ j, Pa 18 j = P 18 j) (a19 : ∀ j, Pa 19 j = P 19 j) (a20 : ∀ j, Pa 20 j = P 20 j) (a21 : ∀ j, Pa 21 j = P 21 j)
    (hl : LO Pa Pb) (b17 : ∀ j, Pb 17 j = Pa 17 j) (b18 : ∀ j, Pb 18 j = Pa 18 j) (hE : CDe (Pa 0 36) E Pb) (hG : G n = E)
    (c37 : Pc 0 37 = Pb 0 37) (c36 : Pc 0 36 = Pb 0 36) (c17 : ∀ j, Pc 17 j = Pb 17 j) (c18 : ∀ j : Int, j ≠ ix → Pc 18 j = Pb 18 j) (s18 : Pc 18 ix = Pb 0 36) (c19 : ∀ j, Pc 19 j = Pb 19 j) (c20 : ∀ j, Pc 20 j = Pb 20 j) (c21 : ∀ j, Pc 21 j = Pb 21 j) : MCx K M F G (n + 1) Pc := by
  obtain ⟨l1, l2, l3⟩ := hl
  obtain ⟨e1, e2, e3⟩ := hE
  have p37 : Pc 0 37 = P 0 37 := by rw [c37, l1, a37]
  have p36 : P 0 36 ≤ Pc 0 36 := by rw [c36, ← a36]; exact l2
  have row : ∀ j : Int, j < 2800 * P 0 37 + P 0 36 → Pc 19 j = P 19 j ∧ Pc 20 j = P 20 j ∧ Pc 21 j = P 21 j := fun j hj => by
    have q := l3 j (Or.inl (by rw [a37, a36]; exact hj))
    rw [c19, c20, c21, ← a19, ← a20, ← a21]
    exact q
  have o17 : ∀ j : Int, j ≠ ix → Pc 17 j = P 17 j := fun j hj => by rw [c17, b17, a17 j hj]
  have o18 : ∀ j : Int, j ≠ ix → Pc 18 j = P 18 j := fun j hj => by rw [c18 j hj, b18, a18]
  unfold MCx MC MCb MCn
  rw [p37]
  refine ⟨⟨h.1.1, fun a c a0 a1 c0 c1 => ?_, fun a c a0 a1 c0 c1 => ?_⟩, fun c c0 c1 => ?_⟩
  · have q := h.1.2.1 a c a0 a1 c0 c1
    have q2 := h.1.2.2 a c a0 a1 c0 c1
    rw [o17 _ (by omega), o18 _ (by omega)]
    exact ⟨q.1, q.2.eq _ _ (fun j _ j1 => row _ (by omega))⟩
  · have q2 := h.1.2.2 a c a0 a1 c0 c1
    rw [o18 _ (by omega)]
    omega
  · by_cases e : c = n
    · have ei : 4 * (12 * P 0 37 + M 0 2) + c = ix := by omega
      rw [ei, s18, c17, b17, s17, c36, e, hG]
      refine ⟨hw, by rw [e1, a36], Int.le_refl _, ?_⟩
      rw [l1, a37] at e3
      exact e3.eq _ _ (fun j _ _ => ⟨c19 _, c20 _, c21 _⟩)
    · have q := h.2 c c0 (by omega)
      rw [o17 _ (by omega), o18 _ (by omega)]
      exact ⟨q.1, q.2.1, by omega, q.2.2.2.eq _ _ (fun j _ j1 => row _ (by omega))⟩
/-- the arm is told -/
theorem MCx.arm {K M : PH} {F F1 : FT} {G : Int → List OP} {g n : Int} {P : PH} (h : MCx K M F G n P) (hn : M 0 0 ≤ n) (e1 : ∀ c : Int, F1 (M 0 2) c = G c) (e2 : ∀ a c : Int, a ≠ M 0 2 → F1 a c = F a c) : MC K (aNew M g) F1 P := by
  unfold MC FWo MCb MCn
  rw [aNew_0.1, aNew_0.2.1]
  refine ⟨fun a c a0 a1 c0 c1 => ?_, fun a c a0 a1 c0 c1 => ?_, fun a c a0 a1 c0 c1 => ?_⟩
  · by_cases e : a = M 0 2
    · rw [e, e1]; exact (h.2 c c0 (by omega)).1
    · rw [e2 _ _ e]; exact h.1.1 a c a0 (by omega) c0 c1
  · by_cases e : a = M 0 2
    · rw [e, e1]
      have q := h.2 c c0 (by omega)
      exact ⟨q.2.1, q.2.2.2⟩
    · rw [e2 _ _ e]
      exact h.1.2.1 a c a0 (by omega) c0 c1
  · by_cases e : a = M 0 2
    · rw [e]; exact (h.2 c c0 (by omega)).2.2.1
    · exact h.1.2.2 a c a0 (by omega) c0 c1
theorem fAr_new {T : TT} {K M : PH} {F : FT} {p : Int} : (∀ c : Int, fAr T K M F p (M 0 2) c = arC T K M p c) ∧ ∀ a c : Int, a ≠ M 0 2 → fAr T K M F p a c = F a c := by
  refine ⟨fun c => ?_, fun a c h => ?_⟩
  · unfold fAr; rw [if_pos rfl]
  · unfold fAr; rw [if_neg h]
theorem arF_next {T : TT} {K M : PH} {G : Int → List OP} {r : Nat} {c q q1 : Int} (h : ∀ j : Int, c ≤ j → G j = arF T K M (r + 1) c q j) (hq : (c ≤ 0 ∧ q1 = q) ∨ (0 < c ∧ q1 = tE T q)) : G c = cds T K (M 1 c) q1 ∧ ∀ j : Int, c + 1 ≤ j → G j = arF T K M r (c + 1) (pat T K (M 1 c) q1).2 j := by
  have g := arF_go (T := T) (K := K) (M := M) (r := r) hq
  exact ⟨(h c (Int.le_refl c)).trans g.1, fun j hj => (h j (by omega)).trans (g.2 j (by omega))⟩
theorem ARn2 {T : TT} {K M : PH} {r : Nat} {c q q1 : Int} {X : Int × Int} {P : PH} (R : Int → Prop) (hX : X = arl T K M (r + 1) c q) (h0 : 0 ≤ c) (hq : (c ≤ 0 ∧ q1 = q) ∨ (0 < c ∧ (sgn T 44 q).1 = 0 ∧ q1 = tE T q)) (hp : REn T (pat T K (M 1 c) q1) P) (h8 : 0 ≤ P 0 8) (hs : P 0 8 = 0 → MS T (pat T K (M 1 c) q1).2 P ∧ R (pat T K (M 1 c) q1).2) :
    ∃ q2 : Int, (P 0 8 ≤ 0 → X = arl T K M r (c + 1) q2 ∧ MS T q2 P ∧ R q2) ∧ (0 < P 0 8 → REn T X P) := by
  rw [arl_x hq] at hX
  rcases hp with ⟨h1, h2⟩ | ⟨h1, h2, h3, h4⟩
  · by_cases z : (pat T K (M 1 c) q1).1 = 0
    · rw [if_neg (by omega)] at hX
      exact ⟨(pat T K (M 1 c) q1).2, fun _ => ⟨hX, (hs (by omega)).1, (hs (by omega)).2⟩, fun h => by omega⟩
    · rw [if_pos z] at hX
      rw [hX]
      exact ⟨0, fun h => by omega, fun _ => Or.inl ⟨h1, h2⟩⟩
  · rw [if_neg (by omega), arl_bad (by omega) h2] at hX
    refine ⟨0, fun h => by omega, fun _ => ?_⟩
    rw [hX]
    by_cases z : r = 0
    · rw [if_pos z]
      exact Or.inr ⟨rfl, h2, h3, h4⟩
    · rw [if_neg z]
      exact Or.inl ⟨h3, Or.inr h4⟩
theorem ARs2 {T : TT} {K M : PH} {r : Nat} {c q : Int} {X : Int × Int} {P : PH} (R : Int → Prop) (hX : X = arl T K M (r + 1) c q) (hc : 0 < c) (h0 : 0 < P 0 8) (h1 : P 0 8 = (sgn T 44 q).1) (h2 : P 0 9 = (sgn T 44 q).2) :
    ∃ q2 : Int, (P 0 8 ≤ 0 → X = arl T K M r (c + 1) q2 ∧ MS T q2 P ∧ R q2) ∧ (0 < P 0 8 → REn T X P) := by
  rw [arl_sF hc (by omega)] at hX
  refine ⟨0, fun h => by omega, fun _ => ?_⟩
  rw [hX]
  exact Or.inl ⟨h1, Or.inr h2⟩
