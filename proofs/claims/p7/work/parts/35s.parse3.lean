section
/-! The codes of the patterns: heights, and the parser's open patterns. -/
def stp (op : Int) (s : Int × Int) : Int × Int := if op = 3 then (s.1, s.2 + 1) else if op = 4 then (s.1, s.2 - 1) else if 5 ≤ op then (s.1 - 1, s.2) else (s.1 + 1, s.2)
def hts (P : PH) (f : Int) : Nat → Int × Int
  | 0 => (0, 0)
  | n + 1 => stp (P 19 (f + (n : Int))) (hts P f n)
theorem hts_eq {P P1 : PH} {f : Int} : ∀ n : Nat, (∀ j : Int, f ≤ j → j < f + n → P1 19 j = P 19 j) → hts P1 f n = hts P f n := by
  intro n
  induction n with
  | zero => intro _; rfl
  | succ n ih =>
    intro h
    show stp _ _ = stp _ _
    rw [ih (fun j h0 h1 => h j h0 (by omega)), h _ (by omega) (by omega)]
/-- a code that can be run at these heights -/
def okc (P : PH) (b i : Int) (s : Int × Int) : Prop := 0 ≤ s.1 ∧ s.1 ≤ 800 ∧ 0 ≤ s.2 ∧ s.2 ≤ 10 ∧ (P 19 i = 3 → P 20 i < P 5 b ∧ P 21 i < P 7 (24 * b + P 20 i)) ∧ (P 19 i = 4 → 1 ≤ s.2) ∧ (5 ≤ P 19 i → 2 ≤ s.1)
def WF (P : PH) (b f e : Int) : Prop := ∀ n : Nat, f + (n : Int) < e → okc P b (f + (n : Int)) (hts P f n)
theorem WF.eq {P P1 : PH} {b f e : Int} (h : WF P b f e) (hb : BdM P) (hrow : ∀ j : Int, f ≤ j → j < e → P1 19 j = P 19 j ∧ P1 20 j = P 20 j ∧ P1 21 j = P 21 j) (e5 : P1 5 b = P 5 b) (e7 : ∀ x : Int, 0 ≤ x → x < P 5 b → P1 7 (24 * b + x) = P 7 (24 * b + x)) : WF P1 b f e := by
  intro n hn
  have h1 := h n hn
  rw [hts_eq n (fun j h0 h1 => (hrow j h0 (by omega)).1)]
  obtain ⟨r1, r2, r3⟩ := hrow (f + n) (by omega) hn
  unfold okc at h1 ⊢
  rw [r1, r2, r3, e5]
  obtain ⟨a1, a2, a3, a4, a5, a6⟩ := h1
  refine ⟨a1, a2, a3, a4, fun q => ?_, a6⟩
  have q20 := bl_20 (k := f + n) hb
  obtain ⟨b1, b2⟩ := a5 q
  exact ⟨b1, by rw [e7 _ q20.1 b1]; exact b2⟩
/-- the codes below stay, and those of the other bank -/
def LO (P P1 : PH) : Prop := P1 0 37 = P 0 37 ∧ P 0 36 ≤ P1 0 36 ∧ ∀ j : Int, (j < 2800 * P 0 37 + P 0 36 ∨ 2800 * P 0 37 + 2800 ≤ j) → P1 19 j = P 19 j ∧ P1 20 j = P 20 j ∧ P1 21 j = P 21 j
theorem LO.rf {P : PH} : LO P P := ⟨rfl, Int.le_refl _, fun _ _ => ⟨rfl, rfl, rfl⟩⟩
theorem LO.fr {P0 P P1 : PH} {F : FS} (h : LO P0 P) (hf : FrM F P P1) (hd : disF F ([36, 37], [19, 20, 21]) = true) : LO P0 P1 := by
  unfold disF at hd
  simp only [List.all_cons, List.all_nil, Bool.and_true, Bool.and_eq_true, Bool.not_eq_true'] at hd
  unfold LO at h ⊢
  rw [hf.1 36 hd.1.1, hf.1 37 hd.1.2, hf.2 19 rfl hd.2.1, hf.2 20 rfl hd.2.2.1, hf.2 21 rfl hd.2.2.2]
  exact h
theorem LO.trans {P P1 P2 : PH} (h : LO P P1) (h1 : LO P1 P2) : LO P P2 := by
  obtain ⟨a1, a2, a3⟩ := h
  obtain ⟨b1, b2, b3⟩ := h1
  refine ⟨b1.trans a1, by omega, fun j hj => ?_⟩
  obtain ⟨c1, c2, c3⟩ := a3 j hj
  obtain ⟨d1, d2, d3⟩ := b3 j (by rw [a1]; omega)
  exact ⟨d1.trans c1, d2.trans c2, d3.trans c3⟩
theorem EM.lo {P P1 : PH} {op a b : Int} {F : FS} (h : EM op a b P P1) (hf : FrM F P P1) (hd : disF F ([37], []) = true) (hc : P 0 36 ≤ 2799) : LO P P1 := by
  unfold disF at hd
  simp only [List.all_cons, List.all_nil, Bool.and_true, Bool.and_eq_true, Bool.not_eq_true'] at hd
  obtain ⟨h1, h2, _⟩ := h
  exact ⟨hf.1 37 hd, by omega, fun j hj => h2 j (by omega)⟩
/-- the arms' codes of both banks -/
def ZS (P : PH) : Prop := ∀ b a c : Int, 0 ≤ b → b ≤ 1 → 0 ≤ a → a < P 13 b → 0 ≤ c → c < P 11 b → WF P b (2800 * b + P 17 (4 * (12 * b + a) + c)) (2800 * b + P 18 (4 * (12 * b + a) + c)) ∧ (b = P 0 37 → P 18 (4 * (12 * b + a) + c) ≤ P 0 36)
/-- what the arms' codes need to stay -/
theorem ZS.lo {P P1 : PH} (h : ZS P) (hb : BdM P) (hl : LO P P1) (r5 : ∀ j, P1 5 j = P 5 j) (r7 : ∀ j, P1 7 j = P 7 j) (r11 : ∀ j, P1 11 j = P 11 j) (r13 : ∀ j, P1 13 j = P 13 j) (r17 : ∀ j, P1 17 j = P 17 j) (r18 : ∀ j, P1 18 j = P 18 j) : ZS P1 := by
  obtain ⟨l1, l2, l3⟩ := hl
  intro b a c b0 b1 a0 a1 c0 c1
  rw [r13] at a1
  rw [r11] at c1
  obtain ⟨h1, h2⟩ := h b a c b0 b1 a0 a1 c0 c1
  rw [r17, r18, l1]
  have q17 := bl_17 (k := 4 * (12 * b + a) + c) hb
  have q18 := bl_18 (k := 4 * (12 * b + a) + c) hb
  have q37 := b0_37 hb
  have q36 := b0_36 hb
  refine ⟨h1.eq hb (fun j j0 j1 => l3 j ?_) (r5 _) (fun x _ _ => r7 _), fun e => by have := h2 e; omega⟩
  by_cases e : b = P 0 37
  · have h3 := h2 e
    left
    rw [← e]
    omega
  · rcases (show b < P 0 37 ∨ P 0 37 < b by omega) with q | q
    · left; omega
    · right; omega
theorem ZS.fr {P P1 : PH} {F : FS} (h : ZS P) (hf : FrM F P P1) (hd : disF F ([36, 37], [5, 7, 11, 13, 17, 18, 19, 20, 21]) = true) : ZS P1 := by
  unfold disF at hd
  simp only [List.all_cons, List.all_nil, Bool.and_true, Bool.and_eq_true, Bool.not_eq_true'] at hd
  intro b a c b0 b1 a0 a1 c0 c1
  rw [hf.2 13 rfl hd.2.2.2.2.1] at a1
  rw [hf.2 11 rfl hd.2.2.2.1] at c1
  obtain ⟨h1, h2⟩ := h b a c b0 b1 a0 a1 c0 c1
  rw [hf.2 17 rfl hd.2.2.2.2.2.1, hf.2 18 rfl hd.2.2.2.2.2.2.1, hf.1 36 hd.1.1, hf.1 37 hd.1.2]
  refine ⟨?_, h2⟩
  intro n hn
  have h3 := h1 n hn
  have e19 : P1 19 = P 19 := hf.2 19 rfl hd.2.2.2.2.2.2.2.1
  rw [hts_eq (P := P) n (fun j _ _ => by rw [e19])]
  unfold okc at h3 ⊢
  rw [hf.2 5 rfl hd.2.1, hf.2 7 rfl hd.2.2.1, e19, hf.2 20 rfl hd.2.2.2.2.2.2.2.2.1, hf.2 21 rfl hd.2.2.2.2.2.2.2.2.2]
  exact h3
/-- before the bank's first arm its tables may change -/
theorem ZS.un {P P1 : PH} {i : Int} (h : ZS P) (hb : BdM P) (hi : 0 ≤ i ∧ i ≤ 1) (h13 : P 13 i = 0) (e37 : P1 0 37 = i) (o5 : ∀ j : Int, j ≠ i → P1 5 j = P 5 j) (o7 : ∀ j : Int, (j < 24 * i ∨ 24 * i + 23 < j) → P1 7 j = P 7 j) (o11 : ∀ j : Int, j ≠ i → P1 11 j = P 11 j) (r13 : ∀ j, P1 13 j = P 13 j) (r17 : ∀ j, P1 17 j = P 17 j) (r18 : ∀ j, P1 18 j = P 18 j) (r19 : ∀ j, P1 19 j = P 19 j) (r20 : ∀ j, P1 20 j = P 20 j) (r21 : ∀ j, P1 21 j = P 21 j) : ZS P1 := by
  intro b a c b0 b1 a0 a1 c0 c1
  rw [r13] at a1
  have hne : b ≠ i := fun e => by rw [e, h13] at a1; omega
  rw [o11 b hne] at c1
  obtain ⟨h1, h2⟩ := h b a c b0 b1 a0 a1 c0 c1
  rw [r17, r18, e37]
  have q5 := bl_5 (k := b) hb
  exact ⟨h1.eq hb (fun j _ _ => ⟨r19 j, r20 j, r21 j⟩) (o5 b hne) (fun x x0 x1 => o7 _ (by omega)), fun e => absurd e hne⟩
/-- alternatives that are whole, of the open patterns -/
def asum (P : PH) : Nat → Int
  | 0 => 0
  | n + 1 => asum P n + (if 0 < P 25 ((n : Int) + 1) then 1 else 0)
theorem asum_b (P : PH) : ∀ n : Nat, 0 ≤ asum P n ∧ asum P n ≤ n := by
  intro n
  induction n with
  | zero => exact ⟨Int.le_refl _, Int.le_refl _⟩
  | succ n ih =>
    show 0 ≤ asum P n + _ ∧ asum P n + _ ≤ _
    split <;> omega
theorem asum_eq {P P1 : PH} : ∀ n : Nat, (∀ j : Int, 1 ≤ j → j ≤ n → P1 25 j = P 25 j) → asum P1 n = asum P n := by
  intro n
  induction n with
  | zero => intro _; rfl
  | succ n ih =>
    intro h
    show asum P1 n + _ = asum P n + _
    rw [ih (fun j h0 h1 => h j h0 (by omega)), h _ (by omega) (by omega)]
theorem asum_s {P : PH} {k : Int} (hk : 1 ≤ k) : asum P k.toNat = asum P (k - 1).toNat + (if 0 < P 25 k then 1 else 0) := by
  have e : k.toNat = (k - 1).toNat + 1 := by omega
  rw [e]
  show asum P (k - 1).toNat + _ = _
  rw [show (((k - 1).toNat : Nat) : Int) + 1 = k by omega]
/-- what is put by for the fields that are to come -/
def crd (P : PH) : Nat → Int
  | 0 => 0
  | n + 1 => crd P n + (if n = 0 then 0 else if P 27 (n : Int) = 0 then 6 else 2)
theorem crd_b (P : PH) : ∀ n : Nat, 0 ≤ crd P n := by
  intro n
  induction n with
  | zero => exact Int.le_refl _
  | succ n ih =>
    show 0 ≤ crd P n + _
    split
    · omega
    · split <;> omega
theorem crd_eq {P P1 : PH} : ∀ n : Nat, (∀ j : Int, 1 ≤ j → j < n → P1 27 j = P 27 j) → crd P1 n = crd P n := by
  intro n
  induction n with
  | zero => intro _; rfl
  | succ n ih =>
    intro h
    show crd P1 n + _ = crd P n + _
    rw [ih (fun j h0 h1 => h j h0 (by omega))]
    by_cases e : n = 0
    · rw [if_pos e, if_pos e]
    · rw [if_neg e, if_neg e, h _ (by omega) (by omega)]
theorem crd_s {P : PH} {k : Int} (hk : 1 ≤ k) : crd P (k + 1).toNat = crd P k.toNat + (if P 27 k = 0 then 6 else 2) := by
  have e : (k + 1).toNat = k.toNat + 1 := by omega
  rw [e]
  show crd P k.toNat + _ = _
  rw [if_neg (by omega), show ((k.toNat : Nat) : Int) = k by omega]
def pot (P : PH) : Int := 5 * P 0 36 + 5 * asum P (P 0 43).toNat + crd P (P 0 43).toNat
theorem pot_fr {P P1 : PH} {F : FS} (hf : FrM F P P1) (hd : disF F ([36, 43], [25, 27]) = true) : pot P1 = pot P := by
  unfold disF at hd
  simp only [List.all_cons, List.all_nil, Bool.and_true, Bool.and_eq_true, Bool.not_eq_true'] at hd
  unfold pot
  rw [hf.1 36 hd.1.1, hf.1 43 hd.1.2, asum_eq (P := P) (P1 := P1) _ (fun j _ _ => by rw [hf.2 25 rfl hd.2.1]), crd_eq (P := P) _ (fun j _ _ => by rw [hf.2 27 rfl hd.2.2])]
/-- the con of an open pattern's field -/
def lev (P : PH) (j : Int) : Prop := P 26 j < P 5 (P 0 37) ∧ P 27 j < P 7 (24 * P 0 37 + P 26 j) ∧ P 6 (24 * P 0 37 + P 26 j) + j ≤ 4
/-- the open patterns, and the codes since f -/
def SX (f w : Int) (P : PH) : Prop := (1 ≤ P 0 43 ∧ P 0 43 ≤ 5 ∧ f ≤ 2800 * P 0 37 + P 0 36) ∧ (∀ j : Int, 1 ≤ j → j ≤ P 0 43 → P 24 j = 4 ∨ P 24 j + j ≤ 4) ∧ (∀ j : Int, 1 ≤ j → j < P 0 43 → lev P j) ∧ hts P f (2800 * P 0 37 + P 0 36 - f).toNat = (asum P (P 0 43).toNat + P 0 43 - 1 + w, P 0 43 - 1) ∧ WF P (P 0 37) f (2800 * P 0 37 + P 0 36) ∧ (∀ j : Int, 1 ≤ j → j < P 0 43 → 0 ≤ P 25 j ∧ P 25 j + 1 ≤ P 0 36) ∧ 0 ≤ P 25 (P 0 43) ∧ P 25 (P 0 43) + w ≤ P 0 36
theorem SX.fr {f w : Int} {P P1 : PH} {F : FS} (h : SX f w P) (hf : FrM F P P1) (hd : disF F ([36, 37, 43], [5, 6, 7, 19, 20, 21, 24, 25, 26, 27]) = true) : SX f w P1 := by
  unfold disF at hd
  simp only [List.all_cons, List.all_nil, Bool.and_true, Bool.and_eq_true, Bool.not_eq_true'] at hd
  obtain ⟨⟨d36, d37, d43⟩, d5, d6, d7, d19, d20, d21, d24, d25, d26, d27⟩ := hd
  obtain ⟨h1, h2, h3, h4, h5, h6⟩ := h
  unfold SX
  rw [hf.1 36 d36, hf.1 37 d37, hf.1 43 d43]
  have e5 := hf.2 5 rfl d5; have e6 := hf.2 6 rfl d6; have e7 := hf.2 7 rfl d7
  have e19 := hf.2 19 rfl d19; have e20 := hf.2 20 rfl d20; have e21 := hf.2 21 rfl d21
  have e24 := hf.2 24 rfl d24; have e25 := hf.2 25 rfl d25; have e26 := hf.2 26 rfl d26; have e27 := hf.2 27 rfl d27
  refine ⟨h1, by rw [e24]; exact h2, ?_, ?_, ?_, by rw [e25]; exact h6⟩
  · unfold lev at h3 ⊢
    rw [hf.1 37 d37, e5, e6, e7, e26, e27]; exact h3
  · rw [hts_eq (P := P) _ (fun j _ _ => by rw [e19]), asum_eq (P := P) (P1 := P1) _ (fun j _ _ => by rw [e25])]; exact h4
  · intro n hn
    have h7 := h5 n hn
    rw [hts_eq (P := P) n (fun j _ _ => by rw [e19])]
    unfold okc at h7 ⊢
    rw [e5, e7, e19, e20, e21]; exact h7
/-- one code more -/
theorem EM.heights {P P1 : PH} {op a b f : Int} (h : EM op a b P P1) (hf : f ≤ 2800 * P 0 37 + P 0 36) : hts P1 f (2800 * P 0 37 + P 0 36 + 1 - f).toNat = stp op (hts P f (2800 * P 0 37 + P 0 36 - f).toNat) := by
  obtain ⟨h1, h2, h3, _⟩ := h
  rw [show (2800 * P 0 37 + P 0 36 + 1 - f).toNat = (2800 * P 0 37 + P 0 36 - f).toNat + 1 by omega]
  show stp _ _ = _
  rw [hts_eq _ (fun j j0 j1 => (h2 j (by omega)).1), show f + (((2800 * P 0 37 + P 0 36 - f).toNat : Nat) : Int) = 2800 * P 0 37 + P 0 36 by omega, h3]
theorem EM.wf {P P1 : PH} {op a b f : Int} (h : EM op a b P P1) (hb : BdM P) (hf : f ≤ 2800 * P 0 37 + P 0 36) (hw : WF P (P 0 37) f (2800 * P 0 37 + P 0 36)) (r5 : ∀ j, P1 5 j = P 5 j) (r7 : ∀ j, P1 7 j = P 7 j) {N D : Int} (hh : hts P f (2800 * P 0 37 + P 0 36 - f).toNat = (N, D)) (hN : 0 ≤ N ∧ N ≤ 800) (hD : 0 ≤ D ∧ D ≤ 10) (h3 : op = 3 → a < P 5 (P 0 37) ∧ b < P 7 (24 * P 0 37 + a)) (h4 : op = 4 → 1 ≤ D) (h5 : 5 ≤ op → 2 ≤ N) : WF P1 (P 0 37) f (2800 * P 0 37 + P 0 36 + 1) := by
  have hx := h
  obtain ⟨e1, e2, e3, e4, e5⟩ := h
  intro n hn
  rw [hts_eq n (fun j j0 j1 => (e2 j (by omega)).1)]
  rcases (show f + (n : Int) < 2800 * P 0 37 + P 0 36 ∨ f + (n : Int) = 2800 * P 0 37 + P 0 36 by omega) with q | q
  · have h6 := hw n q
    obtain ⟨r1, r2, r3⟩ := e2 (f + n) (by omega)
    unfold okc at h6 ⊢
    rw [r1, r2, r3, r5, r7]; exact h6
  · have hn9 : n = (2800 * P 0 37 + P 0 36 - f).toNat := by omega
    rw [← hn9] at hh
    unfold okc
    rw [q, e3, e4, e5, hh, r5, r7]
    exact ⟨hN.1, hN.2, hD.1, hD.2, h3, h4, h5⟩
theorem SX.leaf {f op a b : Int} {P P1 : PH} (h : SX f 0 P) (hb : BdM P) (he : EM op a b P P1) (hf : FrM ([36], [19, 20, 21]) P P1) (hop : 0 ≤ op ∧ op ≤ 2) : SX f 1 P1 := by
  obtain ⟨⟨h1, h1', h1''⟩, h2, h3, h4, h5, h6, h7, h8⟩ := h
  have e37 : P1 0 37 = P 0 37 := hf.1 37 rfl
  have e43 : P1 0 43 = P 0 43 := hf.1 43 rfl
  have q := asum_b P (P 0 43).toNat
  have e36 := he.1
  have r5 : P1 5 = P 5 := hf.2 5 rfl rfl
  have r6 : P1 6 = P 6 := hf.2 6 rfl rfl
  have r7 : P1 7 = P 7 := hf.2 7 rfl rfl
  unfold SX
  rw [e37, e43, e36, ← Int.add_assoc]
  refine ⟨⟨h1, h1', by omega⟩, by rw [hf.2 24 rfl rfl]; exact h2, ?_, ?_, ?_, ?_⟩
  · unfold lev at h3 ⊢
    rw [e37, r5, r6, r7, hf.2 26 rfl rfl, hf.2 27 rfl rfl]; exact h3
  · rw [he.heights h1'', h4, asum_eq (P := P) (P1 := P1) _ (fun j _ _ => by rw [hf.2 25 rfl rfl])]
    unfold stp
    rw [if_neg (by omega), if_neg (by omega), if_neg (by omega)]
    show (_, _) = _
    rw [Int.add_zero]
  · exact he.wf hb h1'' h5 (fun j => by rw [r5]) (fun j => by rw [r7]) h4 ⟨by omega, by omega⟩ ⟨by omega, by omega⟩ (fun q => by omega) (fun q => by omega) (fun q => by omega)
  · rw [hf.2 25 rfl rfl]
    exact ⟨fun j j0 j1 => by have := h6 j j0 j1; omega, h7, by omega⟩
theorem SX.either {f : Int} {a b : Int} {P P1 : PH} (h : SX f 1 P) (hb : BdM P) (he : EM 6 a b P P1) (hf : FrM ([36], [19, 20, 21]) P P1) (hz : 0 < P 25 (P 0 43)) : SX f 0 P1 := by
  obtain ⟨⟨h1, h1', h1''⟩, h2, h3, h4, h5, h6, h7, h8⟩ := h
  have e37 : P1 0 37 = P 0 37 := hf.1 37 rfl
  have e43 : P1 0 43 = P 0 43 := hf.1 43 rfl
  have q := asum_b P (P 0 43).toNat
  have q1 := asum_s (P := P) h1
  rw [if_pos hz] at q1
  have q2 := asum_b P (P 0 43 - 1).toNat
  have e36 := he.1
  have r5 : P1 5 = P 5 := hf.2 5 rfl rfl
  have r6 : P1 6 = P 6 := hf.2 6 rfl rfl
  have r7 : P1 7 = P 7 := hf.2 7 rfl rfl
  unfold SX
  rw [e37, e43, e36, ← Int.add_assoc]
  refine ⟨⟨h1, h1', by omega⟩, by rw [hf.2 24 rfl rfl]; exact h2, ?_, ?_, ?_, ?_⟩
  · unfold lev at h3 ⊢
    rw [e37, r5, r6, r7, hf.2 26 rfl rfl, hf.2 27 rfl rfl]; exact h3
  · rw [he.heights h1'', h4, asum_eq (P := P) (P1 := P1) _ (fun j _ _ => by rw [hf.2 25 rfl rfl])]
    unfold stp
    rw [if_neg (by decide), if_neg (by decide), if_pos (by decide)]
    show (_, _) = _
    rw [show asum P (P 0 43).toNat + P 0 43 - 1 + 1 - 1 = asum P (P 0 43).toNat + P 0 43 - 1 + 0 by omega]
  · exact he.wf hb h1'' h5 (fun j => by rw [r5]) (fun j => by rw [r7]) h4 ⟨by omega, by omega⟩ ⟨by omega, by omega⟩ (fun q => by omega) (fun q => by omega) (fun q => by omega)
  · rw [hf.2 25 rfl rfl]
    exact ⟨fun j j0 j1 => by have := h6 j j0 j1; omega, h7, by omega⟩
/-- the top's alternatives are counted -/
theorem SX.alts {f w w1 : Int} {P P1 : PH} (h : SX f w P) (e36 : P1 0 36 = P 0 36) (e37 : P1 0 37 = P 0 37) (e43 : P1 0 43 = P 0 43) (o25 : ∀ j : Int, j ≠ P 0 43 → P1 25 j = P 25 j) (hz : 0 < P1 25 (P 0 43)) (hle : P1 25 (P 0 43) + w1 ≤ P 0 36) (hw : w1 = w - 1 + (if 0 < P 25 (P 0 43) then 1 else 0)) (r5 : ∀ j, P1 5 j = P 5 j) (r6 : ∀ j, P1 6 j = P 6 j) (r7 : ∀ j, P1 7 j = P 7 j) (r19 : ∀ j, P1 19 j = P 19 j) (r20 : ∀ j, P1 20 j = P 20 j) (r21 : ∀ j, P1 21 j = P 21 j) (r24 : ∀ j, P1 24 j = P 24 j) (r26 : ∀ j, P1 26 j = P 26 j) (r27 : ∀ j, P1 27 j = P 27 j) : SX f w1 P1 := by
  obtain ⟨⟨h1, h1', h1''⟩, h2, h3, h4, h5, h6, h7, h8⟩ := h
  have a1 := asum_s (P := P) h1
  have a2 := asum_s (P := P1) (k := P 0 43) h1
  rw [if_pos hz, show asum P1 (P 0 43 - 1).toNat = asum P (P 0 43 - 1).toNat from asum_eq _ (fun j j0 j1 => o25 j (by omega))] at a2
  unfold SX
  rw [e36, e37, e43]
  refine ⟨⟨h1, h1', h1''⟩, fun j j0 j1 => by rw [r24]; exact h2 j j0 j1, fun j j0 j1 => ?_, ?_, ?_, fun j j0 j1 => by rw [o25 j (by omega)]; exact h6 j j0 j1, by omega, hle⟩
  · have := h3 j j0 j1
    unfold lev at this ⊢
    rw [e37, r5, r26, r27, r7, r6]; exact this
  · rw [hts_eq _ (fun j _ _ => r19 j), h4, hw]
    have e9 : asum P (P 0 43).toNat + P 0 43 - 1 + w = asum P1 (P 0 43).toNat + P 0 43 - 1 + (w - 1 + if 0 < P 25 (P 0 43) then 1 else 0) := by
      generalize (if 0 < P 25 (P 0 43) then (1 : Int) else 0) = y at a1 ⊢
      omega
    rw [e9]
  · intro n hn
    have h9 := h5 n hn
    rw [hts_eq n (fun j _ _ => r19 j)]
    unfold okc at h9 ⊢
    rw [r5, r19, r20, r21, r7]; exact h9
theorem pot_em {P P1 : PH} {op a b : Int} (he : EM op a b P P1) (hf : FrM ([36], [19, 20, 21]) P P1) : pot P1 = pot P + 5 := by
  unfold pot
  rw [he.1, hf.1 43 rfl, asum_eq (P := P) (P1 := P1) _ (fun j _ _ => by rw [hf.2 25 rfl rfl]), crd_eq (P := P) _ (fun j _ _ => by rw [hf.2 27 rfl rfl])]
  omega
theorem pot_alts {P P1 : PH} (h1 : 1 ≤ P 0 43) (e36 : P1 0 36 = P 0 36) (e43 : P1 0 43 = P 0 43) (o25 : ∀ j : Int, j ≠ P 0 43 → P1 25 j = P 25 j) (hz : 0 < P1 25 (P 0 43)) (r27 : ∀ j, P1 27 j = P 27 j) : pot P1 = pot P + 5 - 5 * (if 0 < P 25 (P 0 43) then 1 else 0) := by
  have a1 := asum_s (P := P) h1
  have a2 := asum_s (P := P1) (k := P 0 43) h1
  rw [if_pos hz, show asum P1 (P 0 43 - 1).toNat = asum P (P 0 43 - 1).toNat from asum_eq _ (fun j j0 j1 => o25 j (by omega))] at a2
  unfold pot
  rw [e36, e43, crd_eq (P := P) _ (fun j _ _ => r27 j), a1, a2]
  omega
/-- a pattern is whole: the one it is in goes on -/
theorem SX.pop {f i z a4 b4 a5 b5 : Int} {P P0 P1 P2 : PH} (h : SX f 0 P) (hb : BdM P) (hb0 : BdM P0) (hb1 : BdM P1) (hz : 0 < P 25 (P 0 43)) (ez : P 0 43 = z) (hz2 : 2 ≤ z) (hf0 : FrM ([43], []) P P0) (e0 : P0 0 43 = z - 1) (h4 : EM 4 a4 b4 P0 P1) (hf1 : FrM ([36], [19, 20, 21]) P0 P1) (h5 : EM 5 a5 b5 P1 P2) (hf2 : FrM ([36], [19, 20, 21]) P1 P2) (ei : P 0 37 = i) : SX f 1 P2 ∧ lev P (z - 1) ∧ ((P 27 (z - 1) = 0 ∧ pot P2 + 6 = pot P + 5) ∨ (P 27 (z - 1) ≠ 0 ∧ pot P2 + 2 = pot P + 5)) := by
  obtain ⟨⟨g1, g1', g1''⟩, g2, g3, g4, g5, g6, g7, g8⟩ := h
  have k36 : P0 0 36 = P 0 36 := hf0.1 36 rfl
  have k37 : P0 0 37 = P 0 37 := hf0.1 37 rfl
  have l37 : P1 0 37 = P0 0 37 := hf1.1 37 rfl
  have m37 : P2 0 37 = P1 0 37 := hf2.1 37 rfl
  have l43 : P1 0 43 = P0 0 43 := hf1.1 43 rfl
  have m43 : P2 0 43 = P1 0 43 := hf2.1 43 rfl
  have l36 := h4.1
  have m36 := h5.1
  have a1 := asum_s (P := P) g1
  rw [if_pos hz] at a1
  have q2 := asum_b P (P 0 43 - 1).toNat
  have p5 : P0 5 = P 5 := hf0.2 5 rfl rfl
  have p6 : P0 6 = P 6 := hf0.2 6 rfl rfl
  have p7 : P0 7 = P 7 := hf0.2 7 rfl rfl
  have p19 : P0 19 = P 19 := hf0.2 19 rfl rfl
  have p20 : P0 20 = P 20 := hf0.2 20 rfl rfl
  have p21 : P0 21 = P 21 := hf0.2 21 rfl rfl
  have p24 : P0 24 = P 24 := hf0.2 24 rfl rfl
  have p25 : P0 25 = P 25 := hf0.2 25 rfl rfl
  have p26 : P0 26 = P 26 := hf0.2 26 rfl rfl
  have p27 : P0 27 = P 27 := hf0.2 27 rfl rfl
  have r5 : P1 5 = P0 5 := hf1.2 5 rfl rfl
  have r6 : P1 6 = P0 6 := hf1.2 6 rfl rfl
  have r7 : P1 7 = P0 7 := hf1.2 7 rfl rfl
  have r24 : P1 24 = P0 24 := hf1.2 24 rfl rfl
  have r25 : P1 25 = P0 25 := hf1.2 25 rfl rfl
  have r26 : P1 26 = P0 26 := hf1.2 26 rfl rfl
  have r27 : P1 27 = P0 27 := hf1.2 27 rfl rfl
  have s5 : P2 5 = P1 5 := hf2.2 5 rfl rfl
  have s6 : P2 6 = P1 6 := hf2.2 6 rfl rfl
  have s7 : P2 7 = P1 7 := hf2.2 7 rfl rfl
  have s24 : P2 24 = P1 24 := hf2.2 24 rfl rfl
  have s25 : P2 25 = P1 25 := hf2.2 25 rfl rfl
  have s26 : P2 26 = P1 26 := hf2.2 26 rfl rfl
  have s27 : P2 27 = P1 27 := hf2.2 27 rfl rfl
  -- the heights in P0
  have w0 : WF P0 (P0 0 37) f (2800 * P0 0 37 + P0 0 36) := by
    rw [k36, k37]
    exact g5.eq hb (fun j _ _ => ⟨by rw [p19], by rw [p20], by rw [p21]⟩) (by rw [p5]) (fun x _ _ => by rw [p7])
  have t0 : hts P0 f (2800 * P0 0 37 + P0 0 36 - f).toNat = (asum P (P 0 43).toNat + P 0 43 - 1 + 0, P 0 43 - 1) := by
    rw [k36, k37, hts_eq _ (fun j _ _ => by rw [p19])]; exact g4
  have f0 : f ≤ 2800 * P0 0 37 + P0 0 36 := by rw [k36, k37]; exact g1''
  have w1 := h4.wf hb0 f0 w0 (fun j => by rw [r5]) (fun j => by rw [r7]) t0 ⟨by omega, by omega⟩ ⟨by omega, by omega⟩ (fun q => by omega) (fun q => by omega) (fun q => by omega)
  have t1 := h4.heights f0
  rw [t0] at t1
  have e1 : 2800 * P1 0 37 + P1 0 36 = 2800 * P0 0 37 + P0 0 36 + 1 := by rw [l37, l36]; omega
  replace w1 : WF P1 (P1 0 37) f (2800 * P1 0 37 + P1 0 36) := by rw [e1, l37]; exact w1
  rw [← e1] at t1
  have t1' : hts P1 f (2800 * P1 0 37 + P1 0 36 - f).toNat = (asum P (P 0 43).toNat + P 0 43 - 1, P 0 43 - 1 - 1) := by
    rw [t1]; unfold stp; rw [if_neg (by decide), if_pos rfl, Int.add_zero]
  have f1 : f ≤ 2800 * P1 0 37 + P1 0 36 := by omega
  have w2 := h5.wf hb1 f1 w1 (fun j => by rw [s5]) (fun j => by rw [s7]) t1' ⟨by omega, by omega⟩ ⟨by omega, by omega⟩ (fun q => by omega) (fun q => by omega) (fun q => by omega)
  have t2 := h5.heights f1
  rw [t1'] at t2
  have e2 : 2800 * P2 0 37 + P2 0 36 = 2800 * P1 0 37 + P1 0 36 + 1 := by rw [m37, m36]; omega
  replace w2 : WF P2 (P2 0 37) f (2800 * P2 0 37 + P2 0 36) := by rw [e2, m37]; exact w2
  rw [← e2] at t2
  have c43 : P2 0 43 = z - 1 := by rw [m43, l43, e0]
  have as : asum P2 (z - 1).toNat = asum P (z - 1).toNat := asum_eq _ (fun j _ _ => by rw [s25, r25, p25])
  refine ⟨?_, g3 (z - 1) (by omega) (by omega), ?_⟩
  · unfold SX
    rw [c43]
    refine ⟨⟨by omega, by omega, by omega⟩, fun j j0 j1 => by rw [s24, r24, p24]; exact g2 j j0 (by omega), fun j j0 j1 => ?_, ?_, w2, fun j j0 j1 => ?_, ?_⟩
    · have := g3 j j0 (by omega)
      unfold lev at this ⊢
      rw [m37, l37, k37, s5, r5, p5, s26, r26, p26, s27, r27, p27, s7, r7, p7, s6, r6, p6]; exact this
    · rw [t2, as]
      unfold stp
      rw [if_neg (by decide), if_neg (by decide), if_pos (by decide)]
      show (_, _) = (_, _)
      rw [ez] at a1 ⊢
      rw [show asum P z.toNat + z - 1 - 1 = asum P (z - 1).toNat + (z - 1) - 1 + 1 by omega]
    · have := g6 j j0 (by omega)
      rw [s25, r25, p25]; omega
    · have := g6 (z - 1) (by omega) (by omega)
      rw [s25, r25, p25]; omega
  · unfold pot
    rw [c43, m36, l36, k36, as, crd_eq (P := P) _ (fun j _ _ => by rw [s27, r27, p27]), ez]
    have c1 := crd_s (P := P) (k := z - 1) (by omega)
    rw [show z - 1 + 1 = z by omega] at c1
    rw [ez] at a1
    rw [c1, a1]
    by_cases e : P 27 (z - 1) = 0
    · rw [if_pos e]; exact Or.inl ⟨e, by omega⟩
    · rw [if_neg e]; exact Or.inr ⟨e, by omega⟩
/-- a field's pattern begins -/
theorem SX.into {f i z con fld kd : Int} {P P1 P2 P3 : PH} (h : SX f 1 P) (hcf : CF P) (hb : BdM P) (hb1 : BdM P1) (hb2 : BdM P2) (ez : P 0 43 = z) (ei : P 0 37 = i) (hz4 : P 6 (24 * i + con) + z ≤ 4) (hcon : 0 ≤ con ∧ con < P 5 i) (hfld : 0 ≤ fld ∧ fld < P 7 (24 * i + con)) (ekd : kd = P 8 (2 * (24 * i + con) + fld)) (hf1 : FrM ([], [26, 27]) P P1) (o26 : ∀ j : Int, j ≠ z → P1 26 j = P 26 j) (e26 : P1 26 z = con) (o27 : ∀ j : Int, j ≠ z → P1 27 j = P 27 j) (e27 : P1 27 z = fld) (he : EM 3 con fld P1 P2) (hf2 : FrM ([36], [19, 20, 21]) P1 P2) (hf3 : FrM ([43], [24, 25]) P2 P3) (e43 : P3 0 43 = z + 1) (e24 : P3 24 (z + 1) = kd) (o24 : ∀ j : Int, j ≠ z + 1 → P3 24 j = P2 24 j) (e25 : P3 25 (z + 1) = 0) (o25 : ∀ j : Int, j ≠ z + 1 → P3 25 j = P2 25 j) : SX f 0 P3 ∧ ((fld = 0 ∧ pot P3 = pot P + 11) ∨ (fld ≠ 0 ∧ pot P3 = pot P + 7)) := by
  obtain ⟨⟨g1, g1', g1''⟩, g2, g3, g4, g5, g6, g7, g8⟩ := h
  have k36 : P1 0 36 = P 0 36 := hf1.1 36 rfl
  have k37 : P1 0 37 = P 0 37 := hf1.1 37 rfl
  have l37 : P2 0 37 = P1 0 37 := hf2.1 37 rfl
  have l43 : P2 0 43 = P1 0 43 := hf2.1 43 rfl
  have l36 := he.1
  have m36 : P3 0 36 = P2 0 36 := hf3.1 36 rfl
  have m37 : P3 0 37 = P2 0 37 := hf3.1 37 rfl
  have q2 := asum_b P (P 0 43).toNat
  have p5 : P1 5 = P 5 := hf1.2 5 rfl rfl
  have p6 : P1 6 = P 6 := hf1.2 6 rfl rfl
  have p7 : P1 7 = P 7 := hf1.2 7 rfl rfl
  have p19 : P1 19 = P 19 := hf1.2 19 rfl rfl
  have p20 : P1 20 = P 20 := hf1.2 20 rfl rfl
  have p21 : P1 21 = P 21 := hf1.2 21 rfl rfl
  have p24 : P1 24 = P 24 := hf1.2 24 rfl rfl
  have p25 : P1 25 = P 25 := hf1.2 25 rfl rfl
  have r5 : P2 5 = P1 5 := hf2.2 5 rfl rfl
  have r6 : P2 6 = P1 6 := hf2.2 6 rfl rfl
  have r7 : P2 7 = P1 7 := hf2.2 7 rfl rfl
  have r24 : P2 24 = P1 24 := hf2.2 24 rfl rfl
  have r25 : P2 25 = P1 25 := hf2.2 25 rfl rfl
  have r26 : P2 26 = P1 26 := hf2.2 26 rfl rfl
  have r27 : P2 27 = P1 27 := hf2.2 27 rfl rfl
  have s5 : P3 5 = P2 5 := hf3.2 5 rfl rfl
  have s6 : P3 6 = P2 6 := hf3.2 6 rfl rfl
  have s7 : P3 7 = P2 7 := hf3.2 7 rfl rfl
  have s19 : P3 19 = P2 19 := hf3.2 19 rfl rfl
  have s20 : P3 20 = P2 20 := hf3.2 20 rfl rfl
  have s21 : P3 21 = P2 21 := hf3.2 21 rfl rfl
  have s26 : P3 26 = P2 26 := hf3.2 26 rfl rfl
  have s27 : P3 27 = P2 27 := hf3.2 27 rfl rfl
  have w0 : WF P1 (P1 0 37) f (2800 * P1 0 37 + P1 0 36) := by
    rw [k36, k37]
    exact g5.eq hb (fun j _ _ => ⟨by rw [p19], by rw [p20], by rw [p21]⟩) (by rw [p5]) (fun x _ _ => by rw [p7])
  have t0 : hts P1 f (2800 * P1 0 37 + P1 0 36 - f).toNat = (asum P (P 0 43).toNat + P 0 43 - 1 + 1, P 0 43 - 1) := by
    rw [k36, k37, hts_eq _ (fun j _ _ => by rw [p19])]; exact g4
  have f0 : f ≤ 2800 * P1 0 37 + P1 0 36 := by rw [k36, k37]; exact g1''
  have w1 := he.wf hb1 f0 w0 (fun j => by rw [r5]) (fun j => by rw [r7]) t0 ⟨by omega, by omega⟩ ⟨by omega, by omega⟩ (fun _ => by rw [k37, p5, p7, ei]; exact ⟨hcon.2, hfld.2⟩) (fun q => by omega) (fun q => by omega)
  have t1 := he.heights f0
  rw [t0] at t1
  have e1 : 2800 * P2 0 37 + P2 0 36 = 2800 * P1 0 37 + P1 0 36 + 1 := by rw [l37, l36]; omega
  replace w1 : WF P2 (P2 0 37) f (2800 * P2 0 37 + P2 0 36) := by rw [e1, l37]; exact w1
  rw [← e1] at t1
  have hcc := hcf (24 * i + con) fld hfld.1 hfld.2
  have q8 := bl_8 (k := 2 * (24 * i + con) + fld) hb
  have q6 := bl_6 (k := 24 * i + con) hb
  have as : asum P3 (z + 1).toNat = asum P z.toNat := by
    have a1 := asum_s (P := P3) (k := z + 1) (by omega)
    rw [e25, if_neg (by decide), show z + 1 - 1 = z by omega, Int.add_zero] at a1
    rw [a1]
    exact asum_eq _ (fun j j0 j1 => by rw [o25 j (by omega), r25, p25])
  have j37 : P3 0 37 = i := by rw [m37, l37, k37, ei]
  have j36 : P3 0 36 = P 0 36 + 1 := by rw [m36, l36, k36]
  refine ⟨?_, ?_⟩
  · unfold SX
    rw [e43]
    refine ⟨⟨by omega, by omega, by rw [m36, m37]; omega⟩, fun j j0 j1 => ?_, fun j j0 j1 => ?_, ?_, ?_, fun j j0 j1 => ?_, by omega, by have q36 := b0_36 hb; omega⟩
    · by_cases e : j = z + 1
      · rw [e, e24, ekd]; omega
      · rw [o24 j e, r24, p24]; exact g2 j j0 (by omega)
    · unfold lev
      rw [j37, s26, r26, s27, r27, s5, r5, p5, s6, r6, p6, s7, r7, p7]
      by_cases e : j = z
      · rw [e, e26, e27]; exact ⟨hcon.2, hfld.2, hz4⟩
      · have := g3 j j0 (by omega)
        unfold lev at this
        rw [ei] at this
        rw [o26 j e, o27 j e]; exact this
    · rw [m36, m37, hts_eq _ (fun j _ _ => by rw [s19]), t1, as]
      unfold stp
      rw [if_pos rfl]
      show (_, _) = (_, _)
      rw [ez, show asum P z.toNat + z - 1 + 1 = asum P z.toNat + (z + 1) - 1 + 0 by omega, show z - 1 + 1 = z + 1 - 1 by omega]
    · rw [m36, m37]
      exact w1.eq hb2 (fun j _ _ => ⟨by rw [s19], by rw [s20], by rw [s21]⟩) (by rw [s5]) (fun x _ _ => by rw [s7])
    · rw [o25 j (by omega), r25, p25, j36]
      by_cases e : j = z
      · rw [e, ← ez]; omega
      · have := g6 j j0 (by omega); omega
  · unfold pot
    rw [e43, j36, as, crd_s (P := P3) (k := z) (by omega), s27, r27, e27, crd_eq (P := P) _ (fun j j0 j1 => by rw [s27, r27, o27 j (by omega)]), ez]
    by_cases e : fld = 0
    · rw [if_pos e]; exact Or.inl ⟨e, by omega⟩
    · rw [if_neg e]; exact Or.inr ⟨e, by omega⟩
/-- a column's pattern begins -/
theorem SX.start {kd : Int} {P1 : PH} (hb : BdM P1) (e43 : P1 0 43 = 1) (e24 : P1 24 1 = kd) (hk : kd = 4 ∨ kd ≤ 3) (e25 : P1 25 1 = 0) : SX (2800 * P1 0 37 + P1 0 36) 0 P1 ∧ pot P1 = 5 * P1 0 36 := by
  have as : asum P1 (1 : Int).toNat = 0 := by
    have a1 := asum_s (P := P1) (k := 1) (by omega)
    rw [e25, if_neg (by decide)] at a1
    rw [a1]; rfl
  refine ⟨?_, ?_⟩
  · unfold SX
    rw [e43]
    refine ⟨⟨by omega, by omega, by omega⟩, fun j j0 j1 => ?_, fun j j0 j1 => by omega, ?_, fun n hn => by omega, fun j j0 j1 => by omega, by omega, by have q36 := b0_36 hb; omega⟩
    · rw [show j = 1 by omega, e24]; omega
    · rw [show (2800 * P1 0 37 + P1 0 36 - (2800 * P1 0 37 + P1 0 36)).toNat = 0 by omega, as]; rfl
  · unfold pot
    rw [e43, as]
    show _ + _ + crd P1 1 = _
    show _ + _ + (0 + 0) = _
    omega
/-- the codes of the columns so far, of the arm that is being told -/
def ZA (m : Int) (P : PH) : Prop := ∀ c : Int, 0 ≤ c → c < m → WF P (P 0 37) (2800 * P 0 37 + P 17 (4 * (12 * P 0 37 + P 13 (P 0 37)) + c)) (2800 * P 0 37 + P 18 (4 * (12 * P 0 37 + P 13 (P 0 37)) + c)) ∧ P 18 (4 * (12 * P 0 37 + P 13 (P 0 37)) + c) ≤ P 0 36
theorem ZA.fr {m : Int} {P P1 : PH} {F : FS} (h : ZA m P) (hf : FrM F P P1) (hd : disF F ([36, 37], [5, 7, 13, 17, 18, 19, 20, 21]) = true) : ZA m P1 := by
  unfold disF at hd
  simp only [List.all_cons, List.all_nil, Bool.and_true, Bool.and_eq_true, Bool.not_eq_true'] at hd
  obtain ⟨⟨d36, d37⟩, d5, d7, d13, d17, d18, d19, d20, d21⟩ := hd
  have e19 := hf.2 19 rfl d19
  intro c c0 c1
  obtain ⟨h1, h2⟩ := h c c0 c1
  rw [hf.1 36 d36, hf.1 37 d37, hf.2 13 rfl d13, hf.2 17 rfl d17, hf.2 18 rfl d18]
  refine ⟨?_, h2⟩
  intro n hn
  have h3 := h1 n hn
  rw [hts_eq (P := P) n (fun j _ _ => by rw [e19])]
  unfold okc at h3 ⊢
  rw [hf.2 5 rfl d5, hf.2 7 rfl d7, e19, hf.2 20 rfl d20, hf.2 21 rfl d21]
  exact h3
theorem ZA.zero {P : PH} : ZA 0 P := fun c c0 c1 => by omega
/-- the rows of codes stay -/
theorem WF.row {P P1 : PH} {b f e : Int} (h : WF P b f e) (r5 : ∀ j, P1 5 j = P 5 j) (r7 : ∀ j, P1 7 j = P 7 j) (r19 : ∀ j, P1 19 j = P 19 j) (r20 : ∀ j, P1 20 j = P 20 j) (r21 : ∀ j, P1 21 j = P 21 j) : WF P1 b f e := by
  intro n hn
  have h3 := h n hn
  rw [hts_eq (P := P) n (fun j _ _ => r19 j)]
  unfold okc at h3 ⊢
  rw [r5, r19, r20, r21, r7]
  exact h3
/-- a column's pattern is told -/
theorem ZA.next {m i a : Int} {P P0 P1 P2 : PH} (h : ZA m P) (hb0 : BdM P0) (ei : P 0 37 = i) (ea : P 13 i = a) (hm : 0 ≤ m) (i0 : P0 0 37 = i) (r0_36 : P0 0 36 = P 0 36) (o17 : ∀ j : Int, j ≠ 4 * (12 * i + a) + m → P0 17 j = P 17 j) (e17 : P0 17 (4 * (12 * i + a) + m) = P 0 36) (r0 : FrM ([3, 4, 5, 6, 7, 8, 9, 12], [17]) P P0) (hl : LO P0 P1) (r1 : FrM ([3, 4, 5, 6, 7, 8, 9, 12, 36, 43], [19, 20, 21, 24, 25, 26, 27]) P0 P1) (hw : WF P1 i (2800 * i + P0 0 36) (2800 * i + P1 0 36)) (o18 : ∀ j : Int, j ≠ 4 * (12 * i + a) + m → P2 18 j = P1 18 j) (e18 : P2 18 (4 * (12 * i + a) + m) = P1 0 36) (r2 : FrM ([], [18]) P1 P2) : ZA (m + 1) P2 := by
  obtain ⟨l1, l2, l3⟩ := hl
  have q5 : ∀ j, P2 5 j = P1 5 j := fun j => by rw [r2.2 5 rfl rfl]
  have q7 : ∀ j, P2 7 j = P1 7 j := fun j => by rw [r2.2 7 rfl rfl]
  have q19 : ∀ j, P2 19 j = P1 19 j := fun j => by rw [r2.2 19 rfl rfl]
  have q20 : ∀ j, P2 20 j = P1 20 j := fun j => by rw [r2.2 20 rfl rfl]
  have q21 : ∀ j, P2 21 j = P1 21 j := fun j => by rw [r2.2 21 rfl rfl]
  have k37 : P2 0 37 = i := by rw [r2.1 37 rfl, l1, i0]
  have k36 : P2 0 36 = P1 0 36 := r2.1 36 rfl
  have k13 : P2 13 i = a := by rw [r2.2 13 rfl rfl, r1.2 13 rfl rfl, r0.2 13 rfl rfl]; exact ea
  have k17 : ∀ j, P2 17 j = P0 17 j := fun j => by rw [r2.2 17 rfl rfl, r1.2 17 rfl rfl]
  intro c c0 c1
  rw [k37, k13, k36, k17]
  by_cases e : c = m
  · rw [e, e17, e18, ← r0_36]
    exact ⟨hw.row q5 q7 q19 q20 q21, Int.le_refl _⟩
  · obtain ⟨h1, h2⟩ := h c c0 (by omega)
    rw [ei, ea] at h1
    rw [ei, ea] at h2
    rw [o17 _ (by omega), o18 _ (by omega), r1.2 18 rfl rfl, r0.2 18 rfl rfl]
    have w0 : WF P0 i (2800 * i + P 17 (4 * (12 * i + a) + c)) (2800 * i + P 18 (4 * (12 * i + a) + c)) := h1.row (fun j => by rw [r0.2 5 rfl rfl]) (fun j => by rw [r0.2 7 rfl rfl]) (fun j => by rw [r0.2 19 rfl rfl]) (fun j => by rw [r0.2 20 rfl rfl]) (fun j => by rw [r0.2 21 rfl rfl])
    refine ⟨(w0.eq hb0 (fun j j0 j1 => l3 j (by rw [i0]; omega)) (by rw [r1.2 5 rfl rfl]) (fun x _ _ => by rw [r1.2 7 rfl rfl])).row q5 q7 q19 q20 q21, by omega⟩
/-- the arm is counted -/
theorem ZS.arm {i a : Int} {P P1 : PH} (h : ZS P) (ei : P 0 37 = i) (ea : P 13 i = a) (ha : ZA (P 11 i) P) (o13 : ∀ j : Int, j ≠ i → P1 13 j = P 13 j) (e13 : P1 13 i = a + 1) (hf : FrM ([], [13]) P P1) : ZS P1 := by
  have k11 : ∀ j, P1 11 j = P 11 j := fun j => by rw [hf.2 11 rfl rfl]
  intro b x c b0 b1 x0 x1 c0 c1
  rw [k11] at c1
  rw [hf.1 36 rfl, hf.1 37 rfl, hf.2 17 rfl rfl, hf.2 18 rfl rfl]
  have hgo : WF P b (2800 * b + P 17 (4 * (12 * b + x) + c)) (2800 * b + P 18 (4 * (12 * b + x) + c)) ∧ (b = P 0 37 → P 18 (4 * (12 * b + x) + c) ≤ P 0 36) := by
    by_cases e : b = i
    · rcases (show x < a ∨ x = a by rw [e, e13] at x1; omega) with q | q
      · exact h b x c b0 b1 x0 (by rw [e, ea]; exact q) c0 c1
      · obtain ⟨h1, h2⟩ := ha c c0 (by rw [← e]; exact c1)
        rw [ei, ea] at h1
        rw [ei, ea] at h2
        rw [e, q]
        exact ⟨h1, fun _ => h2⟩
    · rw [o13 b e] at x1
      exact h b x c b0 b1 x0 x1 c0 c1
  exact ⟨hgo.1.row (fun j => by rw [hf.2 5 rfl rfl]) (fun j => by rw [hf.2 7 rfl rfl]) (fun j => by rw [hf.2 19 rfl rfl]) (fun j => by rw [hf.2 20 rfl rfl]) (fun j => by rw [hf.2 21 rfl rfl]), hgo.2⟩
/-- the rows of an arm that isn't counted may change -/
theorem ZS.pat {P P1 : PH} {F : FS} {i a : Int} (h : ZS P) (ei : P 0 37 = i) (ea : P 13 i = a) (hi : 0 ≤ i ∧ i ≤ 1) (hb : BdM P) (ha : a ≤ 11) (o17 : ∀ j : Int, (j < 4 * (12 * i + a) ∨ 4 * (12 * i + a) + 3 < j) → P1 17 j = P 17 j) (o18 : ∀ j : Int, (j < 4 * (12 * i + a) ∨ 4 * (12 * i + a) + 3 < j) → P1 18 j = P 18 j) (hf : FrM F P P1) (hd : disF F ([36, 37], [5, 7, 11, 13, 19, 20, 21]) = true) : ZS P1 := by
  unfold disF at hd
  simp only [List.all_cons, List.all_nil, Bool.and_true, Bool.and_eq_true, Bool.not_eq_true'] at hd
  obtain ⟨⟨d36, d37⟩, d5, d7, d11, d13, d19, d20, d21⟩ := hd
  intro b x c b0 b1 x0 x1 c0 c1
  rw [hf.2 13 rfl d13] at x1
  rw [hf.2 11 rfl d11] at c1
  obtain ⟨h1, h2⟩ := h b x c b0 b1 x0 x1 c0 c1
  have q11 := bl_11 (k := b) hb
  have q13 := bl_13 (k := b) hb
  have q13i := bl_13 (k := i) hb
  rw [ea] at q13i
  have hx : 4 * (12 * b + x) + c < 4 * (12 * i + a) ∨ 4 * (12 * i + a) + 3 < 4 * (12 * b + x) + c := by
    by_cases e : b = i
    · rw [e, ea] at x1; rw [e]; omega
    · omega
  rw [o17 _ hx, o18 _ hx, hf.1 36 d36, hf.1 37 d37]
  exact ⟨h1.row (fun j => by rw [hf.2 5 rfl d5]) (fun j => by rw [hf.2 7 rfl d7]) (fun j => by rw [hf.2 19 rfl d19]) (fun j => by rw [hf.2 20 rfl d20]) (fun j => by rw [hf.2 21 rfl d21]), h2⟩
theorem pot_c (P : PH) : 5 * P 0 36 ≤ pot P := by
  have q1 := asum_b P (P 0 43).toNat
  have q2 := crd_b P (P 0 43).toNat
  unfold pot; omega
/-- the pattern is whole -/
theorem SX.done {f : Int} {P : PH} (h : SX f 0 P) (h1 : P 0 43 = 1) (hz : 0 < P 25 1) : WF P (P 0 37) f (2800 * P 0 37 + P 0 36) ∧ pot P = 5 * P 0 36 + 5 := by
  refine ⟨h.2.2.2.2.1, ?_⟩
  unfold pot
  have a1 := asum_s (P := P) (k := 1) (by omega)
  rw [if_pos hz] at a1
  rw [h1, a1]
  show _ + 5 * (0 + 1) + (0 + 0) = _
  omega
/-- the top's alternative is counted, whether it is the first or not -/
theorem SX.count {f : Int} {P P1 : PH} (hA : (SX f 0 P ∧ 0 < P 25 (P 0 43)) ∨ (SX f 1 P ∧ P 25 (P 0 43) ≤ 0)) (e36 : P1 0 36 = P 0 36) (e37 : P1 0 37 = P 0 37) (e43 : P1 0 43 = P 0 43) (o25 : ∀ j : Int, j ≠ P 0 43 → P1 25 j = P 25 j) (hz : 0 < P1 25 (P 0 43)) (hle : P1 25 (P 0 43) ≤ P 0 36) (r5 : ∀ j, P1 5 j = P 5 j) (r6 : ∀ j, P1 6 j = P 6 j) (r7 : ∀ j, P1 7 j = P 7 j) (r19 : ∀ j, P1 19 j = P 19 j) (r20 : ∀ j, P1 20 j = P 20 j) (r21 : ∀ j, P1 21 j = P 21 j) (r24 : ∀ j, P1 24 j = P 24 j) (r26 : ∀ j, P1 26 j = P 26 j) (r27 : ∀ j, P1 27 j = P 27 j) : SX f 0 P1 ∧ ((0 < P 25 (P 0 43) ∧ pot P1 = pot P) ∨ (P 25 (P 0 43) ≤ 0 ∧ pot P1 = pot P + 5)) := by
  rcases hA with ⟨h, hx⟩ | ⟨h, hx⟩
  · have hp := pot_alts h.1.1 e36 e43 o25 hz r27
    rw [if_pos hx] at hp
    exact ⟨h.alts e36 e37 e43 o25 hz (by omega) (by rw [if_pos hx]; omega) r5 r6 r7 r19 r20 r21 r24 r26 r27, Or.inl ⟨hx, by omega⟩⟩
  · have hp := pot_alts h.1.1 e36 e43 o25 hz r27
    rw [if_neg (by omega)] at hp
    exact ⟨h.alts e36 e37 e43 o25 hz (by omega) (by rw [if_neg (by omega)]; omega) r5 r6 r7 r19 r20 r21 r24 r26 r27, Or.inr ⟨hx, by omega⟩⟩
/-- the top's alternatives are more than none -/
def TP (P : PH) : Prop := 0 < P 25 (P 0 43)
theorem TP.fr {P P1 : PH} {F : FS} (h : TP P) (hf : FrM F P P1) (hd : disF F ([43], [25]) = true) : TP P1 := by
  unfold disF at hd
  simp only [List.all_cons, List.all_nil, Bool.and_true, Bool.true_and, Bool.and_eq_true, Bool.not_eq_true'] at hd
  unfold TP at h ⊢
  rw [hf.1 43 hd.1, hf.2 25 rfl hd.2]
  exact h
theorem ZA.mono {m k : Int} {P : PH} (h : ZA m P) (hk : k ≤ m) : ZA k P := fun c c0 c1 => h c c0 (by omega)
/-- .. or something was wrong -/
def ZB (x m : Int) (P : PH) : Prop := 0 < x ∨ ZA m P
theorem ZB.fr {x m : Int} {P P1 : PH} {F : FS} (h : ZB x m P) (hf : FrM F P P1) (hd : disF F ([36, 37], [5, 7, 13, 17, 18, 19, 20, 21]) = true) : ZB x m P1 := h.elim Or.inl (fun h => Or.inr (h.fr hf hd))
/-- heights at a code -/
def hN (P : PH) (f c : Int) : Int := (hts P f (c - f).toNat).1
def hD (P : PH) (f c : Int) : Int := (hts P f (c - f).toNat).2
theorem hN_0 {P : PH} {f : Int} : (0 : Int) = hN P f f := by unfold hN; rw [show (f - f).toNat = 0 by omega]; rfl
theorem hD_0 {P : PH} {f : Int} : (0 : Int) = hD P f f := by unfold hD; rw [show (f - f).toNat = 0 by omega]; rfl
theorem hts_at {P : PH} {f c : Int} (h : f ≤ c) : (P 19 c = 3 ∧ hN P f (c + 1) = hN P f c ∧ hD P f (c + 1) = hD P f c + 1) ∨ (P 19 c = 4 ∧ hN P f (c + 1) = hN P f c ∧ hD P f (c + 1) = hD P f c - 1) ∨ (5 ≤ P 19 c ∧ hN P f (c + 1) = hN P f c - 1 ∧ hD P f (c + 1) = hD P f c) ∨ (P 19 c ≤ 2 ∧ hN P f (c + 1) = hN P f c + 1 ∧ hD P f (c + 1) = hD P f c) := by
  unfold hN hD
  rw [show (c + 1 - f).toNat = (c - f).toNat + 1 by omega]
  show (_ ∧ (stp (P 19 (f + ((c - f).toNat : Int))) _).1 = _ ∧ (stp (P 19 (f + ((c - f).toNat : Int))) _).2 = _) ∨ (_ ∧ (stp (P 19 (f + ((c - f).toNat : Int))) _).1 = _ ∧ (stp (P 19 (f + ((c - f).toNat : Int))) _).2 = _) ∨ (_ ∧ (stp (P 19 (f + ((c - f).toNat : Int))) _).1 = _ ∧ (stp (P 19 (f + ((c - f).toNat : Int))) _).2 = _) ∨ (_ ∧ (stp (P 19 (f + ((c - f).toNat : Int))) _).1 = _ ∧ (stp (P 19 (f + ((c - f).toNat : Int))) _).2 = _)
  rw [show f + (((c - f).toNat : Nat) : Int) = c by omega]
  unfold stp
  by_cases h3 : P 19 c = 3
  · rw [if_pos h3]; exact Or.inl ⟨h3, rfl, rfl⟩
  · rw [if_neg h3]
    by_cases h4 : P 19 c = 4
    · rw [if_pos h4]; exact Or.inr (Or.inl ⟨h4, rfl, rfl⟩)
    · rw [if_neg h4]
      by_cases h5 : 5 ≤ P 19 c
      · rw [if_pos h5]; exact Or.inr (Or.inr (Or.inl ⟨h5, rfl, rfl⟩))
      · rw [if_neg h5]; exact Or.inr (Or.inr (Or.inr ⟨by omega, rfl, rfl⟩))
theorem WF.at {P : PH} {b f e c : Int} (h : WF P b f e) (hc : f ≤ c) (he : c < e) : (0 ≤ hN P f c ∧ hN P f c ≤ 800) ∧ (0 ≤ hD P f c ∧ hD P f c ≤ 10) ∧ (P 19 c = 3 → P 20 c < P 5 b ∧ P 21 c < P 7 (24 * b + P 20 c)) ∧ (P 19 c = 4 → 1 ≤ hD P f c) ∧ (5 ≤ P 19 c → 2 ≤ hN P f c) := by
  have h1 := h (c - f).toNat (by omega)
  rw [show f + (((c - f).toNat : Nat) : Int) = c by omega] at h1
  obtain ⟨a1, a2, a3, a4, a5, a6, a7⟩ := h1
  exact ⟨⟨a1, a2⟩, ⟨a3, a4⟩, a5, a6, a7⟩
end
section
/-! When a new telling begins. -/
theorem prd_up0 {P : PH} {k z b : Int} : prdU (up P 0 k z) b ((up P 0 k z) 11 b).toNat = prdU P b (P 11 b).toNat := prd_fr (F := ([k], [])) (FrM.s FrM.rf (by simp)) rfl
/-! A new telling begins. -/
theorem ZT.fresh {P P1 : PH} {i : Int} (h : ZT P) (o2 : ∀ j : Int, j ≠ i → P1 2 j = P 2 j) (o5 : ∀ j : Int, j ≠ i → P1 5 j = P 5 j) (e5 : P1 5 i = 0) (r3 : ∀ j, P1 3 j = P 3 j) (r6 : ∀ j, P1 6 j = P 6 j) (r7 : ∀ j, P1 7 j = P 7 j) (r8 : ∀ j, P1 8 j = P 8 j) (r10 : ∀ j, P1 10 j = P 10 j) : ZT P1 := by
  intro b c b0 b1 c0 c1
  have hne : b ≠ i := fun e => by rw [e, e5] at c1; omega
  rw [o5 b hne] at c1
  obtain ⟨h1, h2⟩ := h b c b0 b1 c0 c1
  exact ⟨by rw [r6, o2 b hne]; exact h1, h2.eq (r7 _) (r10 _) (fun f _ _ => ⟨r8 _, vals_eq fun _ => r3 _⟩)⟩
theorem ZO.fresh {P P1 : PH} {i : Int} (h : ZO P) (o2 : ∀ j : Int, j ≠ i → P1 2 j = P 2 j) (e2 : P1 2 i = 0) (o5 : ∀ j : Int, j ≠ i → P1 5 j = P 5 j) (r3 : ∀ j, P1 3 j = P 3 j) (r6 : ∀ j, P1 6 j = P 6 j) (r9 : ∀ j, P1 9 j = P 9 j) (r10 : ∀ j, P1 10 j = P 10 j) : ZO P1 := by
  intro b k v b0 b1 k0 k1 v0 v1
  have hne : b ≠ i := fun e => by rw [e, e2] at k1; omega
  rw [o2 b hne] at k1
  rw [r3] at v1
  obtain ⟨c, a1, a2, a3, a4, a5⟩ := h b k v b0 b1 k0 k1 v0 v1
  exact ⟨c, a1, by rw [o5 b hne]; exact a2, by rw [r6]; exact a3, by rw [r9]; exact a4, by rw [r9, r10]; exact a5⟩
theorem ZC.fresh {P P1 : PH} {i : Int} (h : ZC P) (o2 : ∀ j : Int, j ≠ i → P1 2 j = P 2 j) (o11 : ∀ j : Int, j ≠ i → P1 11 j = P 11 j) (e11 : P1 11 i = 0) (r3 : ∀ j, P1 3 j = P 3 j) (r12 : ∀ j, P1 12 j = P 12 j) : ZC P1 := by
  intro b c b0 b1 c0 c1
  have hne : b ≠ i := fun e => by rw [e, e11] at c1; omega
  rw [o11 b hne] at c1
  rw [r12, r3, o2 b hne]
  exact h b c b0 b1 c0 c1
theorem ZS.fresh {P P1 : PH} {i : Int} (h : ZS P) (e37 : P1 0 37 = i) (o5 : ∀ j : Int, j ≠ i → P1 5 j = P 5 j) (o11 : ∀ j : Int, j ≠ i → P1 11 j = P 11 j) (o13 : ∀ j : Int, j ≠ i → P1 13 j = P 13 j) (e13 : P1 13 i = 0) (r7 : ∀ j, P1 7 j = P 7 j) (r17 : ∀ j, P1 17 j = P 17 j) (r18 : ∀ j, P1 18 j = P 18 j) (r19 : ∀ j, P1 19 j = P 19 j) (r20 : ∀ j, P1 20 j = P 20 j) (r21 : ∀ j, P1 21 j = P 21 j) : ZS P1 := by
  intro b a c b0 b1 a0 a1 c0 c1
  have hne : b ≠ i := fun e => by rw [e, e13] at a1; omega
  rw [o13 b hne] at a1
  rw [o11 b hne] at c1
  obtain ⟨h1, h2⟩ := h b a c b0 b1 a0 a1 c0 c1
  rw [r17, r18, e37]
  refine ⟨?_, fun e => absurd e hne⟩
  intro n hn
  have h3 := h1 n hn
  rw [hts_eq (P := P) n (fun j _ _ => r19 j)]
  unfold okc at h3 ⊢
  rw [o5 b hne, r19, r20, r21, r7]
  exact h3
end
