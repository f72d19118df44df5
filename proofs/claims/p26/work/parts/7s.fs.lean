section
/-! The reader's rows of values that fit: what fill, fillCase, setPattern leave. -/
/-- the row o is w from a to b, else as in P; the other rows are as in P -/
def FLx (o : Nat) (a b w : Int) (P P1 : PH) : Prop := (∀ v : Int, 0 ≤ v → P1 o v = if a ≤ v ∧ v ≤ b then w else P o v) ∧ ∀ i : Nat, kx i 50 → i ≠ o → ∀ v : Int, P1 i v = P i v
theorem FLx.fr {o : Nat} {a b w : Int} {P P1 P2 : PH} {F : FSX} (h : FLx o a b w P P1) (ho : kx o 50) (hf : FrX F P1 P2) (hd : disX F ([], [50]) = true) : FLx o a b w P P2 :=
  ⟨fun v h0 => (disX_a hd hf ho (by decide) v).trans (h.1 v h0), fun i hi hn v => (disX_a hd hf hi (by decide) v).trans (h.2 i hi hn v)⟩
theorem FLx.pre {o : Nat} {a b w : Int} {P0 P P1 : PH} (h : FLx o a b w P P1) (e : ∀ i : Nat, kx i 50 → ∀ v : Int, P i v = P0 i v) (ho : kx o 50) : FLx o a b w P0 P1 :=
  ⟨fun v h0 => by rw [h.1 v h0, e o ho], fun i hi hn v => (h.2 i hi hn v).trans (e i hi v)⟩
theorem FLx.start {o : Nat} {a l w : Int} {P : PH} (hl : l ≤ a ∨ l ≤ 0) : FLx o a (l - 1) w P P :=
  ⟨fun v h0 => by rw [if_neg (by omega)], fun _ _ _ _ => rfl⟩
theorem FLx.step {o : Nat} {a l w : Int} {P P1 : PH} (h : FLx o a (l - 1) w P P1) (ha : a ≤ l) : FLx o a (l + 1 - 1) w P (up P1 o l w) := by
  refine ⟨fun v h0 => ?_, fun i hi hn v => (up_o hn).trans (h.2 i hi hn v)⟩
  by_cases e : v = l
  · rw [e, up_same, if_pos (by omega)]
  · rw [up_k e, h.1 v h0]
    by_cases q : a ≤ v ∧ v ≤ l - 1
    · rw [if_pos q, if_pos (by omega)]
    · rw [if_neg q, if_neg (by omega)]
/-- the end of a filling -/
theorem FLx.end {o : Nat} {a b l w : Int} {P P1 : PH} (h : FLx o a (l - 1) w P P1) (e : l = b + 1 ∨ (l ≤ a ∧ b < a) ∨ (l ≤ 0 ∧ b < 0)) : FLx o a b w P P1 := by
  refine ⟨fun v h0 => ?_, h.2⟩
  rw [h.1 v h0]
  by_cases q : a ≤ v ∧ v ≤ l - 1
  · rw [if_pos q, if_pos (by omega)]
  · rw [if_neg q, if_neg (by omega)]
theorem fr9_k {j : Int} (h : 0 ≤ j ∧ j ≤ 9) : kx (fr9 j) 50 := (show ∀ n : Nat, n < 10 → crX 114 n < 154 ∧ kdX (crX 114 n) = 50 by decide +kernel) j.toNat (by omega)
theorem fr9_i {i j : Int} (hi : 0 ≤ i ∧ i ≤ 9) (hj : 0 ≤ j ∧ j ≤ 9) (h : i ≠ j) : fr9 i ≠ fr9 j := by
  have q := (show ∀ n : Nat, n < 10 → ∀ m : Nat, m < 10 → crX 114 n = crX 114 m → n = m by decide +kernel) i.toNat (by omega) j.toNat (by omega)
  intro e
  have := q e
  omega
/-- the rows of no greater depth -/
theorem FLx.fo {j a b w e : Int} {P P1 : PH} (h : FLx (fr9 j) a b w P P1) (hj : 0 ≤ j ∧ j ≤ 9) (he : e ≤ 4) : FO j e P P1 := fun i hi hl v => by
  have q := fr9_i (i := (i : Int)) (by omega) hj hi
  have k := fr9_k (j := (i : Int)) (by omega)
  unfold fr9 at q k
  rw [Int.toNat_natCast] at q k
  exact h.2 _ k q v
theorem FLx.fu {j n : Int} {a b : Int} {P P1 : PH} {d : Int → Int} (h : FLx (fr9 j) a b 1 P P1) (e : ∀ v : Int, 0 ≤ v → v < n → (d v = 1 ↔ (a ≤ v ∧ v ≤ b))) : FU (fr9 j) n d P P1 := fun v h0 h1 => by
  rw [h.1 v h0]
  by_cases q : a ≤ v ∧ v ≤ b
  · rw [if_pos q, if_pos ((e v h0 h1).mpr q)]
  · rw [if_neg q, if_neg (fun z => q ((e v h0 h1).mp z))]
/-- the values of a constructor whose fields fit -/
abbrev cFi (K : PH) (c : Int) (A B : Int → Int) (v : Int) : Prop := K 10 c ≤ v ∧ A ((v - K 10 c) / (if K 6 c = 2 then sz K (K 8 c) else 1)) ≠ 0 ∧ (K 6 c ≠ 2 ∨ B ((v - K 10 c) % (if K 6 c = 2 then sz K (K 8 c) else 1)) ≠ 0)
def FCx (K : PH) (c n : Int) (o : Nat) (A B : Int → Int) (P P1 : PH) : Prop := (∀ v : Int, 0 ≤ v → P1 o v = if v < n ∧ cFi K c A B v then 1 else P o v) ∧ ∀ i : Nat, kx i 50 → i ≠ o → ∀ v : Int, P1 i v = P i v
theorem FCx.start {K : PH} {c n : Int} {o : Nat} {A B : Int → Int} {P : PH} (hn : n ≤ K 10 c) : FCx K c n o A B P P :=
  ⟨fun v h0 => by rw [if_neg (fun q => by have := q.2.1; omega)], fun _ _ _ _ => rfl⟩
/-- a value more that doesn't fit -/
theorem FCx.skip {K : PH} {c n m : Int} {o : Nat} {A B : Int → Int} {P P1 : PH} (h : FCx K c n o A B P P1) (hm : n ≤ m) (hn : ∀ v : Int, n ≤ v → v < m → ¬ cFi K c A B v) : FCx K c m o A B P P1 := by
  refine ⟨fun v h0 => ?_, h.2⟩
  rw [h.1 v h0]
  by_cases q : v < n ∧ cFi K c A B v
  · rw [if_pos q, if_pos ⟨by omega, q.2⟩]
  · rw [if_neg q]
    by_cases q2 : v < m ∧ cFi K c A B v
    · exact absurd q2.2 (hn v (by by_cases z : v < n; exact absurd ⟨z, q2.2⟩ q; omega) q2.1)
    · rw [if_neg q2]
/-- a value more that fits -/
theorem FCx.put {K : PH} {c n : Int} {o : Nat} {A B : Int → Int} {P P1 P2 : PH} (h : FCx K c n o A B P P1) (hc : cFi K c A B n) (ho : kx o 50) (hf : FLx o n n 1 P1 P2) : FCx K c (n + 1) o A B P P2 := by
  refine ⟨fun v h0 => ?_, fun i hi hn v => (hf.2 i hi hn v).trans (h.2 i hi hn v)⟩
  rw [hf.1 v h0]
  by_cases e : v = n
  · rw [if_pos (by omega), if_pos ⟨by omega, by rw [e]; exact hc⟩]
  · rw [if_neg (by omega), h.1 v h0]
    by_cases q : v < n ∧ cFi K c A B v
    · rw [if_pos q, if_pos ⟨by omega, q.2⟩]
    · rw [if_neg q, if_neg (fun z => q ⟨by omega, z.2⟩)]
/-- the place of a value in its constructor -/
theorem cFi_at {K : PH} {c a b s : Int} {A B : Int → Int} (hs : s = if K 6 c = 2 then sz K (K 8 c) else 1) (hb : 0 ≤ b ∧ b < s) (h0 : 0 ≤ a) : cFi K c A B (K 10 c + a * s + b) ↔ (A a ≠ 0 ∧ (K 6 c ≠ 2 ∨ B b ≠ 0)) := by
  unfold cFi
  rw [← hs, show K 10 c + a * s + b - K 10 c = b + a * s by omega, Int.add_mul_ediv_right _ _ (by omega), Int.add_mul_emod_self_right, Int.ediv_eq_zero_of_lt hb.1 hb.2, Int.emod_eq_of_lt hb.1 hb.2, Int.zero_add]
  have : 0 ≤ a * s := Int.mul_nonneg h0 (by omega)
  constructor
  · intro q; exact q.2
  · intro q; exact ⟨by omega, q⟩
/-- a whole block of values whose first field doesn't fit -/
theorem cFi_no {K : PH} {c a s : Int} {A B : Int → Int} (hs : s = if K 6 c = 2 then sz K (K 8 c) else 1) (h1 : 1 ≤ s) (h0 : 0 ≤ a) (hA : A a = 0) : ∀ v : Int, K 10 c + a * s ≤ v → v < K 10 c + (a + 1) * s → ¬ cFi K c A B v := by
  intro v v0 v1 q
  have e : v = K 10 c + a * s + (v - (K 10 c + a * s)) := by omega
  have e2 : (a + 1) * s = a * s + s := by rw [Int.add_mul, Int.one_mul]
  rw [e, cFi_at hs ⟨by omega, by omega⟩ h0] at q
  exact q.1 hA
/-- the values of a constructor by what its fields' codes say -/
theorem cFi_d {K : PH} {c v : Int} {A B dA dB : Int → Int} (hK : K 6 c = 1 ∨ K 6 c = 2) (hr : inR K c v) (hc : cpr K c = if K 6 c = 2 then sz K (K 7 c) * sz K (K 8 c) else sz K (K 7 c)) (h1 : 1 ≤ sz K (K 7 c)) (h2 : K 6 c = 2 → 1 ≤ sz K (K 8 c))
    (eA : ∀ w : Int, 0 ≤ w → w < sz K (K 7 c) → A w = if dA w = 1 then 1 else 0) (eB : K 6 c = 2 → ∀ w : Int, 0 ≤ w → w < sz K (K 8 c) → B w = if dB w = 1 then 1 else 0) :
    cFi K c A B v ↔ (dA (fdV K v c 0) = 1 ∧ (K 6 c = 2 → dB (fdV K v c 1) = 1)) := by
  have hr0 : 0 ≤ v - K 10 c ∧ v - K 10 c < cpr K c := by unfold inR at hr; omega
  have k01 : ∀ x : Int, ((if x = 1 then (1 : Int) else 0) ≠ 0) ↔ x = 1 := fun x => by
    by_cases z : x = 1
    · rw [if_pos z]; exact ⟨fun _ => z, fun _ => by decide⟩
    · rw [if_neg z]; exact ⟨fun q => absurd rfl q, fun q => absurd q z⟩
  rcases hK with hk | hk
  · unfold cFi fdV
    rw [if_pos hr, if_pos hk, if_neg (by omega), Int.ediv_one]
    rw [if_neg (by omega)] at hc
    rw [eA _ hr0.1 (by omega), k01]
    constructor
    · intro q; exact ⟨q.2.1, fun z => by omega⟩
    · intro q; exact ⟨by omega, q.1, Or.inl (by omega)⟩
  · have hs := h2 hk
    have hk1 : ¬ K 6 c = 1 := by omega
    unfold cFi fdV
    simp only [if_pos hr, if_neg hk1, if_pos hk, if_neg (show ¬ (1 : Int) = 0 by decide), if_pos (rfl : (0 : Int) = 0)]
    rw [if_pos hk] at hc
    have q1 : 0 ≤ (v - K 10 c) / sz K (K 8 c) := Int.ediv_nonneg hr0.1 (by omega)
    have q2 : (v - K 10 c) / sz K (K 8 c) < sz K (K 7 c) := Int.ediv_lt_of_lt_mul (by omega) (by omega)
    have q3 := Int.emod_nonneg (v - K 10 c) (show sz K (K 8 c) ≠ 0 by omega)
    have q4 := Int.emod_lt_of_pos (v - K 10 c) (show 0 < sz K (K 8 c) by omega)
    rw [eA _ q1 q2, eB hk _ q3 q4, k01, k01]
    constructor
    · intro q; exact ⟨q.2.1, fun _ => q.2.2.resolve_left (fun z => z hk)⟩
    · intro q; exact ⟨by omega, q.1, Or.inr (q.2 hk)⟩
/-! The table's rows: the arms that a value fits. -/
def XF (K M : PH) (F : FT) (o : Nat) (P : PH) : Prop := kx o 28 ∧ ∀ c v : Int, 0 ≤ c → c < M 0 0 → 0 ≤ v → v < sz K (M 1 c) → P (crX (crX o 5) c.toNat) v = msk K F c v (M 0 2).toNat
theorem XF.no {K M : PH} {F : FT} {o : Nat} {P : PH} (hk : kx o 28) (h : M 0 0 ≤ 0) : XF K M F o P := ⟨hk, fun c v h0 h1 => by omega⟩
theorem XF.cg {K M K1 M1 : PH} {F F1 : FT} {o : Nat} {P : PH} (h : XF K M F o P) (e : ∀ c v : Int, 0 ≤ c → c < M1 0 0 → 0 ≤ v → v < sz K1 (M1 1 c) → c < M 0 0 ∧ v < sz K (M 1 c) ∧ msk K1 F1 c v (M1 0 2).toNat = msk K F c v (M 0 2).toNat) : XF K1 M1 F1 o P :=
  ⟨h.1, fun c v h0 h1 h2 h3 => by obtain ⟨a, b, d⟩ := e c v h0 h1 h2 h3; rw [d]; exact h.2 c v h0 a h2 b⟩
theorem ior_comm9 (x y : Int) : ior x y = ior y x := by unfold ior; rw [Int32.or_comm]
theorem ior_bit {x : Int} {A : Nat} (hA : A ≤ 11) (hx : 0 ≤ x ∧ x < 2 ^ A) : ior x (2 ^ A) = x + 2 ^ A := by
  have hN : (2 : Nat) ^ A ≤ 2 ^ 11 := Nat.pow_le_pow_right (by decide) hA
  have e : (2 : Int) ^ A = ((2 ^ A : Nat) : Int) := by rw [Int.natCast_pow]; rfl
  rw [e] at hx ⊢
  have hM : ((2 ^ A : Nat) : Int) ≤ ((2 ^ 11 : Nat) : Int) := Int.ofNat_le.mpr hN
  have h9 : ((2 ^ 11 : Nat) : Int) = 2048 := by decide
  have h := ior_hl A (x := x) (y := 1) hx (by decide) (by omega)
  rw [Int.one_mul] at h
  rw [ior_comm9, h]
  omega
/-- the row o has the bit z more at the values below n that fit d -/
def SPx (o : Nat) (z n : Int) (d : Int → Int) (P P1 : PH) : Prop := (∀ v : Int, 0 ≤ v → P1 o v = if v < n ∧ d v = 1 then P o v + z else P o v) ∧ ∀ i : Nat, kx i 44 → i ≠ o → ∀ v : Int, P1 i v = P i v
theorem SPx.start {o : Nat} {z : Int} {d : Int → Int} {P : PH} : SPx o z 0 d P P := ⟨fun v h0 => by rw [if_neg (fun q => by omega)], fun _ _ _ _ => rfl⟩
theorem SPx.skip {o : Nat} {z n : Int} {d : Int → Int} {P P1 : PH} (h : SPx o z n d P P1) (hd : d n ≠ 1) : SPx o z (n + 1) d P P1 := by
  refine ⟨fun v h0 => ?_, h.2⟩
  rw [h.1 v h0]
  by_cases e : v = n
  · rw [if_neg (fun q => by omega), if_neg (fun q => hd (by rw [← e]; exact q.2))]
  · by_cases q : v < n ∧ d v = 1
    · rw [if_pos q, if_pos ⟨by omega, q.2⟩]
    · rw [if_neg q, if_neg (fun w => q ⟨by omega, w.2⟩)]
theorem SPx.put {o : Nat} {z n y : Int} {d : Int → Int} {P P1 : PH} (h : SPx o z n d P P1) (hd : d n = 1) (h0 : 0 ≤ n) (hy : y = P o n + z) : SPx o z (n + 1) d P (up P1 o n y) := by
  refine ⟨fun v v0 => ?_, fun i hi hn v => (up_o hn).trans (h.2 i hi hn v)⟩
  by_cases e : v = n
  · rw [e, up_same, if_pos ⟨by omega, hd⟩]; exact hy
  · rw [up_k e, h.1 v v0]
    by_cases q : v < n ∧ d v = 1
    · rw [if_pos q, if_pos ⟨by omega, q.2⟩]
    · rw [if_neg q, if_neg (fun w => q ⟨by omega, w.2⟩)]
/-- the columns so far of the arm that is told: G its codes, n how many columns -/
def XF1 (K M : PH) (F : FT) (G : Int → List OP) (n : Int) (o : Nat) (P : PH) : Prop := kx o 28 ∧ ∀ c v : Int, 0 ≤ c → c < M 0 0 → 0 ≤ v → v < sz K (M 1 c) → P (crX (crX o 5) c.toNat) v = msk K F c v (M 0 2).toNat + (if c < n ∧ tv K (G c) v = 1 then 2 ^ (M 0 2).toNat else 0)
theorem XF1.start {K M : PH} {F : FT} {G : Int → List OP} {o : Nat} {P : PH} (h : XF K M F o P) : XF1 K M F G 0 o P := ⟨h.1, fun c v h0 h1 h2 h3 => by rw [if_neg (fun q => by omega), Int.add_zero]; exact h.2 c v h0 h1 h2 h3⟩
theorem XF1.col {K M : PH} {F : FT} {G : Int → List OP} {n : Int} {o : Nat} {d : Int → Int} {P P1 : PH} (h : XF1 K M F G n o P) (hn : 0 ≤ n ∧ n < M 0 0 ∧ M 0 0 ≤ 4) (hd : ∀ v : Int, tv K (G n) v = d v) (hs : SPx (crX (crX o 5) n.toNat) (2 ^ (M 0 2).toNat) (sz K (M 1 n)) d P P1) (hk : ∀ j : Nat, j < 4 → kx (crX (crX o 5) j) 44) (hi : ∀ j : Nat, j < 4 → ∀ l : Nat, l < 4 → crX (crX o 5) j = crX (crX o 5) l → j = l) : XF1 K M F G (n + 1) o P1 := by
  refine ⟨h.1, fun c v h0 h1 h2 h3 => ?_⟩
  by_cases e : c = n
  · subst e
    by_cases q : d v = 1
    · rw [hs.1 v h2, if_pos ⟨h3, q⟩, h.2 c v h0 h1 h2 h3, if_neg (fun q => by omega), Int.add_zero, if_pos ⟨by omega, (hd v).trans q⟩]
    · rw [hs.1 v h2, if_neg (fun w => q w.2), h.2 c v h0 h1 h2 h3, if_neg (fun w => q ((hd v).symm.trans w.2)), if_neg (fun w => q ((hd v).symm.trans w.2))]
  · rw [hs.2 _ (hk c.toNat (by omega)) (fun q => e (by have := hi c.toNat (by omega) n.toNat (by omega) q; omega)) v, h.2 c v h0 h1 h2 h3]
    by_cases q : c < n ∧ tv K (G c) v = 1
    · rw [if_pos q, if_pos ⟨by omega, q.2⟩]
    · rw [if_neg q, if_neg (fun w => q ⟨by omega, w.2⟩)]
theorem XF1.fin {K M : PH} {F F1 : FT} {G : Int → List OP} {g n : Int} {o : Nat} {P : PH} (h : XF1 K M F G n o P) (hn : n = M 0 0) (h2 : 0 ≤ M 0 2) (e1 : ∀ c : Int, F1 (M 0 2) c = G c) (e2 : ∀ a c : Int, a ≠ M 0 2 → F1 a c = F a c) : XF K (aNew M g) F1 o P := by
  refine ⟨h.1, fun c v h0 h1 h3 h4 => ?_⟩
  rw [aNew_0.1] at h1
  rw [aNew_1] at h4
  rw [aNew_0.2.1, show (M 0 2 + 1).toNat = (M 0 2).toNat + 1 by omega, msk_up, h.2 c v h0 h1 h3 h4, msk_cg (F := F1) (G := F) _ (fun a ha => e2 a c (by omega)), show (((M 0 2).toNat : Nat) : Int) = M 0 2 by omega, e1]
  by_cases q : tv K (G c) v = 1
  · rw [if_pos ⟨by omega, q⟩, if_pos q]
  · rw [if_neg (fun w => q w.2), if_neg q]
end
section
/-! Codes: the reference's steps that leave the stack, what codes name, the arms' codes in their bank. -/
theorem STK.un {f k : Int} {s : SK} {P P1 : PH} (h : STK f s k P) (q43 : P1 0 43 = P 0 43) (q36 : P1 0 36 = P 0 36) (q37 : P1 0 37 = P 0 37) (q19 : ∀ j, P1 19 j = P 19 j) (q20 : ∀ j, P1 20 j = P 20 j) (q21 : ∀ j, P1 21 j = P 21 j) (q24 : ∀ j, P1 24 j = P 24 j) (q25 : ∀ j, P1 25 j = P 25 j) (q26 : ∀ j : Int, j ≠ P 0 43 → P1 26 j = P 26 j) (q27 : ∀ j : Int, j ≠ P 0 43 → P1 27 j = P 27 j) : STK f s k P1 := by
  obtain ⟨⟨h1, h2⟩, h3, h4, h5, h6, h7⟩ := h
  unfold STK
  rw [q43, q36, q37, q24, q25]
  exact ⟨⟨h1, h2⟩, h3, h4.eq _ (fun j _ j2 => ⟨q24 j, q25 j, q26 j (by omega), q27 j (by omega)⟩), h5, h6, h7.eq _ _ (fun j _ _ => ⟨q19 _, q20 _, q21 _⟩)⟩
theorem STK.or1 {f k : Int} {s : SK} {P P1 : PH} (h : STK f s k P) (h0 : 0 < P 25 (P 0 43)) (h1 : STK f (em s (6, 0, 0)) k P1) : STK f (s.1, s.2.1, orE s.2.1 s.2.2) k P1 := by
  rcases h.2.1 with q | q
  · omega
  · unfold orE
    rw [if_pos (by omega)]
    exact h1
theorem STK.or0 {f k : Int} {s : SK} {P P1 : PH} (h : STK f s k P) (h0 : P 25 (P 0 43) ≤ 0) (h1 : STK f s k P1) : STK f (s.1, s.2.1, orE s.2.1 s.2.2) k P1 := by
  rcases h.2.1 with q | q
  · unfold orE
    rw [if_neg (by omega)]
    exact h1
  · omega
theorem STK.cde {f k : Int} {s : SK} {P P1 : PH} (h : STK f s k P) (q36 : P1 0 36 = P 0 36) (q37 : P1 0 37 = P 0 37) (q19 : ∀ j, P1 19 j = P 19 j) (q20 : ∀ j, P1 20 j = P 20 j) (q21 : ∀ j, P1 21 j = P 21 j) : CDe f s.2.2 P1 := by
  obtain ⟨⟨h1, h2⟩, h3, h4, h5, h6, h7⟩ := h
  unfold CDe
  rw [q36, q37]
  exact ⟨h5, h6, h7.eq _ _ (fun j _ _ => ⟨q19 _, q20 _, q21 _⟩)⟩
theorem CDe.fr {f : Int} {E : List OP} {P P1 : PH} {F : FS} (h : CDe f E P) (hf : FrM F P P1) (hd : disF F ([36, 37], [19, 20, 21]) = true) : CDe f E P1 := by
  obtain ⟨h1, h2, h3⟩ := h
  unfold CDe
  rw [disF_k hd hf (k := 36) (by decide), disF_k hd hf (k := 37) (by decide)]
  refine ⟨h1, h2, h3.eq _ _ (fun j _ _ => ?_)⟩
  rw [disF_o hd hf (o := 19) (by decide) rfl, disF_o hd hf (o := 20) (by decide) rfl, disF_o hd hf (o := 21) (by decide) rfl]
  exact ⟨rfl, rfl, rfl⟩
/-! what codes name -/
def OPw (K : PH) (E : List OP) : Prop := ∀ x, x ∈ E → (x.1 = 2 ∨ x.1 = 3) → 0 ≤ x.2.1 ∧ x.2.1 < K 0 1
theorem OPw.nil {K : PH} : OPw K [] := fun x h => absurd h (by simp)
theorem OPw.cons {K : PH} {E : List OP} {x : OP} (h : OPw K E) (hx : (x.1 = 2 ∨ x.1 = 3) → 0 ≤ x.2.1 ∧ x.2.1 < K 0 1) : OPw K (x :: E) := by
  intro y hy
  rcases List.mem_cons.mp hy with e | e
  · rw [e]; exact hx
  · exact h y e
theorem OPw.no {K : PH} {E : List OP} {x : OP} (h : OPw K E) (hx : x.1 ≠ 2 ∧ x.1 ≠ 3) : OPw K (x :: E) := h.cons (fun q => absurd q (by omega))
theorem OPw.orW {K : PH} {a : Int} {E : List OP} (h : OPw K E) : OPw K (orE a E) := by
  unfold orE
  by_cases q : 0 < a
  · rw [if_pos q]; exact h.no ⟨by show (6 : Int) ≠ 2; decide, by show (6 : Int) ≠ 3; decide⟩
  · rw [if_neg q]; exact h
def SKw (K : PH) (s : SK) : Prop := (∀ x, x ∈ s.1 → 0 ≤ x.1 ∧ x.1 < K 0 1) ∧ OPw K s.2.2
/-- codes that end in a truth -/
def hok (E : List OP) : Prop := ∃ y E1, E = y :: E1 ∧ y.1 ≠ 3 ∧ y.1 ≠ 4
theorem hok.mk {x : OP} {E : List OP} (h3 : x.1 ≠ 3) (h4 : x.1 ≠ 4) : hok (x :: E) := ⟨x, E, rfl, h3, h4⟩
theorem hok.or {a : Int} {E : List OP} (h : hok E) : hok (orE a E) := by
  unfold orE
  by_cases q : 0 < a
  · rw [if_pos q]; exact hok.mk (by show (6 : Int) ≠ 3; decide) (by show (6 : Int) ≠ 4; decide)
  · rw [if_neg q]; exact h
theorem emw {K : PH} {s : SK} {x : OP} (h : SKw K s) (h2 : x.1 ≠ 2) (h3 : x.1 ≠ 3) : SKw K (em s x) := ⟨h.1, h.2.no ⟨h2, h3⟩⟩
theorem prun_w {T : TT} {K : PH} (hw : AW K) : ∀ (n : Nat) (m : Int) (s : SK) (k p : Int) (x : XR), SKw K s → (m ≠ 0 → hok s.2.2) → prun T K n m s k p = some x → OPw K x.2.2 ∧ (x.1 = 0 → hok x.2.2) := by
  intro n
  induction n with
  | zero => intro m s k p x _ _ h; cases h
  | succ n ih =>
    intro m s k p x hs hm h
    have fxw : ∀ y : Int × Int, y.1 ≠ 0 → some (fx y) = some x → OPw K x.2.2 ∧ (x.1 = 0 → hok x.2.2) := fun y y0 e => by
      rw [← Option.some.inj e]; exact ⟨OPw.nil, fun z => absurd z y0⟩
    have m0 : ∀ E : List OP, (0 : Int) ≠ 0 → hok E := fun E q => absurd rfl q
    have alw : SKw K (alE s) := ⟨hs.1, hs.2.orW⟩
    have cb := cNm_b hw (tV T p)
    have cs := cas_s T K k p
    rw [prun_eq] at h
    by_cases h1 : m = 0
    · rw [if_pos h1] at h
      by_cases h2 : tO T p = 8
      · rw [if_pos h2] at h
        exact ih _ (em s (0, 0, 0)) _ _ _ (emw hs (by show (0 : Int) ≠ 2; decide) (by show (0 : Int) ≠ 3; decide)) (fun _ => hok.mk (x := (0, 0, 0)) (by show (0 : Int) ≠ 3; decide) (by show (0 : Int) ≠ 4; decide)) h
      · rw [if_neg h2] at h
        by_cases h3 : k = -1
        · rw [if_pos h3] at h
          by_cases h4 : (rng T p).1 = 0
          · rw [if_pos h4] at h
            exact ih _ (em s (1, tV T p, hiV T p)) _ _ _ (emw hs (by show (1 : Int) ≠ 2; decide) (by show (1 : Int) ≠ 3; decide)) (fun _ => hok.mk (x := (1, tV T p, hiV T p)) (by show (1 : Int) ≠ 3; decide) (by show (1 : Int) ≠ 4; decide)) h
          · rw [if_neg h4] at h; exact fxw _ h4 h
        · rw [if_neg h3] at h
          by_cases h4 : (cas T K k p).1 = 0
          · rw [if_pos h4] at h
            have c0 : 0 ≤ cNm K (tV T p) ∧ cNm K (tV T p) < K 0 1 := by omega
            have ew : SKw K (em s (2, cNm K (tV T p), 0)) := ⟨hs.1, hs.2.cons (fun _ => c0)⟩
            by_cases h5 : K 6 (cNm K (tV T p)) = 0
            · rw [if_pos h5] at h
              exact ih _ _ _ _ _ ew (fun _ => hok.mk (x := (2, cNm K (tV T p), 0)) (by show (2 : Int) ≠ 3; decide) (by show (2 : Int) ≠ 4; decide)) h
            · rw [if_neg h5] at h
              by_cases h6 : (sgn T 40 (tE T p)).1 = 0
              · rw [if_pos h6] at h
                refine ih _ _ _ _ _ ⟨fun y hy => ?_, ew.2.cons (fun _ => c0)⟩ (m0 _) h
                rcases List.mem_cons.mp hy with e | e
                · rw [e]; exact c0
                · exact hs.1 y e
              · rw [if_neg h6] at h; exact fxw _ h6 h
          · rw [if_neg h4] at h; exact fxw _ h4 h
    · rw [if_neg h1] at h
      by_cases h2 : tO T p = 9
      · rw [if_pos h2] at h; exact ih _ _ _ _ _ alw (m0 _) h
      · rw [if_neg h2] at h
        obtain ⟨s0, sa, se⟩ := s
        cases s0 with
        | nil =>
          have h : some ((0 : Int), p, (alE ([], sa, se)).2.2) = some x := h
          rw [← Option.some.inj h]
          exact ⟨alw.2, fun _ => (hm h1).or⟩
        | cons c s1 =>
          obtain ⟨c, f, k1, a1⟩ := c
          have c0 : 0 ≤ c ∧ c < K 0 1 := hs.1 (c, f, k1, a1) (List.mem_cons_self ..)
          have s1w : ∀ y, y ∈ s1 → 0 ≤ y.1 ∧ y.1 < K 0 1 := fun y hy => hs.1 y (List.mem_cons_of_mem _ hy)
          have pw : SKw K (poS ((c, f, k1, a1) :: s1, sa, se) a1 s1) := ⟨s1w, (alw.2.no ⟨by show (4 : Int) ≠ 2; decide, by show (4 : Int) ≠ 3; decide⟩).no ⟨by show (5 : Int) ≠ 2; decide, by show (5 : Int) ≠ 3; decide⟩⟩
          have h : (if f + 1 < K 6 c then (if (sgn T 44 p).1 = 0 then prun T K n 0 (fbS (poS ((c, f, k1, a1) :: s1, sa, se) a1 s1) c (f + 1) k1) (K 8 c) (tE T p) else some (fx (sgn T 44 p))) else if (sgn T 41 p).1 = 0 then prun T K n 1 (poS ((c, f, k1, a1) :: s1, sa, se) a1 s1) k1 (tE T p) else some (fx (sgn T 41 p))) = some x := h
          by_cases h3 : f + 1 < K 6 c
          · rw [if_pos h3] at h
            by_cases h4 : (sgn T 44 p).1 = 0
            · rw [if_pos h4] at h
              refine ih _ _ _ _ _ ⟨fun y hy => ?_, pw.2.cons (fun _ => c0)⟩ (m0 _) h
              rcases List.mem_cons.mp hy with e | e
              · rw [e]; exact c0
              · exact s1w y e
            · rw [if_neg h4] at h; exact fxw _ h4 h
          · rw [if_neg h3] at h
            by_cases h4 : (sgn T 41 p).1 = 0
            · rw [if_pos h4] at h
              exact ih _ _ _ _ _ pw (fun _ => hok.mk (by show (5 : Int) ≠ 3; decide) (by show (5 : Int) ≠ 4; decide)) h
            · rw [if_neg h4] at h; exact fxw _ h4 h
theorem PRn.w {T : TT} {K : PH} {k p : Int} (hw : AW K) (h : PRn T K k p) : OPw K (cds T K k p) ∧ ((pat T K k p).1 = 0 → hok (cds T K k p)) := by
  obtain ⟨x, hx⟩ := h
  rw [hx.cdS, hx.paT]
  obtain ⟨n, hn⟩ := hx
  exact prun_w hw n 0 s0 k p x ⟨fun y hy => absurd hy (by simp [s0]), OPw.nil⟩ (fun q => absurd rfl q) hn
/-! the arms' codes in a bank -/
/-- what the arms' codes name -/
def FWo (K M : PH) (F : FT) : Prop := ∀ a c : Int, 0 ≤ a → a < M 0 2 → 0 ≤ c → c < M 0 0 → OPw K (F a c) ∧ hok (F a c)
def MCb (b : Int) (M : PH) (F : FT) (P : PH) : Prop := ∀ a c : Int, 0 ≤ a → a < M 0 2 → 0 ≤ c → c < M 0 0 → P 18 (4 * (12 * b + a) + c) = P 17 (4 * (12 * b + a) + c) + (F a c).length ∧ CDL P b (F a c) (P 18 (4 * (12 * b + a) + c))
def MCn (M : PH) (P : PH) : Prop := ∀ a c : Int, 0 ≤ a → a < M 0 2 → 0 ≤ c → c < M 0 0 → P 18 (4 * (12 * P 0 37 + a) + c) ≤ P 0 36
def MC (K M : PH) (F : FT) (P : PH) : Prop := FWo K M F ∧ MCb (P 0 37) M F P ∧ MCn M P
theorem MCb.eq {M : PH} {F : FT} {b b1 : Int} {P P1 : PH} {G : FS} (h : MCb b M F P) (e : b1 = b) (hf : FrM G P P1) (hd : disF G ([], [17, 18, 19, 20, 21]) = true) : MCb b1 M F P1 := by
  subst e
  unfold MCb
  rw [disF_o hd hf (o := 17) (by decide) rfl, disF_o hd hf (o := 18) (by decide) rfl]
  refine fun a c a0 a1 c0 c1 => ⟨(h a c a0 a1 c0 c1).1, (h a c a0 a1 c0 c1).2.eq _ _ (fun j _ _ => ?_)⟩
  rw [disF_o hd hf (o := 19) (by decide) rfl, disF_o hd hf (o := 20) (by decide) rfl, disF_o hd hf (o := 21) (by decide) rfl]
  exact ⟨rfl, rfl, rfl⟩
theorem disF_w {F s t : FS} (h : disF F s = true) (h1 : t.1.all (fun k => s.1.contains k) = true) (h2 : t.2.all (fun k => s.2.contains k) = true) : disF F t = true := by
  unfold disF at h ⊢
  rw [Bool.and_eq_true] at h ⊢
  refine ⟨List.all_eq_true.mpr (fun k hk => List.all_eq_true.mp h.1 k ?_), List.all_eq_true.mpr (fun k hk => List.all_eq_true.mp h.2 k ?_)⟩
  · have := List.all_eq_true.mp h1 k hk
    simpa using this
  · have := List.all_eq_true.mp h2 k hk
    simpa using this
theorem MC.fr {K M : PH} {F : FT} {P P1 : PH} {G : FS} (h : MC K M F P) (hf : FrM G P P1) (hd : disF G ([36, 37], [17, 18, 19, 20, 21]) = true) : MC K M F P1 := by
  refine ⟨h.1, h.2.1.eq (disF_k hd hf (k := 37) (by decide)) hf (disF_w hd rfl rfl), ?_⟩
  unfold MCn
  rw [disF_k hd hf (k := 36) (by decide), disF_k hd hf (k := 37) (by decide), disF_o hd hf (o := 18) (by decide) rfl]
  exact h.2.2
theorem MC.no {K M : PH} {F : FT} {P : PH} (h : M 0 2 ≤ 0) : MC K M F P := ⟨fun a c a0 a1 => by omega, fun a c a0 a1 => by omega, fun a c a0 a1 => by omega⟩
theorem MC.cg {K M M1 : PH} {F : FT} {P : PH} (h : MC K M F P) (h0 : M1 0 0 = M 0 0) (h2 : M1 0 2 = M 0 2) : MC K M1 F P := by
  unfold MC FWo MCb MCn
  rw [h0, h2]
  exact h
/-- the arm that is told: its first n columns; the arms ahead of it -/
def MCx (K M : PH) (F : FT) (G : Int → List OP) (n : Int) (P : PH) : Prop := MC K M F P ∧ ∀ c : Int, 0 ≤ c → c < n → (OPw K (G c) ∧ hok (G c)) ∧ P 18 (4 * (12 * P 0 37 + M 0 2) + c) = P 17 (4 * (12 * P 0 37 + M 0 2) + c) + (G c).length ∧ P 18 (4 * (12 * P 0 37 + M 0 2) + c) ≤ P 0 36 ∧ CDL P (P 0 37) (G c) (P 18 (4 * (12 * P 0 37 + M 0 2) + c))
theorem MCx.fr {K M : PH} {F : FT} {G : Int → List OP} {n : Int} {P P1 : PH} {S : FS} (h : MCx K M F G n P) (hf : FrM S P P1) (hd : disF S ([36, 37], [17, 18, 19, 20, 21]) = true) : MCx K M F G n P1 := by
  refine ⟨h.1.fr hf hd, ?_⟩
  rw [disF_k hd hf (k := 36) (by decide), disF_k hd hf (k := 37) (by decide), disF_o hd hf (o := 17) (by decide) rfl, disF_o hd hf (o := 18) (by decide) rfl]
  refine fun c c0 c1 => ⟨(h.2 c c0 c1).1, (h.2 c c0 c1).2.1, (h.2 c c0 c1).2.2.1, (h.2 c c0 c1).2.2.2.eq _ _ (fun j _ _ => ?_)⟩
  rw [disF_o hd hf (o := 19) (by decide) rfl, disF_o hd hf (o := 20) (by decide) rfl, disF_o hd hf (o := 21) (by decide) rfl]
  exact ⟨rfl, rfl, rfl⟩
theorem MCx.start {K M : PH} {F : FT} {G : Int → List OP} {P : PH} (h : MC K M F P) : MCx K M F G 0 P := ⟨h, fun c c0 c1 => by omega⟩
/-- a column more: Pa behind the first note, Pb behind the pattern, Pc behind the second note -/
theorem MCx.next {K M : PH} {F : FT} {G : Int → List OP} {E : List OP} {n ix : Int} {P Pa Pb Pc : PH} (h : MCx K M F G n P) (hw : OPw K E ∧ hok E) (hn : 0 ≤ n ∧ n < M 0 0 ∧ M 0 0 ≤ 4) (hix : ix = 4 * (12 * P 0 37 + M 0 2) + n) (h37 : 0 ≤ P 0 37)
    (a37 : Pa 0 37 = P 0 37) (a36 : Pa 0 36 = P 0 36) (a17 : ∀ j : Int, j ≠ ix → Pa 17 j = P 17 j) (s17 : Pa 17 ix = P 0 36) (a18 : ∀ j, Pa 18 j = P 18 j) (a19 : ∀ j, Pa 19 j = P 19 j) (a20 : ∀ j, Pa 20 j = P 20 j) (a21 : ∀ j, Pa 21 j = P 21 j)
    (hl : LO Pa Pb) (b17 : ∀ j, Pb 17 j = Pa 17 j) (b18 : ∀ j, Pb 18 j = Pa 18 j) (hE : CDe (Pa 0 36) E Pb) (hG : G n = E)
    (c37 : Pc 0 37 = Pb 0 37) (c36 : Pc 0 36 = Pb 0 36) (c17 : ∀ j, Pc 17 j = Pb 17 j) (c18 : ∀ j : Int, j ≠ ix → Pc 18 j = Pb 18 j) (s18 : Pc 18 ix = Pb 0 36) (c19 : ∀ j, Pc 19 j = Pb 19 j) (c20 : ∀ j, Pc 20 j = Pb 20 j) (c21 : ∀ j, Pc 21 j = Pb 21 j) : MCx K M F G (n + 1) Pc := by
  obtain ⟨l1, l2, l3⟩ := hl
  obtain ⟨e1, e2, e3⟩ := hE
  have p37 : Pc 0 37 = P 0 37 := by rw [c37, l1, a37]
  have p36 : P 0 36 ≤ Pc 0 36 := by rw [c36, ← a36]; exact l2
  have row : ∀ j : Int, j < 2800 * P 0 37 + P 0 36 → Pc 19 j = P 19 j ∧ Pc 20 j = P 20 j ∧ Pc 21 j = P 21 j := fun j hj => by
    have q := l3 j (Or.inl (by rw [a37, a36]; exact hj))
    rw [c19, c20, c21, ← a19, ← a20, ← a21]
    exact q
  have o17 : ∀ j : Int, j ≠ ix → Pc 17 j = P 17 j := fun j hj => by rw [c17, b17, a17 j hj]
  have o18 : ∀ j : Int, j ≠ ix → Pc 18 j = P 18 j := fun j hj => by rw [c18 j hj, b18, a18]
  unfold MCx MC MCb MCn
  rw [p37]
  refine ⟨⟨h.1.1, fun a c a0 a1 c0 c1 => ?_, fun a c a0 a1 c0 c1 => ?_⟩, fun c c0 c1 => ?_⟩
  · have q := h.1.2.1 a c a0 a1 c0 c1
    have q2 := h.1.2.2 a c a0 a1 c0 c1
    rw [o17 _ (by omega), o18 _ (by omega)]
    exact ⟨q.1, q.2.eq _ _ (fun j _ j1 => row _ (by omega))⟩
  · have q2 := h.1.2.2 a c a0 a1 c0 c1
    rw [o18 _ (by omega)]
    omega
  · by_cases e : c = n
    · have ei : 4 * (12 * P 0 37 + M 0 2) + c = ix := by omega
      rw [ei, s18, c17, b17, s17, c36, e, hG]
      refine ⟨hw, by rw [e1, a36], Int.le_refl _, ?_⟩
      rw [l1, a37] at e3
      exact e3.eq _ _ (fun j _ _ => ⟨c19 _, c20 _, c21 _⟩)
    · have q := h.2 c c0 (by omega)
      rw [o17 _ (by omega), o18 _ (by omega)]
      exact ⟨q.1, q.2.1, by omega, q.2.2.2.eq _ _ (fun j _ j1 => row _ (by omega))⟩
/-- the arm is told -/
theorem MCx.arm {K M : PH} {F F1 : FT} {G : Int → List OP} {g n : Int} {P : PH} (h : MCx K M F G n P) (hn : M 0 0 ≤ n) (e1 : ∀ c : Int, F1 (M 0 2) c = G c) (e2 : ∀ a c : Int, a ≠ M 0 2 → F1 a c = F a c) : MC K (aNew M g) F1 P := by
  unfold MC FWo MCb MCn
  rw [aNew_0.1, aNew_0.2.1]
  refine ⟨fun a c a0 a1 c0 c1 => ?_, fun a c a0 a1 c0 c1 => ?_, fun a c a0 a1 c0 c1 => ?_⟩
  · by_cases e : a = M 0 2
    · rw [e, e1]; exact (h.2 c c0 (by omega)).1
    · rw [e2 _ _ e]; exact h.1.1 a c a0 (by omega) c0 c1
  · by_cases e : a = M 0 2
    · rw [e, e1]
      have q := h.2 c c0 (by omega)
      exact ⟨q.2.1, q.2.2.2⟩
    · rw [e2 _ _ e]
      exact h.1.2.1 a c a0 (by omega) c0 c1
  · by_cases e : a = M 0 2
    · rw [e]; exact (h.2 c c0 (by omega)).2.2.1
    · exact h.1.2.2 a c a0 (by omega) c0 c1
theorem fAr_new {T : TT} {K M : PH} {F : FT} {p : Int} : (∀ c : Int, fAr T K M F p (M 0 2) c = arC T K M p c) ∧ ∀ a c : Int, a ≠ M 0 2 → fAr T K M F p a c = F a c := by
  refine ⟨fun c => ?_, fun a c h => ?_⟩
  · unfold fAr; rw [if_pos rfl]
  · unfold fAr; rw [if_neg h]
theorem arF_next {T : TT} {K M : PH} {G : Int → List OP} {r : Nat} {c q q1 : Int} (h : ∀ j : Int, c ≤ j → G j = arF T K M (r + 1) c q j) (hq : (c ≤ 0 ∧ q1 = q) ∨ (0 < c ∧ q1 = tE T q)) : G c = cds T K (M 1 c) q1 ∧ ∀ j : Int, c + 1 ≤ j → G j = arF T K M r (c + 1) (pat T K (M 1 c) q1).2 j := by
  have g := arF_go (T := T) (K := K) (M := M) (r := r) hq
  exact ⟨(h c (Int.le_refl c)).trans g.1, fun j hj => (h j (by omega)).trans (g.2 j (by omega))⟩
theorem ARn2 {T : TT} {K M : PH} {r : Nat} {c q q1 : Int} {X : Int × Int} {P : PH} (R : Int → Prop) (hX : X = arl T K M (r + 1) c q) (h0 : 0 ≤ c) (hq : (c ≤ 0 ∧ q1 = q) ∨ (0 < c ∧ (sgn T 44 q).1 = 0 ∧ q1 = tE T q)) (hp : REn T (pat T K (M 1 c) q1) P) (h8 : 0 ≤ P 0 8) (hs : P 0 8 = 0 → MS T (pat T K (M 1 c) q1).2 P ∧ R (pat T K (M 1 c) q1).2) :
    ∃ q2 : Int, (P 0 8 ≤ 0 → X = arl T K M r (c + 1) q2 ∧ MS T q2 P ∧ R q2) ∧ (0 < P 0 8 → REn T X P) := by
  rw [arl_x hq] at hX
  rcases hp with ⟨h1, h2⟩ | ⟨h1, h2, h3, h4⟩
  · by_cases z : (pat T K (M 1 c) q1).1 = 0
    · rw [if_neg (by omega)] at hX
      exact ⟨(pat T K (M 1 c) q1).2, fun _ => ⟨hX, (hs (by omega)).1, (hs (by omega)).2⟩, fun h => by omega⟩
    · rw [if_pos z] at hX
      rw [hX]
      exact ⟨0, fun h => by omega, fun _ => Or.inl ⟨h1, h2⟩⟩
  · rw [if_neg (by omega), arl_bad (by omega) h2] at hX
    refine ⟨0, fun h => by omega, fun _ => ?_⟩
    rw [hX]
    by_cases z : r = 0
    · rw [if_pos z]
      exact Or.inr ⟨rfl, h2, h3, h4⟩
    · rw [if_neg z]
      exact Or.inl ⟨h3, Or.inr h4⟩
theorem ARs2 {T : TT} {K M : PH} {r : Nat} {c q : Int} {X : Int × Int} {P : PH} (R : Int → Prop) (hX : X = arl T K M (r + 1) c q) (hc : 0 < c) (h0 : 0 < P 0 8) (h1 : P 0 8 = (sgn T 44 q).1) (h2 : P 0 9 = (sgn T 44 q).2) :
    ∃ q2 : Int, (P 0 8 ≤ 0 → X = arl T K M r (c + 1) q2 ∧ MS T q2 P ∧ R q2) ∧ (0 < P 0 8 → REn T X P) := by
  rw [arl_sF hc (by omega)] at hX
  refine ⟨0, fun h => by omega, fun _ => ?_⟩
  rw [hX]
  exact Or.inl ⟨h1, Or.inr h2⟩
end
section
/-! The reference runs codes on a value: the truths, the values gone into. -/
def LSx (P : PH) (o : Nat) : List Int → Int → Prop
  | [], n => n = 0
  | x :: t, n => P o (n - 1) = x ∧ LSx P o t (n - 1)
theorem LSx.len {P : PH} {o : Nat} : ∀ (t : List Int) (n : Int), LSx P o t n → n = t.length := by
  intro t
  induction t with
  | nil => intro n h; exact h
  | cons x t ih =>
    intro n h
    have := ih _ h.2
    rw [List.length_cons]
    omega
theorem LSx.eq {P P1 : PH} {o : Nat} : ∀ (t : List Int) (n : Int), LSx P o t n → (∀ j : Int, 0 ≤ j → j < n → P1 o j = P o j) → LSx P1 o t n := by
  intro t
  induction t with
  | nil => intro n h _; exact h
  | cons x t ih =>
    intro n h e
    have hl := LSx.len t _ h.2
    exact ⟨(e (n - 1) (by omega) (by omega)).trans h.1, ih _ h.2 (fun j j0 j1 => e j j0 (by omega))⟩
theorem LSx.push {P P1 : PH} {o : Nat} {t : List Int} {n x : Int} (h : LSx P o t n) (s : P1 o n = x) (q : ∀ j : Int, j ≠ n → P1 o j = P o j) : LSx P1 o (x :: t) (n + 1) :=
  ⟨by rw [show n + 1 - 1 = n by omega]; exact s, by rw [show n + 1 - 1 = n by omega]; exact h.eq _ _ (fun j _ j1 => q j (by omega))⟩
theorem LSx.hd {P : PH} {o : Nat} {t : List Int} {n : Int} (h : LSx P o t n) (h1 : 1 ≤ n) : t = P o (n - 1) :: t.tail ∧ LSx P o t.tail (n - 1) := by
  cases t with
  | nil => have h : n = 0 := h; omega
  | cons x t => exact ⟨by rw [h.1]; rfl, h.2⟩
theorem LSx.last {P : PH} {o : Nat} : ∀ (t : List Int) (n : Int), LSx P o t n → t ≠ [] → P o 0 = t.getLastD 0 := by
  intro t
  induction t with
  | nil => intro n _ h; exact absurd rfl h
  | cons x t ih =>
    intro n h _
    cases t with
    | nil =>
      have h2 : n - 1 = 0 := h.2
      have h1 := h.1
      rw [h2] at h1
      rw [h1]
      rfl
    | cons y t =>
      rw [ih _ h.2 (by simp)]
      rfl
def BT (t : List Int) : Prop := ∀ x, x ∈ t → x = 0 ∨ x = 1
theorem b1_01 (p : Prop) [Decidable p] : b1 p = 0 ∨ b1 p = 1 := by
  rcases b1_s p with h | h
  · exact Or.inr h.2
  · exact Or.inl h.2
theorem BT.cons {t : List Int} {x : Int} (h : BT t) (hx : x = 0 ∨ x = 1) : BT (x :: t) := by
  intro y hy
  rcases List.mem_cons.mp hy with e | e
  · rw [e]; exact hx
  · exact h y e
theorem BT.tl {t : List Int} (h : BT t) : BT t.tail := fun y hy => h y (List.mem_of_mem_tail hy)
theorem oSt_bt {K : PH} {x : OP} {e : ES} (h : BT e.1) : BT (oSt K x e).1 := by
  unfold oSt
  by_cases h0 : x.1 = 0
  · rw [if_pos h0]; exact h.cons (Or.inr rfl)
  rw [if_neg h0]
  by_cases h1 : x.1 = 1
  · rw [if_pos h1]; exact h.cons (b1_01 _)
  rw [if_neg h1]
  by_cases h2 : x.1 = 2
  · rw [if_pos h2]; exact h.cons (b1_01 _)
  rw [if_neg h2]
  by_cases h3 : x.1 = 3
  · rw [if_pos h3]; exact h
  rw [if_neg h3]
  by_cases h4 : x.1 = 4
  · rw [if_pos h4]; exact h
  rw [if_neg h4]
  by_cases h5 : x.1 = 5
  · rw [if_pos h5]; exact h.tl.tl.cons (b1_01 _)
  rw [if_neg h5]
  exact h.tl.tl.cons (b1_01 _)
theorem evs_bt {K : PH} {e : ES} (h : BT e.1) : ∀ L : List OP, BT (evs K L e).1 := by
  intro L
  induction L with
  | nil => exact h
  | cons x L ih => exact oSt_bt ih
theorem hok.ne {K : PH} {E : List OP} {e : ES} (h : hok E) : (evs K E e).1 ≠ [] := by
  obtain ⟨y, E1, rfl, h3, h4⟩ := h
  show (oSt K y (evs K E1 e)).1 ≠ []
  unfold oSt
  by_cases h0 : y.1 = 0
  · rw [if_pos h0]; simp
  rw [if_neg h0]
  by_cases h1 : y.1 = 1
  · rw [if_pos h1]; simp
  rw [if_neg h1]
  by_cases h2 : y.1 = 2
  · rw [if_pos h2]; simp
  rw [if_neg h2, if_neg h3, if_neg h4]
  by_cases h5 : y.1 = 5
  · rw [if_pos h5]; simp
  rw [if_neg h5]
  simp
/-! the run so far -/
theorem CDL.dr {P : PH} {b : Int} : ∀ (E : List OP) (n : Int) (m : Nat), CDL P b E n → m < E.length → ∃ x, E.drop (E.length - (m + 1)) = x :: E.drop (E.length - m) ∧ x ∈ E ∧ P 19 (2800 * b + (n - E.length + m)) = x.1 ∧ P 20 (2800 * b + (n - E.length + m)) = x.2.1 ∧ P 21 (2800 * b + (n - E.length + m)) = x.2.2 := by
  intro E
  induction E with
  | nil => intro n m _ h; exact absurd h (Nat.not_lt_zero _)
  | cons y E ih =>
    intro n m h hm
    rw [List.length_cons] at hm ⊢
    by_cases e : m = E.length
    · refine ⟨y, ?_, List.mem_cons_self .., ?_⟩
      · rw [e, Nat.sub_self, show E.length + 1 - E.length = 1 by omega]; rfl
      · rw [e, show n - ((E.length + 1 : Nat) : Int) + (E.length : Int) = n - 1 by omega]; exact h.1
    · obtain ⟨x, h1, h2, h3⟩ := ih (n - 1) m h.2 (by omega)
      refine ⟨x, ?_, List.mem_cons_of_mem _ h2, ?_⟩
      · rw [show E.length + 1 - (m + 1) = (E.length - (m + 1)) + 1 by omega, show E.length + 1 - m = (E.length - m) + 1 by omega, List.drop_succ_cons, List.drop_succ_cons]
        exact h1
      · rw [show n - ((E.length + 1 : Nat) : Int) + (m : Int) = n - 1 - (E.length : Int) + (m : Int) by omega]
        exact h3
/-- what stands behind the first m codes of E at the value v: n truths, d values gone into -/
def EVx (K : PH) (E : List OP) (v m n d : Int) (P : PH) : Prop := 0 ≤ m ∧ LSx P 30 (evs K (E.drop (E.length - m.toNat)) ([], [v])).1 n ∧ LSx P 29 (evs K (E.drop (E.length - m.toNat)) ([], [v])).2 (d + 1)
theorem EVx.start {K : PH} {E : List OP} {v : Int} {P : PH} (h : P 29 0 = v) : EVx K E v 0 0 0 P := by
  refine ⟨Int.le_refl 0, ?_, ?_⟩
  · rw [show (0 : Int).toNat = 0 from rfl, Nat.sub_zero, List.drop_length]; rfl
  · rw [show (0 : Int).toNat = 0 from rfl, Nat.sub_zero, List.drop_length]; exact ⟨h, rfl⟩
section EVS
variable {K : PH} {E : List OP} {v m n d : Int} {P P1 : PH} {x : OP}
theorem EVx.up (h : EVx K E v m n d P) (hx : E.drop (E.length - (m.toNat + 1)) = x :: E.drop (E.length - m.toNat)) : evs K (E.drop (E.length - (m + 1).toNat)) ([], [v]) = oSt K x (evs K (E.drop (E.length - m.toNat)) ([], [v])) := by
  rw [show (m + 1).toNat = m.toNat + 1 by have := h.1; omega, hx]; rfl
theorem EVx.o0 (h : EVx K E v m n d P) (hx : E.drop (E.length - (m.toNat + 1)) = x :: E.drop (E.length - m.toNat)) (e : x.1 = 0) (s : P1 30 n = 1) (q30 : ∀ j : Int, j ≠ n → P1 30 j = P 30 j) (q29 : ∀ j, P1 29 j = P 29 j) : EVx K E v (m + 1) (n + 1) d P1 := by
  refine ⟨by have := h.1; omega, ?_, ?_⟩
  · rw [h.up hx]; unfold oSt; rw [if_pos e]; exact h.2.1.push s q30
  · rw [h.up hx]; unfold oSt; rw [if_pos e]; exact h.2.2.eq _ _ (fun j _ _ => q29 j)
theorem EVx.o1 (h : EVx K E v m n d P) (hx : E.drop (E.length - (m.toNat + 1)) = x :: E.drop (E.length - m.toNat)) (e : x.1 = 1) (hd : 0 ≤ d) (s : (P1 30 n = 1 ∧ x.2.1 ≤ P 29 d ∧ P 29 d ≤ x.2.2) ∨ (P1 30 n = 0 ∧ (P 29 d < x.2.1 ∨ x.2.2 < P 29 d))) (q30 : ∀ j : Int, j ≠ n → P1 30 j = P 30 j) (q29 : ∀ j, P1 29 j = P 29 j) : EVx K E v (m + 1) (n + 1) d P1 := by
  have g := (h.2.2.hd (by omega)).1
  rw [show d + 1 - 1 = d by omega] at g
  refine ⟨by have := h.1; omega, ?_, ?_⟩
  · rw [h.up hx]; unfold oSt; rw [if_neg (by omega), if_pos e, g]
    refine h.2.1.push ?_ q30
    show P1 30 n = b1 (x.2.1 ≤ P 29 d ∧ P 29 d ≤ x.2.2)
    rcases s with s | s
    · rw [b1_1 s.2]; exact s.1
    · rw [b1_0 (by omega)]; exact s.1
  · rw [h.up hx]; unfold oSt; rw [if_neg (by omega), if_pos e]; exact h.2.2.eq _ _ (fun j _ _ => q29 j)
theorem EVx.o2 (h : EVx K E v m n d P) (hx : E.drop (E.length - (m.toNat + 1)) = x :: E.drop (E.length - m.toNat)) (e : x.1 = 2) (hd : 0 ≤ d) (s : (P1 30 n = 1 ∧ K 10 x.2.1 ≤ P 29 d ∧ P 29 d < K 10 x.2.1 + cpr K x.2.1) ∨ (P1 30 n = 0 ∧ (P 29 d < K 10 x.2.1 ∨ K 10 x.2.1 + cpr K x.2.1 ≤ P 29 d))) (q30 : ∀ j : Int, j ≠ n → P1 30 j = P 30 j) (q29 : ∀ j, P1 29 j = P 29 j) : EVx K E v (m + 1) (n + 1) d P1 := by
  have g := (h.2.2.hd (by omega)).1
  rw [show d + 1 - 1 = d by omega] at g
  refine ⟨by have := h.1; omega, ?_, ?_⟩
  · rw [h.up hx]; unfold oSt; rw [if_neg (by omega), if_neg (by omega), if_pos e, g]
    refine h.2.1.push ?_ q30
    show P1 30 n = b1 (K 10 x.2.1 ≤ P 29 d ∧ P 29 d < K 10 x.2.1 + cpr K x.2.1)
    rcases s with s | s
    · rw [b1_1 s.2]; exact s.1
    · rw [b1_0 (by omega)]; exact s.1
  · rw [h.up hx]; unfold oSt; rw [if_neg (by omega), if_neg (by omega), if_pos e]; exact h.2.2.eq _ _ (fun j _ _ => q29 j)
theorem EVx.o3 (h : EVx K E v m n d P) (hx : E.drop (E.length - (m.toNat + 1)) = x :: E.drop (E.length - m.toNat)) (e : x.1 = 3) (hd : 0 ≤ d) (s : P1 29 (d + 1) = fdV K (P 29 d) x.2.1 x.2.2) (q29 : ∀ j : Int, j ≠ d + 1 → P1 29 j = P 29 j) (q30 : ∀ j, P1 30 j = P 30 j) : EVx K E v (m + 1) n (d + 1) P1 := by
  have g := (h.2.2.hd (by omega)).1
  rw [show d + 1 - 1 = d by omega] at g
  refine ⟨by have := h.1; omega, ?_, ?_⟩
  · rw [h.up hx]; unfold oSt; rw [if_neg (by omega), if_neg (by omega), if_neg (by omega), if_pos e]; exact h.2.1.eq _ _ (fun j _ _ => q30 j)
  · rw [h.up hx]; unfold oSt; rw [if_neg (by omega), if_neg (by omega), if_neg (by omega), if_pos e]
    refine h.2.2.push ?_ q29
    rw [g]
    exact s
theorem EVx.o4 (h : EVx K E v m n d P) (hx : E.drop (E.length - (m.toNat + 1)) = x :: E.drop (E.length - m.toNat)) (e : x.1 = 4) (hd : 0 ≤ d) : EVx K E v (m + 1) n (d - 1) P := by
  have g := (h.2.2.hd (by omega)).2
  rw [show d + 1 - 1 = d - 1 + 1 by omega] at g
  refine ⟨by have := h.1; omega, ?_, ?_⟩
  · rw [h.up hx]; unfold oSt; rw [if_neg (by omega), if_neg (by omega), if_neg (by omega), if_neg (by omega), if_pos e]; exact h.2.1
  · rw [h.up hx]; unfold oSt; rw [if_neg (by omega), if_neg (by omega), if_neg (by omega), if_neg (by omega), if_pos e]; exact g
theorem iand_01 {a b : Int} (ha : a = 0 ∨ a = 1) (hb : b = 0 ∨ b = 1) : iand a b = b1 (a = 1 ∧ b = 1) := by
  rcases ha with rfl | rfl <;> rcases hb with rfl | rfl <;> decide +kernel
theorem ior_01 {a b : Int} (ha : a = 0 ∨ a = 1) (hb : b = 0 ∨ b = 1) : ior a b = b1 (a = 1 ∨ b = 1) := by
  rcases ha with rfl | rfl <;> rcases hb with rfl | rfl <;> decide +kernel
theorem EVx.two (h : EVx K E v m n d P) (h2 : 2 ≤ n) : (evs K (E.drop (E.length - m.toNat)) ([], [v])).1 = P 30 (n - 1) :: P 30 (n - 2) :: (evs K (E.drop (E.length - m.toNat)) ([], [v])).1.tail.tail ∧ LSx P 30 (evs K (E.drop (E.length - m.toNat)) ([], [v])).1.tail.tail (n - 2) ∧ (P 30 (n - 1) = 0 ∨ P 30 (n - 1) = 1) ∧ (P 30 (n - 2) = 0 ∨ P 30 (n - 2) = 1) := by
  have g := h.2.1.hd (by omega)
  have g2 := g.2.hd (by omega)
  rw [show n - 1 - 1 = n - 2 by omega] at g2
  have hb : BT (evs K (E.drop (E.length - m.toNat)) ([], [v])).1 := evs_bt (fun y hy => absurd hy (by simp)) _
  have e : (evs K (E.drop (E.length - m.toNat)) ([], [v])).1 = P 30 (n - 1) :: P 30 (n - 2) :: (evs K (E.drop (E.length - m.toNat)) ([], [v])).1.tail.tail := by
    rw [← g2.1]; exact g.1
  exact ⟨e, g2.2, hb _ (by rw [e]; exact List.mem_cons_self ..), hb _ (by rw [e]; exact List.mem_cons_of_mem _ (List.mem_cons_self ..))⟩
theorem EVx.o5 (h : EVx K E v m n d P) (hx : E.drop (E.length - (m.toNat + 1)) = x :: E.drop (E.length - m.toNat)) (e : x.1 = 5) (h2 : 2 ≤ n) (s : P1 30 (n - 2) = iand (P 30 (n - 2)) (P 30 (n - 1))) (q30 : ∀ j : Int, j ≠ n - 2 → P1 30 j = P 30 j) (q29 : ∀ j, P1 29 j = P 29 j) : EVx K E v (m + 1) (n - 1) d P1 := by
  obtain ⟨g1, g2, g3, g4⟩ := h.two h2
  refine ⟨by have := h.1; omega, ?_, ?_⟩
  · rw [h.up hx]; unfold oSt; rw [if_neg (by omega), if_neg (by omega), if_neg (by omega), if_neg (by omega), if_neg (by omega), if_pos e]
    have q := g2.push (P1 := P1) (x := b1 (P 30 (n - 2) = 1 ∧ P 30 (n - 1) = 1)) (by rw [s, iand_01 g4 g3]) q30
    rw [show n - 2 + 1 = n - 1 by omega] at q
    rw [g1]
    exact q
  · rw [h.up hx]; unfold oSt; rw [if_neg (by omega), if_neg (by omega), if_neg (by omega), if_neg (by omega), if_neg (by omega), if_pos e]; exact h.2.2.eq _ _ (fun j _ _ => q29 j)
theorem EVx.o6 (h : EVx K E v m n d P) (hx : E.drop (E.length - (m.toNat + 1)) = x :: E.drop (E.length - m.toNat)) (e : 6 ≤ x.1) (h2 : 2 ≤ n) (s : P1 30 (n - 2) = ior (P 30 (n - 2)) (P 30 (n - 1))) (q30 : ∀ j : Int, j ≠ n - 2 → P1 30 j = P 30 j) (q29 : ∀ j, P1 29 j = P 29 j) : EVx K E v (m + 1) (n - 1) d P1 := by
  obtain ⟨g1, g2, g3, g4⟩ := h.two h2
  refine ⟨by have := h.1; omega, ?_, ?_⟩
  · rw [h.up hx]; unfold oSt; rw [if_neg (by omega), if_neg (by omega), if_neg (by omega), if_neg (by omega), if_neg (by omega), if_neg (by omega)]
    have q := g2.push (P1 := P1) (x := b1 (P 30 (n - 2) = 1 ∨ P 30 (n - 1) = 1)) (by rw [s, ior_01 g4 g3]) q30
    rw [show n - 2 + 1 = n - 1 by omega] at q
    rw [g1]
    exact q
  · rw [h.up hx]; unfold oSt; rw [if_neg (by omega), if_neg (by omega), if_neg (by omega), if_neg (by omega), if_neg (by omega), if_neg (by omega)]; exact h.2.2.eq _ _ (fun j _ _ => q29 j)
theorem EVx.cg {m1 n1 d1 : Int} (h : EVx K E v m n d P) (em : m = m1) (en : n = n1) (ed : d = d1) : EVx K E v m1 n1 d1 P := by subst em; subst en; subst ed; exact h
theorem EVx.o5l {l : Int} (h : EVx K E v m (l + 1) d P) (hx : E.drop (E.length - (m.toNat + 1)) = x :: E.drop (E.length - m.toNat)) (e : x.1 = 5) (h2 : 1 ≤ l) (s : P1 30 (l - 1) = iand (P 30 (l - 1)) (P 30 l)) (q30 : ∀ j : Int, j ≠ l - 1 → P1 30 j = P 30 j) (q29 : ∀ j, P1 29 j = P 29 j) : EVx K E v (m + 1) l d P1 := by
  have q := h.o5 (P1 := P1) hx e (by omega) (by rw [show l + 1 - 2 = l - 1 by omega, show l + 1 - 1 = l by omega]; exact s) (fun j hj => q30 j (by omega)) q29
  exact q.cg rfl (by omega) rfl
theorem EVx.o6l {l : Int} (h : EVx K E v m (l + 1) d P) (hx : E.drop (E.length - (m.toNat + 1)) = x :: E.drop (E.length - m.toNat)) (e : 6 ≤ x.1) (h2 : 1 ≤ l) (s : P1 30 (l - 1) = ior (P 30 (l - 1)) (P 30 l)) (q30 : ∀ j : Int, j ≠ l - 1 → P1 30 j = P 30 j) (q29 : ∀ j, P1 29 j = P 29 j) : EVx K E v (m + 1) l d P1 := by
  have q := h.o6 (P1 := P1) hx e (by omega) (by rw [show l + 1 - 2 = l - 1 by omega, show l + 1 - 1 = l by omega]; exact s) (fun j hj => q30 j (by omega)) q29
  exact q.cg rfl (by omega) rfl
/-- the end of the run -/
theorem EVx.fin (h : EVx K E v m n d P) (hm : m = E.length) (hE : hok E) : P 30 0 = tv K E v ∧ (P 30 0 = 0 ∨ P 30 0 = 1) := by
  have e : E.drop (E.length - m.toNat) = E := by rw [hm, Int.toNat_natCast, Nat.sub_self]; rfl
  have h1 := h.2.1
  rw [e] at h1
  have hn : (evs K E ([], [v])).1 ≠ [] := hE.ne
  have hl := h1.last _ _ hn
  have hb : BT (evs K E ([], [v])).1 := evs_bt (fun y hy => absurd hy (by simp)) _
  refine ⟨hl, ?_⟩
  rw [hl, List.getLastD_eq_getLast? , List.getLast?_eq_getLast hn]
  exact hb _ (List.getLast_mem hn)
end EVS
def MCB (K M : PH) (F : FT) (P : PH) : Prop := FWo K M F ∧ MCb (P 0 13) M F P
theorem MCB.fr {K M : PH} {F : FT} {P P1 : PH} {G : FS} (h : MCB K M F P) (hf : FrM G P P1) (hd : disF G ([13], [17, 18, 19, 20, 21]) = true) : MCB K M F P1 :=
  ⟨h.1, h.2.eq (disF_k hd hf (k := 13) (by decide)) hf (disF_w hd rfl rfl)⟩
theorem MCb.kb {b b1 : Int} {M P P1 : PH} {F : FT} (h : MCb b M F P) (hm : M 0 2 ≤ 12 ∧ M 0 0 ≤ 4) (hB : BdM P) (hk : KB b1 P P1) (hb : b = 1 - b1) (h0 : 0 ≤ b ∧ b ≤ 1) : MCb b M F P1 := by
  have e17 : ∀ j : Int, 48 * b ≤ j → j < 48 * (b + 1) → P1 17 j = P 17 j := fun j j0 j1 => hk 17 j (by show 48 * (1 - b1) ≤ j; omega) (by show j < 48 * (2 - b1); omega)
  have e18 : ∀ j : Int, 48 * b ≤ j → j < 48 * (b + 1) → P1 18 j = P 18 j := fun j j0 j1 => hk 18 j (by show 48 * (1 - b1) ≤ j; omega) (by show j < 48 * (2 - b1); omega)
  have ec : ∀ (o : Nat), sbM o = 2800 → ∀ j : Int, 2800 * b ≤ j → j < 2800 * (b + 1) → P1 o j = P o j := fun o ho j j0 j1 => hk o j (by rw [ho]; omega) (by rw [ho]; omega)
  intro a c a0 a1 c0 c1
  obtain ⟨h1, h2⟩ := h a c a0 a1 c0 c1
  have q17 := (bl_17 (k := 4 * (12 * b + a) + c) hB).1
  have q := (bl_18 (k := 4 * (12 * b + a) + c) hB).2
  rw [e17 _ (by omega) (by omega), e18 _ (by omega) (by omega)]
  exact ⟨h1, h2.eq _ _ (fun j j0 j1 => ⟨ec 19 rfl _ (by omega) (by omega), ec 20 rfl _ (by omega) (by omega), ec 21 rfl _ (by omega) (by omega)⟩)⟩
/-! a statement's codes -/
theorem col_2 {T : TT} {K : PH} : ∀ (r : Nat) (M : PH) (i p : Int), (col T K r M i p).2.2 0 2 = M 0 2 := by
  intro r
  induction r with
  | zero => intro M i p; rfl
  | succ r ih =>
    intro M i p
    by_cases e : kGo T K (-1) (M 0 0) 4 0 i 20000 p = 0
    · rw [col_go e, ih, mCol_0.2.2.1]
    · by_cases e1 : kGo T K (-1) (M 0 0) 4 0 i 20000 p = 1
      · rw [col_end e1]
      · rw [col_bad e1 e]
theorem sMa_2 {T : TT} {K M : PH} {p : Int} : (sMa T K M p).2.2 0 2 = M 0 2 := by
  unfold sMa
  by_cases h : 0 < M 0 0
  · rw [if_pos h]
  · rw [if_neg h]
    by_cases h2 : tK T (tE T p) = 1 ∧ (tO T (tE T p) = -1 ∨ tO T (tE T p) = 7)
    · rw [if_pos h2]; exact col_2 4 M 1 _
    · rw [if_neg h2]
/-- no arms ahead of columns -/
def NA (M : PH) : Prop := M 0 0 ≤ 0 → M 0 2 ≤ 0
theorem NA.zero : NA M0 := fun _ => by decide
theorem NA.st {T : TT} {K M : PH} {p : Int} (h : NA M) (hs : (sSt T K M p).1 = 0) : NA (mSt T K M p) := by
  unfold sSt at hs
  unfold mSt
  by_cases h2 : tO T p = 2
  · rw [if_neg (by omega), if_neg (by omega), if_pos h2] at hs
    rw [if_pos h2]
    have q := sMa_s T K M p
    have hs : (sMa T K M p).1 = 0 := hs
    intro _
    rw [sMa_2]
    exact h (by omega)
  · rw [if_neg h2]
    by_cases h3 : tO T p = 3
    · rw [if_neg (by omega), if_neg (by omega), if_neg h2, if_pos h3] at hs
      rw [if_pos h3]
      have q := sAr_s T K M p
      unfold mAr
      intro z
      rw [aNew_0.1] at z
      omega
    · rw [if_neg h3]
      by_cases h5 : tO T p = 5
      · rw [if_pos h5]; intro z; rw [up_k (by decide)] at z ⊢; exact h z
      · rw [if_neg h5]
        by_cases h6 : tO T p = 6
        · rw [if_pos h6]; intro z; rw [up_k (by decide)] at z ⊢; exact h z
        · rw [if_neg h6]; exact h
noncomputable def fmR (T : TT) (F : FT) : FT := if (mlR T).1 = 0 then mlRF T else F
theorem fmR_0 {T : TT} {F : FT} (h : (mlR T).1 = 0) : fmR T F = mlRF T := if_pos h
theorem fmR_1 {T : TT} {F : FT} (h : (mlR T).1 ≠ 0) : fmR T F = F := if_neg h
theorem MC.B {K M : PH} {F : FT} {P : PH} (h : MC K M F P) (e13 : P 0 13 = P 0 37) : MCB K M F P := ⟨h.1, by rw [e13]; exact h.2.1⟩
theorem MKB.c10v {K P : PH} (h : MKB K P) (hw : AW K) {c : Int} (h0 : 0 ≤ c) (h1 : c < K 0 1) (q : ZV P (P 0 13) (24 * P 0 13 + c)) : P 10 (24 * P 0 13 + c) = cpr K c := by
  have hc := h.cc h0 h1
  have w := hw.2.2.1 c h0 h1
  unfold ZV at q
  rcases q with ⟨a1, a2⟩ | ⟨a1, a2, a3⟩ | ⟨a1, a2, a3, a4⟩
  · rw [cpr_0 (by omega)]; exact a2
  · rw [cpr_1 (by omega), a3]
    exact h.vl (hc.2.2.2.1 (by omega)) (by omega)
  · rw [cpr_2 (by omega), a4, h.vl (hc.2.2.2.1 (by omega)) (by omega), h.vl (hc.2.2.2.2.1 (by omega)) (by omega)]
theorem fdV_o {K : PH} {v c f : Int} (h : v < K 10 c ∨ K 10 c + cpr K c ≤ v) : fdV K v c f = -1 := by
  unfold fdV
  rw [if_neg (by unfold inR; omega)]
theorem fdV_1 {K : PH} {v c f : Int} (h : K 10 c ≤ v ∧ v < K 10 c + cpr K c) (h6 : K 6 c = 1) : fdV K v c f = v - K 10 c := by
  unfold fdV
  rw [if_pos h, if_pos h6]
theorem fdV_2 {K : PH} {v c f : Int} (h : K 10 c ≤ v ∧ v < K 10 c + cpr K c) (h6 : K 6 c ≠ 1) : fdV K v c f = if f = 0 then (v - K 10 c) / sz K (K 8 c) else (v - K 10 c) % sz K (K 8 c) := by
  unfold fdV
  rw [if_pos h, if_neg h6]
end
