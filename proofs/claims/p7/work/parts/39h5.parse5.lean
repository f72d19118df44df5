/-! The open values of a row that is read, and the pile of a value that is written. -/
def levR (P : PH) (j : Int) : Prop := P 27 j < P 7 (24 * P 0 13 + P 26 j) ∧ P 6 (24 * P 0 13 + P 26 j) + j ≤ 4
def SR (P : PH) : Prop := (1 ≤ P 0 43 ∧ P 0 43 ≤ 5) ∧ (∀ j : Int, 1 ≤ j → j ≤ P 0 43 → P 24 j = 4 ∨ P 24 j + j ≤ 4) ∧ ∀ j : Int, 1 ≤ j → j < P 0 43 → levR P j
theorem SR.fr {P P1 : PH} {F : FS} (h : SR P) (hf : FrM F P P1) (hd : disF F ([13, 43], [6, 7, 24, 26, 27]) = true) : SR P1 := by
  unfold disF at hd
  simp only [List.all_cons, List.all_nil, Bool.and_true, Bool.and_eq_true, Bool.not_eq_true'] at hd
  unfold SR levR at h ⊢
  rw [hf.1 13 hd.1.1, hf.1 43 hd.1.2, hf.2 6 rfl hd.2.1, hf.2 7 rfl hd.2.2.1, hf.2 24 rfl hd.2.2.2.1, hf.2 26 rfl hd.2.2.2.2.1, hf.2 27 rfl hd.2.2.2.2.2]
  exact h
theorem SR.pop {P P1 : PH} (h : SR P) {z : Int} (ez : P 0 43 = z) (hz : 2 ≤ z) (e43 : P1 0 43 = z - 1) (e13 : P1 0 13 = P 0 13) (r6 : ∀ j, P1 6 j = P 6 j) (r7 : ∀ j, P1 7 j = P 7 j) (r24 : ∀ j, P1 24 j = P 24 j) (r26 : ∀ j, P1 26 j = P 26 j) (r27 : ∀ j, P1 27 j = P 27 j) : SR P1 := by
  obtain ⟨h1, h2, h3⟩ := h
  unfold SR
  rw [e43]
  refine ⟨⟨by omega, by omega⟩, fun j j0 j1 => by rw [r24]; exact h2 j j0 (by omega), fun j j0 j1 => ?_⟩
  have := h3 j j0 (by omega)
  unfold levR at this ⊢
  rw [e13, r26, r27, r6, r7]
  exact this
/-- a field is opened -/
theorem SR.push {P P1 P2 : PH} {z b con fld kd : Int} (h : SR P) (hcf : CF P) (ez : P 0 43 = z) (eb : P 0 13 = b) (hf1 : FrM ([3, 4, 5, 6, 7, 8, 9, 12], [25, 26, 27]) P P1) (o26 : ∀ j : Int, j ≠ z → P1 26 j = P 26 j) (e26 : P1 26 z = con) (o27 : ∀ j : Int, j ≠ z → P1 27 j = P 27 j) (e27 : P1 27 z = fld) (hfld : 0 ≤ fld ∧ fld < P 7 (24 * b + con)) (hk : P 6 (24 * b + con) + z ≤ 4) (hk0 : 0 ≤ P 6 (24 * b + con)) (ekd : kd = P 8 (2 * (24 * b + con) + fld)) (hf2 : FrM ([43], [24, 25]) P1 P2) (e43 : P2 0 43 = z + 1) (e24 : P2 24 (z + 1) = kd) (o24 : ∀ j : Int, j ≠ z + 1 → P2 24 j = P1 24 j) : SR P2 := by
  obtain ⟨h1, h2, h3⟩ := h
  have p6 : P2 6 = P 6 := (hf2.2 6 rfl rfl).trans (hf1.2 6 rfl rfl)
  have p7 : P2 7 = P 7 := (hf2.2 7 rfl rfl).trans (hf1.2 7 rfl rfl)
  have p13 : P2 0 13 = P 0 13 := (hf2.1 13 rfl).trans (hf1.1 13 rfl)
  have p24 : P1 24 = P 24 := hf1.2 24 rfl rfl
  have p26 : P2 26 = P1 26 := hf2.2 26 rfl rfl
  have p27 : P2 27 = P1 27 := hf2.2 27 rfl rfl
  have hcc := hcf (24 * b + con) fld hfld.1 hfld.2
  unfold SR
  rw [e43]
  refine ⟨⟨by omega, by omega⟩, fun j j0 j1 => ?_, fun j j0 j1 => ?_⟩
  · by_cases e : j = z + 1
    · rw [e, e24, ekd]; omega
    · rw [o24 j e, p24]; exact h2 j j0 (by omega)
  · unfold levR
    rw [p13, p6, p7, p26, p27, eb]
    by_cases e : j = z
    · rw [e, e26, e27]; exact ⟨hfld.2, hk⟩
    · have := h3 j j0 (by omega)
      unfold levR at this
      rw [eb] at this
      rw [o26 j e, o27 j e]; exact this
theorem SR.start {P1 : PH} {kd : Int} (e43 : P1 0 43 = 1) (e24 : P1 24 1 = kd) (hk : kd = 4 ∨ kd ≤ 3) : SR P1 := by
  unfold SR
  rw [e43]
  exact ⟨⟨by omega, by omega⟩, fun j j0 j1 => by rw [show j = 1 by omega, e24]; omega, fun j j0 j1 => by omega⟩
/-- what a thing on the pile may still write -/
def wt (k : Int) : Int := if k = 5 then 1 else if k = 4 then 2 else if k = 3 then 197 else if k = 2 then 93 else if k = 1 then 41 else 15
theorem wt_b (k : Int) : 1 ≤ wt k ∧ wt k ≤ 197 := by unfold wt; split <;> (try split) <;> (try split) <;> (try split) <;> (try split) <;> decide
theorem wt_field {k f : Int} (hk : 0 ≤ k ∧ k ≤ 3) (hf : f = 4 ∨ (0 ≤ f ∧ f < k)) : 2 * wt f + 11 ≤ wt k := by
  have hk' : k = 0 ∨ k = 1 ∨ k = 2 ∨ k = 3 := by omega
  have hf' : f = 4 ∨ (f = 0 ∧ 1 ≤ k) ∨ (f = 1 ∧ 2 ≤ k) ∨ (f = 2 ∧ 3 ≤ k) := by omega
  rcases hk' with rfl | rfl | rfl | rfl <;> rcases hf' with rfl | ⟨rfl, _⟩ | ⟨rfl, _⟩ | ⟨rfl, _⟩ <;> first | omega | decide
def tw (P : PH) : Nat → Int
  | 0 => 0
  | n + 1 => tw P n + wt (P 47 (n : Int))
theorem tw_eq {P P1 : PH} : ∀ n : Nat, (∀ j : Int, 0 ≤ j → j < n → P1 47 j = P 47 j) → tw P1 n = tw P n := by
  intro n
  induction n with
  | zero => intro _; rfl
  | succ n ih =>
    intro h
    show tw P1 n + _ = tw P n + _
    rw [ih (fun j h0 h1 => h j h0 (by omega)), h _ (by omega) (by omega)]
theorem tw_b (P : PH) : ∀ n : Nat, 0 ≤ tw P n := by
  intro n
  induction n with
  | zero => exact Int.le_refl _
  | succ n ih =>
    show 0 ≤ tw P n + _
    have := wt_b (P 47 (n : Int))
    omega
def twp (P : PH) : Int := tw P (P 0 73).toNat
theorem twp_b (P : PH) : 0 ≤ twp P := tw_b P _
theorem twp_fr {P P1 : PH} {F : FS} (hf : FrM F P P1) (hd : disF F ([73], [47]) = true) : twp P1 = twp P := by
  unfold disF at hd
  simp only [List.all_cons, List.all_nil, Bool.and_true, Bool.true_and, Bool.and_eq_true, Bool.not_eq_true'] at hd
  unfold twp
  rw [hf.1 73 hd.1, tw_eq (P := P) _ (fun j _ _ => by rw [hf.2 47 rfl hd.2])]
theorem twp_pop {P P1 : PH} {n : Int} (e : P 0 73 = n) (hn : 1 ≤ n) (e1 : P1 0 73 = n - 1) (r47 : ∀ j, P1 47 j = P 47 j) : twp P = twp P1 + wt (P 47 (n - 1)) := by
  unfold twp
  rw [e, e1, show n.toNat = (n - 1).toNat + 1 by omega]
  show tw P (n - 1).toNat + wt (P 47 ((n - 1).toNat : Int)) = _
  rw [tw_eq (P := P) (P1 := P1) _ (fun j _ _ => r47 j), show (((n - 1).toNat : Nat) : Int) = n - 1 by omega]
/-- a thing on the pile at a place -/
def tok (P : PH) (j k v : Int) : Prop := k = 5 ∧ j ≤ 19 ∨ (k = 4 ∧ j ≤ 19 ∧ 0 ≤ v ∧ v ≤ 19) ∨ (0 ≤ k ∧ k < 4 ∧ j + 3 * k ≤ 15 ∧ k < P 2 (P 0 13) ∧ 0 ≤ v ∧ v < P 3 (4 * P 0 13 + k))
def TD (P : PH) : Prop := P 0 73 ≤ 20 ∧ ∀ j : Int, 0 ≤ j → j < P 0 73 → tok P j (P 47 j) (P 48 j)
theorem TD.fr {P P1 : PH} {F : FS} (h : TD P) (hf : FrM F P P1) (hd : disF F ([13, 73], [2, 3, 47, 48]) = true) : TD P1 := by
  unfold disF at hd
  simp only [List.all_cons, List.all_nil, Bool.and_true, Bool.and_eq_true, Bool.not_eq_true'] at hd
  unfold TD tok at h ⊢
  rw [hf.1 13 hd.1.1, hf.1 73 hd.1.2, hf.2 2 rfl hd.2.1, hf.2 3 rfl hd.2.2.1, hf.2 47 rfl hd.2.2.2.1, hf.2 48 rfl hd.2.2.2.2]
  exact h
theorem TD.push {P P1 : PH} {k v : Int} (h : TD P) (hb : BdM P) (he : LA k v P P1) (hf : FrM ([73], [47, 48]) P P1) (ht : tok P (P 0 73) k v) : TD P1 ∧ twp P1 = twp P + wt k := by
  obtain ⟨h1, h2⟩ := h
  obtain ⟨e1, e2, e3, e4⟩ := he
  have q := b0_73 hb
  have p2 : P1 2 = P 2 := hf.2 2 rfl rfl
  have p3 : P1 3 = P 3 := hf.2 3 rfl rfl
  have p13 : P1 0 13 = P 0 13 := hf.1 13 rfl
  have h19 : P 0 73 ≤ 19 := by unfold tok at ht; omega
  refine ⟨⟨by omega, fun j j0 j1 => ?_⟩, ?_⟩
  · by_cases e : j = P 0 73
    · unfold tok at ht ⊢
      rw [p2, p3, p13, e, e3, e4]; exact ht
    · have := h2 j j0 (by omega)
      unfold tok at this ⊢
      rw [p2, p3, p13, (e2 j e).1, (e2 j e).2]; exact this
  · unfold twp
    rw [e1, show (P 0 73 + 1).toNat = (P 0 73).toNat + 1 by omega]
    show tw P1 (P 0 73).toNat + wt (P1 47 ((P 0 73).toNat : Int)) = _
    rw [tw_eq (P := P) (P1 := P1) _ (fun j j0 j1 => (e2 j (by omega)).1), show (((P 0 73).toNat : Nat) : Int) = P 0 73 by omega, e3]
theorem TD.pop {P P1 : PH} {n : Int} (h : TD P) (e : P 0 73 = n) (hn : 1 ≤ n) (e1 : P1 0 73 = n - 1) (e13 : P1 0 13 = P 0 13) (r2 : ∀ j, P1 2 j = P 2 j) (r3 : ∀ j, P1 3 j = P 3 j) (r47 : ∀ j, P1 47 j = P 47 j) (r48 : ∀ j, P1 48 j = P 48 j) : TD P1 ∧ tok P1 (n - 1) (P 47 (n - 1)) (P 48 (n - 1)) := by
  obtain ⟨h1, h2⟩ := h
  refine ⟨⟨by omega, fun j j0 j1 => ?_⟩, ?_⟩
  · have := h2 j j0 (by omega)
    unfold tok at this ⊢
    rw [e13, r2, r3, r47, r48]; exact this
  · have := h2 (n - 1) (by omega) (by omega)
    unfold tok at this ⊢
    rw [e13, r2, r3]; exact this
theorem TD.zero {P : PH} (h : P 0 73 = 0) : TD P ∧ twp P = 0 := by
  refine ⟨⟨by omega, fun j j0 j1 => by omega⟩, ?_⟩
  unfold twp
  rw [h]; rfl
theorem wt_con {k : Int} (hk : 0 ≤ k ∧ k ≤ 3) : 15 ≤ wt k := by
  have hk' : k = 0 ∨ k = 1 ∨ k = 2 ∨ k = 3 := by omega
  rcases hk' with rfl | rfl | rfl | rfl <;> decide
