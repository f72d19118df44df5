/-! The reference runs codes on a value: the truths, the values gone into. -/
def LSx (P : PH) (o : Nat) : List Int → Int → Prop
  | [], n => n = 0
  | x :: t, n => P o (n - 1) = x ∧ LSx P o t (n - 1)
theorem LSx.len {P : PH} {o : Nat} : ∀ (t : List Int) (n : Int), LSx P o t n → n = t.length := by
  intro t
  induction t with
  | nil => intro n h; exact h
  | cons x t ih =>
    intro n h
    have := ih _ h.2
    rw [List.length_cons]
    omega
theorem LSx.eq {P P1 : PH} {o : Nat} : ∀ (t : List Int) (n : Int), LSx P o t n → (∀ j : Int, 0 ≤ j → j < n → P1 o j = P o j) → LSx P1 o t n := by
  intro t
  induction t with
  | nil => intro n h _; exact h
  | cons x t ih =>
    intro n h e
    have hl := LSx.len t _ h.2
    exact ⟨(e (n - 1) (by omega) (by omega)).trans h.1, ih _ h.2 (fun j j0 j1 => e j j0 (by omega))⟩
theorem LSx.push {P P1 : PH} {o : Nat} {t : List Int} {n x : Int} (h : LSx P o t n) (s : P1 o n = x) (q : ∀ j : Int, j ≠ n → P1 o j = P o j) : LSx P1 o (x :: t) (n + 1) :=
  ⟨by rw [show n + 1 - 1 = n by omega]; exact s, by rw [show n + 1 - 1 = n by omega]; exact h.eq _ _ (fun j _ j1 => q j (by omega))⟩
theorem LSx.hd {P : PH} {o : Nat} {t : List Int} {n : Int} (h : LSx P o t n) (h1 : 1 ≤ n) : t = P o (n - 1) :: t.tail ∧ LSx P o t.tail (n - 1) := by
  cases t with
  | nil => have h : n = 0 := h; omega
  | cons x t => exact ⟨by rw [h.1]; rfl, h.2⟩
theorem LSx.last {P : PH} {o : Nat} : ∀ (t : List Int) (n : Int), LSx P o t n → t ≠ [] → P o 0 = t.getLastD 0 := by
  intro t
  induction t with
  | nil => intro n _ h; exact absurd rfl h
  | cons x t ih =>
    intro n h _
    cases t with
    | nil =>
      have h2 : n - 1 = 0 := h.2
      have h1 := h.1
      rw [h2] at h1
      rw [h1]
      rfl
    | cons y t =>
      rw [ih _ h.2 (by simp)]
      rfl
def BT (t : List Int) : Prop := ∀ x, x ∈ t → x = 0 ∨ x = 1
theorem b1_01 (p : Prop) [Decidable p] : b1 p = 0 ∨ b1 p = 1 := by
  rcases b1_s p with h | h
  · exact Or.inr h.2
  · exact Or.inl h.2
theorem BT.cons {t : List Int} {x : Int} (h : BT t) (hx : x = 0 ∨ x = 1) : BT (x :: t) := by
  intro y hy
  rcases List.mem_cons.mp hy with e | e
  · rw [e]; exact hx
  · exact h y e
theorem BT.tl {t : List Int} (h : BT t) : BT t.tail := fun y hy => h y (List.mem_of_mem_tail hy)
theorem oSt_bt {K : PH} {x : OP} {e : ES} (h : BT e.1) : BT (oSt K x e).1 := by
  unfold oSt
  by_cases h0 : x.1 = 0
  · rw [if_pos h0]; exact h.cons (Or.inr rfl)
  rw [if_neg h0]
  by_cases h1 : x.1 = 1
  · rw [if_pos h1]; exact h.cons (b1_01 _)
  rw [if_neg h1]
  by_cases h2 : x.1 = 2
  · rw [if_pos h2]; exact h.cons (b1_01 _)
  rw [if_neg h2]
  by_cases h3 : x.1 = 3
  · rw [if_pos h3]; exact h
  rw [if_neg h3]
  by_cases h4 : x.1 = 4
  · rw [if_pos h4]; exact h
  rw [if_neg h4]
  by_cases h5 : x.1 = 5
  · rw [if_pos h5]; exact h.tl.tl.cons (b1_01 _)
  rw [if_neg h5]
  exact h.tl.tl.cons (b1_01 _)
theorem evs_bt {K : PH} {e : ES} (h : BT e.1) : ∀ L : List OP, BT (evs K L e).1 := by
  intro L
  induction L with
  | nil => exact h
  | cons x L ih => exact oSt_bt ih
theorem hok.ne {K : PH} {E : List OP} {e : ES} (h : hok E) : (evs K E e).1 ≠ [] := by
  obtain ⟨y, E1, rfl, h3, h4⟩ := h
  show (oSt K y (evs K E1 e)).1 ≠ []
  unfold oSt
  by_cases h0 : y.1 = 0
  · rw [if_pos h0]; simp
  rw [if_neg h0]
  by_cases h1 : y.1 = 1
  · rw [if_pos h1]; simp
  rw [if_neg h1]
  by_cases h2 : y.1 = 2
  · rw [if_pos h2]; simp
  rw [if_neg h2, if_neg h3, if_neg h4]
  by_cases h5 : y.1 = 5
  · rw [if_pos h5]; simp
  rw [if_neg h5]
  simp
/-! the run so far -/
theorem CDL.dr {P : PH} {b : Int} : ∀ (E : List OP) (n : Int) (m : Nat), CDL P b E n → m < E.length → ∃ x, E.drop (E.length - (m + 1)) = x :: E.drop (E.length - m) ∧ x ∈ E ∧ P 19 (2800 * b + (n - E.length + m)) = x.1 ∧ P 20 (2800 * b + (n - E.length + m)) = x.2.1 ∧ P 21 (2800 * b + (n - E.length + m)) = x.2.2 := by
  intro E
  induction E with
  | nil => intro n m _ h; exact absurd h (Nat.not_lt_zero _)
  | cons y E ih =>
    intro n m h hm
    rw [List.length_cons] at hm ⊢
    by_cases e : m = E.length
    · refine ⟨y, ?_, List.mem_cons_self .., ?_⟩
      · rw [e, Nat.sub_self, show E.length + 1 - E.length = 1 by omega]; rfl
      · rw [e, show n - ((E.length + 1 : Nat) : Int) + (E.length : Int) = n - 1 by omega]; exact h.1
    · obtain ⟨x, h1, h2, h3⟩ := ih (n - 1) m h.2 (by omega)
      refine ⟨x, ?_, List.mem_cons_of_mem _ h2, ?_⟩
      · rw [show E.length + 1 - (m + 1) = (E.length - (m + 1)) + 1 by omega, show E.length + 1 - m = (E.length - m) + 1 by omega, List.drop_succ_cons, List.drop_succ_cons]
        exact h1
      · rw [show n - ((E.length + 1 : Nat) : Int) + (m : Int) = n - 1 - (E.length : Int) + (m : Int) by omega]
        exact h3
/-- what stands behind the first m codes of E at the value v: n truths, d values gone into -/
def EVx (K : PH) (E : List OP) (v m n d : Int) (P : PH) : Prop := 0 ≤ m ∧ LSx P 30 (evs K (E.drop (E.length - m.toNat)) ([], [v])).1 n ∧ LSx P 29 (evs K (E.drop (E.length - m.toNat)) ([], [v])).2 (d + 1)
theorem EVx.start {K : PH} {E : List OP} {v : Int} {P : PH} (h : P 29 0 = v) : EVx K E v 0 0 0 P := by
  refine ⟨Int.le_refl 0, ?_, ?_⟩
  · rw [show (0 : Int).toNat = 0 from rfl, Nat.sub_zero, List.drop_length]; rfl
  · rw [show (0 : Int).toNat = 0 from rfl, Nat.sub_zero, List.drop_length]; exact ⟨h, rfl⟩
section EVS
variable {K : PH} {E : List OP} {v m n d : Int} {P P1 : PH} {x : OP}
theorem EVx.up (h : EVx K E v m n d P) (hx : E.drop (E.length - (m.toNat + 1)) = x :: E.drop (E.length - m.toNat)) : evs K (E.drop (E.length - (m + 1).toNat)) ([], [v]) = oSt K x (evs K (E.drop (E.length - m.toNat)) ([], [v])) := by
  rw [show (m + 1).toNat = m.toNat + 1 by have := h.1; omega, hx]; rfl
theorem EVx.o0 (h : EVx K E v m n d P) (hx : E.drop (E.length - (m.toNat + 1)) = x :: E.drop (E.length - m.toNat)) (e : x.1 = 0) (s : P1 30 n = 1) (q30 : ∀ j : Int, j ≠ n → P1 30 j = P 30 j) (q29 : ∀ j, P1 29 j = P 29 j) : EVx K E v (m + 1) (n + 1) d P1 := by
  refine ⟨by have := h.1; omega, ?_, ?_⟩
  · rw [h.up hx]; unfold oSt; rw [if_pos e]; exact h.2.1.push s q30
  · rw [h.up hx]; unfold oSt; rw [if_pos e]; exact h.2.2.eq _ _ (fun j _ _ => q29 j)
theorem EVx.o1 (h : EVx K E v m n d P) (hx : E.drop (E.length - (m.toNat + 1)) = x :: E.drop (E.length - m.toNat)) (e : x.1 = 1) (hd : 0 ≤ d) (s : (P1 30 n = 1 ∧ x.2.1 ≤ P 29 d ∧ P 29 d ≤ x.2.2) ∨ (P1 30 n = 0 ∧ (P 29 d < x.2.1 ∨ x.2.2 < P 29 d))) (q30 : ∀ j : Int, j ≠ n → P1 30 j = P 30 j) (q29 : ∀ j, P1 29 j = P 29 j) : EVx K E v (m + 1) (n + 1) d P1 := by
  have g := (h.2.2.hd (by omega)).1
  rw [show d + 1 - 1 = d by omega] at g
  refine ⟨by have := h.1; omega, ?_, ?_⟩
  · rw [h.up hx]; unfold oSt; rw [if_neg (by omega), if_pos e, g]
    refine h.2.1.push ?_ q30
    show P1 30 n = b1 (x.2.1 ≤ P 29 d ∧ P 29 d ≤ x.2.2)
    rcases s with s | s
    · rw [b1_1 s.2]; exact s.1
    · rw [b1_0 (by omega)]; exact s.1
  · rw [h.up hx]; unfold oSt; rw [if_neg (by omega), if_pos e]; exact h.2.2.eq _ _ (fun j _ _ => q29 j)
theorem EVx.o2 (h : EVx K E v m n d P) (hx : E.drop (E.length - (m.toNat + 1)) = x :: E.drop (E.length - m.toNat)) (e : x.1 = 2) (hd : 0 ≤ d) (s : (P1 30 n = 1 ∧ K 10 x.2.1 ≤ P 29 d ∧ P 29 d < K 10 x.2.1 + cpr K x.2.1) ∨ (P1 30 n = 0 ∧ (P 29 d < K 10 x.2.1 ∨ K 10 x.2.1 + cpr K x.2.1 ≤ P 29 d))) (q30 : ∀ j : Int, j ≠ n → P1 30 j = P 30 j) (q29 : ∀ j, P1 29 j = P 29 j) : EVx K E v (m + 1) (n + 1) d P1 := by
  have g := (h.2.2.hd (by omega)).1
  rw [show d + 1 - 1 = d by omega] at g
  refine ⟨by have := h.1; omega, ?_, ?_⟩
  · rw [h.up hx]; unfold oSt; rw [if_neg (by omega), if_neg (by omega), if_pos e, g]
    refine h.2.1.push ?_ q30
    show P1 30 n = b1 (K 10 x.2.1 ≤ P 29 d ∧ P 29 d < K 10 x.2.1 + cpr K x.2.1)
    rcases s with s | s
    · rw [b1_1 s.2]; exact s.1
    · rw [b1_0 (by omega)]; exact s.1
  · rw [h.up hx]; unfold oSt; rw [if_neg (by omega), if_neg (by omega), if_pos e]; exact h.2.2.eq _ _ (fun j _ _ => q29 j)
theorem EVx.o3 (h : EVx K E v m n d P) (hx : E.drop (E.length - (m.toNat + 1)) = x :: E.drop (E.length - m.toNat)) (e : x.1 = 3) (hd : 0 ≤ d) (s : P1 29 (d + 1) = fdV K (P 29 d) x.2.1 x.2.2) (q29 : ∀ j : Int, j ≠ d + 1 → P1 29 j = P 29 j) (q30 : ∀ j, P1 30 j = P 30 j) : EVx K E v (m + 1) n (d + 1) P1 := by
  have g := (h.2.2.hd (by omega)).1
  rw [show d + 1 - 1 = d by omega] at g
  refine ⟨by have := h.1; omega, ?_, ?_⟩
  · rw [h.up hx]; unfold oSt; rw [if_neg (by omega), if_neg (by omega), if_neg (by omega), if_pos e]; exact h.2.1.eq _ _ (fun j _ _ => q30 j)
  · rw [h.up hx]; unfold oSt; rw [if_neg (by omega), if_neg (by omega), if_neg (by omega), if_pos e]
    refine h.2.2.push ?_ q29
    rw [g]
    exact s
theorem EVx.o4 (h : EVx K E v m n d P) (hx : E.drop (E.length - (m.toNat + 1)) = x :: E.drop (E.length - m.toNat)) (e : x.1 = 4) (hd : 0 ≤ d) : EVx K E v (m + 1) n (d - 1) P := by
  have g := (h.2.2.hd (by omega)).2
  rw [show d + 1 - 1 = d - 1 + 1 by omega] at g
  refine ⟨by have := h.1; omega, ?_, ?_⟩
  · rw [h.up hx]; unfold oSt; rw [if_neg (by omega), if_neg (by omega), if_neg (by omega), if_neg (by omega), if_pos e]; exact h.2.1
  · rw [h.up hx]; unfold oSt; rw [if_neg (by omega), if_neg (by omega), if_neg (by omega), if_neg (by omega), if_pos e]; exact g
theorem iand_01 {a b : Int} (ha : a = 0 ∨ a = 1) (hb : b = 0 ∨ b = 1) : iand a b = b1 (a = 1 ∧ b = 1) := by
  rcases ha with rfl | rfl <;> rcases hb with rfl | rfl <;> decide +kernel
theorem ior_01 {a b : Int} (ha : a = 0 ∨ a = 1) (hb : b = 0 ∨ b = 1) : ior a b = b1 (a = 1 ∨ b = 1) := by
  rcases ha with rfl | rfl <;> rcases hb with rfl | rfl <;> decide +kernel
theorem EVx.two (h : EVx K E v m n d P) (h2 : 2 ≤ n) : (evs K (E.drop (E.length - m.toNat)) ([], [v])).1 = P 30 (n - 1) :: P 30 (n - 2) :: (evs K (E.drop (E.length - m.toNat)) ([], [v])).1.tail.tail ∧ LSx P 30 (evs K (E.drop (E.length - m.toNat)) ([], [v])).1.tail.tail (n - 2) ∧ (P 30 (n - 1) = 0 ∨ P 30 (n - 1) = 1) ∧ (P 30 (n - 2) = 0 ∨ P 30 (n - 2) = 1) := by
  have g := h.2.1.hd (by omega)
  have g2 := g.2.hd (by omega)
  rw [show n - 1 - 1 = n - 2 by omega] at g2
  have hb : BT (evs K (E.drop (E.length - m.toNat)) ([], [v])).1 := evs_bt (fun y hy => absurd hy (by simp)) _
  have e : (evs K (E.drop (E.length - m.toNat)) ([], [v])).1 = P 30 (n - 1) :: P 30 (n - 2) :: (evs K (E.drop (E.length - m.toNat)) ([], [v])).1.tail.tail := by
    rw [← g2.1]; exact g.1
  exact ⟨e, g2.2, hb _ (by rw [e]; exact List.mem_cons_self ..), hb _ (by rw [e]; exact List.mem_cons_of_mem _ (List.mem_cons_self ..))⟩
theorem EVx.o5 (h : EVx K E v m n d P) (hx : E.drop (E.length - (m.toNat + 1)) = x :: E.drop (E.length - m.toNat)) (e : x.1 = 5) (h2 : 2 ≤ n) (s : P1 30 (n - 2) = iand (P 30 (n - 2)) (P 30 (n - 1))) (q30 : ∀ j : Int, j ≠ n - 2 → P1 30 j = P 30 j) (q29 : ∀ j, P1 29 j = P 29 j) : EVx K E v (m + 1) (n - 1) d P1 := by
  obtain ⟨g1, g2, g3, g4⟩ := h.two h2
  refine ⟨by have := h.1; omega, ?_, ?_⟩
  · rw [h.up hx]; unfold oSt; rw [if_neg (by omega), if_neg (by omega), if_neg (by omega), if_neg (by omega), if_neg (by omega), if_pos e]
    have q := g2.push (P1 := P1) (x := b1 (P 30 (n - 2) = 1 ∧ P 30 (n - 1) = 1)) (by rw [s, iand_01 g4 g3]) q30
    rw [show n - 2 + 1 = n - 1 by omega] at q
    rw [g1]
    exact q
  · rw [h.up hx]; unfold oSt; rw [if_neg (by omega), if_neg (by omega), if_neg (by omega), if_neg (by omega), if_neg (by omega), if_pos e]; exact h.2.2.eq _ _ (fun j _ _ => q29 j)
theorem EVx.o6 (h : EVx K E v m n d P) (hx : E.drop (E.length - (m.toNat + 1)) = x :: E.drop (E.length - m.toNat)) (e : 6 ≤ x.1) (h2 : 2 ≤ n) (s : P1 30 (n - 2) = ior (P 30 (n - 2)) (P 30 (n - 1))) (q30 : ∀ j : Int, j ≠ n - 2 → P1 30 j = P 30 j) (q29 : ∀ j, P1 29 j = P 29 j) : EVx K E v (m + 1) (n - 1) d P1 := by
  obtain ⟨g1, g2, g3, g4⟩ := h.two h2
  refine ⟨by have := h.1; omega, ?_, ?_⟩
  · rw [h.up hx]; unfold oSt; rw [if_neg (by omega), if_neg (by omega), if_neg (by omega), if_neg (by omega), if_neg (by omega), if_neg (by omega)]
    have q := g2.push (P1 := P1) (x := b1 (P 30 (n - 2) = 1 ∨ P 30 (n - 1) = 1)) (by rw [s, ior_01 g4 g3]) q30
    rw [show n - 2 + 1 = n - 1 by omega] at q
    rw [g1]
    exact q
  · rw [h.up hx]; unfold oSt; rw [if_neg (by omega), if_neg (by omega), if_neg (by omega), if_neg (by omega), if_neg (by omega), if_neg (by omega)]; exact h.2.2.eq _ _ (fun j _ _ => q29 j)
theorem EVx.cg {m1 n1 d1 : Int} (h : EVx K E v m n d P) (em : m = m1) (en : n = n1) (ed : d = d1) : EVx K E v m1 n1 d1 P := by subst em; subst en; subst ed; exact h
theorem EVx.o5l {l : Int} (h : EVx K E v m (l + 1) d P) (hx : E.drop (E.length - (m.toNat + 1)) = x :: E.drop (E.length - m.toNat)) (e : x.1 = 5) (h2 : 1 ≤ l) (s : P1 30 (l - 1) = iand (P 30 (l - 1)) (P 30 l)) (q30 : ∀ j : Int, j ≠ l - 1 → P1 30 j = P 30 j) (q29 : ∀ j, P1 29 j = P 29 j) : EVx K E v (m + 1) l d P1 := by
  have q := h.o5 (P1 := P1) hx e (by omega) (by rw [show l + 1 - 2 = l - 1 by omega, show l + 1 - 1 = l by omega]; exact s) (fun j hj => q30 j (by omega)) q29
  exact q.cg rfl (by omega) rfl
theorem EVx.o6l {l : Int} (h : EVx K E v m (l + 1) d P) (hx : E.drop (E.length - (m.toNat + 1)) = x :: E.drop (E.length - m.toNat)) (e : 6 ≤ x.1) (h2 : 1 ≤ l) (s : P1 30 (l - 1) = ior (P 30 (l - 1)) (P 30 l)) (q30 : ∀ j : Int, j ≠ l - 1 → P1 30 j = P 30 j) (q29 : ∀ j, P1 29 j = P 29 j) : EVx K E v (m + 1) l d P1 := by
  have q := h.o6 (P1 := P1) hx e (by omega) (by rw [show l + 1 - 2 = l - 1 by omega, show l + 1 - 1 = l by omega]; exact s) (fun j hj => q30 j (by omega)) q29
  exact q.cg rfl (by omega) rfl
/-- the end of the run -/
theorem EVx.fin (h : EVx K E v m n d P) (hm : m = E.length) (hE : hok E) : P 30 0 = tv K E v ∧ (P 30 0 = 0 ∨ P 30 0 = 1) := by
  have e : E.drop (E.length - m.toNat) = E := by rw [hm, Int.toNat_natCast, Nat.sub_self]; rfl
  have h1 := h.2.1
  rw [e] at h1
  have hn : (evs K E ([], [v])).1 ≠ [] := hE.ne
  have hl := h1.last _ _ hn
  have hb : BT (evs K E ([], [v])).1 := evs_bt (fun y hy => absurd hy (by simp)) _
  refine ⟨hl, ?_⟩
  rw [hl, List.getLastD_eq_getLast? , List.getLast?_eq_getLast hn]
  exact hb _ (List.getLast_mem hn)
end EVS
def MCB (K M : PH) (F : FT) (P : PH) : Prop := FWo K M F ∧ MCb (P 0 13) M F P
theorem MCB.fr {K M : PH} {F : FT} {P P1 : PH} {G : FS} (h : MCB K M F P) (hf : FrM G P P1) (hd : disF G ([13], [17, 18, 19, 20, 21]) = true) : MCB K M F P1 :=
  ⟨h.1, h.2.eq (disF_k hd hf (k := 13) (by decide)) hf (disF_w hd rfl rfl)⟩
theorem MCb.kb {b b1 : Int} {M P P1 : PH} {F : FT} (h : MCb b M F P) (hm : M 0 2 ≤ 12 ∧ M 0 0 ≤ 4) (hB : BdM P) (hk : KB b1 P P1) (hb : b = 1 - b1) (h0 : 0 ≤ b ∧ b ≤ 1) : MCb b M F P1 := by
  have e17 : ∀ j : Int, 48 * b ≤ j → j < 48 * (b + 1) → P1 17 j = P 17 j := fun j j0 j1 => hk 17 j (by show 48 * (1 - b1) ≤ j; omega) (by show j < 48 * (2 - b1); omega)
  have e18 : ∀ j : Int, 48 * b ≤ j → j < 48 * (b + 1) → P1 18 j = P 18 j := fun j j0 j1 => hk 18 j (by show 48 * (1 - b1) ≤ j; omega) (by show j < 48 * (2 - b1); omega)
  have ec : ∀ (o : Nat), sbM o = 2800 → ∀ j : Int, 2800 * b ≤ j → j < 2800 * (b + 1) → P1 o j = P o j := fun o ho j j0 j1 => hk o j (by rw [ho]; omega) (by rw [ho]; omega)
  intro a c a0 a1 c0 c1
  obtain ⟨h1, h2⟩ := h a c a0 a1 c0 c1
  have q17 := (bl_17 (k := 4 * (12 * b + a) + c) hB).1
  have q := (bl_18 (k := 4 * (12 * b + a) + c) hB).2
  rw [e17 _ (by omega) (by omega), e18 _ (by omega) (by omega)]
  exact ⟨h1, h2.eq _ _ (fun j j0 j1 => ⟨ec 19 rfl _ (by omega) (by omega), ec 20 rfl _ (by omega) (by omega), ec 21 rfl _ (by omega) (by omega)⟩)⟩
/-! a statement's codes -/
theorem col_2 {T : TT} {K : PH} : ∀ (r : Nat) (M : PH) (i p : Int), (col T K r M i p).2.2 0 2 = M 0 2 := by
  intro r
  induction r with
  | zero => intro M i p; rfl
  | succ r ih =>
    intro M i p
    by_cases e : kGo T K (-1) (M 0 0) 4 0 i 20000 p = 0
    · rw [col_go e, ih, mCol_0.2.2.1]
    · by_cases e1 : kGo T K (-1) (M 0 0) 4 0 i 20000 p = 1
      · rw [col_end e1]
      · rw [col_bad e1 e]
theorem sMa_2 {T : TT} {K M : PH} {p : Int} : (sMa T K M p).2.2 0 2 = M 0 2 := by
  unfold sMa
  by_cases h : 0 < M 0 0
  · rw [if_pos h]
  · rw [if_neg h]
    by_cases h2 : tK T (tE T p) = 1 ∧ (tO T (tE T p) = -1 ∨ tO T (tE T p) = 7)
    · rw [if_pos h2]; exact col_2 4 M 1 _
    · rw [if_neg h2]
/-- no arms ahead of columns -/
def NA (M : PH) : Prop := M 0 0 ≤ 0 → M 0 2 ≤ 0
theorem NA.zero : NA M0 := fun _ => by decide
theorem NA.st {T : TT} {K M : PH} {p : Int} (h : NA M) (hs : (sSt T K M p).1 = 0) : NA (mSt T K M p) := by
  unfold sSt at hs
  unfold mSt
  by_cases h2 : tO T p = 2
  · rw [if_neg (by omega), if_neg (by omega), if_pos h2] at hs
    rw [if_pos h2]
    have q := sMa_s T K M p
    have hs : (sMa T K M p).1 = 0 := hs
    intro _
    rw [sMa_2]
    exact h (by omega)
  · rw [if_neg h2]
    by_cases h3 : tO T p = 3
    · rw [if_neg (by omega), if_neg (by omega), if_neg h2, if_pos h3] at hs
      rw [if_pos h3]
      have q := sAr_s T K M p
      unfold mAr
      intro z
      rw [aNew_0.1] at z
      omega
    · rw [if_neg h3]
      by_cases h5 : tO T p = 5
      · rw [if_pos h5]; intro z; rw [up_k (by decide)] at z ⊢; exact h z
      · rw [if_neg h5]
        by_cases h6 : tO T p = 6
        · rw [if_pos h6]; intro z; rw [up_k (by decide)] at z ⊢; exact h z
        · rw [if_neg h6]; exact h
noncomputable def fmR (T : TT) (F : FT) : FT := if (mlR T).1 = 0 then mlRF T else F
theorem fmR_0 {T : TT} {F : FT} (h : (mlR T).1 = 0) : fmR T F = mlRF T := if_pos h
theorem fmR_1 {T : TT} {F : FT} (h : (mlR T).1 ≠ 0) : fmR T F = F := if_neg h
theorem MC.B {K M : PH} {F : FT} {P : PH} (h : MC K M F P) (e13 : P 0 13 = P 0 37) : MCB K M F P := ⟨h.1, by rw [e13]; exact h.2.1⟩
theorem MKB.c10v {K P : PH} (h : MKB K P) (hw : AW K) {c : Int} (h0 : 0 ≤ c) (h1 : c < K 0 1) (q : ZV P (P 0 13) (24 * P 0 13 + c)) : P 10 (24 * P 0 13 + c) = cpr K c := by
  have hc := h.cc h0 h1
  have w := hw.2.2.1 c h0 h1
  unfold ZV at q
  rcases q with ⟨a1, a2⟩ | ⟨a1, a2, a3⟩ | ⟨a1, a2, a3, a4⟩
  · rw [cpr_0 (by omega)]; exact a2
  · rw [cpr_1 (by omega), a3]
    exact h.vl (hc.2.2.2.1 (by omega)) (by omega)
  · rw [cpr_2 (by omega), a4, h.vl (hc.2.2.2.1 (by omega)) (by omega), h.vl (hc.2.2.2.2.1 (by omega)) (by omega)]
theorem fdV_o {K : PH} {v c f : Int} (h : v < K 10 c ∨ K 10 c + cpr K c ≤ v) : fdV K v c f = -1 := by
  unfold fdV
  rw [if_neg (by unfold inR; omega)]
theorem fdV_1 {K : PH} {v c f : Int} (h : K 10 c ≤ v ∧ v < K 10 c + cpr K c) (h6 : K 6 c = 1) : fdV K v c f = v - K 10 c := by
  unfold fdV
  rw [if_pos h, if_pos h6]
theorem fdV_2 {K : PH} {v c f : Int} (h : K 10 c ≤ v ∧ v < K 10 c + cpr K c) (h6 : K 6 c ≠ 1) : fdV K v c f = if f = 0 then (v - K 10 c) / sz K (K 8 c) else (v - K 10 c) % sz K (K 8 c) := by
  unfold fdV
  rw [if_pos h, if_neg h6]
