/-! A value's reading by the reference: its stack of constructors begun. -/
def SVL (P : PH) : SV → Prop
  | [] => True
  | (c, f, a) :: s => P 26 ((s.length : Int) + 1) = c ∧ P 27 ((s.length : Int) + 1) = f ∧ P 25 ((s.length : Int) + 1) = a ∧ SVL P s
theorem SVL.eq {P P1 : PH} : ∀ (s : SV), SVL P s → (∀ j : Int, 1 ≤ j → j ≤ s.length → P1 25 j = P 25 j ∧ P1 26 j = P 26 j ∧ P1 27 j = P 27 j) → SVL P1 s := by
  intro s
  induction s with
  | nil => intro _ _; trivial
  | cons x s ih =>
    obtain ⟨c, f, a⟩ := x
    intro h e
    have e1 := e ((s.length : Int) + 1) (by omega) (by rw [List.length_cons]; omega)
    exact ⟨e1.2.1.trans h.1, e1.2.2.trans h.2.1, e1.1.trans h.2.2.1, ih h.2.2.2 (fun j j1 j2 => e j j1 (by rw [List.length_cons]; omega))⟩
/-- what is begun fits: the kind of the value that is to come, the kind at the bottom -/
def TSV (K : PH) (k0 : Int) : SV → Int → Prop
  | [], k => k = k0
  | (c, f, a) :: s, k => k = fK K c f ∧ (0 ≤ c ∧ c < K 0 1) ∧ (0 ≤ f ∧ f < K 6 c) ∧ ((f = 0 ∧ a = 0) ∨ (f = 1 ∧ 0 ≤ a ∧ a < sz K (K 7 c))) ∧ TSV K k0 s (K 5 c)
/-- constructors begun: the stack -/
def STW (s : SV) (P : PH) : Prop := P 0 43 = (s.length : Int) + 1 ∧ SVL P s
theorem STW.fr {s : SV} {P P1 : PH} {F : FS} (h : STW s P) (hf : FrM F P P1) (hd : disF F ([43], [25, 26, 27]) = true) : STW s P1 := by
  obtain ⟨h1, h3⟩ := h
  refine ⟨by rw [disF_k hd hf (k := 43) (by decide)]; exact h1, h3.eq s (fun j _ _ => ?_)⟩
  rw [disF_o hd hf (o := 25) (by decide) rfl, disF_o hd hf (o := 26) (by decide) rfl, disF_o hd hf (o := 27) (by decide) rfl]
  exact ⟨rfl, rfl, rfl⟩
/-- .. and a value's kind on top -/
def STV (s : SV) (k : Int) (P : PH) : Prop := STW s P ∧ K4 (P 24 (P 0 43)) k
theorem STV.fr {s : SV} {k : Int} {P P1 : PH} {F : FS} (h : STV s k P) (hf : FrM F P P1) (hd : disF F ([43], [24, 25, 26, 27]) = true) : STV s k P1 := by
  obtain ⟨⟨h1, h3⟩, h2⟩ := h
  refine ⟨⟨by rw [disF_k hd hf (k := 43) (by decide)]; exact h1, h3.eq s (fun j _ _ => ?_)⟩, by rw [disF_k hd hf (k := 43) (by decide), disF_o hd hf (o := 24) (by decide) rfl]; exact h2⟩
  rw [disF_o hd hf (o := 25) (by decide) rfl, disF_o hd hf (o := 26) (by decide) rfl, disF_o hd hf (o := 27) (by decide) rfl]
  exact ⟨rfl, rfl, rfl⟩
theorem STV.start {k z : Int} {P : PH} (h43 : P 0 43 = 1) (h24 : P 24 1 = z) (hk : K4 z k) : STV [] k P := ⟨⟨h43, trivial⟩, by rw [h43, h24]; exact hk⟩
theorem STV.b {s : SV} {k : Int} {P : PH} (h : STV s k P) : P 0 43 = (s.length : Int) + 1 ∧ ((P 24 (P 0 43) = 4 ∧ k = -1) ∨ (0 ≤ P 24 (P 0 43) ∧ P 24 (P 0 43) ≤ 3 ∧ k = P 24 (P 0 43))) := ⟨h.1.1, h.2⟩
theorem STW.top {c f a : Int} {s : SV} {P : PH} (h : STW ((c, f, a) :: s) P) : P 26 (P 0 43 - 1) = c ∧ P 27 (P 0 43 - 1) = f ∧ P 25 (P 0 43 - 1) = a := by
  obtain ⟨h1, h3, h4, h5, h6⟩ := h
  have h1 : P 0 43 = ((s.length : Int) + 1) + 1 := by rw [h1, List.length_cons]; omega
  rw [show P 0 43 - 1 = (s.length : Int) + 1 by omega]
  exact ⟨h3, h4, h5⟩
/-- a constructor is begun -/
theorem STV.push {c k1 z w : Int} {s : SV} {P P1 : PH} (h : STW s P) (hw : w = P 0 43) (hz : K4 z k1) (h43 : P1 0 43 = w + 1) (s24 : P1 24 (w + 1) = z) (s26 : P1 26 w = c) (q26 : ∀ j : Int, j ≠ w → P1 26 j = P 26 j) (s27 : P1 27 w = 0) (q27 : ∀ j : Int, j ≠ w → P1 27 j = P 27 j)
    (s25 : P1 25 w = 0) (q25 : ∀ j : Int, j ≠ w → j ≠ w + 1 → P1 25 j = P 25 j) : STV ((c, 0, 0) :: s) k1 P1 := by
  obtain ⟨h1, h3⟩ := h
  have e : w = (s.length : Int) + 1 := by omega
  exact ⟨⟨by rw [h43, e, List.length_cons]; omega, by rw [← e]; exact s26, by rw [← e]; exact s27, by rw [← e]; exact s25, h3.eq s (fun j j1 j2 => ⟨q25 j (by omega) (by omega), q26 j (by omega), q27 j (by omega)⟩)⟩, by rw [h43, s24]; exact hz⟩
/-- the next field of the one on top (P: as it stood with the value on top; z: where it stands) -/
theorem STV.next {c f a k1 y z b : Int} {s : SV} {P P1 : PH} (h : STW ((c, f, a) :: s) P) (hz : z = P 0 43 - 1) (hy : K4 y k1) (h43 : P1 0 43 = z + 1) (s24 : P1 24 (z + 1) = y) (q26 : ∀ j : Int, P1 26 j = P 26 j) (s27 : P1 27 z = f + 1) (q27 : ∀ j : Int, j ≠ z → P1 27 j = P 27 j)
    (s25 : P1 25 z = b) (q25 : ∀ j : Int, j ≠ z → j ≠ z + 1 → P1 25 j = P 25 j) : STV ((c, f + 1, b) :: s) k1 P1 := by
  obtain ⟨h1, h3, h4, h5, h6⟩ := h
  have h1 : P 0 43 = ((s.length : Int) + 1) + 1 := by rw [h1, List.length_cons]; omega
  have e : z = (s.length : Int) + 1 := by omega
  exact ⟨⟨by rw [h43, e, List.length_cons]; omega, by rw [q26]; exact h3, by rw [← e]; exact s27, by rw [← e]; exact s25, h6.eq s (fun j j1 j2 => ⟨q25 j (by omega) (by omega), q26 j, q27 j (by omega)⟩)⟩, by rw [h43, s24]; exact hy⟩
/-- the one on top is whole: what stands below it -/
theorem STW.low {c f a z : Int} {s : SV} {P P1 : PH} (h : STW ((c, f, a) :: s) P) (hz : z = P 0 43 - 1) (h43 : P1 0 43 = z) (q26 : ∀ j : Int, P1 26 j = P 26 j) (q27 : ∀ j : Int, P1 27 j = P 27 j) (q25 : ∀ j : Int, j ≠ z → P1 25 j = P 25 j) : STW s P1 := by
  obtain ⟨h1, h3, h4, h5, h6⟩ := h
  have h1 : P 0 43 = ((s.length : Int) + 1) + 1 := by rw [h1, List.length_cons]; omega
  exact ⟨by omega, h6.eq s (fun j j1 j2 => ⟨q25 j (by omega), q26 j, q27 j⟩)⟩
/-- what the going on behind a whole value leaves -/
def VN (T : TT) (K : PH) (k0 : Int) (s : SV) (p v r : Int) (P : PH) : Prop := (0 < P 0 8 ∧ VRs T K 1 s 0 p v (P 0 8, P 0 9, 0)) ∨
  (P 0 8 ≤ 0 ∧ r = 1 ∧ ∃ (s1 : SV) (k1 q : Int), MS T q P ∧ STV s1 k1 P ∧ TSV K k0 s1 k1 ∧ ∀ x, VRs T K 0 s1 k1 q 0 x → VRs T K 1 s 0 p v x) ∨
  (P 0 8 ≤ 0 ∧ r = 0 ∧ ∃ q w : Int, MS T q P ∧ P 25 0 = w ∧ (0 ≤ w ∧ w < sz K k0) ∧ VRs T K 1 s 0 p v (0, q, w))
/-- what the reading of a value leaves -/
def VL (T : TT) (K : PH) (k0 p m : Int) (P : PH) : Prop := (0 < P 0 8 ∧ VRs T K 0 [] k0 p 0 (P 0 8, P 0 9, 0)) ∨
  (P 0 8 ≤ 0 ∧ m = 1 ∧ ∃ (s1 : SV) (k1 q : Int), MS T q P ∧ STV s1 k1 P ∧ TSV K k0 s1 k1 ∧ ∀ x, VRs T K 0 s1 k1 q 0 x → VRs T K 0 [] k0 p 0 x) ∨
  (P 0 8 ≤ 0 ∧ m = 0 ∧ ∃ q w : Int, MS T q P ∧ P 25 0 = w ∧ (0 ≤ w ∧ w < sz K k0) ∧ VRs T K 0 [] k0 p 0 (0, q, w))
/-- a whole value on its way: the constructors begun below it, the place behind it, its kind -/
def VG (T : TT) (K : PH) (k0 : Int) (s : SV) (p v v1 : Int) (P : PH) : Prop := (0 < P 0 8 ∧ VRs T K 1 s 0 p v (P 0 8, P 0 9, 0)) ∨
  (P 0 8 ≤ 0 ∧ ∃ (s1 : SV) (k1 q : Int), MS T q P ∧ STW s1 P ∧ TSV K k0 s1 k1 ∧ (0 ≤ v1 ∧ v1 < sz K k1) ∧ ∀ x, VRs T K 1 s1 0 q v1 x → VRs T K 1 s 0 p v x)
section VNS
variable {T : TT} {K : PH} {k0 p v v1 r k q : Int} {s : SV} {P P1 : PH}
theorem VG.start (h0 : P 0 8 ≤ 0) (hs : MS T p P) (hw : STW s P) (ht : TSV K k0 s k) (hv : 0 ≤ v ∧ v < sz K k) : VG T K k0 s p v v P := Or.inr ⟨h0, s, k, p, hs, hw, ht, hv, fun _ hx => hx⟩
theorem VG.flt (h : VG T K k0 s p v v1 P) (h0 : 0 < P 0 8) : VN T K k0 s p v r P := by
  rcases h with h | h
  · exact Or.inl h
  · exact absurd h.1 (by omega)
theorem VN.done {w : Int} (hr : ∀ x, VRs T K 1 [] 0 q v1 x → VRs T K 1 s 0 p v x) (ht : TSV K k0 [] k) (hv : 0 ≤ v1 ∧ v1 < sz K k) (h8 : P 0 8 ≤ 0) (hs : MS T q P) (h25 : P 25 0 = w) (hw : w = v1) : VN T K k0 s p v 0 P := by
  have ht : k = k0 := ht
  subst hw
  subst ht
  exact Or.inr (Or.inr ⟨h8, rfl, q, w, hs, h25, hv, hr _ VRs.done⟩)
theorem VN.commaF {c f a : Int} {s1 : SV} (hr : ∀ x, VRs T K 1 ((c, f, a) :: s1) 0 q v1 x → VRs T K 1 s 0 p v x) (hf : f + 1 < K 6 c) (hn : (sgn T 44 q).1 ≠ 0) (h8 : P 0 8 = (sgn T 44 q).1) (h80 : 0 ≤ P 0 8) (h9 : P 0 9 = (sgn T 44 q).2) : VN T K k0 s p v r P := by
  refine Or.inl ⟨by omega, ?_⟩
  rw [h8, h9]
  exact hr _ (VRs.commaF hf hn)
theorem TSV.next {c f a : Int} {s1 : SV} (ht : TSV K k0 ((c, f, a) :: s1) k) (hf : f + 1 < K 6 c) (h6 : K 6 c ≤ 2) (hv : 0 ≤ v1 ∧ v1 < sz K k) : TSV K k0 ((c, f + 1, a * sz K (fK K c f) + v1) :: s1) (K 8 c) := by
  obtain ⟨h1, h2, h3, h4, h5⟩ := ht
  have f0 : f = 0 := by omega
  have a0 : a = 0 := by omega
  subst f0
  subst a0
  rw [show (0 : Int) * sz K (fK K c 0) + v1 = v1 by rw [Int.zero_mul]; omega]
  exact ⟨rfl, h2, ⟨by omega, hf⟩, Or.inr ⟨rfl, by rw [h1] at hv; exact hv⟩, h5⟩
theorem VN.comma {c f a : Int} {s1 : SV} (hr : ∀ x, VRs T K 1 ((c, f, a) :: s1) 0 q v1 x → VRs T K 1 s 0 p v x) (ht : TSV K k0 ((c, f, a) :: s1) k) (h6 : K 6 c ≤ 2) (hv : 0 ≤ v1 ∧ v1 < sz K k) (hf : f + 1 < K 6 c) (hn : (sgn T 44 q).1 = 0) (h8 : P 0 8 ≤ 0) (hs : MS T (tE T q) P) (hw : STV ((c, f + 1, a * sz K (fK K c f) + v1) :: s1) (K 8 c) P) : VN T K k0 s p v 1 P :=
  Or.inr (Or.inl ⟨h8, rfl, _, _, tE T q, hs, hw, ht.next hf h6 hv, fun x hx => hr x (VRs.comma hf hn hx)⟩)
theorem VG.closeF {c f a : Int} {s1 : SV} (hr : ∀ x, VRs T K 1 ((c, f, a) :: s1) 0 q v1 x → VRs T K 1 s 0 p v x) (hf : ¬ f + 1 < K 6 c) (hn : (sgn T 41 q).1 ≠ 0) (h8 : P 0 8 = (sgn T 41 q).1) (h80 : 0 ≤ P 0 8) (h9 : P 0 9 = (sgn T 41 q).2) : VG T K k0 s p v r P := by
  refine Or.inl ⟨by omega, ?_⟩
  rw [h8, h9]
  exact hr _ (VRs.closeF hf hn)
/-- a constructor's value -/
theorem TSV.val {c f a : Int} {s1 : SV} (hb : AB K) (ht : TSV K k0 ((c, f, a) :: s1) k) (hf : ¬ f + 1 < K 6 c) (h6 : K 6 c ≤ 2) (hk : 0 ≤ K 5 c) (hv : 0 ≤ v1 ∧ v1 < sz K k) : (0 ≤ a * sz K (fK K c f) + v1 ∧ a * sz K (fK K c f) + v1 < cpr K c) ∧ 0 ≤ K 10 c + (a * sz K (fK K c f) + v1) ∧ K 10 c + (a * sz K (fK K c f) + v1) < sz K (K 5 c) := by
  obtain ⟨h1, h2, h3, h4, h5⟩ := ht
  have b := cpr_b hb h2.1 h2.2
  have e := sz_s K (K 5 c)
  have l : 0 ≤ a * sz K (fK K c f) + v1 ∧ a * sz K (fK K c f) + v1 < cpr K c := by
    rcases h4 with ⟨f0, a0⟩ | ⟨f0, a0⟩
    · subst f0
      subst a0
      rw [cpr_1 (by omega), Int.zero_mul, Int.zero_add]
      rw [h1] at hv
      exact hv
    · subst f0
      rw [cpr_2 (by omega)]
      rw [h1] at hv
      exact lex_lt a0 hv
  exact ⟨l, by omega, by omega⟩
theorem VG.close {c f a w : Int} {s1 : SV} (hb : AB K) (hr : ∀ x, VRs T K 1 ((c, f, a) :: s1) 0 q v1 x → VRs T K 1 s 0 p v x) (ht : TSV K k0 ((c, f, a) :: s1) k) (h6 : K 6 c ≤ 2) (hk : 0 ≤ K 5 c) (hv : 0 ≤ v1 ∧ v1 < sz K k) (hf : ¬ f + 1 < K 6 c) (hn : (sgn T 41 q).1 = 0) (h8 : P 0 8 ≤ 0) (hs : MS T (tE T q) P) (hw : STW s1 P) (e : w = K 10 c + (a * sz K (fK K c f) + v1)) : VG T K k0 s p v w P := by
  have l := (ht.val hb hf h6 hk hv).2
  subst e
  exact Or.inr ⟨h8, s1, K 5 c, tE T q, hs, hw, ht.2.2.2.2, l, fun x hx => hr x (VRs.close hf hn hx)⟩
/-- a value's reading begins -/
theorem VL.start (h8 : P 0 8 ≤ 0) (hs : MS T p P) (hw : STV [] k0 P) : VL T K k0 p 1 P := Or.inr (Or.inl ⟨h8, rfl, [], k0, p, hs, hw, rfl, fun _ hx => hx⟩)
theorem VRs.bad {v : Int} (h : tK T q = 4) : VRs T K 0 s k q v (1, tS T q, 0) := by
  by_cases hk : k = -1
  · have e := num_4 (lo := 0) (hi := 19) h
    have := VRs.numF (T := T) (K := K) (s := s) (p := q) (v := v) hk (by rw [e]; exact (show (1 : Int) ≠ 0 by decide))
    rw [e] at this
    exact this
  · have e : cas T K k q = (1, tS T q) := by
      unfold cas fh
      rw [if_neg (by omega), if_pos h]
    have := VRs.caseF (T := T) (K := K) (s := s) (p := q) (v := v) hk (by rw [e]; exact (show (1 : Int) ≠ 0 by decide))
    rw [e] at this
    exact this
theorem VL.bad {m : Int} (hr : ∀ x, VRs T K 0 s k q 0 x → VRs T K 0 [] k0 p 0 x) (h : tK T q = 4) (h8 : P 0 8 = 1) (h9 : P 0 9 = tS T q) : VL T K k0 p m P := by
  refine Or.inl ⟨by omega, ?_⟩
  rw [h8, h9]
  exact hr _ (VRs.bad h)
theorem VL.flt {m : Int} {f l : Int} (hr : VRs T K 0 [] k0 p 0 (f, l, 0)) (h0 : 0 < P 0 8) (h8 : P 0 8 = f) (h9 : P 0 9 = l) : VL T K k0 p m P := Or.inl ⟨h0, by rw [h8, h9]; exact hr⟩
/-- the value goes on -/
theorem VL.more {m : Int} (hr : ∀ x, VRs T K 1 s 0 q v x → VRs T K 0 [] k0 p 0 x) (h : VN T K k0 s q v m P) : VL T K k0 p m P := by
  rcases h with ⟨h1, h2⟩ | ⟨h1, h2, s1, k1, q1, h3, h4, h5, h6⟩ | ⟨h1, h2, q1, w, h3, h4, h5, h6⟩
  · exact Or.inl ⟨h1, hr _ h2⟩
  · exact Or.inr (Or.inl ⟨h1, h2, s1, k1, q1, h3, h4, h5, fun x hx => hr x (h6 x hx)⟩)
  · exact Or.inr (Or.inr ⟨h1, h2, q1, w, h3, h4, h5, hr _ h6⟩)
theorem VL.into {c : Int} (hr : ∀ x, VRs T K 0 s k q 0 x → VRs T K 0 [] k0 p 0 x) (ht : TSV K k0 s k) (hk : k ≠ -1) (hc : (cas T K k q).1 = 0) (he : c = cNm K (tV T q)) (hc0 : 0 ≤ c ∧ c < K 0 1) (h5 : K 5 c = k) (h6 : K 6 c ≠ 0) (h60 : 0 ≤ K 6 c) (hn : (sgn T 40 (tE T q)).1 = 0) (h8 : P 0 8 ≤ 0) (hs : MS T (tE T (tE T q)) P) (hw : STV ((c, 0, 0) :: s) (K 7 c) P) : VL T K k0 p 1 P := by
  subst he
  exact Or.inr (Or.inl ⟨h8, rfl, _, _, _, hs, hw, ⟨rfl, hc0, ⟨Int.le_refl _, by omega⟩, Or.inl ⟨rfl, rfl⟩, by rw [h5]; exact ht⟩, fun x hx => hr x (VRs.into hk hc h6 hn hx)⟩)
end VNS
/-! the tables of the bank in use -/
theorem MKB.cc {K P : PH} (h : MKB K P) {c : Int} (h0 : 0 ≤ c) (h1 : c < K 0 1) : NW (K 4 c) (P 23 (24 * P 0 13 + c)) ∧ P 6 (24 * P 0 13 + c) = K 5 c ∧ P 7 (24 * P 0 13 + c) = K 6 c ∧ (1 ≤ K 6 c → K4 (P 8 (2 * (24 * P 0 13 + c))) (K 7 c)) ∧ (2 ≤ K 6 c → K4 (P 8 (2 * (24 * P 0 13 + c) + 1)) (K 8 c)) ∧ P 9 (24 * P 0 13 + c) = K 10 c := h.2.2.2 c h0 h1
theorem MKB.cn {K P : PH} (h : MKB K P) (ha : AW K) {v w : Int} (hw : NW v w) : fxi (fun i => P 23 (24 * P 0 13 + i)) w (P 5 (P 0 13)).toNat = cNm K v := by
  unfold cNm
  rw [h.2.1]
  refine fxi_cg _ (fun i h0 h1 => ?_)
  have := ha.1
  exact ((h.cc (c := i) h0 (by omega)).1.inj hw).symm
theorem MKB.fld {K P : PH} (h : MKB K P) {c f : Int} (h0 : 0 ≤ c) (h1 : c < K 0 1) (h2 : K 6 c ≤ 2) (hf : 0 ≤ f ∧ f < K 6 c) : K4 (P 8 (2 * (24 * P 0 13 + c) + f)) (fK K c f) := by
  have q := h.cc h0 h1
  unfold fK
  by_cases z : f = 0
  · rw [if_pos z, z, Int.add_zero]; exact q.2.2.2.1 (by omega)
  · rw [if_neg z, show f = 1 by omega]; exact q.2.2.2.2.1 (by omega)
theorem MKB.vla {K P : PH} (h : MKB K P) {x k r : Int} (hx : K4 x k) (hk : k < K 0 0) (hr : (x = 4 ∧ r = 20) ∨ (x < 4 ∧ r = P 3 (4 * P 0 13 + x))) : r = sz K k := by
  have e := sz_s K k
  rcases hx with ⟨h1, h2⟩ | ⟨h1, h2, h3⟩
  · omega
  · have q := (h.k (k := x) h1 (by omega)).2.1
    subst h3
    omega
theorem MKB.vl {K P : PH} (h : MKB K P) {x k : Int} (hx : K4 x k) (hk : k < K 0 0) : vals P (P 0 13) x = sz K k := by
  unfold vals
  rcases hx with ⟨h1, h2⟩ | ⟨h1, h2, h3⟩
  · rw [if_pos h1, h2]; rfl
  · have e := sz_s K k
    have q := (h.k (k := x) h1 (by omega)).2.1
    rw [if_neg (by omega), q, h3]
    subst h3
    omega
/-- a row's reading by the reference: behind c columns -/
def RWM (T : TT) (K M : PH) (c a : Int) (P : PH) : Prop := (0 < P 0 8 ∧ (rwR T K M).1 = P 0 8 ∧ (rwR T K M).2.1 = P 0 9) ∨ (P 0 8 ≤ 0 ∧ 0 < M 0 0 ∧ ∃ q : Int, MS T q P ∧ RWL T K M c q a)
section RWMS
variable {T : TT} {K M : PH} {c a q : Int} {P : PH}
theorem RWM.no (h : M 0 0 ≤ 0) (h8 : P 0 8 = 1) (h9 : P 0 9 = 0) : RWM T K M c a P := by
  refine Or.inl ⟨by omega, ?_, ?_⟩
  · rw [rwR_0 h, h8]
  · rw [rwR_0 h, h9]
theorem RWM.start (h : 0 < M 0 0) (h8 : P 0 8 ≤ 0) (hs : MS T 0 P) : RWM T K M 0 0 P := Or.inr ⟨h8, h, 0, hs, RWL.z (by omega)⟩
theorem RWM.flt {x : Int × Int × Int} (h : 0 < M 0 0) (e : rwl T K M (M 0 0).toNat 0 0 0 = x) (h0 : 0 < P 0 8) (h8 : P 0 8 = x.1) (h9 : P 0 9 = x.2.1) : RWM T K M c a P := by
  refine Or.inl ⟨h0, ?_, ?_⟩
  · rw [rwR_f h e (by omega), h8]
  · rw [rwR_f h e (by omega), h9]
end RWMS
theorem ofi_inj {z x : Int} (h : Int32.ofInt z = Int32.ofInt x) (hz : IR z) (hx : IR x) : x = z := by
  have e := congrArg Int32.toInt h
  rw [oI hz, oI hx] at e
  exact e.symm
/-! the fault told -/
def XFA (F : Int × Int) (P : PH) : Prop := P 110 3 = F.1 ∧ P 110 4 = F.2
def MFA (F : Int × Int) (P : PH) : Prop := P 0 10 = F.1 ∧ P 0 11 = F.2
theorem XFA.fr {F0 : Int × Int} {P P1 : PH} {F : FSX} (h : XFA F0 P) (hf : FrX F P P1) (hd : disX F ([(45, 3), (45, 4)], []) = true) : XFA F0 P1 :=
  ⟨(disX_f hd hf (o := 110) (k := 45) (j := 3) ⟨by decide, rfl⟩ (by decide)).trans h.1, (disX_f hd hf (o := 110) (k := 45) (j := 4) ⟨by decide, rfl⟩ (by decide)).trans h.2⟩
theorem MFA.fr {F0 : Int × Int} {P P1 : PH} {F : FS} (h : MFA F0 P) (hf : FrM F P P1) (hd : disF F ([10, 11], []) = true) : MFA F0 P1 :=
  ⟨(disF_k hd hf (k := 10) (by decide)).trans h.1, (disF_k hd hf (k := 11) (by decide)).trans h.2⟩
