/-! The reference's token ahead: what its loop holds, as words of one piece. -/
def RX (m : Int) (T : TT) (a : Int) : Int := if m = 6 then rE bL T a else rE bN T a
def CC (m c : Int) : Prop := (m = 6 → 97 ≤ c ∧ c ≤ 122) ∧ (m = 4 → 48 ≤ c ∧ c ≤ 57)
theorem RX_ge (m : Int) (T : TT) (a : Int) : a ≤ RX m T a := by
  unfold RX
  split
  · exact rE_ge bL T a
  · exact rE_ge bN T a
theorem RX_go {m : Int} {T : TT} {l : Int} (hm : m = 6 ∨ m = 4) (hl : l < T.2) (hc : CC m (T.1 l)) : RX m T l = RX m T (l + 1) := by
  unfold RX
  rcases hm with e | e
  · rw [if_pos e, if_pos e]; exact rE_go hl (bL_t.mpr (hc.1 e))
  · rw [if_neg (by omega), if_neg (by omega)]; exact rE_go hl (bN_t.mpr (hc.2 e))
theorem RX_st {m : Int} {T : TT} {l : Int} (h : T.2 ≤ l ∨ (m = 6 ∧ (T.1 l < 97 ∨ 122 < T.1 l)) ∨ (m = 4 ∧ (T.1 l < 48 ∨ 57 < T.1 l))) : RX m T l = l := by
  unfold RX
  split
  · refine rE_st (fun z => ?_)
    have := bL_t.mp z.2
    omega
  · refine rE_st (fun z => ?_)
    have := bN_t.mp z.2
    omega
/-- the run so far: it ends where the whole ends -/
def RN (m : Int) (T : TT) (a l : Int) : Prop := RX m T a = RX m T l ∧ l ≤ RX m T a
theorem RN.start {m : Int} {T : TT} {a l : Int} (h : l = a) : RN m T a l := by
  subst h
  exact ⟨rfl, RX_ge _ _ _⟩
theorem RN.go {m : Int} {T : TT} {a l : Int} (h : RN m T a l) (hm : m = 6 ∨ m = 4) (hl : l < T.2) (hc : CC m (T.1 l)) : RN m T a (l + 1) := by
  have e := RX_go hm hl hc
  have g := RX_ge m T (l + 1)
  have h1 := h.1
  exact ⟨by omega, by omega⟩
theorem RN.stop {m : Int} {T : TT} {a l : Int} (h : RN m T a l) (hs : T.2 ≤ l ∨ (m = 6 ∧ (T.1 l < 97 ∨ 122 < T.1 l)) ∨ (m = 4 ∧ (T.1 l < 48 ∨ 57 < T.1 l))) : RX m T a = l := h.1.trans (RX_st hs)
theorem RN.l {T : TT} {a l : Int} (h : RN 6 T a l) (hb : a ≤ l) : ∀ i : Nat, a + i < l → 1 ≤ tL T a i ∧ tL T a i ≤ 26 := run_l (T := T) (a := a) (b := l) h.1 hb h.2
theorem RN.d {T : TT} {a l : Int} (h : RN 4 T a l) (hb : a ≤ l) : ∀ i : Nat, a + i < l → 48 ≤ T.1 (a + i) ∧ T.1 (a + i) ≤ 57 := run_d (T := T) (a := a) (b := l) hb h.2
/-- word and value of the run so far -/
def WV (m w v : Int) (T : TT) (a n : Int) : Prop := (m = 6 → n ≤ 6 → w = e56 (tL T a) n.toNat) ∧ (m = 4 → n ≤ 4 → v = e10 (tD T a) n.toNat)
theorem WV.start {m : Int} {T : TT} {a : Int} : WV m 0 0 T a 0 := ⟨fun _ _ => rfl, fun _ _ => rfl⟩
theorem WV.w {w v : Int} {T : TT} {a n l c x : Int} (h : WV 6 w v T a n) (hr : RN 6 T a l) (hn : 0 ≤ n ∧ n ≤ 5) (hl : l = a + n) (hc : c = T.1 l) (hcc : 97 ≤ T.1 l ∧ T.1 l ≤ 122) (hx : x = llor (llshl w 8) c) : WV 6 x v T a (n + 1) := by
  refine ⟨fun _ _ => ?_, fun e => absurd e (by decide)⟩
  rw [hx, show (n + 1).toNat = n.toNat + 1 by omega]
  exact e56_one (h.1 rfl (by omega)) (by omega) (fun i hi => hr.l (by omega) i (by omega)) (by rw [show a + ((n.toNat : Nat) : Int) = l by omega]; exact hc) (by omega)
theorem WV.vb {w v : Int} {T : TT} {a n l : Int} (h : WV 4 w v T a n) (hr : RN 4 T a l) (hn : 0 ≤ n ∧ n ≤ 3) (hl : l = a + n) : 0 ≤ v ∧ v ≤ 999 := by
  have q := e10_b (T := T) (a := a) n.toNat (by omega) (fun i hi => hr.d (by omega) i (by omega))
  have e := h.2 rfl (by omega)
  omega
theorem WV.v {w v : Int} {T : TT} {a n l c x : Int} (h : WV 4 w v T a n) (hn : 0 ≤ n ∧ n ≤ 3) (hl : l = a + n) (hc : c = T.1 l) (hx : x = v * 10 + (c - 48)) : WV 4 w x T a (n + 1) := by
  refine ⟨fun e => absurd e (by decide), fun _ _ => ?_⟩
  have e := h.2 rfl (by omega)
  rw [hx, show (n + 1).toNat = n.toNat + 1 by omega]
  show _ = e10 (tD T a) n.toNat * 10 + (T.1 (a + ((n.toNat : Nat) : Int)) - 48)
  rw [show a + ((n.toNat : Nat) : Int) = l by omega, ← hc, ← e]
theorem WV.big {m w1 v1 : Int} {T : TT} {a n : Int} (hm : m = 6 ∨ m = 4) (hn : m ≤ n) : WV m w1 v1 T a (n + 1) := ⟨fun e h => by omega, fun e h => by omega⟩
/-- word done, value not yet -/
def W2 (m w v : Int) (T : TT) (a n : Int) : Prop := (m = 6 → WV 6 w v T a (n + 1)) ∧ (m = 4 → WV 4 w v T a n)
theorem W2.six {w v : Int} {T : TT} {a n : Int} (h : WV 6 w v T a (n + 1)) : W2 6 w v T a n := ⟨fun _ => h, fun e => absurd e (by decide)⟩
theorem W2.four {w v : Int} {T : TT} {a n : Int} (h : WV 4 w v T a n) : W2 4 w v T a n := ⟨fun e => absurd e (by decide), fun _ => h⟩
/-- where a fault of the token itself is, n bytes of it read -/
def lx (T : TT) (p n m : Int) : Int := if tJn T p = 1 then tA T p else if n ≤ m then -1 else tA T p + m
theorem lx_hit {T : TT} {p n m : Int} (h : lx T p n m = -1) (hn : n = m) (h0 : 0 ≤ tA T p) : lx T p (n + 1) m = tA T p + m := by
  unfold lx at h ⊢
  by_cases j : tJn T p = 1
  · rw [if_pos j] at h; omega
  · rw [if_neg j, if_neg (by omega)]
theorem lx_no {T : TT} {p n m : Int} (h : n ≠ m ∨ lx T p n m ≠ -1) : lx T p (n + 1) m = lx T p n m := by
  unfold lx at h ⊢
  by_cases j : tJn T p = 1
  · rw [if_pos j, if_pos j]
  · rw [if_neg j] at h
    rw [if_neg j, if_neg j]
    by_cases e : n + 1 ≤ m
    · rw [if_pos e, if_pos (by omega)]
    · rw [if_neg e]
      by_cases e2 : n ≤ m
      · rw [if_pos e2] at h
        omega
      · rw [if_neg e2]
/-- the same ahead of the loop -/
def L0 (T : TT) (p l2 l3 x : Int) : Prop := (l2 = 0 ∧ l3 = 0 → x = -1) ∧ (l2 ≠ 0 ∨ l3 ≠ 0 → ∀ m : Int, 0 ≤ m → x = lx T p 0 m)
theorem L0.sign {T : TT} {p l2 l3 x : Int} (h : l2 = 0 ∧ l3 = 0) (hx : x = -1) : L0 T p l2 l3 x := ⟨fun _ => hx, fun z => by omega⟩
theorem L0.j {T : TT} {p l2 l3 x : Int} (h : l2 ≠ 0 ∨ l3 ≠ 0) (hj : tJ T p = true) (hx : x = tA T p) : L0 T p l2 l3 x := ⟨fun z => by omega, fun _ m _ => by unfold lx; rw [if_pos (tJn_1 hj)]; exact hx⟩
theorem L0.n {T : TT} {p l2 l3 x : Int} (h : l2 ≠ 0 ∨ l3 ≠ 0) (hj : tJ T p = false) (hx : x = -1) : L0 T p l2 l3 x := ⟨fun z => by omega, fun _ m hm => by unfold lx; rw [if_neg (by rw [tJn_0 hj]; decide), if_pos hm]; exact hx⟩
theorem lx_s (T : TT) (p n m : Int) : (tJn T p = 1 ∧ lx T p n m = tA T p) ∨ (tJn T p = 0 ∧ ((n ≤ m ∧ lx T p n m = -1) ∨ (m < n ∧ lx T p n m = tA T p + m))) := by
  unfold lx
  rcases (show tJn T p = 1 ∨ tJn T p = 0 by unfold tJn; split; exact Or.inl rfl; exact Or.inr rfl) with j | j
  · rw [if_pos j]; exact Or.inl ⟨j, rfl⟩
  · rw [if_neg (by omega)]
    by_cases e : n ≤ m
    · rw [if_pos e]; exact Or.inr ⟨j, Or.inl ⟨e, rfl⟩⟩
    · rw [if_neg e]; exact Or.inr ⟨j, Or.inr ⟨by omega, rfl⟩⟩
theorem MS.wor2 {T : TT} {p n l : Int} {P : PH} (hp : 0 ≤ p ∧ p ≤ T.2) (h4 : P 0 4 = tA T p) (hn : tA T p < T.2) (hl : 97 ≤ T.1 (tA T p) ∧ T.1 (tA T p) ≤ 122) (h3 : P 0 3 = 1) (h5 : P 0 5 = l) (hr : RX 6 T (tA T p) = l) (hln : l = tA T p + n) (hx : P 0 12 = lx T p n 6) (hw : WV 6 (P 0 7) (P 0 6) T (tA T p) n) : MS T p P := by
  have e : rE bL T (tA T p) = l := by rw [← hr]; unfold RX; rw [if_pos rfl]
  have hs := lx_s T p n 6
  refine MS.wor hp h4 hn hl h3 (by omega) (by omega) (fun h => ?_)
  rw [hw.1 rfl (by omega), show (rE bL T (tA T p) - tA T p).toNat = n.toNat by omega]
theorem MS.nu2 {T : TT} {p n l : Int} {P : PH} (hp : 0 ≤ p ∧ p ≤ T.2) (h4 : P 0 4 = tA T p) (hn : tA T p < T.2) (hl : 48 ≤ T.1 (tA T p) ∧ T.1 (tA T p) ≤ 57) (h3 : P 0 3 = 2) (h5 : P 0 5 = l) (hr : RX 4 T (tA T p) = l) (hln : l = tA T p + n) (hx : P 0 12 = lx T p n 4) (hw : WV 4 (P 0 7) (P 0 6) T (tA T p) n) : MS T p P := by
  have e : rE bN T (tA T p) = l := by rw [← hr]; unfold RX; rw [if_neg (by decide)]
  have hs := lx_s T p n 4
  refine MS.nu hp h4 hn hl h3 (by omega) (by omega) (fun h => ?_)
  rw [hw.2 rfl (by omega), show (rE bN T (tA T p) - tA T p).toNat = n.toNat by omega]
theorem RX_pos {m : Int} {T : TT} {a : Int} (hm : m = 6 ∨ m = 4) (hl : a < T.2) (hc : CC m (T.1 a)) : a + 1 ≤ RX m T a := by
  rw [RX_go hm hl hc]
  exact RX_ge m T (a + 1)
