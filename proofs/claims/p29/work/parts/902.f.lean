/-! The reference: how good a column is, what a node asks for. -/
section FUA
variable {K M : PH} {F : FT} {n : Int} {f : IF} {c a i p : Int}
theorem dln_0 : 0 ≤ dln K M F c := by unfold dln; omega
theorem fuA_i : fuA K M F c a = true ↔ ∀ i : Int, 0 ≤ i → i < dln K M F c → tb (dsi K M F c i) a = true := by
  unfold fuA
  rw [List.all_eq_true]
  constructor
  · intro h i i0 i1
    unfold dln at i1
    exact h _ (getD_m (by omega))
  · intro h s hs
    obtain ⟨j, hj, rfl⟩ := List.getElem_of_mem hs
    have q := h (j : Int) (by omega) (by unfold dln; omega)
    unfold dsi at q
    rw [Int.toNat_natCast, List.getD_eq_getElem?_getD, List.getElem?_eq_getElem hj] at q
    exact q
theorem fuP_i : fuP K M F n f c p = true ↔ (p < n ∧ ∀ i : Int, 0 ≤ i → i < dln K M F c → tb (dsi K M F c i) (f p) = true) := by
  unfold fuP
  rw [Bool.and_eq_true, decide_eq_true_iff, fuA_i]
end FUA
/-- the order laid out by its sets -/
def ARH (K M : PH) (F : FT) (n : Int) (f : IF) (P : PH) : Prop := ARG K M F n f P ∧ ∀ c : Int, 0 ≤ c → c < M 0 0 → P 33 c = dln K M F c ∧ (∀ i : Int, 0 ≤ i → i < dln K M F c → PLs n f (dsi K M F c i) (P 41 ((2010 * c) + i))) ∧ ∀ p : Int, 0 ≤ p → tb (P 42 c) p = fuP K M F n f c p
theorem ARH.fr {K M : PH} {F : FT} {n : Int} {f : IF} {P P1 : PH} {G : FS} (h : ARH K M F n f P) (hf : FrM G P P1) (hd : disF G ([62, 66], [31, 33, 41, 42, 43]) = true) : ARH K M F n f P1 := by
  refine ⟨h.1.fr hf (disF_w hd rfl rfl), ?_⟩
  rw [disF_o hd hf (o := 33) (by decide) rfl, disF_o hd hf (o := 41) (by decide) rfl, disF_o hd hf (o := 42) (by decide) rfl]
  exact h.2
/-- what was asked since the order was laid out -/
def MEM (K M : PH) (F : FT) (n : Int) (f : IF) (r : Int) (P : PH) : Prop := P 0 76 = r ∧ ∀ y : Int, 0 ≤ y → y ≤ 65535 → P 49 y / 8 = P 0 74 → P 49 y % 8 = ak4 (ASK K M F n f r (tb (y % 4096)) (y / 4096))
theorem MEM.fr {K M : PH} {F : FT} {n : Int} {f : IF} {r : Int} {P P1 : PH} {G : FS} (h : MEM K M F n f r P) (hf : FrM G P P1) (hd : disF G ([74, 76], [49]) = true) : MEM K M F n f r P1 := by
  unfold MEM at h ⊢
  rw [disF_k hd hf (k := 74) (by decide), disF_k hd hf (k := 76) (by decide), disF_o hd hf (o := 49) (by decide) rfl]
  exact h
/-- nothing was asked yet -/
def MFr (P : PH) : Prop := ∀ y : Int, P 49 y / 8 < P 0 74
theorem MFr.fr {P P1 : PH} {G : FS} (h : MFr P) (hf : FrM G P P1) (hd : disF G ([74], [49]) = true) : MFr P1 := by
  unfold MFr at h ⊢
  rw [disF_k hd hf (k := 74) (by decide), disF_o hd hf (o := 49) (by decide) rfl]
  exact h
theorem MFr.next {P P1 : PH} {F : FS} (h : MV P) (hf : FrM F P P1) (h49 : F.2.contains 49 = false) (hs : P1 0 74 = P 0 74 + 1) : MFr P1 := by
  intro k
  have e := hf.2 49 rfl h49
  have h1 := h k
  rw [e, hs]
  omega
theorem MFr.mem {K M : PH} {F : FT} {n : Int} {f : IF} {r : Int} {P : PH} (h : MFr P) (e : P 0 76 = r) : MEM K M F n f r P := ⟨e, fun y _ _ z => by have := h y; omega⟩
/-- the sets met, the time of the latest meeting -/
def MTM (b : Int) (P : PH) : Prop := (∀ s : Int, 0 ≤ s → s < 4096 → P 50 s ≤ P 0 78) ∧ P 0 78 ≤ b
theorem MTM.fr {b : Int} {P P1 : PH} {G : FS} (h : MTM b P) (hf : FrM G P P1) (hd : disF G ([78], [50]) = true) : MTM b P1 := by
  unfold MTM at h ⊢
  rw [disF_k hd hf (k := 78) (by decide), disF_o hd hf (o := 50) (by decide) rfl]
  exact h
theorem MTM.le {b c : Int} {P : PH} (h : MTM b P) (e : b ≤ c) : MTM c P := ⟨h.1, by have := h.2; omega⟩
/-- the time goes on with what is asked first -/
def MTU (b : Int) (P : PH) : Prop := (∀ s : Int, 0 ≤ s → s < 4096 → P 50 s ≤ P 0 78) ∧ P 0 78 + 4 * (65536 - cnt (fun k => P 49 k / 8) (P 0 74) 65536) ≤ b
theorem MTU.fr {b : Int} {P P1 : PH} {G : FS} (h : MTU b P) (hf : FrM G P P1) (hd : disF G ([74, 78], [49, 50]) = true) : MTU b P1 := by
  unfold MTU at h ⊢
  rw [disF_k hd hf (k := 74) (by decide), disF_k hd hf (k := 78) (by decide), disF_o hd hf (o := 49) (by decide) rfl, disF_o hd hf (o := 50) (by decide) rfl]
  exact h
theorem MTU.mm {b : Int} {P : PH} (h : MTU b P) : MTM b P := ⟨h.1, by have q := (cnt_le (fun k => P 49 k / 8) (P 0 74) 65536).2; have q2 := h.2; omega⟩
theorem MTU.le {b c : Int} {P : PH} (h : MTU b P) (e : b ≤ c) : MTU c P := ⟨h.1, by have := h.2; omega⟩
theorem MTM.mu {b : Int} {P : PH} (h : MTM b P) (hf : MFr P) : MTU (b + 262144) P := ⟨h.1, by
  have q := cnt_0 (f := fun k => P 49 k / 8) (s := P 0 74) 65536 hf
  have := h.2
  omega⟩
/-- room for what is asked now -/
theorem MTU.miss {b y : Int} {P : PH} (h : MTU b P) (hy : 0 ≤ y ∧ y ≤ 65535) (hn : P 49 y / 8 ≠ P 0 74) : MTM (P 0 78) P ∧ P 0 78 + 4 ≤ b := by
  have q := cnt_lt (f := fun k => P 49 k / 8) (s := P 0 74) 65536 y.toNat (by omega) (by
    show P 49 ((y.toNat : Nat) : Int) / 8 ≠ P 0 74
    rw [show ((y.toNat : Nat) : Int) = y by omega]; exact hn)
  have w := h.2
  exact ⟨⟨h.1, Int.le_refl _⟩, by omega⟩
theorem MTU.set {b y : Int} {P P1 : PH} (h : MTU b P) (hy : 0 ≤ y ∧ y ≤ 65535) (hn : P 49 y / 8 ≠ P 0 74) (hm : MTM (P 0 78 + 4) P1) (e74 : P1 0 74 = P 0 74) (e1 : P1 49 y / 8 = P 0 74) (eo : ∀ j : Int, j ≠ y → P1 49 j = P 49 j) : MTU b P1 := by
  refine ⟨hm.1, ?_⟩
  have en : ((y.toNat : Nat) : Int) = y := by omega
  have q := cnt_up (f := fun k => P 49 k / 8) (g := fun k => P1 49 k / 8) (s := P 0 74) 65536 y.toNat (by omega) (by
    show P 49 ((y.toNat : Nat) : Int) / 8 ≠ P 0 74
    rw [en]; exact hn) (by
    show P1 49 ((y.toNat : Nat) : Int) / 8 = P 0 74
    rw [en]; exact e1) (fun j hj => by
    show P1 49 j / 8 = P 49 j / 8
    rw [eo j (by omega)])
  rw [e74, q]
  have h1 := hm.2
  have h2 := h.2
  omega
theorem MEM.set {K M : PH} {F : FT} {n : Int} {f : IF} {r y : Int} {P P1 : PH} (h : MEM K M F n f r P) (e76 : P1 0 76 = P 0 76) (e74 : P1 0 74 = P 0 74) (e1 : P1 49 y % 8 = ak4 (ASK K M F n f r (tb (y % 4096)) (y / 4096))) (eo : ∀ j : Int, j ≠ y → P1 49 j = P 49 j) : MEM K M F n f r P1 := by
  refine ⟨e76.trans h.1, fun j j0 j1 z => ?_⟩
  by_cases e : j = y
  · rw [e]; exact e1
  · rw [eo j e] at z ⊢
    rw [e74] at z
    exact h.2 j j0 j1 z
/-! rule 1: the arms left, from the first on -/
def WB1 (K M : PH) (F : FT) (n : Int) (f : IF) (a c y z : Int) : Prop := ∃ q : Int, (0 ≤ q ∧ q ≤ 12) ∧ (∀ i : Int, 0 ≤ i → tb y i = (tb a i && decide (q ≤ i))) ∧ z + nfG K M F n f (tb a) c (12 - q).toNat q = nfG K M F n f (tb a) c 12 0
section WB1S
variable {K M : PH} {F : FT} {n : Int} {f : IF} {a c y z m : Int}
theorem WB1.start : WB1 K M F n f a c a 0 := ⟨0, ⟨Int.le_refl 0, by decide⟩, fun i i0 => by rw [decide_eq_true i0, Bool.and_true], by
  rw [show (12 - (0 : Int)).toNat = 12 from rfl]; omega⟩
theorem nfG_none {L : LB} {p : Int} : ∀ k : Nat, (∀ i : Int, p ≤ i → i < p + (k : Int) → L i = false) → nfG K M F n f L c k p = 0 := by
  intro k
  induction k generalizing p with
  | zero => intro _; rfl
  | succ k ih =>
    intro h
    have e : nfG K M F n f L c (k + 1) p = if L p = true then (if fuP K M F n f c p = true then 0 else 1 + nfG K M F n f L c k (p + 1)) else nfG K M F n f L c k (p + 1) := rfl
    rw [e, h p (Int.le_refl _) (by omega), if_neg (by decide)]
    exact ih (fun i a b => h i (by omega) (by omega))
theorem WB1.end0 (h : WB1 K M F n f a c y z) (e : y = 0) : z = nfG K M F n f (tb a) c 12 0 := by
  obtain ⟨q, ⟨q0, q1⟩, h1, h2⟩ := h
  rw [nfG_none (12 - q).toNat (fun i i0 i1 => by
    have w := h1 i (by omega)
    rw [e, tb_0, decide_eq_true i0, Bool.and_true] at w
    exact w.symm)] at h2
  omega
/-- the lowest of what is left -/
theorem WB1.low (h : WB1 K M F n f a c y z) (ha : 0 ≤ a ∧ a ≤ 4095) (m0 : 0 ≤ m) (hm : tb y m = true) (hf : ∀ i : Int, 0 ≤ i → i < m → tb y i = false) : m < 12 ∧ tb a m = true ∧ (∀ i : Int, 0 ≤ i → tb y i = (tb a i && decide (m ≤ i))) ∧ z + nfG K M F n f (tb a) c (12 - m).toNat m = nfG K M F n f (tb a) c 12 0 := by
  obtain ⟨q, ⟨q0, q1⟩, h1, h2⟩ := h
  have w := h1 m m0
  rw [hm] at w
  have w := w.symm
  rw [Bool.and_eq_true, decide_eq_true_iff] at w
  have m12 : m < 12 := by
    by_cases e : m < 12
    · exact e
    · rw [tb_12 ha (by omega)] at w; exact absurd w.1 (by decide)
  have hz : ∀ i : Int, q ≤ i → i < m → tb a i = false := fun i i0 i1 => by
    have v := h1 i (by omega)
    rw [hf i (by omega) i1, decide_eq_true i0, Bool.and_true] at v
    exact v.symm
  refine ⟨m12, w.1, fun i i0 => ?_, ?_⟩
  · rw [h1 i i0]
    by_cases e : m ≤ i
    · rw [decide_eq_true e, decide_eq_true (show q ≤ i by omega)]
    · rw [decide_eq_false e, Bool.and_false]
      by_cases e2 : q ≤ i
      · rw [hz i e2 (by omega)]; rfl
      · rw [decide_eq_false e2, Bool.and_false]
  · rw [← nfG_to w.2 (by omega) hz]; exact h2
theorem WB1.endF (h : WB1 K M F n f a c y z) (ha : 0 ≤ a ∧ a ≤ 4095) (m0 : 0 ≤ m) (hm : tb y m = true) (hf : ∀ i : Int, 0 ≤ i → i < m → tb y i = false) (e : fuP K M F n f c m = true) : z = nfG K M F n f (tb a) c 12 0 := by
  obtain ⟨m12, h1, h2, h3⟩ := h.low ha m0 hm hf
  rw [nfG_at m0 (by omega), if_pos h1, if_pos e] at h3
  omega
theorem WB1.go (h : WB1 K M F n f a c y z) (ha : 0 ≤ a ∧ a ≤ 4095) (hy : 1 ≤ y ∧ y ≤ 4095) (m0 : 0 ≤ m) (hm : tb y m = true) (hf : ∀ i : Int, 0 ≤ i → i < m → tb y i = false) (e : fuP K M F n f c m = false) : WB1 K M F n f a c (iand y (y - 1)) (z + 1) := by
  obtain ⟨m12, h1, h2, h3⟩ := h.low ha m0 hm hf
  rw [nfG_at m0 (by omega), if_pos h1, if_neg (by rw [e]; decide), show 12 - m - 1 = 12 - (m + 1) by omega] at h3
  refine ⟨m + 1, ⟨by omega, by omega⟩, fun i i0 => ?_, by omega⟩
  rw [tb_low hy m0 hm hf i0, h2 i i0]
  by_cases e1 : i = m
  · rw [decide_eq_false (show ¬ (i ≠ m) from fun z => z e1), decide_eq_false (show ¬ m + 1 ≤ i by omega), Bool.and_false, Bool.and_false]
  · rw [decide_eq_true (show i ≠ m from e1), Bool.and_true]
    by_cases e2 : m ≤ i
    · rw [decide_eq_true e2, decide_eq_true (show m + 1 ≤ i by omega)]
    · rw [decide_eq_false e2, decide_eq_false (show ¬ m + 1 ≤ i by omega)]
end WB1S
/-! rules 2 and 3: the branches -/
abbrev gQ (Q : IF) (a c : Int) : IF := fun k => iand (Q ((2010 * c) + k)) a
def WB2 (K M : PH) (F : FT) (n : Int) (f : IF) (t : IF) (u : Int) (Q : IF) (a c i z w : Int) : Prop := MKd t u (gQ Q a c) i ∧ z = cnB K M F n f (tb a) c i.toNat ∧ w = mxB K M F n f (tb a) c i.toNat
section WB2S
variable {K M : PH} {F : FT} {n : Int} {f t t1 Q : IF} {u a c i z w w1 : Int}
theorem WB2.start (h : ∀ s : Int, 0 ≤ s → s < 4096 → t s < u) : WB2 K M F n f t u Q a c 0 0 0 := ⟨MKd.start h, rfl, rfl⟩
theorem gQ_b (ha : 0 ≤ a ∧ a ≤ 4095) {k : Int} : 0 ≤ gQ Q a c k ∧ gQ Q a c k ≤ 4095 := by
  have q := iand_r (x := Q ((2010 * c) + k)) (y := a) ⟨by omega, by omega⟩
  show 0 ≤ iand _ _ ∧ iand _ _ ≤ 4095
  omega
/-- a set is new if none ahead of it is the same number -/
theorem new_g (hQ : ∀ k : Int, 0 ≤ k → k < dln K M F c → PLs n f (dsi K M F c k) (Q ((2010 * c) + k))) (hb : ∀ j : Int, 0 ≤ Q j ∧ Q j ≤ 4095) (ha : 0 ≤ a ∧ a ≤ 4095) (i0 : 0 ≤ i) (i1 : i < dln K M F c) : newL K M F n f (tb a) c i = true ↔ ¬ ∃ k : Int, 0 ≤ k ∧ k < i ∧ gQ Q a c k = gQ Q a c i := by
  have st : ∀ k : Int, 0 ≤ k → k < dln K M F c → ∀ p : Int, 0 ≤ p → tb (gQ Q a c k) p = stL K M F n f (tb a) c k p := fun k k0 k1 p p0 => tb_st (hQ k k0 k1) ha (hb _) p0
  rw [newL_i i0]
  constructor
  · rintro h ⟨k, k0, k1, e⟩
    refine h k k0 k1 (fun p p0 p1 => ?_)
    rw [← st k k0 (by omega) p p0, ← st i i0 i1 p p0, e]
  · intro h k k0 k1 e
    refine h ⟨k, k0, k1, ?_⟩
    refine (tb_eq (gQ_b ha) (gQ_b ha)).mpr (fun p p0 p1 => ?_)
    rw [st k k0 (by omega) p p0, st i i0 i1 p p0]
    exact e p p0 p1
theorem nbL_g (hQ : ∀ k : Int, 0 ≤ k → k < dln K M F c → PLs n f (dsi K M F c k) (Q ((2010 * c) + k))) (hb : ∀ j : Int, 0 ≤ Q j ∧ Q j ≤ 4095) (ha : 0 ≤ a ∧ a ≤ 4095) (i0 : 0 ≤ i) (i1 : i < dln K M F c) : nbL (stL K M F n f (tb a) c i) = pc12 (gQ Q a c i) := smN_cg 12 (fun p p0 _ => by
  show bI (stL K M F n f (tb a) c i p) = bI (tb (gQ Q a c i) p)
  rw [← tb_st (hQ i i0 i1) ha (hb _) p0])
theorem WB2.old (h : WB2 K M F n f t u Q a c i z w) (hQ : ∀ k : Int, 0 ≤ k → k < dln K M F c → PLs n f (dsi K M F c k) (Q ((2010 * c) + k))) (hb : ∀ j : Int, 0 ≤ Q j ∧ Q j ≤ 4095) (ha : 0 ≤ a ∧ a ≤ 4095) (i0 : 0 ≤ i) (i1 : i < dln K M F c) (e : t (iand (Q ((2010 * c) + i)) a) = u) : WB2 K M F n f t u Q a c (i + 1) z w := by
  obtain ⟨h1, h2, h3⟩ := h
  have gb := gQ_b (Q := Q) (c := c) ha (k := i)
  have hn : newL K M F n f (tb a) c i ≠ true := fun q => (new_g hQ hb ha i0 i1).mp q ((h1.2 _ gb.1 (by omega)).mp e)
  refine ⟨h1.old i0 ⟨gb.1, by omega⟩ e (fun _ => rfl), ?_, ?_⟩
  · rw [cnB_up i0, bI_0 hn, Int.add_zero]; exact h2
  · rw [mxB_old i0 hn]; exact h3
theorem WB2.new (h : WB2 K M F n f t u Q a c i z w) (hQ : ∀ k : Int, 0 ≤ k → k < dln K M F c → PLs n f (dsi K M F c k) (Q ((2010 * c) + k))) (hb : ∀ j : Int, 0 ≤ Q j ∧ Q j ≤ 4095) (ha : 0 ≤ a ∧ a ≤ 4095) (i0 : 0 ≤ i) (i1 : i < dln K M F c) (e : t (iand (Q ((2010 * c) + i)) a) ≠ u) (e1 : t1 (iand (Q ((2010 * c) + i)) a) = u) (e2 : ∀ s : Int, s ≠ iand (Q ((2010 * c) + i)) a → t1 s = t s) (hw : (w < pc12 (iand (Q ((2010 * c) + i)) a) ∧ w1 = pc12 (iand (Q ((2010 * c) + i)) a)) ∨ (pc12 (iand (Q ((2010 * c) + i)) a) ≤ w ∧ w1 = w)) : WB2 K M F n f t1 u Q a c (i + 1) (z + 1) w1 := by
  obtain ⟨h1, h2, h3⟩ := h
  have gb := gQ_b (Q := Q) (c := c) ha (k := i)
  have hn : newL K M F n f (tb a) c i = true := (new_g hQ hb ha i0 i1).mpr (fun q => e ((h1.2 _ gb.1 (by omega)).mpr q))
  refine ⟨h1.new i0 e1 e2, ?_, ?_⟩
  · rw [cnB_up i0, bI_1 hn, h2]
  · have q := nbL_g hQ hb ha i0 i1
    have q : nbL (stL K M F n f (tb a) c i) = pc12 (iand (Q ((2010 * c) + i)) a) := q
    rcases mxB_up (K := K) (M := M) (F := F) (n := n) (f := f) (L := tb a) (c := c) i0 with u | u <;> rcases hw with v | v <;> omega
end WB2S
theorem worL_e {K M : PH} {F : FT} {n : Int} {f : IF} {r : Int} {L : LB} {c : Int} (h0 : r ≠ 0) (h1 : r ≠ 1) (h2 : r ≠ 2) : worL K M F n f r L c = -mxB K M F n f L c (DS K M F c).length := by unfold worL; rw [if_neg h0, if_neg h1, if_neg h2]
theorem pc12_b (x : Int) : 0 ≤ pc12 x ∧ pc12 x ≤ 12 := nbL_b (L := tb x)
/-- the best so far, in the reference's words -/
def AKs (K M : PH) (F : FT) (n : Int) (f : IF) (r : Int) (L : LB) (o c b m : Int) : Prop := b = ak4 (askG K M F n f r L o c.toNat).1 ∧ (b = 4 ∨ m = (askG K M F n f r L o c.toNat).2)
section AKS
variable {K M : PH} {F : FT} {n : Int} {f : IF} {r o c b m w : Int} {L : LB}
theorem AKs.start : AKs K M F n f r L o 0 4 m := ⟨rfl, Or.inl rfl⟩
theorem AKs.no (h : AKs K M F n f r L o c b m) (c0 : 0 ≤ c) (e : tb o c ≠ true ∨ fuP K M F n f c (hdL L) = true ∨ (b ≠ 4 ∧ worL K M F n f r L c ≤ m)) : AKs K M F n f r L o (c + 1) b m := by
  have s := ak4_s (askG K M F n f r L o c.toNat).1
  have q := askG_n (K := K) (M := M) (F := F) (n := n) (f := f) (r := r) (L := L) (o := o) c0 (by
    rcases e with e | e | e
    · exact Or.inl e
    · exact Or.inr (Or.inl e)
    · refine Or.inr (Or.inr ⟨?_, ?_⟩)
      · have := h.1; omega
      · have := h.2.resolve_left e.1; omega)
  unfold AKs
  rw [q]
  exact h
theorem AKs.yes (h : AKs K M F n f r L o c b m) (c0 : 0 ≤ c ∧ c ≤ 3) (h1 : tb o c = true) (h2 : fuP K M F n f c (hdL L) = false) (h3 : b = 4 ∨ m < w) (hw : w = worL K M F n f r L c) : AKs K M F n f r L o (c + 1) c w := by
  have s := ak4_s (askG K M F n f r L o c.toNat).1
  have k := askG_b (K := K) (M := M) (F := F) (n := n) (f := f) (r := r) (L := L) (o := o) c.toNat
  have q := askG_y (K := K) (M := M) (F := F) (n := n) (f := f) (r := r) (L := L) (o := o) c0.1 h1 h2 (by
    by_cases z : (askG K M F n f r L o c.toNat).1 = -1
    · exact Or.inl z
    · refine Or.inr ?_
      have e := h.1
      have b4 : b ≠ 4 := by omega
      have := h.2.resolve_left b4
      have := h3.resolve_left b4
      omega)
  unfold AKs
  rw [q]
  refine ⟨?_, Or.inr hw⟩
  unfold ak4
  rw [if_neg (by show ¬ c = -1; omega)]
end AKS
/-! what is below -/
def remL (L : LB) (p : Int) : LB := fun q => L q && decide (q ≠ p)
def brnL (K : PH) (F : FT) (n : Int) (f : IF) (L : LB) (c v : Int) : LB := fun p => decide (p < n) && (L p && decide (tv K (F (f p) c) v = 1))
def ocl (o c : Int) : Int := iand o (ixor (ishl 1 c) (-1))
def allL (n : Int) : LB := fun p => decide (p < n)
def oAll (M : PH) : Int := ishl 1 (M 0 0) - 1
abbrev DRc (K M : PH) (F : FT) (n : Int) (f : IF) (r : Int) (L : LB) (o : Int) : Prop := hdL L ≠ -1 ∧ ASK K M F n f r L o = -1 ∧ M 2 (f (hdL L)) ≠ -1
/-- the first column asked for, doors being gone through -/
def fsG (K M : PH) (F : FT) (n : Int) (f : IF) (r o : Int) : Nat → LB → Int
  | 0, _ => -1
  | k + 1, L => if DRc K M F n f r L o then fsG K M F n f r o k (remL L (hdL L)) else ASK K M F n f r L o
/-- how many columns are asked for a row -/
def tsG (K M : PH) (F : FT) (n : Int) (f : IF) (r on row : Int) : Nat → LB → Int → Int
  | 0, _, _ => 0
  | k + 1, L, o => if hdL L = -1 then 0 else if ASK K M F n f r L o = -1 then (if gB M on (f (hdL L)) = true then 0 else tsG K M F n f r on row k (remL L (hdL L)) o) else 1 + tsG K M F n f r on row k (brnL K F n f L (ASK K M F n f r L o) (vIn K M row (ASK K M F n f r L o))) (ocl o (ASK K M F n f r L o))
section TSG
variable {K M : PH} {F : FT} {n : Int} {f : IF} {r o on row c v : Int} {L L1 L2 : LB}
theorem remL_cg (e : ∀ p : Int, 0 ≤ p → p < 12 → L1 p = L2 p) {q : Int} : ∀ p : Int, 0 ≤ p → p < 12 → remL L1 q p = remL L2 q p := fun p p0 p1 => by
  show (L1 p && decide (p ≠ q)) = (L2 p && decide (p ≠ q))
  rw [e p p0 p1]
theorem brnL_cg (e : ∀ p : Int, 0 ≤ p → p < 12 → L1 p = L2 p) : ∀ p : Int, 0 ≤ p → p < 12 → brnL K F n f L1 c v p = brnL K F n f L2 c v p := fun p p0 p1 => by
  show (decide (p < n) && (L1 p && decide (tv K (F (f p) c) v = 1))) = (decide (p < n) && (L2 p && decide (tv K (F (f p) c) v = 1)))
  rw [e p p0 p1]
theorem fsG_cg : ∀ (k : Nat) {L1 L2 : LB}, (∀ p : Int, 0 ≤ p → p < 12 → L1 p = L2 p) → fsG K M F n f r o k L1 = fsG K M F n f r o k L2 := by
  intro k
  induction k with
  | zero => intro L1 L2 _; rfl
  | succ k ih =>
    intro L1 L2 e
    show (if DRc K M F n f r L1 o then fsG K M F n f r o k (remL L1 (hdL L1)) else ASK K M F n f r L1 o) = (if DRc K M F n f r L2 o then fsG K M F n f r o k (remL L2 (hdL L2)) else ASK K M F n f r L2 o)
    unfold DRc
    rw [hdL_cg e, ASK_cg e, ih (remL_cg e)]
theorem tsG_cg : ∀ (k : Nat) (o : Int) {L1 L2 : LB}, (∀ p : Int, 0 ≤ p → p < 12 → L1 p = L2 p) → tsG K M F n f r on row k L1 o = tsG K M F n f r on row k L2 o := by
  intro k
  induction k with
  | zero => intro o L1 L2 _; rfl
  | succ k ih =>
    intro o L1 L2 e
    show (if hdL L1 = -1 then 0 else if ASK K M F n f r L1 o = -1 then (if gB M on (f (hdL L1)) = true then 0 else tsG K M F n f r on row k (remL L1 (hdL L1)) o) else 1 + tsG K M F n f r on row k (brnL K F n f L1 (ASK K M F n f r L1 o) (vIn K M row (ASK K M F n f r L1 o))) (ocl o (ASK K M F n f r L1 o))) = (if hdL L2 = -1 then 0 else if ASK K M F n f r L2 o = -1 then (if gB M on (f (hdL L2)) = true then 0 else tsG K M F n f r on row k (remL L2 (hdL L2)) o) else 1 + tsG K M F n f r on row k (brnL K F n f L2 (ASK K M F n f r L2 o) (vIn K M row (ASK K M F n f r L2 o))) (ocl o (ASK K M F n f r L2 o)))
    rw [hdL_cg e, ASK_cg e, ih o (remL_cg e), ih _ (brnL_cg e)]
theorem fsG_d {k : Nat} (h : DRc K M F n f r L o) : fsG K M F n f r o (k + 1) L = fsG K M F n f r o k (remL L (hdL L)) := by
  show (if DRc K M F n f r L o then _ else _) = _
  rw [if_pos h]
theorem fsG_e {k : Nat} (h : ¬ DRc K M F n f r L o) : fsG K M F n f r o (k + 1) L = ASK K M F n f r L o := by
  show (if DRc K M F n f r L o then _ else _) = _
  rw [if_neg h]
theorem tsG_0 {k : Nat} (h : hdL L = -1) : tsG K M F n f r on row k L o = 0 := by
  cases k with
  | zero => rfl
  | succ k => show (if hdL L = -1 then _ else _) = _; rw [if_pos h]
theorem tsG_e {k : Nat} (h0 : hdL L ≠ -1) (h1 : ASK K M F n f r L o = -1) (h2 : gB M on (f (hdL L)) = true) : tsG K M F n f r on row (k + 1) L o = 0 := by
  show (if hdL L = -1 then _ else _) = _
  rw [if_neg h0, if_pos h1, if_pos h2]
theorem tsG_d {k : Nat} (h0 : hdL L ≠ -1) (h1 : ASK K M F n f r L o = -1) (h2 : gB M on (f (hdL L)) = false) : tsG K M F n f r on row (k + 1) L o = tsG K M F n f r on row k (remL L (hdL L)) o := by
  show (if hdL L = -1 then _ else _) = _
  rw [if_neg h0, if_pos h1, if_neg (by rw [h2]; decide)]
theorem tsG_c {k : Nat} (h0 : hdL L ≠ -1) (h1 : ASK K M F n f r L o = c) (h2 : c ≠ -1) : tsG K M F n f r on row (k + 1) L o = 1 + tsG K M F n f r on row k (brnL K F n f L c (vIn K M row c)) (ocl o c) := by
  show (if hdL L = -1 then _ else _) = _
  rw [if_neg h0, h1, if_neg h2]
end TSG
/-- places that are there -/
def SUn (n y : Int) : Prop := ∀ p : Int, 0 ≤ p → tb y p = true → p < n
