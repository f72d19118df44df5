/-! Which arms are full, as the class keeps it. -/
def fuV (K M : PH) (F : FT) (c a : Int) : Bool := (List.range (sz K (M 1 c)).toNat).all (fun v => decide (tv K (F a c) (v : Int) = 1))
section FUV
variable {K M : PH} {F F1 : FT} {n c a i p z : Int} {f : IF} {o : Nat} {P P1 : PH} {G : Int → List OP}
theorem fuV_i : fuV K M F c a = true ↔ ∀ v : Int, 0 ≤ v → v < sz K (M 1 c) → tv K (F a c) v = 1 := by
  unfold fuV
  rw [List.all_eq_true]
  constructor
  · intro h v v0 v1
    have q := h v.toNat (List.mem_range.mpr (by omega))
    rw [show ((v.toNat : Nat) : Int) = v by omega, decide_eq_true_iff] at q
    exact q
  · intro h v hv
    have hv := List.mem_range.mp hv
    rw [decide_eq_true_iff]
    exact h (v : Int) (by omega) (by omega)
theorem fu_eq (a0 : 0 ≤ a) (a1 : a < M 0 2) : fuA K M F c a = fuV K M F c a := by
  have e : fuA K M F c a = true ↔ fuV K M F c a = true := by
    rw [fuV_i]
    unfold fuA
    rw [List.all_eq_true]
    constructor
    · intro h v v0 v1
      have q := h _ (dsl_mem (f := mkf K M F c) (sz K (M 1 c)).toNat v.toNat (by omega))
      rw [show ((v.toNat : Nat) : Int) = v by omega] at q
      have q : tb (msk K F c v (M 0 2).toNat) a = true := q
      rw [tb_msk a0 (by omega), decide_eq_true_iff] at q
      exact q
    · intro h s hs
      obtain ⟨v, v1, rfl⟩ := dsl_sub (f := mkf K M F c) _ _ hs
      show tb (msk K F c (v : Int) (M 0 2).toNat) a = true
      rw [tb_msk a0 (by omega), decide_eq_true_iff]
      exact h (v : Int) (by omega) (by omega)
  cases h1 : fuA K M F c a with
  | true => exact (e.mp h1).symm
  | false =>
    cases h2 : fuV K M F c a with
    | false => rfl
    | true => rw [e.mpr h2] at h1; exact absurd h1 (by decide)
end FUV
def XFU (K M : PH) (F : FT) (o : Nat) (P : PH) : Prop := kx o 28 ∧ M 0 0 ≤ 4 ∧ ∀ c : Int, 0 ≤ c → c < M 0 0 → (0 ≤ P (crX o 3) c ∧ P (crX o 3) c ≤ 4095) ∧ ∀ a : Int, 0 ≤ a → tb (P (crX o 3) c) a = (decide (a < M 0 2) && fuV K M F c a)
theorem XFU.fr {K M : PH} {F : FT} {o : Nat} {P P1 : PH} {S : FSX} (h : XFU K M F o P) (hf : FrX S P P1) (hd : disX S ([], [41]) = true) : XFU K M F o P1 := ⟨h.1, h.2.1, fun c c0 c1 => by
  rw [disX_a hd hf (ck_28_3 h.1) (by decide) c]
  exact h.2.2 c c0 c1⟩
theorem XFU.at {K M : PH} {F : FT} {n : Int} {f : IF} {o : Nat} {P : PH} (h : XFU K M F o P) {c p : Int} (c0 : 0 ≤ c) (c1 : c < M 0 0) (p0 : 0 ≤ p) (p1 : p < n) (hf : 0 ≤ f p ∧ f p < M 0 2) : tb (P (crX o 3) c) (f p) = fuP K M F n f c p := by
  rw [(h.2.2 c c0 c1).2 (f p) hf.1, decide_eq_true hf.2, Bool.true_and, ← fu_eq hf.1 hf.2]
  unfold fuP
  rw [decide_eq_true p1, Bool.true_and]
/-! the order, as the class keeps it -/
def ORX (n : Int) (f : IF) (o : Nat) (P : PH) : Prop := kx o 14 ∧ P o 1 = n ∧ ∀ p : Int, 0 ≤ p → p < n → P (crX o 0) p = f p
theorem ORX.fr {n : Int} {f : IF} {o : Nat} {P P1 : PH} {S : FSX} (h : ORX n f o P) (hf : FrX S P P1) (hd : disX S ([(14, 1)], [15]) = true) : ORX n f o P1 :=
  ⟨h.1, (disX_f hd hf (j := 1) h.1 (by decide)).trans h.2.1, fun p p0 p1 => (disX_a hd hf (ck_14_0 h.1) (by decide) p).trans (h.2.2 p p0 p1)⟩
theorem AX.or {A P : PH} (h : AX A P) : ORX (A 0 0) (A 1) 14 P := ⟨⟨by decide, rfl⟩, h.b.1, fun p p0 p1 => h.2.1 p p0 p1⟩
/-- the first arm of a set -/
def FOs (n : Int) (f : IF) (left r : Int) : Prop := (r = -1 ∧ hdL (lfX n f left) = -1) ∨ (hdL (lfX n f left) ≠ -1 ∧ r = f (hdL (lfX n f left)))
theorem hd_lf {n left : Int} {f : IF} (h : hdL (lfX n f left) ≠ -1) : 0 ≤ hdL (lfX n f left) ∧ hdL (lfX n f left) < n ∧ tb left (f (hdL (lfX n f left))) = true := by
  have b := (hdL_b (L := lfX n f left)).2.resolve_left h
  have q : (decide (hdL (lfX n f left) < n) && tb left (f (hdL (lfX n f left)))) = true := b.2.2
  rw [Bool.and_eq_true, decide_eq_true_iff] at q
  exact ⟨b.1, q.1, q.2⟩
theorem FOs.no {n left : Int} {f : IF} (hn : n ≤ 12) (h : ∀ p : Int, 0 ≤ p → p < n → tb left (f p) = false) : FOs n f left (-1) := Or.inl ⟨rfl, hdL_none (fun p p0 _ => by
  show (decide (p < n) && tb left (f p)) = false
  by_cases e : p < n
  · rw [h p p0 e, Bool.and_false]
  · rw [decide_eq_false e]; rfl)⟩
theorem FOs.yes {n left p r : Int} {f : IF} (hn : n ≤ 12) (p0 : 0 ≤ p) (p1 : p < n) (h : tb left (f p) = true) (hf : ∀ i : Int, 0 ≤ i → i < p → tb left (f i) = false) (e : r = f p) : FOs n f left r := by
  have q : hdL (lfX n f left) = p := hdL_is p0 (by omega) (by
    show (decide (p < n) && tb left (f p)) = true
    rw [decide_eq_true p1, h]; rfl) (fun i i0 i1 => by
    show (decide (i < n) && tb left (f i)) = false
    rw [hf i i0 i1, Bool.and_false])
  refine Or.inr ⟨by omega, ?_⟩
  rw [q]
  exact e
/-- all arms -/
def ALs (n : Int) (f : IF) (m x : Int) : Prop := (0 ≤ x ∧ x ≤ 4095) ∧ ∀ a : Int, 0 ≤ a → (tb x a = true ↔ ∃ p : Int, 0 ≤ p ∧ p < m ∧ f p = a)
theorem ALs.start {n : Int} {f : IF} : ALs n f 0 0 := ⟨by decide, fun a a0 => ⟨fun h => by rw [tb_0] at h; exact absurd h (by decide), fun ⟨p, p0, p1, _⟩ => by exfalso; omega⟩⟩
theorem ALs.step {n m x : Int} {f : IF} (h : ALs n f m x) (m0 : 0 ≤ m) (hf : 0 ≤ f m ∧ f m ≤ 11) : ALs n f (m + 1) (ior x (ishl 1 (f m))) := by
  have hs := ishl1 11 (by decide) (y := f m) ⟨hf.1, hf.2⟩
  have e11 : ((2 ^ 11 : Nat) : Int) = 2048 := rfl
  rw [e11] at hs
  have e12 : ((2 ^ 12 : Nat) : Int) = 4096 := rfl
  have hx := ior_b 12 (by decide) (x := x) (y := ishl 1 (f m)) ⟨h.1.1, by rw [e12]; have := h.1.2; omega⟩ ⟨by omega, by rw [e12]; omega⟩
  rw [e12] at hx
  refine ⟨⟨hx.1, by omega⟩, fun a a0 => ?_⟩
  rw [tb_ior ⟨h.1.1, by have := h.1.2; omega⟩ ⟨by omega, by omega⟩, Bool.or_eq_true, h.2 a a0, tb_one ⟨hf.1, by omega⟩ a0, decide_eq_true_iff]
  constructor
  · rintro (⟨p, p0, p1, p2⟩ | e)
    · exact ⟨p, p0, by omega, p2⟩
    · exact ⟨m, m0, by omega, e⟩
  · rintro ⟨p, p0, p1, p2⟩
    by_cases e : p = m
    · rw [e] at p2; exact Or.inr p2
    · exact Or.inl ⟨p, p0, by omega, p2⟩
theorem ALs.inl {n x : Int} {f : IF} (h : ALs n f n x) : INL n f x := ⟨h.1, fun a a0 ha => (h.2 a a0).mp ha⟩
theorem ALs.lf {n x : Int} {f : IF} (h : ALs n f n x) (hf : ∀ p : Int, 0 ≤ p → p < n → 0 ≤ f p) : ∀ p : Int, 0 ≤ p → p < 12 → lfX n f x p = allL n p := fun p p0 _ => by
  show (decide (p < n) && tb x (f p)) = decide (p < n)
  by_cases e : p < n
  · rw [decide_eq_true e, (h.2 (f p) (hf p p0 e)).mpr ⟨p, p0, e, rfl⟩]; rfl
  · rw [decide_eq_false e]; rfl
/-- an arm taken out of what is left -/
theorem lf_rem {n x p : Int} {f : IF} (hx : INL n f x) (hj : IJ n f) (p0 : 0 ≤ p) (p1 : p < n) (hf : ∀ q : Int, 0 ≤ q → q < n → 0 ≤ f q ∧ f q ≤ 11) (hy : ∀ a : Int, 0 ≤ a → a ≤ 11 → tb (iand x (ixor (ishl 1 (f p)) (-1))) a = (tb x a && decide (a ≠ f p))) : ∀ q : Int, 0 ≤ q → q < 12 → lfX n f (iand x (ixor (ishl 1 (f p)) (-1))) q = remL (lfX n f x) p q := fun q q0 _ => by
  show (decide (q < n) && tb (iand x (ixor (ishl 1 (f p)) (-1))) (f q)) = ((decide (q < n) && tb x (f q)) && decide (q ≠ p))
  by_cases e : q < n
  · have w := hf q q0 e
    rw [decide_eq_true e, hy (f q) w.1 w.2, Bool.true_and, Bool.true_and]
    by_cases z : q = p
    · rw [z, decide_eq_false (show ¬ (f p ≠ f p) from fun h => h rfl), decide_eq_false (show ¬ (p ≠ p) from fun h => h rfl)]
    · rw [decide_eq_true (show f q ≠ f p from fun h => z (hj q p q0 e p0 p1 h)), decide_eq_true z]
  · rw [decide_eq_false e]; rfl
/-- a bit cleared -/
theorem clr_bv : ∀ p : Nat, p < 12 → (Int32.ofInt (ixor (ishl 1 (p : Int)) (-1))).toBitVec.toNat = 4294967295 - 2 ^ p := by decide +kernel
theorem clr_tb : ∀ p : Nat, p < 12 → ∀ a : Nat, a < 12 → (4294967295 - 2 ^ p).testBit a = decide (a ≠ p) := by decide +kernel
theorem tb_clr {x p a : Int} (hx : 0 ≤ x ∧ x ≤ 4095) (hp : 0 ≤ p ∧ p ≤ 11) (ha : 0 ≤ a ∧ a ≤ 11) : tb (iand x (ixor (ishl 1 p) (-1))) a = (tb x a && decide (a ≠ p)) := by
  have h1 := clr_bv p.toNat (by omega)
  rw [show ((p.toNat : Nat) : Int) = p by omega] at h1
  have e1 := bv_of (z := x) ⟨hx.1, by omega⟩
  have hv : ((Int32.ofInt x).toBitVec &&& (Int32.ofInt (ixor (ishl 1 p) (-1))).toBitVec).toNat = x.toNat &&& (4294967295 - 2 ^ p.toNat) := by
    rw [BitVec.toNat_and, e1, h1]
  have hl : x.toNat &&& (4294967295 - 2 ^ p.toNat) < 4096 := Nat.lt_of_le_of_lt Nat.and_le_left (by omega)
  have e : iand x (ixor (ishl 1 p) (-1)) = ((x.toNat &&& (4294967295 - 2 ^ p.toNat) : Nat) : Int) := by
    unfold iand
    rw [i32_bv, Int32.toBitVec_and, bv_small (n := 4096) (by rw [hv]; exact hl) (by decide), hv]
  unfold tb
  rw [e, Int.toNat_natCast, Nat.testBit_and, clr_tb p.toNat (by omega) a.toNat (by omega)]
  by_cases z : a = p
  · rw [z]; simp
  · have : ¬ a.toNat = p.toNat := by omega
    simp [z, this]
theorem clr_b {x p : Int} (hx : 0 ≤ x ∧ x ≤ 4095) : 0 ≤ iand x (ixor (ishl 1 p) (-1)) ∧ iand x (ixor (ishl 1 p) (-1)) ≤ 4095 := by
  have q := iand_l (x := x) (y := ixor (ishl 1 p) (-1)) ⟨hx.1, by omega⟩
  exact ⟨q.1, by omega⟩
theorem INL.clr {n x p : Int} {f : IF} (h : INL n f x) (hp : 0 ≤ p ∧ p ≤ 11) : INL n f (iand x (ixor (ishl 1 p) (-1))) := by
  have b := clr_b (p := p) h.1
  refine ⟨b, fun a a0 ha => ?_⟩
  have a11 : a ≤ 11 := by
    by_cases z : a ≤ 11
    · exact z
    · rw [tb_12 b (by omega)] at ha; exact absurd ha (by decide)
  rw [tb_clr h.1 hp ⟨a0, a11⟩, Bool.and_eq_true] at ha
  exact h.2 a a0 ha.1
theorem ask_hi {K M : PH} {F : FT} {n r o : Int} {f : IF} {L : LB} : ASK K M F n f r L o = -1 ∨ 0 ≤ ASK K M F n f r L o := by
  unfold ASK
  by_cases h : hdL L = -1
  · rw [if_pos h]; exact Or.inl rfl
  · rw [if_neg h]
    have b := (askG_b (K := K) (M := M) (F := F) (n := n) (f := f) (r := r) (L := L) (o := o) (M 0 0).toNat).1
    omega
/-- the best so far, in the class's words -/
def AXs (K M : PH) (F : FT) (n : Int) (f : IF) (r : Int) (L : LB) (o c b m : Int) : Prop := b = (askG K M F n f r L o c.toNat).1 ∧ (b = -1 ∨ m = -(askG K M F n f r L o c.toNat).2)
section AXSS
variable {K M : PH} {F : FT} {n r o c b m w : Int} {f : IF} {L : LB}
theorem AXs.start : AXs K M F n f r L o 0 (-1) m := ⟨rfl, Or.inl rfl⟩
theorem AXs.no (h : AXs K M F n f r L o c b m) (c0 : 0 ≤ c) (e : tb o c ≠ true ∨ fuP K M F n f c (hdL L) = true ∨ (b ≠ -1 ∧ m ≤ -worL K M F n f r L c)) : AXs K M F n f r L o (c + 1) b m := by
  have q := askG_n (K := K) (M := M) (F := F) (n := n) (f := f) (r := r) (L := L) (o := o) c0 (by
    rcases e with e | e | e
    · exact Or.inl e
    · exact Or.inr (Or.inl e)
    · exact Or.inr (Or.inr ⟨by have := h.1; omega, by have := h.2.resolve_left e.1; omega⟩))
  unfold AXs
  rw [q]
  exact h
theorem AXs.yes (h : AXs K M F n f r L o c b m) (c0 : 0 ≤ c) (h1 : tb o c = true) (h2 : fuP K M F n f c (hdL L) = false) (h3 : b = -1 ∨ w < m) (hw : w = -worL K M F n f r L c) : AXs K M F n f r L o (c + 1) c w := by
  have q := askG_y (K := K) (M := M) (F := F) (n := n) (f := f) (r := r) (L := L) (o := o) c0 h1 h2 (by
    by_cases z : b = -1
    · exact Or.inl (by have := h.1; omega)
    · refine Or.inr ?_
      have := h.2.resolve_left z
      have := h3.resolve_left z
      omega)
  unfold AXs
  rw [q]
  exact ⟨rfl, Or.inr (by show w = -worL K M F n f r L c; exact hw)⟩
end AXSS
/-! rule 1 in the class: run so far z, place p -/
theorem nf_go {K M : PH} {F : FT} {n c p z : Int} {f : IF} {L : LB} (h : z + nfG K M F n f L c (12 - p).toNat p = nfG K M F n f L c 12 0) (p0 : 0 ≤ p) (p1 : p < 12) : (L p = false → z + nfG K M F n f L c (12 - (p + 1)).toNat (p + 1) = nfG K M F n f L c 12 0) ∧ (L p = true → fuP K M F n f c p = true → z = nfG K M F n f L c 12 0) ∧ (L p = true → fuP K M F n f c p = false → z + 1 + nfG K M F n f L c (12 - (p + 1)).toNat (p + 1) = nfG K M F n f L c 12 0) := by
  rw [nfG_at p0 (by omega), show 12 - p - 1 = 12 - (p + 1) by omega] at h
  refine ⟨fun e => ?_, fun e e2 => ?_, fun e e2 => ?_⟩
  · rw [e, if_neg (by decide)] at h; exact h
  · rw [if_pos e, if_pos e2] at h; omega
  · rw [if_pos e, if_neg (by rw [e2]; decide)] at h; omega
theorem nf_end {K M : PH} {F : FT} {n c p z : Int} {f : IF} {left : Int} (h : z + nfG K M F n f (lfX n f left) c (12 - p).toNat p = nfG K M F n f (lfX n f left) c 12 0) (hp : n ≤ p) : z = nfG K M F n f (lfX n f left) c 12 0 := by
  rw [nfG_none (12 - p).toNat (fun i i0 _ => by
    show (decide (i < n) && _) = false
    rw [decide_eq_false (show ¬ i < n by omega), Bool.false_and])] at h
  omega
/-! bits counted, as the machine's library does -/
def bc1 (a : Int) : Int := a - iand (iushr a 1) 1431655765
def bc2 (a : Int) : Int := iand (bc1 a) 858993459 + iand (iushr (bc1 a) 2) 858993459
def bc3 (a : Int) : Int := iand (bc2 a + iushr (bc2 a) 4) 252645135
def bc4 (a : Int) : Int := bc3 a + iushr (bc3 a) 8
def bc5 (a : Int) : Int := bc4 a + iushr (bc4 a) 16
def bc6 (a : Int) : Int := iand (bc5 a) 63
theorem bc_all : ∀ a : Nat, a < 64 → ∀ b : Nat, b < 64 → (0 ≤ bc1 ((64 * a + b : Nat) : Int) ∧ bc1 ((64 * a + b : Nat) : Int) ≤ 4095) ∧ (0 ≤ bc2 ((64 * a + b : Nat) : Int) ∧ bc2 ((64 * a + b : Nat) : Int) ≤ 4095) ∧ (0 ≤ iushr (bc2 ((64 * a + b : Nat) : Int)) 4 ∧ iushr (bc2 ((64 * a + b : Nat) : Int)) 4 ≤ 4095) ∧ (0 ≤ bc3 ((64 * a + b : Nat) : Int) ∧ bc3 ((64 * a + b : Nat) : Int) ≤ 4095) ∧ (0 ≤ iushr (bc3 ((64 * a + b : Nat) : Int)) 8 ∧ iushr (bc3 ((64 * a + b : Nat) : Int)) 8 ≤ 4095) ∧ (0 ≤ iushr (bc4 ((64 * a + b : Nat) : Int)) 16 ∧ iushr (bc4 ((64 * a + b : Nat) : Int)) 16 ≤ 4095) ∧ bc6 ((64 * a + b : Nat) : Int) = pc12 ((64 * a + b : Nat) : Int) := by decide +kernel
theorem bc_at {x : Int} (hx : 0 ≤ x ∧ x ≤ 4095) : (0 ≤ bc1 x ∧ bc1 x ≤ 4095) ∧ (0 ≤ bc2 x ∧ bc2 x ≤ 4095) ∧ (0 ≤ iushr (bc2 x) 4 ∧ iushr (bc2 x) 4 ≤ 4095) ∧ (0 ≤ bc3 x ∧ bc3 x ≤ 4095) ∧ (0 ≤ iushr (bc3 x) 8 ∧ iushr (bc3 x) 8 ≤ 4095) ∧ (0 ≤ iushr (bc4 x) 16 ∧ iushr (bc4 x) 16 ≤ 4095) ∧ bc6 x = pc12 x := by
  have q := bc_all (x.toNat / 64) (by omega) (x.toNat % 64) (by omega)
  rw [show ((64 * (x.toNat / 64) + x.toNat % 64 : Nat) : Int) = x by omega] at q
  exact q
