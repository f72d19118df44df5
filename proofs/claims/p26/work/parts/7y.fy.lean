/-! The order laid out by places: who takes a row. -/
abbrev IF : Type := Int → Int
def ODb (b n : Int) (f : IF) (P : PH) : Prop := P 35 b = n ∧ ∀ p : Int, 0 ≤ p → p < n → P 36 (12 * b + p) = f p
theorem ODb.fr {b n : Int} {f : IF} {P P1 : PH} {G : FS} (h : ODb b n f P) (hf : FrM G P P1) (hd : disF G ([], [35, 36]) = true) : ODb b n f P1 := by
  unfold ODb at h ⊢
  rw [disF_o hd hf (o := 35) (by decide) rfl, disF_o hd hf (o := 36) (by decide) rfl]
  exact h
theorem AM.od {A P : PH} (h : AM A P) : ODb 0 (A 0 0) (A 1) P := ⟨h.1.1, fun p p0 p1 => by rw [show (12 * 0 + p : Int) = p by omega]; exact h.2.1 p p0 p1⟩
/-- a set of arms told as a set of places -/
def PLs (n : Int) (f : IF) (x y : Int) : Prop := ∀ p : Int, 0 ≤ p → tb y p = (decide (p < n) && tb x (f p))
theorem PLs.start {f : IF} {x : Int} : PLs 0 f x 0 := fun p p0 => by
  rw [tb_0, decide_eq_false (by omega)]
  rfl
theorem ish11 {n : Int} (h : 0 ≤ n ∧ n ≤ 11) : 0 ≤ ishl 1 n ∧ ishl 1 n ≤ 2147483647 := by
  have q := ishl1 11 (by decide) (y := n) ⟨h.1, by omega⟩
  have e : ((2 ^ 11 : Nat) : Int) = 2048 := rfl
  rw [e] at q
  omega
theorem ishl_0 : ∀ y : Nat, y < 31 → ishl 0 (y : Int) = 0 := by decide +kernel
theorem PLs.step {n x y : Int} {f : IF} (h : PLs n f x y) (hn : 0 ≤ n ∧ n ≤ 11) (hx : 0 ≤ x ∧ x ≤ 4095) (hy : 0 ≤ y ∧ y ≤ 4095) (hf : 0 ≤ f n ∧ f n ≤ 11) : PLs (n + 1) f x (ior y (ishl (iand (ishr x (f n)) 1) n)) := by
  intro p p0
  have hp := h p p0
  have hq := ishl1_all n.toNat (by omega)
  rw [show ((n.toNat : Nat) : Int) = n by omega] at hq
  have hz := ishl_0 n.toNat (by omega)
  rw [show ((n.toNat : Nat) : Int) = n by omega] at hz
  have h11 : (2 : Nat) ^ n.toNat ≤ 2 ^ 11 := Nat.pow_le_pow_right (by decide) (by omega)
  rw [bit_is (x := x) (i := f n) ⟨by omega, by omega⟩ ⟨by omega, by omega⟩]
  by_cases q : tb x (f n) = true
  · rw [if_pos q, tb_ior ⟨by omega, by omega⟩ (ish11 hn), tb_one ⟨by omega, by omega⟩ p0, hp]
    by_cases e : n = p
    · subst e
      rw [q, decide_eq_true (show n < n + 1 by omega), decide_eq_true (rfl : n = n)]
      simp
    · rw [decide_eq_false e, Bool.or_false]
      by_cases z : p < n
      · rw [decide_eq_true z, decide_eq_true (show p < n + 1 by omega)]
      · rw [decide_eq_false z, decide_eq_false (show ¬ p < n + 1 by omega)]
  · rw [if_neg q, hz, tb_ior ⟨by omega, by omega⟩ ⟨by decide, by decide⟩, tb_0, Bool.or_false, hp]
    by_cases e : p = n
    · rw [e]
      simp only [Bool.not_eq_true] at q
      rw [q, Bool.and_false, Bool.and_false]
    · by_cases z : p < n
      · rw [decide_eq_true z, decide_eq_true (show p < n + 1 by omega)]
      · rw [decide_eq_false z, decide_eq_false (show ¬ p < n + 1 by omega)]
theorem PLs.cg {n x y : Int} {f g : IF} (h : PLs n f x y) (e : ∀ p : Int, 0 ≤ p → p < n → f p = g p) : PLs n g x y := fun p p0 => by
  rw [h p p0]
  by_cases z : p < n
  · rw [e p p0 z]
  · rw [decide_eq_false z]; simp only [Bool.false_and]
/-- the sets of a column, the first m of them; the sets told are those of P0 -/
def PSc (n : Int) (f : IF) (c m : Int) (P0 P : PH) : Prop := ∀ s : Int, 0 ≤ s → s < m → PLs n f (P0 32 (2010 * c + s)) (P 41 (2010 * c + s))
def PSs (n : Int) (f : IF) (c : Int) (P0 P : PH) : Prop := ∀ d : Int, 0 ≤ d → d < c → PSc n f d (P0 33 d) P0 P
section PSS
variable {n c m : Int} {f : IF} {P0 P P1 : PH}
theorem PSs.start : PSs n f 0 P0 P := fun d d0 d1 => by omega
theorem PSc.start : PSc n f c 0 P0 P := fun s s0 s1 => by omega
theorem PSs.other (h : PSs n f c P0 P) (h33 : ∀ d : Int, 0 ≤ d → d < c → P0 33 d ≤ 2010) (e41 : ∀ j : Int, j < 2010 * c → P1 41 j = P 41 j) : PSs n f c P0 P1 := fun d d0 d1 s s0 s1 => by
  have q := h33 d d0 d1
  rw [e41 _ (by omega)]
  exact h d d0 d1 s s0 s1
theorem PSc.put {z : Int} (h : PSc n f c m P0 P) (e41 : ∀ j : Int, j ≠ 2010 * c + m → P1 41 j = P 41 j) (hr : P1 41 (2010 * c + m) = z) (hz : PLs n f (P0 32 (2010 * c + m)) z) : PSc n f c (m + 1) P0 P1 := fun s s0 s1 => by
  by_cases e : s = m
  · rw [e, hr]; exact hz
  · rw [e41 _ (by omega)]; exact h s s0 (by omega)
theorem PSs.next (h : PSs n f c P0 P) (h1 : PSc n f c m P0 P) (e : m = P0 33 c) : PSs n f (c + 1) P0 P := fun d d0 d1 => by
  by_cases z : d = c
  · rw [z, ← e]; exact h1
  · exact h d d0 (by omega)
end PSS
/-- the places without a guard among the first m -/
def UGs (M : PH) (f : IF) (m y : Int) : Prop := ∀ p : Int, 0 ≤ p → tb y p = (decide (p < m) && decide (M 2 (f p) = -1))
theorem UGs.start {M : PH} {f : IF} : UGs M f 0 0 := fun p p0 => by
  rw [tb_0, decide_eq_false (by omega)]
  rfl
/-- a bit more -/
theorem tb_put {y z n : Int} {b : Bool} (hy : 0 ≤ y ∧ y ≤ 4095) (hn : 0 ≤ n ∧ n ≤ 11) (hz : (z = ishl 1 n ∧ b = true) ∨ (z = 0 ∧ b = false)) {p : Int} (p0 : 0 ≤ p) : tb (ior y z) p = (tb y p || (decide (n = p) && b)) := by
  have hq := ishl1_all n.toNat (by omega)
  rw [show ((n.toNat : Nat) : Int) = n by omega] at hq
  have h11 : (2 : Nat) ^ n.toNat ≤ 2 ^ 11 := Nat.pow_le_pow_right (by decide) (by omega)
  rcases hz with ⟨h1, h2⟩ | ⟨h1, h2⟩
  · rw [h1, h2, tb_ior ⟨by omega, by omega⟩ (ish11 hn), tb_one ⟨by omega, by omega⟩ p0, Bool.and_true]
  · rw [h1, h2, tb_ior ⟨by omega, by omega⟩ ⟨by decide, by decide⟩, tb_0, Bool.and_false]
theorem UGs.step {M : PH} {f : IF} {m y z : Int} (h : UGs M f m y) (hy : 0 ≤ y ∧ y ≤ 4095) (hm : 0 ≤ m ∧ m ≤ 11) (hz : (z = ishl 1 m ∧ M 2 (f m) = -1) ∨ (z = 0 ∧ M 2 (f m) ≠ -1)) : UGs M f (m + 1) (ior y z) := fun p p0 => by
  rw [tb_put hy hm (b := decide (M 2 (f m) = -1)) (by rcases hz with ⟨a, b⟩ | ⟨a, b⟩; exact Or.inl ⟨a, decide_eq_true b⟩; exact Or.inr ⟨a, decide_eq_false b⟩) p0, h p p0]
  by_cases e : m = p
  · subst e
    rw [decide_eq_true (show m < m + 1 by omega), decide_eq_false (show ¬ m < m by omega), decide_eq_true (rfl : m = m), Bool.false_and, Bool.false_or]
  · rw [decide_eq_false e, Bool.false_and, Bool.or_false]
    by_cases z : p < m
    · rw [decide_eq_true z, decide_eq_true (show p < m + 1 by omega)]
    · rw [decide_eq_false z, decide_eq_false (show ¬ p < m + 1 by omega)]
/-- the order laid out -/
def ARG (K M : PH) (F : FT) (n : Int) (f : IF) (P : PH) : Prop := P 0 62 = n ∧ (∀ p : Int, 0 ≤ p → p < n → P 43 p = M 2 (f p)) ∧ UGs M f n (P 0 66) ∧ ∀ c v : Int, 0 ≤ c → c < M 0 0 → 0 ≤ v → v < sz K (M 1 c) → ∀ p : Int, 0 ≤ p → tb (P 41 (2010 * c + P 31 (2010 * c + v))) p = (decide (p < n) && decide (tv K (F (f p) c) v = 1))
theorem ARG.fr {K M : PH} {F : FT} {n : Int} {f : IF} {P P1 : PH} {G : FS} (h : ARG K M F n f P) (hf : FrM G P P1) (hd : disF G ([62, 66], [31, 41, 43]) = true) : ARG K M F n f P1 := by
  unfold ARG at h ⊢
  rw [disF_k hd hf (k := 62) (by decide), disF_k hd hf (k := 66) (by decide), disF_o hd hf (o := 31) (by decide) rfl, disF_o hd hf (o := 41) (by decide) rfl, disF_o hd hf (o := 43) (by decide) rfl]
  exact h
theorem ARG.mk {K M : PH} {F : FT} {n : Int} {f : IF} {P0 P : PH} (hl : LYT K M F P) (e32 : ∀ j, P 32 j = P0 32 j) (e33 : ∀ j, P 33 j = P0 33 j) (hf : ∀ p : Int, 0 ≤ p → p < n → 0 ≤ f p ∧ f p < M 0 2) (h1 : P 0 62 = n) (h2 : ∀ p : Int, 0 ≤ p → p < n → P 43 p = M 2 (f p)) (h3 : UGs M f n (P 0 66)) (h4 : PSs n f (M 0 0) P0 P) : ARG K M F n f P :=
  ⟨h1, h2, h3, fun c v c0 c1 v0 v1 p p0 => by
    have q := hl.set c0 c1 v0 v1
    rw [e32, e33] at q
    rw [h4 c c0 c1 _ q.1 q.2.1 p p0, q.2.2]
    by_cases z : p < n
    · have w := hf p p0 z
      rw [decide_eq_true z, Bool.true_and, Bool.true_and, tb_msk w.1 (by omega)]
    · rw [decide_eq_false z]; simp only [Bool.false_and]⟩
/-- the places that may take a row by these guards; the guards of the first m places seen -/
def OPs (M : PH) (f : IF) (n on m y : Int) : Prop := ∀ p : Int, 0 ≤ p → tb y p = (decide (p < n) && (decide (M 2 (f p) = -1) || (decide (p < m) && tb on (M 2 (f p)))))
theorem OPs.start {M : PH} {f : IF} {n on y : Int} (h : UGs M f n y) : OPs M f n on 0 y := fun p p0 => by
  rw [h p p0, decide_eq_false (show ¬ p < 0 by omega), Bool.false_and, Bool.or_false]
theorem OPs.step {M : PH} {f : IF} {n on m y z : Int} (h : OPs M f n on m y) (hy : 0 ≤ y ∧ y ≤ 4095) (hm : 0 ≤ m ∧ m < n ∧ n ≤ 12) (hz : (z = ishl 1 m ∧ tb on (M 2 (f m)) = true) ∨ (z = 0 ∧ (M 2 (f m) = -1 ∨ tb on (M 2 (f m)) = false))) : OPs M f n on (m + 1) (ior y z) := fun p p0 => by
  have hz2 : (z = ishl 1 m ∧ tb on (M 2 (f m)) = true) ∨ (z = 0 ∧ (tb on (M 2 (f m)) = false ∨ M 2 (f m) = -1)) := by
    rcases hz with a | ⟨a, b⟩
    · exact Or.inl a
    · exact Or.inr ⟨a, b.symm⟩
  rw [tb_put (b := decide (z = ishl 1 m)) hy ⟨hm.1, by omega⟩ (by
    have hq := ishl1_all m.toNat (by omega)
    rw [show ((m.toNat : Nat) : Int) = m by omega] at hq
    have : 1 ≤ 2 ^ m.toNat := Nat.one_le_two_pow
    rcases hz with ⟨a, _⟩ | ⟨a, _⟩
    · exact Or.inl ⟨a, decide_eq_true a⟩
    · exact Or.inr ⟨a, decide_eq_false (by omega)⟩) p0, h p p0]
  by_cases e : m = p
  · subst e
    have hq := ishl1_all m.toNat (by omega)
    rw [show ((m.toNat : Nat) : Int) = m by omega] at hq
    have h1 : 1 ≤ 2 ^ m.toNat := Nat.one_le_two_pow
    rw [decide_eq_true hm.2.1, decide_eq_true (show m < m + 1 by omega), decide_eq_false (show ¬ m < m by omega), decide_eq_true (rfl : m = m)]
    simp only [Bool.true_and, Bool.false_and, Bool.or_false]
    rcases hz2 with ⟨a, b⟩ | ⟨a, b⟩
    · rw [decide_eq_true a, b]
    · rw [decide_eq_false (show ¬ z = ishl 1 m by omega), Bool.or_false]
      rcases b with b | b
      · rw [b, Bool.or_false]
      · rw [decide_eq_true b, Bool.true_or]
  · rw [decide_eq_false e, Bool.false_and, Bool.or_false]
    by_cases z : p < m
    · rw [decide_eq_true z, decide_eq_true (show p < m + 1 by omega)]
    · rw [decide_eq_false z, decide_eq_false (show ¬ p < m + 1 by omega)]
/-- the places whose arms may take by the guards -/
def OPe (M : PH) (f : IF) (n on y : Int) : Prop := ∀ p : Int, 0 ≤ p → tb y p = (decide (p < n) && gB M on (f p))
theorem OPs.end {M : PH} {f : IF} {n on m y : Int} (h : OPs M f n on m y) (hm : n ≤ m) : OPe M f n on y := fun p p0 => by
  rw [h p p0]
  unfold gB
  by_cases z : p < n
  · rw [decide_eq_true z, decide_eq_true (show p < m by omega)]; simp only [Bool.true_and]
  · rw [decide_eq_false z]; simp only [Bool.false_and]
/-- the places whose first m patterns fit a row -/
def FTs (K M : PH) (F : FT) (f : IF) (n r : Int) (m : Nat) (y : Int) : Prop := ∀ p : Int, 0 ≤ p → tb y p = (decide (p < n) && fitN K M F r (f p) m)
theorem FTs.start {K M : PH} {F : FT} {f : IF} {n r : Int} (hn : 0 ≤ n ∧ n ≤ 12) : FTs K M F f n r 0 (ishl 1 n - 1) := fun p p0 => by
  rw [tb_all ⟨by omega, by omega⟩ p0]
  show _ = (decide (p < n) && true)
  rw [Bool.and_true]
theorem FTs.step {K M : PH} {F : FT} {f : IF} {n r c y z : Int} {P : PH} (h : FTs K M F f n r c.toNat y) (ha : ARG K M F n f P) (hc : 0 ≤ c ∧ c < M 0 0) (hv : 0 ≤ vIn K M r c ∧ vIn K M r c < sz K (M 1 c)) (hy : 0 ≤ y ∧ y ≤ 4095) (hz : 0 ≤ z ∧ z ≤ 4095) (e : z = P 41 (2010 * c + P 31 (2010 * c + vIn K M r c))) : FTs K M F f n r (c + 1).toNat (iand y z) := fun p p0 => by
  rw [tb_iand ⟨by omega, by omega⟩ ⟨by omega, by omega⟩, h p p0, e, ha.2.2.2 c _ hc.1 hc.2 hv.1 hv.2 p p0, show (c + 1).toNat = c.toNat + 1 by omega]
  show _ = (decide (p < n) && (fitN K M F r (f p) c.toNat && decide (tv K (F (f p) ((c.toNat : Nat) : Int)) (vIn K M r ((c.toNat : Nat) : Int)) = 1)))
  rw [show ((c.toNat : Nat) : Int) = c by omega]
  by_cases z : p < n
  · rw [decide_eq_true z, Bool.true_and, Bool.true_and, Bool.true_and]
  · rw [decide_eq_false z]; simp only [Bool.false_and]
/-- the place that takes a row in any order -/
def tkf (K M : PH) (F : FT) (f : IF) (on r : Int) : IF := fun p => if (fitB K M F r (f p) && gB M on (f p)) = true then 1 else 0
theorem tak_f {K M : PH} {F : FT} {A : PH} {on r : Int} : tak K M F A on r = fxi (tkf K M F (A 1) on r) 1 (A 0 0).toNat := rfl
/-- the lowest place of a set -/
theorem low_fxi {x r n : Int} {g : Int → Bool} {h : IF} (hn : 0 ≤ n) (hg : ∀ p : Int, 0 ≤ p → h p = if g p = true then 1 else 0) (hx : ∀ p : Int, 0 ≤ p → tb x p = (decide (p < n) && g p)) (l1 : (x = 0 ∧ r = -1) ∨ (x ≠ 0 ∧ 0 ≤ r)) (l2 : r = -1 ∨ tb x r = true) (l3 : ∀ i : Int, 0 ≤ i → i < r → tb x i = false) : r = fxi h 1 n.toNat := by
  rcases l1 with ⟨a, b⟩ | ⟨a, b⟩
  · rw [b]
    refine (fxi_none n.toNat (fun i i0 i1 => ?_)).symm
    have q := hx i i0
    rw [a, tb_0, decide_eq_true (show i < n by omega), Bool.true_and] at q
    rw [hg i i0, ← q]
    decide
  · have l2 := l2.resolve_left (by omega)
    have q := hx r b
    rw [l2] at q
    have rn : r < n := by
      by_cases z : r < n
      · exact z
      · rw [decide_eq_false z, Bool.false_and] at q; exact absurd q (by decide)
    rw [decide_eq_true rn, Bool.true_and] at q
    refine (fxi_some b (by rw [hg r b, ← q]; rfl) (fun i i0 i1 => ?_) n.toNat (by omega)).symm
    have w := hx i i0
    rw [l3 i i0 i1, decide_eq_true (show i < n by omega), Bool.true_and] at w
    rw [hg i i0, ← w]
    decide
/-! what an act leaves keeps to the match -/
section GAS
variable {M A : PH} {k : Int}
theorem GA.now {n s : Int} (h : GA M A) (hw : WA k A) (hn : 0 ≤ n) (hs : n + s = A 0 4) (s0 : 0 ≤ s) : GA M (aNow A n s) := by
  refine ⟨fun p p0 p1 => ?_, ?_, fun i i0 i1 => ?_⟩
  · rw [aNow_0, if_neg (by decide)] at p1
    rw [aNow_1]
    exact h.1 p p0 p1
  · rw [aNow_0, if_neg (by decide)]; exact h.2.1
  · rw [aNow_0, if_pos rfl] at i1
    rw [aNow_3, aNow_2]
    by_cases z : i = n
    · rw [if_pos z, if_pos z]
      refine ⟨h.2.1, fun p p0 p1 => ?_⟩
      have w := hw.1
      rw [aNow_6, if_pos (by omega), show 12 * i + p - 12 * n = p by omega]
      exact h.1 p p0 p1
    · rw [if_neg z, if_neg z]
      have q := h.2.2 (i + s) (by omega) (by omega)
      have w := hw.2.2.2 (i + s) (by omega) (by omega)
      refine ⟨q.1, fun p p0 p1 => ?_⟩
      rw [aNow_6, if_neg (by omega), show 12 * i + p + 12 * s = 12 * (i + s) + p by omega]
      exact q.2 p p0 p1
theorem GA.push (h : GA M A) (hw : WA k A) : GA M (aPush A) := by
  have w := hw.2.1
  unfold aPush
  by_cases e : A 0 4 = 20
  · rw [if_pos e]; exact h.now hw (by decide) (by omega) (by decide)
  · rw [if_neg e]; exact h.now hw w.1 (by omega) (by decide)
theorem GA.pop (h : GA M A) (h0 : 0 < A 0 4) : GA M (aPop A) := by
  have q := h.2.2 (A 0 4 - 1) (by omega) (by omega)
  exact ⟨q.2, q.1, fun i i0 i1 => h.2.2 i i0 (by have i1 : i < A 0 4 - 1 := i1; omega)⟩
theorem GA.set {c n r : Int} {a : Int → Int} (h : GA M A) (hn : 0 ≤ n ∧ n ≤ 255) (ha : ∀ p : Int, 0 ≤ p → p < c → 0 ≤ a p ∧ a p < M 0 2) : GA M (aSet A c n r a) := ⟨ha, hn, h.2.2⟩
theorem GA.u0 {j z : Int} (h : GA M A) (hj : j = 3 ∨ j = 5 ∨ j = 6) : GA M (up A 0 j z) := by
  have e : ∀ q : Int, q ≠ 3 → q ≠ 5 → q ≠ 6 → up A 0 j z 0 q = A 0 q := fun q h3 h5 h6 => up_k (by omega)
  have e2 : ∀ o : Nat, o ≠ 0 → ∀ q : Int, up A 0 j z o q = A o q := fun o ho q => up_o ho
  unfold GA
  rw [e 0 (by decide) (by decide) (by decide), e 1 (by decide) (by decide) (by decide), e 4 (by decide) (by decide) (by decide), up_row (by decide), up_row (by decide), up_row (by decide), up_row (by decide)]
  exact h
theorem GA.swap {a b : Int} (h : GA M A) (hw : WA k A) : GA M (aSwap A a b) := by
  by_cases q : (0 ≤ a ∧ a < A 0 0) ∧ (0 ≤ b ∧ b < A 0 0) ∧ a ≠ b
  · rw [aSwap_y q]
    refine (h.push hw).set h.2.1 (fun p p0 p1 => ?_)
    show 0 ≤ (if p = a then A 1 b else if p = b then A 1 a else A 1 p) ∧ (if p = a then A 1 b else if p = b then A 1 a else A 1 p) < M 0 2
    by_cases e : p = a
    · rw [if_pos e]; exact h.1 b q.2.1.1 q.2.1.2
    · rw [if_neg e]
      by_cases e2 : p = b
      · rw [if_pos e2]; exact h.1 a q.1.1 q.1.2
      · rw [if_neg e2]; exact h.1 p p0 p1
  · rw [aSwap_n q]; exact h
theorem GA.drop {p : Int} (h : GA M A) (hw : WA k A) : GA M (aDrop A p) := by
  by_cases q : 0 ≤ p ∧ p < A 0 0
  · rw [aDrop_y q]
    refine (h.push hw).set h.2.1 (fun j j0 j1 => ?_)
    show 0 ≤ (if j < p then A 1 j else A 1 (j + 1)) ∧ (if j < p then A 1 j else A 1 (j + 1)) < M 0 2
    by_cases e : j < p
    · rw [if_pos e]; exact h.1 j j0 (by omega)
    · rw [if_neg e]; exact h.1 (j + 1) (by omega) (by omega)
  · rw [aDrop_n q]; exact h
theorem GA.turn {g : Int} (h : GA M A) (hw : WA k A) : GA M (aTurn A M g) := by
  by_cases q : 0 < M 0 0 ∧ 0 ≤ g ∧ g ≤ 7
  · rw [aTurn_y q]
    have hs := ishl1 7 (by decide) (y := g) ⟨q.2.1, q.2.2⟩
    have hx := ixor_b 8 (by decide) (x := A 0 1) (y := ishl 1 g) (by have := h.2.1; exact ⟨this.1, by show _ < (256 : Int); omega⟩) ⟨by omega, by have e : ((2 ^ 7 : Nat) : Int) = 128 := rfl; have h2 := hs.2.2; rw [e] at h2; show _ < (256 : Int); omega⟩
    have e8 : ((2 ^ 8 : Nat) : Int) = 256 := rfl
    rw [e8] at hx
    exact (h.push hw).set ⟨hx.1, by omega⟩ h.1
  · rw [aTurn_n q]; exact h
theorem GA.rule {r : Int} (h : GA M A) (hw : WA k A) : GA M (aRule A M r) := by
  by_cases q : 0 < M 0 0 ∧ 0 ≤ r ∧ r ≤ 3 ∧ A 0 2 ≠ r
  · rw [aRule_y q]; exact (h.push hw).set h.2.1 h.1
  · rw [aRule_n q]; exact h
theorem GA.seed {v : Int} (h : GA M A) : GA M (aSeed A v) := by
  by_cases q : 0 ≤ v
  · rw [aSeed_y q]; exact h.u0 (Or.inr (Or.inl rfl))
  · rw [aSeed_n (by omega)]; exact h
theorem GA.undo (h : GA M A) : GA M (aUndo A) := by
  by_cases q : 0 < A 0 4
  · rw [aUndo_y q]; exact h.pop q
  · rw [aUndo_n (by omega)]; exact h
theorem GA.run {r : Int} (h : GA M A) (hw : WA k A) : GA M (aRun A M r) := by
  by_cases q : 0 < M 0 0 ∧ 0 ≤ r ∧ r < M 0 1
  · rw [aRun_y q]; exact (h.push hw).u0 (Or.inl rfl)
  · rw [aRun_n q]; exact h
theorem GA.drs : ∀ (n : Nat) {A : PH}, GA M A → GA M (aDrs n A) := by
  intro n
  induction n with
  | zero => intro A h; exact h
  | succ n ih => intro A h; exact ((ih h).u0 (Or.inr (Or.inl rfl))).u0 (Or.inl rfl)
theorem GA.cha {n : Int} (h : GA M A) (hw : WA k A) : GA M (aCha A M n) := by
  by_cases q : 0 < M 0 0 ∧ 1 ≤ n ∧ n ≤ 40
  · rw [aCha_y q]; exact GA.drs _ (h.push hw)
  · rw [aCha_n q]; exact h
theorem GA.beg {c r : Int} (hc : c ≤ M 0 2) : GA M (aBeg A c r) := ⟨fun p p0 p1 => ⟨p0, by have p1 : p < c := p1; show p < M 0 2; omega⟩, ⟨by show (0 : Int) ≤ 255; decide, by show (255 : Int) ≤ 255; decide⟩, fun i i0 i1 => absurd i1 (by show ¬ i < 0; omega)⟩
theorem GA.mat {T : TT} (h : GA M A) : GA (mmR T M) (aMat T A) := by
  unfold aMat
  by_cases q : (mlR T).1 = 0
  · rw [if_pos q, mmR_0 q]; exact GA.beg (Int.le_refl _)
  · rw [if_neg q, mmR_1 q]; exact h
theorem GA.see {T : TT} (h : GA M A) : GA M (aSee T M A) := by
  rcases Classical.em (seOk T M A) with q | q
  · rw [aSee_y q]; exact h.u0 (Or.inr (Or.inr rfl))
  · rw [aSee_n q]; exact h
theorem GA.on {T : TT} (h : GA M A) (hT : ∀ i : Int, 0 ≤ i → i < T.2 → 0 ≤ T.1 i ∧ T.1 i ≤ 255) : GA M (aOn T M A) := by
  rcases Classical.em (onOk T M) with q | q
  · rw [aOn_y q]
    obtain ⟨⟨q1, q2, q3, q4⟩, _, _, q7⟩ := q
    have h0 := hT 0 (by decide) (by omega)
    exact ⟨fun p p0 p1 => ⟨(hT (1 + p) (by omega) (by have p1 : p < T.1 0 := p1; omega)).1, (q7 p p0 p1).1⟩, hT (T.2 - 3) (by omega) (by omega), fun i i0 i1 => absurd i1 (by show ¬ i < 0; omega)⟩
  · rw [aOn_n q]; exact h
theorem GA.zero : GA M A0 := ⟨fun p p0 p1 => absurd p1 (by show ¬ p < 0; omega), ⟨by show (0 : Int) ≤ 0; decide, by show (0 : Int) ≤ 255; decide⟩, fun i i0 i1 => absurd i1 (by show ¬ i < 0; omega)⟩
end GAS
/-- rows drawn that none takes -/
def chN (K M : PH) (F : FT) (A : PH) : Nat → Int
  | 0 => 0
  | n + 1 => chN K M F A n + (if tak K M F A (A 0 1) (drw (aDrs n A 0 5) / 64 % M 0 1) = -1 then 1 else 0)
/-- drawing moves no arm -/
theorem aDrs_1 {A : PH} : ∀ n : Nat, aDrs n A 1 = A 1 ∧ aDrs n A 0 0 = A 0 0 ∧ aDrs n A 0 1 = A 0 1 := by
  intro n
  induction n with
  | zero => exact ⟨rfl, rfl, rfl⟩
  | succ n ih =>
    have e : aDrs (n + 1) A = aDr (aDrs n A) := rfl
    rw [e]
    unfold aDr
    refine ⟨?_, ?_, ?_⟩
    · rw [up_row (by decide), up_row (by decide)]; exact ih.1
    · rw [up_k (by decide), up_k (by decide)]; exact ih.2.1
    · rw [up_k (by decide), up_k (by decide)]; exact ih.2.2
theorem tak_cg {K M : PH} {F : FT} {A B : PH} {on r : Int} (e1 : B 1 = A 1) (e0 : B 0 0 = A 0 0) : tak K M F B on r = tak K M F A on r := by
  unfold tak takF
  rw [e1, e0]
/-- guards told are guards -/
def GW (M : PH) : Prop := ∀ a : Int, 0 ≤ a → a < M 0 2 → -1 ≤ M 2 a ∧ M 2 a ≤ 7
theorem GW.zero : GW M0 := fun a a0 a1 => absurd a1 (by show ¬ a < 0; omega)
theorem GW.st {T : TT} {K M : PH} {p : Int} (h : GW M) (hn : NA M) (hs : (sSt T K M p).1 = 0) : GW (mSt T K M p) := by
  unfold sSt at hs
  unfold mSt
  by_cases h2 : tO T p = 2
  · rw [if_neg (by omega), if_neg (by omega), if_pos h2] at hs
    rw [if_pos h2]
    have q := sMa_s T K M p
    have hs : (sMa T K M p).1 = 0 := hs
    intro a a0 a1
    rw [sMa_2] at a1
    have := hn (by omega)
    omega
  · rw [if_neg h2]
    by_cases h3 : tO T p = 3
    · rw [if_neg (by omega), if_neg (by omega), if_neg h2, if_pos h3] at hs
      rw [if_pos h3]
      have q := sAr_s T K M p
      unfold mAr
      intro a a0 a1
      rw [aNew_0.2.1] at a1
      rw [aNew_2]
      by_cases e : a = M 0 2
      · rw [if_pos e]
        by_cases z : tO T (arX1 T K M p).2 = 4
        · rw [if_pos z]
          have w := num_s T 0 7 (tE T (arX1 T K M p).2)
          omega
        · rw [if_neg z]; exact ⟨by decide, by decide⟩
      · rw [if_neg e]; exact h a a0 (by omega)
    · rw [if_neg h3]
      by_cases h5 : tO T p = 5
      · rw [if_pos h5]; intro a a0 a1; rw [up_k (by decide)] at a1; rw [up_o (by decide)]; exact h a a0 a1
      · rw [if_neg h5]
        by_cases h6 : tO T p = 6
        · rw [if_pos h6]; intro a a0 a1; rw [up_k (by decide)] at a1; rw [up_o (by decide)]; exact h a a0 a1
        · rw [if_neg h6]; exact h
theorem mlo_gw {T : TT} : ∀ (r : Nat) (n : Int) (K M : PH) (p : Int), GW M → NA M → (mlo T r n K M p).1 = 0 → GW (mlo T r n K M p).2.2.2 := by
  intro r
  induction r with
  | zero =>
    intro n K M p hw hv h0
    by_cases e : tK T p = 0
    · rw [mlo_end e] at h0 ⊢
      exact hw
    · rw [mlo_much e] at h0
      exact absurd h0 (show (6 : Int) ≠ 0 by decide)
  | succ r ih =>
    intro n K M p hw hv h0
    by_cases e : tK T p = 0
    · rw [mlo_end e] at h0 ⊢
      exact hw
    · by_cases h1 : (sSt T K M p).1 = 0
      · by_cases h2 : (sgn T 59 (sSt T K M p).2).1 = 0
        · rw [mlo_go e h1 h2] at h0 ⊢
          exact ih _ _ _ _ (hw.st hv h1) (hv.st h1) h0
        · rw [mlo_eF e h1 h2] at h0
          exact absurd h0 h2
      · rw [mlo_sF e h1] at h0
        exact absurd h0 h1
theorem GW.mat {T : TT} {M : PH} (h : GW M) : GW (mmR T M) := by
  by_cases q : (mlR T).1 = 0
  · rw [mmR_0 q]; exact mlo_gw 60 0 K0 M0 0 GW.zero NA.zero q
  · rw [mmR_1 q]; exact h
/-- a set of places that fit, cut with those whose guards let them -/
theorem take_f {K M : PH} {F : FT} {f : IF} {n r on x y w : Int} (h1 : FTs K M F f n r (M 0 0).toNat x) (h2 : OPe M f n on y) (hx : 0 ≤ x ∧ x ≤ 4095) (hy : 0 ≤ y ∧ y ≤ 4095) (hn : 0 ≤ n) (l1 : (iand x y = 0 ∧ w = -1) ∨ (iand x y ≠ 0 ∧ 0 ≤ w)) (l2 : w = -1 ∨ tb (iand x y) w = true) (l3 : ∀ i : Int, 0 ≤ i → i < w → tb (iand x y) i = false) : w = fxi (tkf K M F f on r) 1 n.toNat :=
  low_fxi (g := fun p => fitB K M F r (f p) && gB M on (f p)) hn (fun _ _ => rfl) (fun p p0 => by
    rw [tb_iand ⟨by omega, by omega⟩ ⟨by omega, by omega⟩, h1 p p0, h2 p p0]
    show (decide (p < n) && fitB K M F r (f p) && (decide (p < n) && gB M on (f p))) = _
    by_cases z : p < n
    · rw [decide_eq_true z, Bool.true_and, Bool.true_and, Bool.true_and]
    · rw [decide_eq_false z]; simp only [Bool.false_and]) l1 l2 l3
/-- the answers -/
def ftR (K M : PH) (F : FT) (A : PH) (p c v : Int) : Int := if (0 ≤ p ∧ p < A 0 0) ∧ (0 ≤ c ∧ c < M 0 0) ∧ 0 ≤ v ∧ v < sz K (M 1 c) then b1 (tv K (F (A 1 p) c) v = 1) else -1
theorem ftR_y {K M : PH} {F : FT} {A : PH} {p c v : Int} (h : (0 ≤ p ∧ p < A 0 0) ∧ (0 ≤ c ∧ c < M 0 0) ∧ 0 ≤ v ∧ v < sz K (M 1 c)) : ftR K M F A p c v = b1 (tv K (F (A 1 p) c) v = 1) := if_pos h
theorem ftR_n {K M : PH} {F : FT} {A : PH} {p c v : Int} (h : ¬ ((0 ≤ p ∧ p < A 0 0) ∧ (0 ≤ c ∧ c < M 0 0) ∧ 0 ≤ v ∧ v < sz K (M 1 c))) : ftR K M F A p c v = -1 := if_neg h
def tkR (K M : PH) (F : FT) (A : PH) (r : Int) : Int := if 0 < M 0 0 ∧ 0 ≤ r ∧ r < M 0 1 then tak K M F A (A 0 1) r else -1
theorem tkR_y {K M : PH} {F : FT} {A : PH} {r : Int} (h : 0 < M 0 0 ∧ 0 ≤ r ∧ r < M 0 1) : tkR K M F A r = tak K M F A (A 0 1) r := if_pos h
theorem tkR_n {K M : PH} {F : FT} {A : PH} {r : Int} (h : ¬ (0 < M 0 0 ∧ 0 ≤ r ∧ r < M 0 1)) : tkR K M F A r = -1 := if_neg h
def chR (K M : PH) (F : FT) (A : PH) (n : Int) : Int := if 0 < M 0 0 ∧ 1 ≤ n ∧ n ≤ 40 then chN K M F (aPush A) n.toNat else -1
theorem chR_y {K M : PH} {F : FT} {A : PH} {n : Int} (h : 0 < M 0 0 ∧ 1 ≤ n ∧ n ≤ 40) : chR K M F A n = chN K M F (aPush A) n.toNat := if_pos h
theorem chR_n {K M : PH} {F : FT} {A : PH} {n : Int} (h : ¬ (0 < M 0 0 ∧ 1 ≤ n ∧ n ≤ 40)) : chR K M F A n = -1 := if_neg h
theorem tak_push {K M : PH} {F : FT} {A : PH} {r : Int} : tak K M F (aPush A) (aPush A 0 1) r = tak K M F A (A 0 1) r := by
  rw [aPush_0 A 1 (by decide)]
  exact tak_cg (funext (aPush_1 A)) (aPush_0 A 0 (by decide))
/-- the arms are the same while rows are drawn -/
theorem tak_drs {K M : PH} {F : FT} {A : PH} {n : Nat} {z r : Int} : tak K M F (up (aDrs n A) 0 5 z) ((up (aDrs n A) 0 5 z) 0 1) r = tak K M F A (A 0 1) r := by
  have q := aDrs_1 (A := A) n
  rw [up_k (by decide), q.2.2]
  exact tak_cg (by rw [up_row (by decide)]; exact q.1) (by rw [up_k (by decide)]; exact q.2.1)
/-! the class's side -/
theorem isin_tb {x i r : Int} (hx : 0 ≤ x ∧ x ≤ 2147483647) (hi : 0 ≤ i ∧ i ≤ 31) (h : (r = 1 ∧ iand (ishr x i) 1 ≠ 0) ∨ (r = 0 ∧ iand (ishr x i) 1 = 0)) : (r = 1 ∧ tb x i = true) ∨ (r = 0 ∧ tb x i = false) := by
  have q := bit_is hx hi
  by_cases e : tb x i = true
  · rw [if_pos e] at q
    exact Or.inl ⟨by omega, e⟩
  · rw [if_neg e] at q
    exact Or.inr ⟨by omega, by simpa using e⟩
/-- whether the last n patterns of an arm fit a row -/
def fitE (K M : PH) (F : FT) (r a : Int) : Nat → Bool
  | 0 => true
  | n + 1 => fitE K M F r a n && decide (tv K (F a (M 0 0 - 1 - (n : Int))) (vIn K M r (M 0 0 - 1 - (n : Int))) = 1)
theorem fitE_i {K M : PH} {F : FT} {r a : Int} : ∀ n : Nat, fitE K M F r a n = true ↔ ∀ c : Int, M 0 0 - 1 - (n : Int) < c → c < M 0 0 → tv K (F a c) (vIn K M r c) = 1 := by
  intro n
  induction n with
  | zero => exact ⟨fun _ c c0 c1 => by exfalso; have c0 : M 0 0 - 1 - 0 < c := c0; omega, fun _ => rfl⟩
  | succ n ih =>
    show (fitE K M F r a n && decide _) = true ↔ _
    rw [Bool.and_eq_true, ih, decide_eq_true_iff]
    constructor
    · intro h c c0 c1
      by_cases e : c = M 0 0 - 1 - (n : Int)
      · rw [e]; exact h.2
      · exact h.1 c (by omega) c1
    · intro h
      exact ⟨fun c c0 c1 => h c (by omega) c1, h _ (by omega) (by omega)⟩
theorem fitE_B {K M : PH} {F : FT} {r a : Int} (h : 0 ≤ M 0 0) : fitE K M F r a (M 0 0).toNat = fitB K M F r a := by
  have q := fitE_i (K := K) (M := M) (F := F) (r := r) (a := a) (M 0 0).toNat
  have w := fitB_i (K := K) (F := F) (r := r) (a := a) h
  by_cases e : fitB K M F r a = true
  · rw [e, q]
    exact fun c c0 c1 => w.mp e c (by omega) c1
  · have e2 : fitE K M F r a (M 0 0).toNat ≠ true := fun z => e (w.mpr (fun c c0 c1 => q.mp z c (by omega) c1))
    simp only [Bool.not_eq_true] at e e2
    rw [e, e2]
/-- the arms whose last m patterns fit a row -/
def FEs (K M : PH) (F : FT) (r : Int) (m : Nat) (y : Int) : Prop := ∀ a : Int, 0 ≤ a → tb y a = (decide (a < M 0 2) && fitE K M F r a m)
theorem FEs.start {K M : PH} {F : FT} {r : Int} (hn : 0 ≤ M 0 2 ∧ M 0 2 ≤ 12) : FEs K M F r 0 (ishl 1 (M 0 2) - 1) := fun a a0 => by
  rw [tb_all ⟨by omega, by omega⟩ a0]
  show _ = (decide (a < M 0 2) && true)
  rw [Bool.and_true]
theorem FEs.step {K M : PH} {F : FT} {r c y z : Int} (h : FEs K M F r (M 0 0 - 1 - c).toNat y) (hn : 0 ≤ M 0 2 ∧ M 0 2 ≤ 12) (hc : 0 ≤ c ∧ c < M 0 0) (hy : 0 ≤ y ∧ y ≤ 4095) (e : z = msk K F c (vIn K M r c) (M 0 2).toNat) : FEs K M F r (M 0 0 - 1 - (c + (-1))).toNat (iand y z) := fun a a0 => by
  have hz := msk_12 (K := K) (F := F) (c := c) (v := vIn K M r c) hn
  rw [tb_iand ⟨by omega, by omega⟩ (by rw [e]; exact ⟨hz.1, by have q : msk K F c (vIn K M r c) (M 0 2).toNat < 4096 := hz.2; omega⟩), h a a0, show (M 0 0 - 1 - (c + (-1))).toNat = (M 0 0 - 1 - c).toNat + 1 by omega]
  show _ = (decide (a < M 0 2) && (fitE K M F r a (M 0 0 - 1 - c).toNat && decide (tv K (F a (M 0 0 - 1 - (((M 0 0 - 1 - c).toNat : Nat) : Int))) (vIn K M r (M 0 0 - 1 - (((M 0 0 - 1 - c).toNat : Nat) : Int))) = 1)))
  rw [show M 0 0 - 1 - (((M 0 0 - 1 - c).toNat : Nat) : Int) = c by omega]
  by_cases q : a < M 0 2
  · rw [decide_eq_true q, Bool.true_and, Bool.true_and, e, tb_msk a0 (by omega)]
  · rw [decide_eq_false q]; simp only [Bool.false_and]
theorem FEs.end {K M : PH} {F : FT} {r y : Int} {m : Nat} (h : FEs K M F r m y) (h0 : 0 ≤ M 0 0) (e : m = (M 0 0).toNat) : ∀ a : Int, 0 ≤ a → tb y a = (decide (a < M 0 2) && fitB K M F r a) := fun a a0 => by
  rw [h a a0, e, fitE_B h0]
/-- whether the arm at a place takes a row that fits the arms x -/
def ptk (M : PH) (x on : Int) (f : IF) : IF := fun p => if (tb x (f p) && gB M on (f p)) = true then 1 else 0
theorem ptk_y {M : PH} {x on p : Int} {f : IF} (h1 : tb x (f p) = true) (h2 : gB M on (f p) = true) : ptk M x on f p = 1 := by
  unfold ptk
  rw [h1, h2]
  rfl
theorem ptk_n {M : PH} {x on p : Int} {f : IF} (h : tb x (f p) = false ∨ gB M on (f p) = false) : ptk M x on f p ≠ 1 := by
  unfold ptk
  rcases h with h | h
  · rw [h, Bool.false_and]; decide
  · rw [h, Bool.and_false]; decide
theorem gB_1 {M : PH} {on a : Int} (h : M 2 a = -1) : gB M on a = true := by
  unfold gB
  rw [decide_eq_true h, Bool.true_or]
theorem gB_t {M : PH} {on a : Int} (h : M 2 a ≠ -1) : gB M on a = tb on (M 2 a) := by
  unfold gB
  rw [decide_eq_false h, Bool.false_or]
/-- the same place on both sides -/
theorem ptk_tak {K M : PH} {F : FT} {A : PH} {x on r : Int} {f : IF} {n : Int} (hx : ∀ a : Int, 0 ≤ a → tb x a = (decide (a < M 0 2) && fitB K M F r a)) (hf : ∀ p : Int, 0 ≤ p → p < A 0 0 → f p = A 1 p) (hg : ∀ p : Int, 0 ≤ p → p < A 0 0 → 0 ≤ A 1 p ∧ A 1 p < M 0 2) (hn : n = A 0 0) : fxi (ptk M x on f) 1 n.toNat = tak K M F A on r := by
  rw [tak_f, hn]
  refine fxi_cg _ (fun i i0 i1 => ?_)
  have g := hg i i0 (by omega)
  unfold ptk tkf
  rw [hf i i0 (by omega), hx _ g.1, decide_eq_true g.2, Bool.true_and]
theorem fit_b {x i r : Int} {p : Prop} [Decidable p] (h : (r = 1 ∧ tb x i = true) ∨ (r = 0 ∧ tb x i = false)) (e : tb x i = decide p) : r = b1 p := by
  by_cases q : p
  · rw [decide_eq_true q] at e
    rw [b1_1 q]
    rcases h with h | h
    · exact h.1
    · rw [h.2] at e; exact absurd e (by decide)
  · rw [decide_eq_false q] at e
    rw [b1_0 q]
    rcases h with h | h
    · rw [h.2] at e; exact absurd e (by decide)
    · exact h.1
theorem rows_1 {K M : PH} (ar : AR K M) (az : AZ K M) (h : 0 < M 0 0) : 1 ≤ M 0 1 := by
  rcases ar with e | e
  · omega
  · rw [e]; exact pG_1 az.1 _ (by omega)
