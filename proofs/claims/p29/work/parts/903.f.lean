/-! The order laid out: which places are full in a column. -/
def FLc (n : Int) (f : IF) (c m : Int) (P0 : PH) (y : Int) : Prop := ∀ p : Int, 0 ≤ p → (tb y p = true ↔ (p < n ∧ ∀ s : Int, 0 ≤ s → s < m → tb (P0 32 ((2010 * c) + s)) (f p) = true))
section FLCS
variable {K M : PH} {F : FT} {n c m y z : Int} {f : IF} {P0 P : PH}
theorem FLc.start (hn : 0 ≤ n ∧ n ≤ 12) : FLc n f c 0 P0 (ishl 1 n - 1) := fun p p0 => by
  rw [tb_all ⟨hn.1, by omega⟩ p0, decide_eq_true_iff]
  exact ⟨fun h => ⟨h, fun s s0 s1 => by exfalso; omega⟩, fun h => h.1⟩
theorem FLc.step (h : FLc n f c m P0 y) (m0 : 0 ≤ m) (hz : PLs n f (P0 32 ((2010 * c) + m)) z) (hy : 0 ≤ y ∧ y ≤ 2147483647) (bz : 0 ≤ z ∧ z ≤ 2147483647) : FLc n f c (m + 1) P0 (iand y z) := fun p p0 => by
  rw [tb_iand hy bz, Bool.and_eq_true, h p p0, hz p p0, Bool.and_eq_true, decide_eq_true_iff]
  constructor
  · rintro ⟨⟨a, b⟩, _, d⟩
    refine ⟨a, fun s s0 s1 => ?_⟩
    by_cases e : s = m
    · rw [e]; exact d
    · exact b s s0 (by omega)
  · rintro ⟨a, b⟩
    exact ⟨⟨a, fun s s0 s1 => b s s0 (by omega)⟩, a, b m m0 (by omega)⟩
theorem ARH.mk (hl : LYT K M F P0) (e33 : ∀ j, P 33 j = P0 33 j) (ha : ARG K M F n f P) (h4 : PSs n f (M 0 0) P0 P) (h5 : ∀ d : Int, 0 ≤ d → d < M 0 0 → FLc n f d (P0 33 d) P0 (P 42 d)) : ARH K M F n f P := by
  refine ⟨ha, fun c c0 c1 => ?_⟩
  obtain ⟨_, a1, a2, _⟩ := hl c c0 c1
  have e1 : P0 33 c = dln K M F c := a1
  have e2 : ∀ i : Int, 0 ≤ i → i < dln K M F c → P0 32 ((2010 * c) + i) = dsi K M F c i := fun i i0 i1 => by
    unfold dln at i1
    have q := a2 i.toNat (by have i1 : i < ((dsl (mkf K M F c) (sz K (M 1 c)).toNat).length : Int) := i1; omega)
    rw [show ((i.toNat : Nat) : Int) = i by omega] at q
    exact q
  refine ⟨(e33 c).trans e1, fun i i0 i1 => ?_, fun p p0 => ?_⟩
  · have q := h4 c c0 c1 i i0 (by omega)
    rw [show P0 32 (2010 * c + i) = dsi K M F c i from e2 i i0 i1] at q
    exact q
  · have q := h5 c c0 c1 p p0
    have w : tb (P 42 c) p = true ↔ fuP K M F n f c p = true := by
      rw [q, fuP_i, e1]
      constructor
      · rintro ⟨a, b⟩
        exact ⟨a, fun i i0 i1 => by rw [← e2 i i0 i1]; exact b i i0 i1⟩
      · rintro ⟨a, b⟩
        exact ⟨a, fun i i0 i1 => by rw [e2 i i0 i1]; exact b i i0 i1⟩
    cases h1 : tb (P 42 c) p with
    | true => exact (w.mp h1).symm
    | false =>
      cases h2 : fuP K M F n f c p with
      | false => rfl
      | true => rw [w.mpr h2] at h1; exact absurd h1 (by decide)
theorem MFr.nextw {P P1 : PH} {G : FS} (h : ∀ k : Int, P 49 k / 8 ≤ P 0 74) (hf : FrM G P P1) (h49 : G.2.contains 49 = false) (hs : P1 0 74 = P 0 74 + 1) : MFr P1 := by
  intro k
  have e := hf.2 49 rfl h49
  have h1 := h k
  rw [e, hs]
  omega
end FLCS
/-! through a door, into a branch -/
theorem hd_ne {x : Int} (hx : 1 ≤ x ∧ x ≤ 4095) : hdL (tb x) ≠ -1 := fun h => by
  have e : x = 0 := (tb_eq ⟨by omega, hx.2⟩ ⟨by decide, by decide⟩).mpr (fun p p0 p1 => by rw [hdL_no h p0 p1, tb_0])
  omega
theorem hd_0 {x : Int} (h : x = 0) : hdL (tb x) = -1 := by
  subst h
  exact hdL_none (fun i _ _ => tb_0 i)
theorem thr_tb {x : Int} (hx : 1 ≤ x ∧ x ≤ 4095) : ∀ p : Int, 0 ≤ p → tb (iand x (x - 1)) p = remL (tb x) (hdL (tb x)) p := fun p p0 => by
  have b := (hdL_b (L := tb x)).2.resolve_left (hd_ne hx)
  rw [tb_low hx b.1 b.2.2 (fun i i0 i1 => hdL_fst i0 i1) p0]
  rfl
theorem SUn.rem {n x y : Int} (h : SUn n x) (e : ∀ p : Int, 0 ≤ p → tb y p = remL (tb x) (hdL (tb x)) p) : SUn n y := fun p p0 hp => by
  rw [e p p0] at hp
  have hp : (tb x p && decide (p ≠ hdL (tb x))) = true := hp
  rw [Bool.and_eq_true] at hp
  exact h p p0 hp.1
theorem SUn.and {n x y : Int} (h : SUn n x) (hx : 0 ≤ x ∧ x ≤ 2147483647) (hy : 0 ≤ y ∧ y ≤ 2147483647) : SUn n (iand x y) := fun p p0 hp => by
  rw [tb_iand hx hy, Bool.and_eq_true] at hp
  exact h p p0 hp.1
theorem SUn.all {n : Int} (hn : 0 ≤ n ∧ n ≤ 12) : SUn n (ishl 1 n - 1) := fun p p0 hp => by
  rw [tb_all ⟨hn.1, by omega⟩ p0, decide_eq_true_iff] at hp
  exact hp
theorem all_tb {n : Int} (hn : 0 ≤ n ∧ n ≤ 12) : ∀ p : Int, 0 ≤ p → tb (ishl 1 n - 1) p = allL n p := fun p p0 => tb_all ⟨hn.1, by omega⟩ p0
/-- the set of a value, cut with what is left -/
theorem brn_tb {K M : PH} {F : FT} {n : Int} {f : IF} {P : PH} (h : ARG K M F n f P) {c v x : Int} (hc : 0 ≤ c ∧ c < M 0 0) (hv : 0 ≤ v ∧ v < sz K (M 1 c)) (hx : 0 ≤ x ∧ x ≤ 4095) (hz : 0 ≤ P 41 (2010 * c + P 31 (2010 * c + v)) ∧ P 41 (2010 * c + P 31 (2010 * c + v)) ≤ 4095) : ∀ p : Int, 0 ≤ p → tb (iand x (P 41 (2010 * c + P 31 (2010 * c + v)))) p = brnL K F n f (tb x) c v p := fun p p0 => by
  rw [tb_iand ⟨by omega, by omega⟩ ⟨by omega, by omega⟩, h.2.2.2 c v hc.1 hc.2 hv.1 hv.2 p p0]
  show _ = (decide (p < n) && (tb x p && decide (tv K (F (f p) c) v = 1)))
  cases decide (p < n) <;> cases tb x p <;> cases decide (tv K (F (f p) c) v = 1) <;> rfl
/-- the answer of first -/
def fstR (K M : PH) (F : FT) (A : PH) (u : Int) : Int := if 0 < M 0 0 ∧ 0 ≤ u ∧ u ≤ 3 then fsG K M F (A 0 0) (A 1) u (oAll M) 13 (allL (A 0 0)) else -1
theorem fstR_y {K M : PH} {F : FT} {A : PH} {u : Int} (h : 0 < M 0 0 ∧ 0 ≤ u ∧ u ≤ 3) : fstR K M F A u = fsG K M F (A 0 0) (A 1) u (oAll M) 13 (allL (A 0 0)) := if_pos h
theorem fstR_n {K M : PH} {F : FT} {A : PH} {u : Int} (h : ¬ (0 < M 0 0 ∧ 0 ≤ u ∧ u ≤ 3)) : fstR K M F A u = -1 := if_neg h
