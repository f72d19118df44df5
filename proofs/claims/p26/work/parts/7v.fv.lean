section
/-! The class's patterns: the values that fit and the codes, step by step. -/
theorem b1_i9 {p : Prop} [Decidable p] : b1 p = 1 ↔ p := by
  rcases b1_s p with h | h
  · exact ⟨fun _ => h.1, fun _ => h.2⟩
  · exact ⟨fun q => by omega, fun q => absurd q h.1⟩
/-- the alternatives so far: whether there are any, their codes, their truth -/
def SCo (K : PH) (a : Int) (L : List OP) (d : Int → Int) : Prop := (a = 0 ∧ L = [] ∧ ∀ v, d v = 0) ∨ (a = 1 ∧ SC K L d)
def dOr (a : Int) (d d2 : Int → Int) : Int → Int := if a = 0 then d2 else fun v => b1 (d v = 1 ∨ d2 v = 1)
theorem SCo.or {K : PH} {a : Int} {L L2 : List OP} {d d2 : Int → Int} (h : SCo K a L d) (h2 : SC K L2 d2) : SC K (orE a (L2 ++ L)) (dOr a d d2) := by
  unfold dOr
  rcases h with ⟨h0, h1, _⟩ | ⟨h0, h1⟩
  · subst h0
    subst h1
    rw [List.append_nil, if_pos rfl]
    exact h2
  · subst h0
    rw [if_neg (by decide)]
    exact SC.orE2 h1 h2
theorem dOr_1 {K : PH} {a : Int} {L : List OP} {d d2 : Int → Int} (h : SCo K a L d) (v : Int) : dOr a d d2 v = 1 ↔ (d v = 1 ∨ d2 v = 1) := by
  unfold dOr
  rcases h with ⟨h0, h1, h2⟩ | ⟨h0, h1⟩
  · rw [if_pos h0, h2 v]
    constructor
    · intro q; exact Or.inr q
    · intro q; rcases q with q | q
      · exact absurd q (by decide)
      · exact q
  · rw [if_neg (by omega)]
    show b1 (d v = 1 ∨ d2 v = 1) = 1 ↔ _
    have q := b1_s (d v = 1 ∨ d2 v = 1)
    constructor
    · intro e
      rcases q with q | q
      · exact q.1
      · omega
    · intro e; exact b1_1 e
theorem FO.rf {j e : Int} {P : PH} : FO j e P P := fun _ _ _ _ => rfl
theorem FO.tr {j e : Int} {P P1 P2 : PH} (h : FO j e P P1) (h1 : FO j e P1 P2) : FO j e P P2 := fun i a b v => (h1 i a b v).trans (h i a b v)
theorem FO.of {j e : Int} {P P1 : PH} (h : ∀ i : Nat, kx i 50 → ∀ v : Int, P1 i v = P i v) (he : e ≤ 4) : FO j e P P1 := fun i _ b v => by
  have k := fr9_k (j := (i : Int)) (by omega)
  unfold fr9 at k
  rw [Int.toNat_natCast] at k
  exact h _ k v
def RJ (j e : Int) : Prop := 0 ≤ j ∧ j ≤ 9 ∧ e ≤ 4
/-- a pattern's reading, ahead of an alternative -/
def PLx (T : TT) (K : PH) (k j e p a : Int) (L : List OP) (d : Int → Int) (q : Int) (P H : PH) : Prop := RJ j e ∧ FO j e P H ∧ SCo K a L d ∧ FD (fr9 j) (sz K k) d H ∧ ∀ (s : SK) (x : XR), Runs T K 0 (s.1, a, L ++ s.2.2) k q x → Runs T K 0 (s.1, 0, s.2.2) k p x
/-- behind an alternative -/
def PMx (T : TT) (K : PH) (k j e p a : Int) (L : List OP) (d : Int → Int) (q : Int) (P H : PH) : Prop := RJ j e ∧ FO j e P H ∧ SC K (orE a L) d ∧ FD (fr9 j) (sz K k) d H ∧ ∀ (s : SK) (x : XR), Runs T K 1 (s.1, a, L ++ s.2.2) k q x → Runs T K 0 (s.1, 0, s.2.2) k p x
/-- a row that is filled -/
def FLR (j a b w : Int) (P H : PH) : Prop := (0 ≤ j ∧ j ≤ 9) ∧ FLx (fr9 j) a b w P H
def FDr (j n : Int) (d : Int → Int) (H : PH) : Prop := (0 ≤ j ∧ j ≤ 9) ∧ FD (fr9 j) n d H
def FUR (j n : Int) (d : Int → Int) (P H : PH) : Prop := (0 ≤ j ∧ j ≤ 9) ∧ FU (fr9 j) n d P H
def FOR (j e : Int) (P H : PH) : Prop := e ≤ 4 ∧ FO j e P H
/-- no row of no greater depth is written -/
def RO (e : Int) (P H : PH) : Prop := e ≤ 4 ∧ ∀ i : Nat, (i : Int) < 2 * (e + 1) → ∀ v : Int, H (crX 114 i) v = P (crX 114 i) v
theorem rows_fr {P P1 : PH} {F : FSX} (hf : FrX F P P1) (hd : disX F ([], [50]) = true) {j : Int} (hj : 0 ≤ j ∧ j ≤ 9) (v : Int) : P1 (fr9 j) v = P (fr9 j) v := disX_a hd hf (fr9_k hj) (by decide) v
section PXS
variable {T : TT} {K : PH} {k j e p a q q2 r b w n : Int} {L L2 : List OP} {d d2 : Int → Int} {P H H1 : PH} {F : FSX}
theorem FLR.fr (h : FLR j a b w P H) (hf : FrX F H H1) (hd : disX F ([], [50]) = true) : FLR j a b w P H1 := ⟨h.1, h.2.fr (fr9_k h.1) hf hd⟩
theorem FDr.fr (h : FDr j n d H) (hf : FrX F H H1) (hd : disX F ([], [50]) = true) : FDr j n d H1 := ⟨h.1, fun v v0 v1 => (rows_fr hf hd h.1 v).trans (h.2 v v0 v1)⟩
theorem FUR.fr (h : FUR j n d P H) (hf : FrX F H H1) (hd : disX F ([], [50]) = true) : FUR j n d P H1 := ⟨h.1, fun v v0 v1 => (rows_fr hf hd h.1 v).trans (h.2 v v0 v1)⟩
theorem FOR.fr (h : FOR j e P H) (hf : FrX F H H1) (hd : disX F ([], [50]) = true) : FOR j e P H1 := ⟨h.1, h.2.tr (FO.of (fun i hi v => disX_a hd hf hi (by decide) v) h.1)⟩
theorem RO.fr (h : RO e P H) (hf : FrX F H H1) (hd : disX F ([], [50]) = true) : RO e P H1 := ⟨h.1, fun i hi v => (disX_a hd hf (by
    have k := fr9_k (j := (i : Int)) (by have := h.1; omega)
    unfold fr9 at k
    rw [Int.toNat_natCast] at k
    exact k) (by decide) v).trans (h.2 i hi v)⟩
theorem PLx.fr (h : PLx T K k j e p a L d q P H) (hf : FrX F H H1) (hd : disX F ([], [50]) = true) : PLx T K k j e p a L d q P H1 :=
  ⟨h.1, h.2.1.tr (FO.of (fun i hi v => disX_a hd hf hi (by decide) v) h.1.2.2), h.2.2.1, fun v v0 v1 => (rows_fr hf hd ⟨h.1.1, h.1.2.1⟩ v).trans (h.2.2.2.1 v v0 v1), h.2.2.2.2⟩
theorem PMx.fr (h : PMx T K k j e p a L d q P H) (hf : FrX F H H1) (hd : disX F ([], [50]) = true) : PMx T K k j e p a L d q P H1 :=
  ⟨h.1, h.2.1.tr (FO.of (fun i hi v => disX_a hd hf hi (by decide) v) h.1.2.2), h.2.2.1, fun v v0 v1 => (rows_fr hf hd ⟨h.1.1, h.1.2.1⟩ v).trans (h.2.2.2.1 v v0 v1), h.2.2.2.2⟩
theorem FLR.mk {b1 : Int} (h : FLx (fr9 j) a b1 w P H) (hj : 0 ≤ j ∧ j ≤ 9) (e : b1 = b) : FLR j a b w P H := by subst e; exact ⟨hj, h⟩
theorem PLx.start {b1 : Int} (h : FLx (fr9 j) 0 b1 0 P H) (e1 : b1 = sz K k - 1) (hj : RJ j e) : PLx T K k j e p 0 [] (fun _ => 0) p P H := by
  subst e1
  exact ⟨hj, h.fo ⟨hj.1, hj.2.1⟩ hj.2.2, Or.inl ⟨rfl, rfl, fun _ => rfl⟩, fun v v0 v1 => by rw [h.1 v v0, if_pos ⟨v0, by omega⟩]; rfl, fun _ _ hx => hx⟩
theorem PLx.ac (h : PLx T K k j e p a L d q P H) (ho : FO j e H H1) (hs : SC K L2 d2) (hu : FU (fr9 j) (sz K k) d2 H H1) (hr : ∀ (s : SK) (x : XR), Runs T K 1 (adL s L2) k q2 x → Runs T K 0 s k q x) : PMx T K k j e p a (L2 ++ L) (dOr a d d2) q2 P H1 := by
  refine ⟨h.1, h.2.1.tr ho, h.2.2.1.or hs, fun v v0 v1 => ?_, fun s x hx => h.2.2.2.2 s x (hr _ x ?_)⟩
  · rw [hu v v0 v1, h.2.2.2.1 v v0 v1]
    have q := dOr_1 (d2 := d2) h.2.2.1 v
    by_cases z2 : d2 v = 1
    · rw [if_pos z2, if_pos (q.mpr (Or.inr z2))]
    · rw [if_neg z2]
      by_cases z : d v = 1
      · rw [if_pos z, if_pos (q.mpr (Or.inl z))]
      · rw [if_neg z, if_neg (fun w => (q.mp w).elim z z2)]
  · rw [List.append_assoc] at hx
    exact hx
theorem PMx.or (h : PMx T K k j e p a L d q P H) (ho : tO T q = 9) : PLx T K k j e p 1 (orE a L) d (tE T q) P H :=
  ⟨h.1, h.2.1, Or.inr ⟨rfl, h.2.2.1⟩, h.2.2.2.1, fun s x hx => h.2.2.2.2 s x (Runs.or ho (by
    have e : alE (s.1, a, L ++ s.2.2) = (s.1, 1, orE a L ++ s.2.2) := by
      show (s.1, (1 : Int), orE a (L ++ s.2.2)) = _
      rw [orE_app]
    rw [e]
    exact hx))⟩
theorem PMx.ap (h : PMx T K k j e p a L d q P H) (h3 : H 110 3 = P 110 3) (h4 : H 110 4 = P 110 4) (hp : p ≤ q) (ho : tO T q ≠ 9) (hs : XS T q H) : AP T K k j e p 1 P H := Or.inl ⟨rfl, h3, h4, h.2.1, q, a, L, d, hp, ho, hs, h.2.2.1, h.2.2.2.1, h.2.2.2.2⟩
/-- a fault in an alternative -/
theorem PLx.flt (h : PLx T K k j e p a L d q P H) (hr : ∀ s : SK, Runs T K 0 s k q (H1 110 3, H1 110 4, [])) : ∀ s : SK, Runs T K 0 (s.1, 0, s.2.2) k p (H1 110 3, H1 110 4, []) := fun s => h.2.2.2.2 s _ (hr _)
/-- a range, any, a constructor without fields -/
theorem AC.rg (hk : k = -1) (h : (r = 1 ∧ (rg8 T p).1 = 0 ∧ H1 110 3 = H 110 3 ∧ H1 110 4 = H 110 4) ∨ (r = 0 ∧ (rg8 T p).1 ≠ 0 ∧ H1 110 3 = (rg8 T p).1 ∧ H1 110 4 = (rg8 T p).2)) (hs : (rg8 T p).1 = 0 → XS T (rg8 T p).2 H1) (hj : RJ j e)
    (hf : r = 1 → (tO T p = 8 → FLx (fr9 j) 0 19 1 H H1) ∧ (tO T p ≠ 8 → FLx (fr9 j) (tV T p) (hiV T p) 1 H H1)) : AC T K k j e p r H H1 := by
  have hj9 : 0 ≤ j ∧ j ≤ 9 := ⟨hj.1, hj.2.1⟩
  refine AC.range hk h hs (fun hr => ?_) (fun hr => ⟨fun h8 => ((hf hr).1 h8).fu (fun v v0 v1 => ⟨fun _ => ⟨v0, by omega⟩, fun _ => rfl⟩), fun h8 => ((hf hr).2 h8).fu (fun v _ _ => b1_i9)⟩)
  by_cases z : tO T p = 8
  · exact ((hf hr).1 z).fo hj9 hj.2.2
  · exact ((hf hr).2 z).fo hj9 hj.2.2
theorem AC.any9 (h : FLR j 0 (sz K k - 1) 1 P H1) (he : e ≤ 4) (ho : tO T p = 8) (h3 : H1 110 3 = P 110 3) (h4 : H1 110 4 = P 110 4) (hs : XS T (tE T p) H1) : AC T K k j e p 1 P H1 :=
  AC.any ho h3 h4 hs (h.2.fo h.1 he) (h.2.fu (fun v v0 v1 => ⟨fun _ => ⟨v0, by omega⟩, fun _ => rfl⟩))
theorem AC.case9 (h : FLR j (K 10 (cNm K (tV T p))) (K 10 (cNm K (tV T p))) 1 P H1) (he : e ≤ 4) (ho : tO T p ≠ 8) (hk : k ≠ -1) (h0 : (cas T K k p).1 = 0) (h6 : K 6 (cNm K (tV T p)) = 0) (h3 : H1 110 3 = P 110 3) (h4 : H1 110 4 = P 110 4) (hs : XS T (tE T p) H1) : AC T K k j e p 1 P H1 :=
  AC.case0 ho hk h0 h6 h3 h4 hs (h.2.fo h.1 he) (h.2.fu (fun v _ _ => by
    rw [b1_i9]
    show (K 10 _ ≤ v ∧ v < K 10 _ + cpr K _) ↔ _
    rw [cpr_0 h6]
    omega))
end PXS
/-! a constructor's fields -/
def HCx (T : TT) (K : PH) (c f k k1 q p a : Int) (L : List OP) : Prop := ∀ (s : SK) (x : XR), Runs T K 1 ((c, f, k, s.2.1) :: s.1, a, L ++ s.2.2) k1 q x → Runs T K 0 s k p x
theorem HCx.one {T : TT} {K : PH} {c k k1 q q1 p a : Int} {L : List OP} (hi : ∀ (s : SK) (x : XR), Runs T K 0 (fbS (em s (2, c, 0)) c 0 k) k1 q1 x → Runs T K 0 s k p x) (hr : ∀ (s : SK) (x : XR), Runs T K 1 (s.1, a, L ++ s.2.2) k1 q x → Runs T K 0 (s.1, 0, s.2.2) k1 q1 x) : HCx T K c 0 k k1 q p a (L ++ [(3, c, 0), (2, c, 0)]) := fun s x hx => by
  refine hi s x (hr (fbS (em s (2, c, 0)) c 0 k) x ?_)
  have e : (fbS (em s (2, c, 0)) c 0 k).2.2 = (3, c, 0) :: (2, c, 0) :: s.2.2 := rfl
  rw [List.append_assoc] at hx
  exact hx
theorem HCx.two {T : TT} {K : PH} {c k k1 k2 q q1 q2 p a a2 : Int} {L L2 : List OP} (h : HCx T K c 0 k k1 q p a L) (ho : tO T q ≠ 9) (hf : (0 : Int) + 1 < K 6 c) (hs : (sgn T 44 q).1 = 0) (e1 : q1 = tE T q) (e2 : k2 = K 8 c) (hr : ∀ (s : SK) (x : XR), Runs T K 1 (s.1, a2, L2 ++ s.2.2) k2 q2 x → Runs T K 0 (s.1, 0, s.2.2) k2 q1 x) : HCx T K c 1 k k2 q2 p a2 (L2 ++ (3, c, 1) :: (5, 0, 0) :: (4, 0, 0) :: orE a L) := fun s x hx => by
  refine h s x (Runs.comma rfl ho hf hs ?_)
  subst e1
  subst e2
  refine hr (fbS (poS ((c, 0, k, s.2.1) :: s.1, a, L ++ s.2.2) s.2.1 s.1) c (0 + 1) k) x ?_
  have e : (fbS (poS ((c, 0, k, s.2.1) :: s.1, a, L ++ s.2.2) s.2.1 s.1) c (0 + 1) k).2.2 = ((3, c, 1) :: (5, 0, 0) :: (4, 0, 0) :: orE a L) ++ s.2.2 := by
    show (3, c, (0 : Int) + 1) :: (5, 0, 0) :: (4, 0, 0) :: orE a (L ++ s.2.2) = _
    rw [orE_app]
    rfl
  rw [e]
  rw [List.append_assoc] at hx
  exact hx
/-- a constructor with one field, with two -/
theorem SC.f1 {K : PH} {c a : Int} {L : List OP} {dA : Int → Int} (h : SC K (orE a L) dA) : SC K ((5, 0, 0) :: (4, 0, 0) :: orE a (L ++ [(3, c, 0), (2, c, 0)])) (fun v => b1 (b1 (inR K c v) = 1 ∧ dA (fdV K v c 0) = 1)) := by
  rw [orE_app]
  exact SC.fld h SC.con
theorem SC.f2 {K : PH} {c a a2 : Int} {L L2 : List OP} {d1 d2 : Int → Int} (h1 : SC K ((5, 0, 0) :: (4, 0, 0) :: orE a L) d1) (h2 : SC K (orE a2 L2) d2) : SC K ((5, 0, 0) :: (4, 0, 0) :: orE a2 (L2 ++ (3, c, 1) :: (5, 0, 0) :: (4, 0, 0) :: orE a L)) (fun v => b1 (d1 v = 1 ∧ d2 (fdV K v c 1) = 1)) := by
  rw [orE_app]
  exact SC.fld h2 h1
/-- the values of a constructor that are filled, by the codes of its fields -/
theorem FCx.fu {K : PH} {c n m : Int} {o : Nat} {A B dA dB d : Int → Int} {P0 P P1 : PH} (h : FCx K c n o A B P P1) (hn : n = K 10 c + cpr K c) (hP : ∀ v : Int, P o v = P0 o v) (hK : K 6 c = 1 ∨ K 6 c = 2) (hc : cpr K c = if K 6 c = 2 then sz K (K 7 c) * sz K (K 8 c) else sz K (K 7 c)) (h1 : 1 ≤ sz K (K 7 c)) (h2 : K 6 c = 2 → 1 ≤ sz K (K 8 c))
    (eA : ∀ w : Int, 0 ≤ w → w < sz K (K 7 c) → A w = if dA w = 1 then 1 else 0) (eB : K 6 c = 2 → ∀ w : Int, 0 ≤ w → w < sz K (K 8 c) → B w = if dB w = 1 then 1 else 0) (hd : ∀ v : Int, d v = 1 ↔ (inR K c v ∧ dA (fdV K v c 0) = 1 ∧ (K 6 c = 2 → dB (fdV K v c 1) = 1))) : FU o m d P0 P1 := fun v v0 v1 => by
  rw [h.1 v v0, hP]
  by_cases z : inR K c v
  · have q := cFi_d hK z hc h1 h2 eA eB
    have z2 : v < n := by have q := z.2; omega
    by_cases w : cFi K c A B v
    · rw [if_pos ⟨z2, w⟩, if_pos ((hd v).mpr ⟨z, q.mp w⟩)]
    · rw [if_neg (fun y => w y.2), if_neg (fun y => w (q.mpr ((hd v).mp y).2))]
  · rw [if_neg (fun y => z ⟨y.2.1, by have q := y.1; omega⟩), if_neg (fun y => z ((hd v).mp y).1)]
/-- what the fields' rows say -/
def CAB (K : PH) (c b : Int) (dd : Int → Int) (H : PH) : Prop := ∃ dA dB : Int → Int, FD (fr9 b) (sz K (K 7 c)) dA H ∧ (K 6 c = 2 → FD (fr9 (b + 1)) (sz K (K 8 c)) dB H) ∧ ∀ v, dd v = 1 ↔ (inR K c v ∧ dA (fdV K v c 0) = 1 ∧ (K 6 c = 2 → dB (fdV K v c 1) = 1))
theorem FD.fo {j j2 e n : Int} {d : Int → Int} {P P1 : PH} (h : FD (fr9 j) n d P) (hf : FO j2 e P P1) (hj : 0 ≤ j) (hn : j ≠ j2) (hl : j < 2 * (e + 1)) : FD (fr9 j) n d P1 := fun v v0 v1 => by
  have q := hf j.toNat (by omega) (by omega) v
  unfold fr9 at h ⊢
  exact q.trans (h v v0 v1)
theorem FO.ro {j e e1 : Int} {P P1 : PH} (h : FO j e1 P P1) (he : e ≤ 4) (hl : 2 * (e + 1) ≤ j ∧ e ≤ e1) : RO e P P1 := ⟨he, fun i hi v => h i (by omega) (by omega) v⟩
theorem RO.tr {e : Int} {P P1 P2 : PH} (h : RO e P P1) (h1 : RO e P1 P2) : RO e P P2 := ⟨h.1, fun i hi v => (h1.2 i hi v).trans (h.2 i hi v)⟩
theorem RO.of {e : Int} {P P1 : PH} (h : ∀ i : Nat, kx i 50 → ∀ v : Int, P1 i v = P i v) (he : e ≤ 4) : RO e P P1 := ⟨he, fun i hi v => by
  have k := fr9_k (j := (i : Int)) (by omega)
  unfold fr9 at k
  rw [Int.toNat_natCast] at k
  exact h _ k v⟩
theorem CAB.one {K : PH} {c b : Int} {dA : Int → Int} {H : PH} (h6 : K 6 c = 1) (hA : FD (fr9 b) (sz K (K 7 c)) dA H) : CAB K c b (fun v => b1 (b1 (inR K c v) = 1 ∧ dA (fdV K v c 0) = 1)) H :=
  ⟨dA, dA, hA, fun q => by omega, fun v => by
    show b1 _ = 1 ↔ _
    rw [b1_i9, b1_i9]
    exact ⟨fun q => ⟨q.1, q.2, fun z => by omega⟩, fun q => ⟨q.1, q.2.1⟩⟩⟩
theorem CAB.two {K : PH} {c b : Int} {dA dB : Int → Int} {H : PH} (hA : FD (fr9 b) (sz K (K 7 c)) dA H) (hB : FD (fr9 (b + 1)) (sz K (K 8 c)) dB H) (h6 : K 6 c = 2) : CAB K c b (fun v => b1 (b1 (b1 (inR K c v) = 1 ∧ dA (fdV K v c 0) = 1) = 1 ∧ dB (fdV K v c 1) = 1)) H :=
  ⟨dA, dB, hA, fun _ => hB, fun v => by
    show b1 _ = 1 ↔ _
    rw [b1_i9, b1_i9, b1_i9]
    exact ⟨fun q => ⟨q.1.1, q.1.2, fun _ => q.2⟩, fun q => ⟨⟨q.1, q.2.1⟩, q.2.2 h6⟩⟩⟩
theorem cpr_f {K : PH} {c : Int} (h : K 6 c = 1 ∨ K 6 c = 2) : cpr K c = if K 6 c = 2 then sz K (K 7 c) * sz K (K 8 c) else sz K (K 7 c) := by
  rcases h with h | h
  · rw [if_neg (by omega), cpr_1 h]
  · rw [if_pos h, cpr_2 h]
theorem CAB.fu {K : PH} {c b j m n e : Int} {dd : Int → Int} {P0 P P1 : PH} (h : CAB K c b dd P) (hf : FCx K c n (fr9 j) (P (fr9 b)) (P (fr9 (b + 1))) P P1) (hn : n = K 10 c + cpr K c) (hr : RO e P0 P) (hj : 0 ≤ j ∧ j ≤ 9 ∧ j < 2 * (e + 1)) (hK : K 6 c = 1 ∨ K 6 c = 2) (h1 : 1 ≤ sz K (K 7 c)) (h2 : K 6 c = 2 → 1 ≤ sz K (K 8 c)) : FUR j m dd P0 P1 := by
  obtain ⟨dA, dB, hA, hB, hd⟩ := h
  refine ⟨⟨hj.1, hj.2.1⟩, hf.fu hn (fun v => ?_) hK (cpr_f hK) h1 h2 (fun w w0 w1 => hA w w0 w1) (fun q w w0 w1 => hB q w w0 w1) hd⟩
  have q := hr.2 j.toNat (by omega) v
  unfold fr9
  exact q
theorem FCx.ro {K : PH} {c n j e : Int} {A B : Int → Int} {P0 P P1 : PH} (h : FCx K c n (fr9 j) A B P P1) (hr : RO e P0 P) (hj : 0 ≤ j ∧ j ≤ 9) : FOR j e P0 P1 := ⟨hr.1, fun i hi hl v => by
  have k := fr9_k (j := (i : Int)) (by have := hr.1; omega)
  have q := fr9_i (i := (i : Int)) (j := j) (by have := hr.1; omega) hj hi
  unfold fr9 at k q
  rw [Int.toNat_natCast] at k q
  exact (h.2 _ k q v).trans (hr.2 i hl v)⟩
theorem sz_0 {K : PH} (ha : AW K) {k : Int} (h : -1 ≤ k ∧ k < K 0 0) : 0 ≤ sz K k := by
  rcases sz_s K k with q | q
  · omega
  · have := ha.2.1 k (by omega) (by omega)
    omega
theorem fsz_1 {K : PH} (hb : AB K) (ha : AW K) {c : Int} (h0 : 0 ≤ c) (h1 : c < K 0 1) : (1 ≤ K 6 c → 1 ≤ sz K (K 7 c)) ∧ (K 6 c = 2 → 1 ≤ sz K (K 8 c)) := by
  have w := ha.2.2.1 c h0 h1
  have p := (hb c h0 h1).1.1
  have a7 := sz_0 ha (k := K 7 c) ⟨by omega, by omega⟩
  have a8 := sz_0 ha (k := K 8 c) ⟨by omega, by omega⟩
  rcases (show K 6 c = 0 ∨ K 6 c = 1 ∨ K 6 c = 2 by omega) with h | h | h
  · exact ⟨fun q => by omega, fun q => by omega⟩
  · rw [cpr_1 h] at p
    exact ⟨fun _ => p, fun q => by omega⟩
  · rw [cpr_2 h] at p
    have n7 : sz K (K 7 c) ≠ 0 := fun z => by rw [z, Int.zero_mul] at p; omega
    have n8 : sz K (K 8 c) ≠ 0 := fun z => by rw [z, Int.mul_zero] at p; omega
    exact ⟨fun _ => by omega, fun _ => by omega⟩
theorem FCx.cg {K : PH} {c n n1 : Int} {o : Nat} {A B : Int → Int} {P P1 : PH} (h : FCx K c n o A B P P1) (e : n = n1) : FCx K c n1 o A B P P1 := e ▸ h
/-! the table's rows through columns, arms, statements -/
theorem fit_k {o j : Nat} (ho : kx o 28) (hj : j < 4) : kx (crX (crX o 5) j) 44 := ce_43 (ck_28_5 ho) hj
theorem fit_i {o : Nat} (ho : kx o 28) : ∀ j : Nat, j < 4 → ∀ l : Nat, l < 4 → crX (crX o 5) j = crX (crX o 5) l → j = l := (show ∀ o : Nat, o < 154 → kdX o = 28 → ∀ j : Nat, j < 4 → ∀ l : Nat, l < 4 → crX (crX o 5) j = crX (crX o 5) l → j = l by decide +kernel) o ho.1 ho.2
theorem XF.fr {K M : PH} {F : FT} {o : Nat} {P P1 : PH} {S : FSX} (h : XF K M F o P) (hm : M 0 0 ≤ 4) (hf : FrX S P P1) (hd : disX S ([], [44]) = true) : XF K M F o P1 :=
  ⟨h.1, fun c v c0 c1 v0 v1 => (disX_a hd hf (fit_k h.1 (j := c.toNat) (by omega)) (by decide) v).trans (h.2 c v c0 c1 v0 v1)⟩
/-- with the columns' bound at hand -/
def XFb (K M : PH) (F : FT) (o : Nat) (P : PH) : Prop := M 0 0 ≤ 4 ∧ XF K M F o P
theorem XFb.fr {K M : PH} {F : FT} {o : Nat} {P P1 : PH} {S : FSX} (h : XFb K M F o P) (hf : FrX S P P1) (hd : disX S ([], [44]) = true) : XFb K M F o P1 := ⟨h.1, h.2.fr h.1 hf hd⟩
def XF1b (K M : PH) (F : FT) (G : Int → List OP) (n : Int) (o : Nat) (P : PH) : Prop := M 0 0 ≤ 4 ∧ XF1 K M F G n o P
theorem XF1b.fr {K M : PH} {F : FT} {G : Int → List OP} {n : Int} {o : Nat} {P P1 : PH} {S : FSX} (h : XF1b K M F G n o P) (hf : FrX S P P1) (hd : disX S ([], [44]) = true) : XF1b K M F G n o P1 :=
  ⟨h.1, h.2.1, fun c v c0 c1 v0 v1 => (disX_a hd hf (fit_k h.2.1 (j := c.toNat) (by have := h.1; omega)) (by decide) v).trans (h.2.2 c v c0 c1 v0 v1)⟩
/-- a row of zeros so far -/
def ZRx (o : Nat) (n : Int) (P P1 : PH) : Prop := (∀ v : Int, 0 ≤ v → v < n → P1 o v = 0) ∧ ∀ i : Nat, kx i 44 → i ≠ o → ∀ v : Int, P1 i v = P i v
theorem ZRx.start {o : Nat} {P P1 : PH} (e : ∀ i : Nat, kx i 44 → ∀ v : Int, P1 i v = P i v) : ZRx o 0 P P1 := ⟨fun v v0 v1 => by omega, fun i hi _ v => e i hi v⟩
theorem ZRx.step {o : Nat} {n : Int} {P P1 : PH} (h : ZRx o n P P1) : ZRx o (n + 1) P (up P1 o n 0) := by
  refine ⟨fun v v0 v1 => ?_, fun i hi hn v => (up_o hn).trans (h.2 i hi hn v)⟩
  by_cases e : v = n
  · rw [e, up_same]
  · rw [up_k e]; exact h.1 v v0 (by omega)
theorem msk_0 {K M : PH} {F : FT} {c v : Int} (h : M 0 2 ≤ 0) : msk K F c v (M 0 2).toNat = 0 := by
  rw [show (M 0 2).toNat = 0 by omega]; rfl
/-- a table without arms: rows of zeros -/
def XFz (K M : PH) (F : FT) (o : Nat) (P : PH) : Prop := M 0 2 ≤ 0 ∧ XFb K M F o P
theorem XFz.fr {K M : PH} {F : FT} {o : Nat} {P P1 : PH} {S : FSX} (h : XFz K M F o P) (hf : FrX S P P1) (hd : disX S ([], [44]) = true) : XFz K M F o P1 := ⟨h.1, h.2.fr hf hd⟩
theorem XFz.col {K M : PH} {F : FT} {o : Nat} {k r c0 : Int} {P P1 : PH} (h : XFz K M F o P) (h4 : 0 ≤ M 0 0 ∧ M 0 0 ≤ 3) (e : c0 = M 0 0) (hz : ZRx (crX (crX o 5) c0.toNat) (sz K k) P P1) : XFz K (mCol M k r) F o P1 := by
  subst e
  have m0 := mCol_0 (M := M) (k := k) (r := r)
  refine ⟨by rw [m0.2.2.1]; exact h.1, by rw [m0.1]; omega, h.2.2.1, fun c v c0 c1 v0 v1 => ?_⟩
  rw [m0.2.2.1, msk_0 h.1]
  rw [m0.1] at c1
  rw [mCol_1] at v1
  by_cases e : c = M 0 0
  · rw [if_pos e] at v1
    rw [e]
    exact hz.1 v v0 v1
  · rw [if_neg e] at v1
    rw [hz.2 _ (fit_k h.2.2.1 (by omega)) (fun q => e (by have := fit_i h.2.2.1 c.toNat (by omega) (M 0 0).toNat (by omega) q; omega)) v]
    have q := h.2.2.2 c v c0 (by omega) v0 v1
    rw [msk_0 h.1] at q
    exact q
theorem XF.upM {K M : PH} {F : FT} {o : Nat} {P : PH} {j z : Int} (h : XF K M F o P) (j0 : j ≠ 0) (j2 : j ≠ 2) : XF K (up M 0 j z) F o P := ⟨h.1, fun c v c0 c1 v0 v1 => by
  rw [up_k (fun e => j0 e.symm)] at c1
  rw [up_row (by decide)] at v1
  rw [up_k (fun e => j2 e.symm)]
  exact h.2 c v c0 c1 v0 v1⟩
def XFT (K M : PH) (F : FT) (P : PH) : Prop := M 0 0 ≤ 4 ∧ XF K M F (P 0 10).toNat P
theorem XFT.fr {K M : PH} {F : FT} {P P1 : PH} {S : FSX} (h : XFT K M F P) (hf : FrX S P P1) (hd : disX S ([(0, 10)], [44]) = true) : XFT K M F P1 := by
  have e : P1 0 10 = P 0 10 := disX_f hd hf (o := 0) (k := 0) (j := 10) ⟨by decide, rfl⟩ (by decide)
  unfold XFT at h ⊢
  rw [e]
  exact ⟨h.1, h.2.1, fun c v c0 c1 v0 v1 => (disX_a hd hf (fit_k h.2.1 (j := c.toNat) (by have := h.1; omega)) (by decide) v).trans (h.2.2 c v c0 c1 v0 v1)⟩
theorem KT.xf {t o : Nat} {K M : PH} {F : FT} {P P1 : PH} (h : KT t P P1) (ho : kx o 28) (hn : o ≠ t) (hm : M 0 0 ≤ 4) (hk : XF K M F o P) : XF K M F o P1 := by
  have ht := tb28 ho
  have hc : ∀ j : Nat, j < 4 → tbX (crX (crX o 5) j) = o ∧ crX (crX o 5) j < 154 := (show ∀ o : Nat, o < 154 → kdX o = 28 → ∀ j : Nat, j < 4 → tbX (crX (crX o 5) j) = o ∧ crX (crX o 5) j < 154 by decide +kernel) o ho.1 ho.2
  refine ⟨hk.1, fun c v c0 c1 v0 v1 => ?_⟩
  have q := hc c.toNat (by omega)
  rw [h _ q.2 (by rw [q.1]; exact ht.2) (by rw [q.1]; exact hn) v]
  exact hk.2 c v c0 c1 v0 v1
/-- a pattern's codes, by the state that ends it -/
theorem pat_end {T : TT} {K : PH} {k p q a : Int} {L : List OP} (ho : tO T q ≠ 9) (h : ∀ (s : SK) (x : XR), Runs T K 1 (s.1, a, L ++ s.2.2) k q x → Runs T K 0 (s.1, 0, s.2.2) k p x) : pat T K k p = (0, q) ∧ cds T K k p = orE a L := by
  have r := h s0 _ (Runs.done (s := (s0.1, a, L ++ s0.2.2)) ho rfl)
  refine ⟨r.paT, ?_⟩
  rw [r.cdS]
  show orE a (L ++ []) = orE a L
  rw [List.append_nil]
end
section
/-! The sets of arms by value, the unlike ones in the order in which they come. -/
def dsl (f : Int → Int) : Nat → List Int
  | 0 => []
  | n + 1 => if f (n : Int) ∈ dsl f n then dsl f n else dsl f n ++ [f (n : Int)]
theorem dsl_in {f : Int → Int} {n : Nat} (h : f (n : Int) ∈ dsl f n) : dsl f (n + 1) = dsl f n := by
  show (if f (n : Int) ∈ dsl f n then dsl f n else _) = _
  rw [if_pos h]
theorem dsl_no {f : Int → Int} {n : Nat} (h : ¬ f (n : Int) ∈ dsl f n) : dsl f (n + 1) = dsl f n ++ [f (n : Int)] := by
  show (if f (n : Int) ∈ dsl f n then dsl f n else _) = _
  rw [if_neg h]
theorem dsl_le {f : Int → Int} : ∀ n : Nat, (dsl f n).length ≤ n := by
  intro n
  induction n with
  | zero => exact Nat.le_refl 0
  | succ n ih =>
    by_cases h : f (n : Int) ∈ dsl f n
    · rw [dsl_in h]; omega
    · rw [dsl_no h, List.length_append]
      show (dsl f n).length + 1 ≤ n + 1
      omega
theorem getD_l {D E : List Int} {i : Nat} (h : i < D.length) : (D ++ E).getD i 0 = D.getD i 0 := by
  rw [List.getD_eq_getElem?_getD, List.getD_eq_getElem?_getD, List.getElem?_append_left h]
theorem getD_r {D : List Int} {x : Int} : (D ++ [x]).getD D.length 0 = x := by
  rw [List.getD_eq_getElem?_getD, List.getElem?_append_right (Nat.le_refl _), Nat.sub_self]
  rfl
theorem getD_m {D : List Int} {i : Nat} (h : i < D.length) : D.getD i 0 ∈ D := by
  rw [List.getD_eq_getElem?_getD, List.getElem?_eq_getElem h]
  exact List.getElem_mem h
/-- one column's sets: its first n values -/
abbrev mkf (K M : PH) (F : FT) (c : Int) : Int → Int := fun v => msk K F c v (M 0 2).toNat
def LYc (K M : PH) (F : FT) (c n : Int) (P : PH) : Prop := 0 ≤ n ∧ P 33 c = ((dsl (mkf K M F c) n.toNat).length : Int) ∧ (∀ i : Nat, i < (dsl (mkf K M F c) n.toNat).length → P 32 (2010 * c + (i : Int)) = (dsl (mkf K M F c) n.toNat).getD i 0) ∧
  ∀ v : Int, 0 ≤ v → v < n → 0 ≤ P 31 (2010 * c + v) ∧ P 31 (2010 * c + v) < ((dsl (mkf K M F c) n.toNat).length : Int) ∧ (dsl (mkf K M F c) n.toNat).getD (P 31 (2010 * c + v)).toNat 0 = mkf K M F c v
theorem LYc.fr {K M : PH} {F : FT} {c n : Int} {P P1 : PH} {G : FS} (h : LYc K M F c n P) (hf : FrM G P P1) (hd : disF G ([], [31, 32, 33]) = true) : LYc K M F c n P1 := by
  unfold LYc at h ⊢
  rw [disF_o hd hf (o := 31) (by decide) rfl, disF_o hd hf (o := 32) (by decide) rfl, disF_o hd hf (o := 33) (by decide) rfl]
  exact h
/-- the columns ahead of c -/
def LYs (K M : PH) (F : FT) (c : Int) (P : PH) : Prop := ∀ d : Int, 0 ≤ d → d < c → LYc K M F d (sz K (M 1 d)) P
theorem LYs.fr {K M : PH} {F : FT} {c : Int} {P P1 : PH} {G : FS} (h : LYs K M F c P) (hf : FrM G P P1) (hd : disF G ([], [31, 32, 33]) = true) : LYs K M F c P1 := fun d d0 d1 => (h d d0 d1).fr hf hd
/-- the sets' numbers -/
def SNx (D : List Int) (P : PH) : Prop := ∀ s : Int, 0 ≤ s → s < 4096 → (P 34 s = -1 ∧ ¬ s ∈ D) ∨ (0 ≤ P 34 s ∧ P 34 s < (D.length : Int) ∧ D.getD (P 34 s).toNat 0 = s)
theorem SNx.fr {D : List Int} {P P1 : PH} {G : FS} (h : SNx D P) (hf : FrM G P P1) (hd : disF G ([], [34]) = true) : SNx D P1 := by
  unfold SNx at h ⊢
  rw [disF_o hd hf (o := 34) (by decide) rfl]
  exact h
def LYT (K M : PH) (F : FT) (P : PH) : Prop := LYs K M F (M 0 0) P
theorem LYT.fr {K M : PH} {F : FT} {P P1 : PH} {G : FS} (h : LYT K M F P) (hf : FrM G P P1) (hd : disF G ([], [31, 32, 33]) = true) : LYT K M F P1 := LYs.fr h hf hd
section LYS
variable {K M : PH} {F : FT} {c n st z : Int} {P P1 : PH}
theorem LYs.other (h : LYs K M F c P) (hc : 0 ≤ c) (hz : ∀ d : Int, 0 ≤ d → d < c → sz K (M 1 d) ≤ 2006) (o31 : ∀ j : Int, j < 2010 * c → P1 31 j = P 31 j) (o32 : ∀ j : Int, j < 2010 * c → P1 32 j = P 32 j) (o33 : ∀ j : Int, j < c → P1 33 j = P 33 j) : LYs K M F c P1 := fun d d0 d1 => by
  obtain ⟨a0, a1, a2, a3⟩ := h d d0 d1
  have hl := dsl_le (f := mkf K M F d) (sz K (M 1 d)).toNat
  have hz := hz d d0 d1
  refine ⟨a0, (o33 d d1).trans a1, fun i hi => (o32 _ (by omega)).trans (a2 i hi), fun v v0 v1 => ?_⟩
  rw [o31 _ (by omega)]
  exact a3 v v0 v1
theorem LYc.start (h33 : P 33 c = 0) : LYc K M F c 0 P := ⟨Int.le_refl 0, h33, fun i hi => absurd hi (Nat.not_lt_zero _), fun v v0 v1 => by omega⟩
theorem SNx.start (h : ∀ s : Int, 0 ≤ s → s < 4096 → P 34 s = -1) : SNx (dsl (mkf K M F c) 0) P := fun s s0 s1 => Or.inl ⟨h s s0 s1, by simp [dsl]⟩
theorem LYc.up (h0 : 0 ≤ n) : (n + 1).toNat = n.toNat + 1 ∧ ((n.toNat : Nat) : Int) = n := ⟨by omega, by omega⟩
/-- a value whose set is there already -/
theorem LYc.old (h : LYc K M F c n P) (hs : SNx (dsl (mkf K M F c) n.toNat) P) (e : st = mkf K M F c n) (hb : 0 ≤ st ∧ st < 4096) (h34 : P 34 st ≠ -1) (o32 : ∀ j, P1 32 j = P 32 j) (o33 : ∀ j, P1 33 j = P 33 j) (s31 : P1 31 (2010 * c + n) = P 34 st) (o31 : ∀ j : Int, j ≠ 2010 * c + n → P1 31 j = P 31 j) (o34 : ∀ j, P1 34 j = P 34 j) : LYc K M F c (n + 1) P1 ∧ SNx (dsl (mkf K M F c) (n + 1).toNat) P1 := by
  obtain ⟨a0, a1, a2, a3⟩ := h
  obtain ⟨b1, b2, b3⟩ := (hs st hb.1 hb.2).resolve_left (fun q => h34 q.1)
  have u := LYc.up a0
  have hm : mkf K M F c ((n.toNat : Nat) : Int) ∈ dsl (mkf K M F c) n.toNat := by
    rw [u.2, ← e, ← b3]
    exact getD_m (by omega)
  rw [u.1, dsl_in hm]
  refine ⟨?_, fun s s0 s1 => by rw [o34]; exact hs s s0 s1⟩
  unfold LYc
  rw [u.1, dsl_in hm]
  refine ⟨by omega, (o33 c).trans a1, fun i hi => (o32 _).trans (a2 i hi), fun v v0 v1 => ?_⟩
  by_cases ev : v = n
  · rw [ev, s31]; exact ⟨b1, b2, b3.trans e⟩
  · rw [o31 _ (by omega)]; exact a3 v v0 (by omega)
/-- a value whose set is new -/
theorem LYc.new (h : LYc K M F c n P) (hs : SNx (dsl (mkf K M F c) n.toNat) P) (e : st = mkf K M F c n) (hb : 0 ≤ st ∧ st < 4096) (h34 : P 34 st = -1) (hz : z = P 33 c) (s32 : P1 32 (2010 * c + z) = st) (o32 : ∀ j : Int, j ≠ 2010 * c + z → P1 32 j = P 32 j) (s33 : P1 33 c = z + 1) (s31 : P1 31 (2010 * c + n) = z) (o31 : ∀ j : Int, j ≠ 2010 * c + n → P1 31 j = P 31 j) (s34 : P1 34 st = z) (o34 : ∀ j : Int, j ≠ st → P1 34 j = P 34 j) : LYc K M F c (n + 1) P1 ∧ SNx (dsl (mkf K M F c) (n + 1).toNat) P1 := by
  obtain ⟨a0, a1, a2, a3⟩ := h
  have hn := ((hs st hb.1 hb.2).resolve_right (fun q => by omega)).2
  have u := LYc.up a0
  have hm : ¬ mkf K M F c ((n.toNat : Nat) : Int) ∈ dsl (mkf K M F c) n.toNat := by rw [u.2, ← e]; exact hn
  have hD := dsl_no hm
  rw [u.2, ← e] at hD
  have hl : (dsl (mkf K M F c) n.toNat ++ [st]).length = (dsl (mkf K M F c) n.toNat).length + 1 := by rw [List.length_append]; rfl
  have hzl : z = ((dsl (mkf K M F c) n.toNat).length : Int) := hz.trans a1
  rw [u.1, hD]
  refine ⟨?_, fun s s0 s1 => ?_⟩
  · unfold LYc
    rw [u.1, hD, hl]
    refine ⟨by omega, by rw [s33, hzl]; omega, fun i hi => ?_, fun v v0 v1 => ?_⟩
    · by_cases ei : i = (dsl (mkf K M F c) n.toNat).length
      · rw [ei, ← hzl, s32, getD_r]
      · rw [o32 _ (by omega), a2 i (by omega), getD_l (by omega)]
    · by_cases ev : v = n
      · rw [ev, s31, hzl]
        refine ⟨by omega, by omega, ?_⟩
        rw [Int.toNat_natCast, getD_r]
        exact e
      · rw [o31 _ (by omega)]
        obtain ⟨q1, q2, q3⟩ := a3 v v0 (by omega)
        exact ⟨q1, by omega, by rw [getD_l (by omega)]; exact q3⟩
  · by_cases es : s = st
    · rw [es, s34, hzl, hl]
      refine Or.inr ⟨by omega, by omega, ?_⟩
      rw [Int.toNat_natCast, getD_r]
    · rw [o34 _ es, hl]
      rcases hs s s0 s1 with q | ⟨q1, q2, q3⟩
      · refine Or.inl ⟨q.1, fun w => ?_⟩
        rcases List.mem_append.mp w with y | y
        · exact q.2 y
        · exact es (List.mem_singleton.mp y)
      · exact Or.inr ⟨q1, by omega, by rw [getD_l (by omega)]; exact q3⟩
theorem LYs.next (h : LYs K M F c P) (h1 : LYc K M F c n P) (e : n = sz K (M 1 c)) : LYs K M F (c + 1) P := fun d d0 d1 => by
  by_cases z : d = c
  · rw [z, ← e]; exact h1
  · exact h d d0 (by omega)
/-- what a value's number tells -/
theorem LYT.set (h : LYT K M F P) (c0 : 0 ≤ c) (c1 : c < M 0 0) {v : Int} (v0 : 0 ≤ v) (v1 : v < sz K (M 1 c)) : 0 ≤ P 31 (2010 * c + v) ∧ P 31 (2010 * c + v) < P 33 c ∧ P 32 (2010 * c + P 31 (2010 * c + v)) = msk K F c v (M 0 2).toNat := by
  obtain ⟨a0, a1, a2, a3⟩ := h c c0 c1
  obtain ⟨b1, b2, b3⟩ := a3 v v0 v1
  refine ⟨b1, by omega, ?_⟩
  have q := a2 (P 31 (2010 * c + v)).toNat (by omega)
  rw [show (((P 31 (2010 * c + v)).toNat : Nat) : Int) = P 31 (2010 * c + v) by omega] at q
  exact q.trans b3
end LYS
theorem msk_12 {K M : PH} {F : FT} {c v : Int} (h : 0 ≤ M 0 2 ∧ M 0 2 ≤ 12) : 0 ≤ mkf K M F c v ∧ mkf K M F c v < 4096 := by
  have q := msk_r (K := K) (F := F) (c := c) (v := v) (M 0 2).toNat
  have e : (2 : Int) ^ (M 0 2).toNat ≤ 4096 := by
    have h1 : (2 : Nat) ^ (M 0 2).toNat ≤ 2 ^ 12 := Nat.pow_le_pow_right (by decide) (by omega)
    have h2 : ((2 : Int) ^ (M 0 2).toNat) = (((2 : Nat) ^ (M 0 2).toNat : Nat) : Int) := by rw [Int.natCast_pow]; rfl
    rw [h2]
    exact Int.ofNat_le.mpr h1
  show 0 ≤ msk K F c v (M 0 2).toNat ∧ msk K F c v (M 0 2).toNat < 4096
  exact ⟨q.1, by omega⟩
/-- an arm's bit more -/
theorem msk_or {K : PH} {F : FT} {c v x : Int} {a : Nat} (ha : a ≤ 11) (hx : x = msk K F c v a) {b : Int} (hb : (b = ishl 1 (a : Int) ∧ tv K (F a c) v = 1) ∨ (b = 0 ∧ tv K (F a c) v ≠ 1)) : ior x b = msk K F c v (a + 1) := by
  have r := msk_r (K := K) (F := F) (c := c) (v := v) a
  rw [msk_up, hx]
  rcases hb with ⟨h1, h2⟩ | ⟨h1, h2⟩
  · rw [if_pos h2, h1, ishl1_all a (by omega), show (((2 ^ a : Nat)) : Int) = (2 : Int) ^ a by rw [Int.natCast_pow]; rfl]
    exact ior_bit ha r
  · rw [if_neg h2, h1, Int.add_zero]
    unfold ior
    have hN : (2 : Int) ^ a ≤ 2048 := by
      have h1 : (2 : Nat) ^ a ≤ 2 ^ 11 := Nat.pow_le_pow_right (by decide) ha
      have h2 : ((2 : Int) ^ a) = (((2 : Nat) ^ a : Nat) : Int) := by rw [Int.natCast_pow]; rfl
      rw [h2]
      exact Int.ofNat_le.mpr h1
    rw [show Int32.ofInt 0 = 0 from rfl, Int32.or_zero]
    exact oI ⟨by omega, by omega⟩
end
section
/-! Sets as numbers: their bits. -/
def tb (x i : Int) : Bool := x.toNat.testBit i.toNat
theorem tb_div {x i : Int} (hx : 0 ≤ x) : tb x i = true ↔ x / ((2 ^ i.toNat : Nat) : Int) % 2 = 1 := by
  unfold tb
  rw [Nat.testBit_eq_decide_div_mod_eq, decide_eq_true_iff]
  have e : x / ((2 ^ i.toNat : Nat) : Int) % 2 = ((x.toNat / 2 ^ i.toNat % 2 : Nat) : Int) := by
    have h := Int.toNat_of_nonneg hx
    rw [← h, Int.toNat_natCast]
    rfl
  rw [e]
  generalize x.toNat / 2 ^ i.toNat % 2 = m
  omega
theorem bit_is {x i : Int} (hx : 0 ≤ x ∧ x ≤ 2147483647) (hi : 0 ≤ i ∧ i ≤ 31) : iand (ishr x i) 1 = if tb x i = true then 1 else 0 := by
  have hi2 : ((i.toNat : Nat) : Int) = i := by omega
  have hs := ishr_c i.toNat (by omega) (x := x) ⟨by omega, by omega⟩
  rw [hi2] at hs
  have hq : 0 ≤ x / ((2 ^ i.toNat : Nat) : Int) := Int.ediv_nonneg hx.1 (Int.natCast_nonneg _)
  have hq2 : x / ((2 ^ i.toNat : Nat) : Int) ≤ x := Int.ediv_le_self _ hx.1
  have hm : iand (x / ((2 ^ i.toNat : Nat) : Int)) 1 = x / ((2 ^ i.toNat : Nat) : Int) % 2 := iand_mask 1 (by decide) ⟨hq, by omega⟩
  rw [hs, hm]
  have q := tb_div (x := x) (i := i) hx.1
  by_cases h : tb x i = true
  · rw [if_pos h]; exact q.mp h
  · rw [if_neg h]
    have : x / ((2 ^ i.toNat : Nat) : Int) % 2 ≠ 1 := fun z => h (q.mpr z)
    omega
theorem tb_iand {x y i : Int} (hx : 0 ≤ x ∧ x ≤ 2147483647) (hy : 0 ≤ y ∧ y ≤ 2147483647) : tb (iand x y) i = (tb x i && tb y i) := by
  unfold tb
  rw [iand_nat hx hy, Int.toNat_natCast, Nat.testBit_and]
theorem ior_nat {x y : Int} (hx : 0 ≤ x ∧ x ≤ 2147483647) (hy : 0 ≤ y ∧ y ≤ 2147483647) : ior x y = ((x.toNat ||| y.toNat : Nat) : Int) := by
  unfold ior
  rw [i32_bv, Int32.toBitVec_or]
  have e1 := bv_of (z := x) hx
  have e2 := bv_of (z := y) hy
  have hv : ((Int32.ofInt x).toBitVec ||| (Int32.ofInt y).toBitVec).toNat = x.toNat ||| y.toNat := by
    rw [BitVec.toNat_or, e1, e2]
  have hle : x.toNat ||| y.toNat < 2 ^ 31 := Nat.or_lt_two_pow (by omega) (by omega)
  rw [bv_small (n := 2147483648) (by rw [hv]; exact hle) (by omega), hv]
theorem tb_ior {x y i : Int} (hx : 0 ≤ x ∧ x ≤ 2147483647) (hy : 0 ≤ y ∧ y ≤ 2147483647) : tb (ior x y) i = (tb x i || tb y i) := by
  unfold tb
  rw [ior_nat hx hy, Int.toNat_natCast, Nat.testBit_or]
theorem tb_0 (i : Int) : tb 0 i = false := by
  unfold tb
  exact Nat.zero_testBit _
theorem tb_one {a i : Int} (ha : 0 ≤ a ∧ a ≤ 30) (hi : 0 ≤ i) : tb (ishl 1 a) i = decide (a = i) := by
  have q := ishl1_all a.toNat (by omega)
  rw [show ((a.toNat : Nat) : Int) = a by omega] at q
  unfold tb
  rw [q, Int.toNat_natCast, Nat.testBit_two_pow]
  by_cases e : a = i
  · rw [e]; simp
  · have : ¬ a.toNat = i.toNat := by omega
    simp [e, this]
/-- all of the first n -/
theorem tb_all {n i : Int} (hn : 0 ≤ n ∧ n ≤ 30) (hi : 0 ≤ i) : tb (ishl 1 n - 1) i = decide (i < n) := by
  have q := ishl1_all n.toNat (by omega)
  rw [show ((n.toNat : Nat) : Int) = n by omega] at q
  unfold tb
  rw [q]
  have e : ((((2 ^ n.toNat : Nat) : Int)) - 1).toNat = 2 ^ n.toNat - 1 := by
    have : 1 ≤ 2 ^ n.toNat := Nat.one_le_two_pow
    omega
  rw [e, Nat.testBit_two_pow_sub_one]
  by_cases z : i < n
  · have : i.toNat < n.toNat := by omega
    simp [z, this]
  · have : ¬ i.toNat < n.toNat := by omega
    simp [z, this]
theorem tb_msk {K : PH} {F : FT} {c v a : Int} {n : Nat} (ha : 0 ≤ a) (hn : a < (n : Int)) : tb (msk K F c v n) a = decide (tv K (F a c) v = 1) := by
  have hr := msk_r (K := K) (F := F) (c := c) (v := v) n
  have q := msk_b (K := K) (F := F) (c := c) (v := v) (a := a.toNat) n (by omega)
  rw [show ((a.toNat : Nat) : Int) = a by omega] at q
  have d := tb_div (x := msk K F c v n) (i := a) hr.1
  have e2 : ((2 ^ a.toNat : Nat) : Int) = (2 : Int) ^ a.toNat := by rw [Int.natCast_pow]; rfl
  rw [e2, q] at d
  by_cases h : tv K (F a c) v = 1
  · rw [if_pos h] at d
    rw [d.mpr rfl]
    simp [h]
  · rw [if_neg h] at d
    have : tb (msk K F c v n) a ≠ true := fun z => absurd (d.mp z) (by decide)
    simp only [Bool.not_eq_true] at this
    rw [this]
    simp [h]
/-! which arm takes a row -/
def gB (M : PH) (on a : Int) : Bool := decide (M 2 a = -1) || tb on (M 2 a)
/-- whether an arm's first n patterns fit a row -/
def fitN (K M : PH) (F : FT) (r a : Int) : Nat → Bool
  | 0 => true
  | n + 1 => fitN K M F r a n && decide (tv K (F a (n : Int)) (vIn K M r (n : Int)) = 1)
def fitB (K M : PH) (F : FT) (r a : Int) : Bool := fitN K M F r a (M 0 0).toNat
theorem fitN_i {K M : PH} {F : FT} {r a : Int} : ∀ n : Nat, fitN K M F r a n = true ↔ ∀ c : Int, 0 ≤ c → c < (n : Int) → tv K (F a c) (vIn K M r c) = 1 := by
  intro n
  induction n with
  | zero => exact ⟨fun _ c c0 c1 => by omega, fun _ => rfl⟩
  | succ n ih =>
    show (fitN K M F r a n && decide _) = true ↔ _
    rw [Bool.and_eq_true, ih, decide_eq_true_iff]
    constructor
    · intro h c c0 c1
      by_cases e : c = (n : Int)
      · rw [e]; exact h.2
      · exact h.1 c c0 (by omega)
    · intro h
      exact ⟨fun c c0 c1 => h c c0 (by omega), h (n : Int) (by omega) (by omega)⟩
theorem fitB_i {K M : PH} {F : FT} {r a : Int} (h : 0 ≤ M 0 0) : fitB K M F r a = true ↔ ∀ c : Int, 0 ≤ c → c < M 0 0 → tv K (F a c) (vIn K M r c) = 1 := by
  unfold fitB
  rw [fitN_i, show (((M 0 0).toNat : Nat) : Int) = M 0 0 by omega]
def takF (K M : PH) (F : FT) (A : PH) (on r : Int) : Int → Int := fun p => if (fitB K M F r (A 1 p) && gB M on (A 1 p)) = true then 1 else 0
/-- the place of the arm that takes a row -/
def tak (K M : PH) (F : FT) (A : PH) (on r : Int) : Int := fxi (takF K M F A on r) 1 (A 0 0).toNat
/-- arms told are told -/
def GA (M A : PH) : Prop := (∀ p : Int, 0 ≤ p → p < A 0 0 → 0 ≤ A 1 p ∧ A 1 p < M 0 2) ∧ (0 ≤ A 0 1 ∧ A 0 1 ≤ 255) ∧ ∀ i : Int, 0 ≤ i → i < A 0 4 → (0 ≤ A 3 i ∧ A 3 i ≤ 255) ∧ ∀ p : Int, 0 ≤ p → p < A 2 i → 0 ≤ A 6 (12 * i + p) ∧ A 6 (12 * i + p) < M 0 2
end
