/-! The class's patterns: the values that fit and the codes, step by step. -/
theorem b1_i9 {p : Prop} [Decidable p] : b1 p = 1 ↔ p := by
  rcases b1_s p with h | h
  · exact ⟨fun _ => h.1, fun _ => h.2⟩
  · exact ⟨fun q => by omega, fun q => absurd q h.1⟩
/-- the alternatives so far: whether there are any, their codes, their truth -/
def SCo (K : PH) (a : Int) (L : List OP) (d : Int → Int) : Prop := (a = 0 ∧ L = [] ∧ ∀ v, d v = 0) ∨ (a = 1 ∧ SC K L d)
def dOr (a : Int) (d d2 : Int → Int) : Int → Int := if a = 0 then d2 else fun v => b1 (d v = 1 ∨ d2 v = 1)
theorem SCo.or {K : PH} {a : Int} {L L2 : List OP} {d d2 : Int → Int} (h : SCo K a L d) (h2 : SC K L2 d2) : SC K (orE a (L2 ++ L)) (dOr a d d2) := by
  unfold dOr
  rcases h with ⟨h0, h1, _⟩ | ⟨h0, h1⟩
  · subst h0
    subst h1
    rw [List.append_nil, if_pos rfl]
    exact h2
  · subst h0
    rw [if_neg (by decide)]
    exact SC.orE2 h1 h2
theorem dOr_1 {K : PH} {a : Int} {L : List OP} {d d2 : Int → Int} (h : SCo K a L d) (v : Int) : dOr a d d2 v = 1 ↔ (d v = 1 ∨ d2 v = 1) := by
  unfold dOr
  rcases h with ⟨h0, h1, h2⟩ | ⟨h0, h1⟩
  · rw [if_pos h0, h2 v]
    constructor
    · intro q; exact Or.inr q
    · intro q; rcases q with q | q
      · exact absurd q (by decide)
      · exact q
  · rw [if_neg (by omega)]
    show b1 (d v = 1 ∨ d2 v = 1) = 1 ↔ _
    have q := b1_s (d v = 1 ∨ d2 v = 1)
    constructor
    · intro e
      rcases q with q | q
      · exact q.1
      · omega
    · intro e; exact b1_1 e
theorem FO.rf {j e : Int} {P : PH} : FO j e P P := fun _ _ _ _ => rfl
theorem FO.tr {j e : Int} {P P1 P2 : PH} (h : FO j e P P1) (h1 : FO j e P1 P2) : FO j e P P2 := fun i a b v => (h1 i a b v).trans (h i a b v)
theorem FO.of {j e : Int} {P P1 : PH} (h : ∀ i : Nat, kx i 50 → ∀ v : Int, P1 i v = P i v) (he : e ≤ 4) : FO j e P P1 := fun i _ b v => by
  have k := fr9_k (j := (i : Int)) (by omega)
  unfold fr9 at k
  rw [Int.toNat_natCast] at k
  exact h _ k v
def RJ (j e : Int) : Prop := 0 ≤ j ∧ j ≤ 9 ∧ e ≤ 4
/-- a pattern's reading, ahead of an alternative -/
def PLx (T : TT) (K : PH) (k j e p a : Int) (L : List OP) (d : Int → Int) (q : Int) (P H : PH) : Prop := RJ j e ∧ FO j e P H ∧ SCo K a L d ∧ FD (fr9 j) (sz K k) d H ∧ ∀ (s : SK) (x : XR), Runs T K 0 (s.1, a, L ++ s.2.2) k q x → Runs T K 0 (s.1, 0, s.2.2) k p x
/-- behind an alternative -/
def PMx (T : TT) (K : PH) (k j e p a : Int) (L : List OP) (d : Int → Int) (q : Int) (P H : PH) : Prop := RJ j e ∧ FO j e P H ∧ SC K (orE a L) d ∧ FD (fr9 j) (sz K k) d H ∧ ∀ (s : SK) (x : XR), Runs T K 1 (s.1, a, L ++ s.2.2) k q x → Runs T K 0 (s.1, 0, s.2.2) k p x
/-- a row that is filled -/
def FLR (j a b w : Int) (P H : PH) : Prop := (0 ≤ j ∧ j ≤ 9) ∧ FLx (fr9 j) a b w P H
def FDr (j n : Int) (d : Int → Int) (H : PH) : Prop := (0 ≤ j ∧ j ≤ 9) ∧ FD (fr9 j) n d H
def FUR (j n : Int) (d : Int → Int) (P H : PH) : Prop := (0 ≤ j ∧ j ≤ 9) ∧ FU (fr9 j) n d P H
def FOR (j e : Int) (P H : PH) : Prop := e ≤ 4 ∧ FO j e P H
/-- no row of no greater depth is written -/
def RO (e : Int) (P H : PH) : Prop := e ≤ 4 ∧ ∀ i : Nat, (i : Int) < 2 * (e + 1) → ∀ v : Int, H (crX 114 i) v = P (crX 114 i) v
theorem rows_fr {P P1 : PH} {F : FSX} (hf : FrX F P P1) (hd : disX F ([], [50]) = true) {j : Int} (hj : 0 ≤ j ∧ j ≤ 9) (v : Int) : P1 (fr9 j) v = P (fr9 j) v := disX_a hd hf (fr9_k hj) (by decide) v
section PXS
variable {T : TT} {K : PH} {k j e p a q q2 r b w n : Int} {L L2 : List OP} {d d2 : Int → Int} {P H H1 : PH} {F : FSX}
theorem FLR.fr (h : FLR j a b w P H) (hf : FrX F H H1) (hd : disX F ([], [50]) = true) : FLR j a b w P H1 := ⟨h.1, h.2.fr (fr9_k h.1) hf hd⟩
theorem FDr.fr (h : FDr j n d H) (hf : FrX F H H1) (hd : disX F ([], [50]) = true) : FDr j n d H1 := ⟨h.1, fun v v0 v1 => (rows_fr hf hd h.1 v).trans (h.2 v v0 v1)⟩
theorem FUR.fr (h : FUR j n d P H) (hf : FrX F H H1) (hd : disX F ([], [50]) = true) : FUR j n d P H1 := ⟨h.1, fun v v0 v1 => (rows_fr hf hd h.1 v).trans (h.2 v v0 v1)⟩
theorem FOR.fr (h : FOR j e P H) (hf : FrX F H H1) (hd : disX F ([], [50]) = true) : FOR j e P H1 := ⟨h.1, h.2.tr (FO.of (fun i hi v => disX_a hd hf hi (by decide) v) h.1)⟩
theorem RO.fr (h : RO e P H) (hf : FrX F H H1) (hd : disX F ([], [50]) = true) : RO e P H1 := ⟨h.1, fun i hi v => (disX_a hd hf (by
    have k := fr9_k (j := (i : Int)) (by have := h.1; omega)
    unfold fr9 at k
    rw [Int.toNat_natCast] at k
    exact k) (by decide) v).trans (h.2 i hi v)⟩
theorem PLx.fr (h : PLx T K k j e p a L d q P H) (hf : FrX F H H1) (hd : disX F ([], [50]) = true) : PLx T K k j e p a L d q P H1 :=
  ⟨h.1, h.2.1.tr (FO.of (fun i hi v => disX_a hd hf hi (by decide) v) h.1.2.2), h.2.2.1, fun v v0 v1 => (rows_fr hf hd ⟨h.1.1, h.1.2.1⟩ v).trans (h.2.2.2.1 v v0 v1), h.2.2.2.2⟩
theorem PMx.fr (h : PMx T K k j e p a L d q P H) (hf : FrX F H H1) (hd : disX F ([], [50]) = true) : PMx T K k j e p a L d q P H1 :=
  ⟨h.1, h.2.1.tr (FO.of (fun i hi v => disX_a hd hf hi (by decide) v) h.1.2.2), h.2.2.1, fun v v0 v1 => (rows_fr hf hd ⟨h.1.1, h.1.2.1⟩ v).trans (h.2.2.2.1 v v0 v1), h.2.2.2.2⟩
theorem FLR.mk {b1 : Int} (h : FLx (fr9 j) a b1 w P H) (hj : 0 ≤ j ∧ j ≤ 9) (e : b1 = b) : FLR j a b w P H := by subst e; exact ⟨hj, h⟩
theorem PLx.start {b1 : Int} (h : FLx (fr9 j) 0 b1 0 P H) (e1 : b1 = sz K k - 1) (hj : RJ j e) : PLx T K k j e p 0 [] (fun _ => 0) p P H := by
  subst e1
  exact ⟨hj, h.fo ⟨hj.1, hj.2.1⟩ hj.2.2, Or.inl ⟨rfl, rfl, fun _ => rfl⟩, fun v v0 v1 => by rw [h.1 v v0, if_pos ⟨v0, by omega⟩]; rfl, fun _ _ hx => hx⟩
theorem PLx.ac (h : PLx T K k j e p a L d q P H) (ho : FO j e H H1) (hs : SC K L2 d2) (hu : FU (fr9 j) (sz K k) d2 H H1) (hr : ∀ (s : SK) (x : XR), Runs T K 1 (adL s L2) k q2 x → Runs T K 0 s k q x) : PMx T K k j e p a (L2 ++ L) (dOr a d d2) q2 P H1 := by
  refine ⟨h.1, h.2.1.tr ho, h.2.2.1.or hs, fun v v0 v1 => ?_, fun s x hx => h.2.2.2.2 s x (hr _ x ?_)⟩
  · rw [hu v v0 v1, h.2.2.2.1 v v0 v1]
    have q := dOr_1 (d2 := d2) h.2.2.1 v
    by_cases z2 : d2 v = 1
    · rw [if_pos z2, if_pos (q.mpr (Or.inr z2))]
    · rw [if_neg z2]
      by_cases z : d v = 1
      · rw [if_pos z, if_pos (q.mpr (Or.inl z))]
      · rw [if_neg z, if_neg (fun w => (q.mp w).elim z z2)]
  · rw [List.append_assoc] at hx
    exact hx
theorem PMx.or (h : PMx T K k j e p a L d q P H) (ho : tO T q = 9) : PLx T K k j e p 1 (orE a L) d (tE T q) P H :=
  ⟨h.1, h.2.1, Or.inr ⟨rfl, h.2.2.1⟩, h.2.2.2.1, fun s x hx => h.2.2.2.2 s x (Runs.or ho (by
    have e : alE (s.1, a, L ++ s.2.2) = (s.1, 1, orE a L ++ s.2.2) := by
      show (s.1, (1 : Int), orE a (L ++ s.2.2)) = _
      rw [orE_app]
    rw [e]
    exact hx))⟩
theorem PMx.ap (h : PMx T K k j e p a L d q P H) (h3 : H 110 3 = P 110 3) (h4 : H 110 4 = P 110 4) (hp : p ≤ q) (ho : tO T q ≠ 9) (hs : XS T q H) : AP T K k j e p 1 P H := Or.inl ⟨rfl, h3, h4, h.2.1, q, a, L, d, hp, ho, hs, h.2.2.1, h.2.2.2.1, h.2.2.2.2⟩
/-- a fault in an alternative -/
theorem PLx.flt (h : PLx T K k j e p a L d q P H) (hr : ∀ s : SK, Runs T K 0 s k q (H1 110 3, H1 110 4, [])) : ∀ s : SK, Runs T K 0 (s.1, 0, s.2.2) k p (H1 110 3, H1 110 4, []) := fun s => h.2.2.2.2 s _ (hr _)
/-- a range, any, a constructor without fields -/
theorem AC.rg (hk : k = -1) (h : (r = 1 ∧ (rg8 T p).1 = 0 ∧ H1 110 3 = H 110 3 ∧ H1 110 4 = H 110 4) ∨ (r = 0 ∧ (rg8 T p).1 ≠ 0 ∧ H1 110 3 = (rg8 T p).1 ∧ H1 110 4 = (rg8 T p).2)) (hs : (rg8 T p).1 = 0 → XS T (rg8 T p).2 H1) (hj : RJ j e)
    (hf : r = 1 → (tO T p = 8 → FLx (fr9 j) 0 19 1 H H1) ∧ (tO T p ≠ 8 → FLx (fr9 j) (tV T p) (hiV T p) 1 H H1)) : AC T K k j e p r H H1 := by
  have hj9 : 0 ≤ j ∧ j ≤ 9 := ⟨hj.1, hj.2.1⟩
  refine AC.range hk h hs (fun hr => ?_) (fun hr => ⟨fun h8 => ((hf hr).1 h8).fu (fun v v0 v1 => ⟨fun _ => ⟨v0, by omega⟩, fun _ => rfl⟩), fun h8 => ((hf hr).2 h8).fu (fun v _ _ => b1_i9)⟩)
  by_cases z : tO T p = 8
  · exact ((hf hr).1 z).fo hj9 hj.2.2
  · exact ((hf hr).2 z).fo hj9 hj.2.2
theorem AC.any9 (h : FLR j 0 (sz K k - 1) 1 P H1) (he : e ≤ 4) (ho : tO T p = 8) (h3 : H1 110 3 = P 110 3) (h4 : H1 110 4 = P 110 4) (hs : XS T (tE T p) H1) : AC T K k j e p 1 P H1 :=
  AC.any ho h3 h4 hs (h.2.fo h.1 he) (h.2.fu (fun v v0 v1 => ⟨fun _ => ⟨v0, by omega⟩, fun _ => rfl⟩))
theorem AC.case9 (h : FLR j (K 10 (cNm K (tV T p))) (K 10 (cNm K (tV T p))) 1 P H1) (he : e ≤ 4) (ho : tO T p ≠ 8) (hk : k ≠ -1) (h0 : (cas T K k p).1 = 0) (h6 : K 6 (cNm K (tV T p)) = 0) (h3 : H1 110 3 = P 110 3) (h4 : H1 110 4 = P 110 4) (hs : XS T (tE T p) H1) : AC T K k j e p 1 P H1 :=
  AC.case0 ho hk h0 h6 h3 h4 hs (h.2.fo h.1 he) (h.2.fu (fun v _ _ => by
    rw [b1_i9]
    show (K 10 _ ≤ v ∧ v < K 10 _ + cpr K _) ↔ _
    rw [cpr_0 h6]
    omega))
end PXS
/-! a constructor's fields -/
def HCx (T : TT) (K : PH) (c f k k1 q p a : Int) (L : List OP) : Prop := ∀ (s : SK) (x : XR), Runs T K 1 ((c, f, k, s.2.1) :: s.1, a, L ++ s.2.2) k1 q x → Runs T K 0 s k p x
theorem HCx.one {T : TT} {K : PH} {c k k1 q q1 p a : Int} {L : List OP} (hi : ∀ (s : SK) (x : XR), Runs T K 0 (fbS (em s (2, c, 0)) c 0 k) k1 q1 x → Runs T K 0 s k p x) (hr : ∀ (s : SK) (x : XR), Runs T K 1 (s.1, a, L ++ s.2.2) k1 q x → Runs T K 0 (s.1, 0, s.2.2) k1 q1 x) : HCx T K c 0 k k1 q p a (L ++ [(3, c, 0), (2, c, 0)]) := fun s x hx => by
  refine hi s x (hr (fbS (em s (2, c, 0)) c 0 k) x ?_)
  have e : (fbS (em s (2, c, 0)) c 0 k).2.2 = (3, c, 0) :: (2, c, 0) :: s.2.2 := rfl
  rw [List.append_assoc] at hx
  exact hx
theorem HCx.two {T : TT} {K : PH} {c k k1 k2 q q1 q2 p a a2 : Int} {L L2 : List OP} (h : HCx T K c 0 k k1 q p a L) (ho : tO T q ≠ 9) (hf : (0 : Int) + 1 < K 6 c) (hs : (sgn T 44 q).1 = 0) (e1 : q1 = tE T q) (e2 : k2 = K 8 c) (hr : ∀ (s : SK) (x : XR), Runs T K 1 (s.1, a2, L2 ++ s.2.2) k2 q2 x → Runs T K 0 (s.1, 0, s.2.2) k2 q1 x) : HCx T K c 1 k k2 q2 p a2 (L2 ++ (3, c, 1) :: (5, 0, 0) :: (4, 0, 0) :: orE a L) := fun s x hx => by
  refine h s x (Runs.comma rfl ho hf hs ?_)
  subst e1
  subst e2
  refine hr (fbS (poS ((c, 0, k, s.2.1) :: s.1, a, L ++ s.2.2) s.2.1 s.1) c (0 + 1) k) x ?_
  have e : (fbS (poS ((c, 0, k, s.2.1) :: s.1, a, L ++ s.2.2) s.2.1 s.1) c (0 + 1) k).2.2 = ((3, c, 1) :: (5, 0, 0) :: (4, 0, 0) :: orE a L) ++ s.2.2 := by
    show (3, c, (0 : Int) + 1) :: (5, 0, 0) :: (4, 0, 0) :: orE a (L ++ s.2.2) = _
    rw [orE_app]
    rfl
  rw [e]
  rw [List.append_assoc] at hx
  exact hx
/-- a constructor with one field, with two -/
theorem SC.f1 {K : PH} {c a : Int} {L : List OP} {dA : Int → Int} (h : SC K (orE a L) dA) : SC K ((5, 0, 0) :: (4, 0, 0) :: orE a (L ++ [(3, c, 0), (2, c, 0)])) (fun v => b1 (b1 (inR K c v) = 1 ∧ dA (fdV K v c 0) = 1)) := by
  rw [orE_app]
  exact SC.fld h SC.con
theorem SC.f2 {K : PH} {c a a2 : Int} {L L2 : List OP} {d1 d2 : Int → Int} (h1 : SC K ((5, 0, 0) :: (4, 0, 0) :: orE a L) d1) (h2 : SC K (orE a2 L2) d2) : SC K ((5, 0, 0) :: (4, 0, 0) :: orE a2 (L2 ++ (3, c, 1) :: (5, 0, 0) :: (4, 0, 0) :: orE a L)) (fun v => b1 (d1 v = 1 ∧ d2 (fdV K v c 1) = 1)) := by
  rw [orE_app]
  exact SC.fld h2 h1
/-- the values of a constructor that are filled, by the codes of its fields -/
theorem FCx.fu {K : PH} {c n m : Int} {o : Nat} {A B dA dB d : Int → Int} {P0 P P1 : PH} (h : FCx K c n o A B P P1) (hn : n = K 10 c + cpr K c) (hP : ∀ v : Int, P o v = P0 o v) (hK : K 6 c = 1 ∨ K 6 c = 2) (hc : cpr K c = if K 6 c = 2 then sz K (K 7 c) * sz K (K 8 c) else sz K (K 7 c)) (h1 : 1 ≤ sz K (K 7 c)) (h2 : K 6 c = 2 → 1 ≤ sz K (K 8 c))
    (eA : ∀ w : Int, 0 ≤ w → w < sz K (K 7 c) → A w = if dA w = 1 then 1 else 0) (eB : K 6 c = 2 → ∀ w : Int, 0 ≤ w → w < sz K (K 8 c) → B w = if dB w = 1 then 1 else 0) (hd : ∀ v : Int, d v = 1 ↔ (inR K c v ∧ dA (fdV K v c 0) = 1 ∧ (K 6 c = 2 → dB (fdV K v c 1) = 1))) : FU o m d P0 P1 := fun v v0 v1 => by
  rw [h.1 v v0, hP]
  by_cases z : inR K c v
  · have q := cFi_d hK z hc h1 h2 eA eB
    have z2 : v < n := by have q := z.2; omega
    by_cases w : cFi K c A B v
    · rw [if_pos ⟨z2, w⟩, if_pos ((hd v).mpr ⟨z, q.mp w⟩)]
    · rw [if_neg (fun y => w y.2), if_neg (fun y => w (q.mpr ((hd v).mp y).2))]
  · rw [if_neg (fun y => z ⟨y.2.1, by have q := y.1; omega⟩), if_neg (fun y => z ((hd v).mp y).1)]
/-- what the fields' rows say -/
def CAB (K : PH) (c b : Int) (dd : Int → Int) (H : PH) : Prop := ∃ dA dB : Int → Int, FD (fr9 b) (sz K (K 7 c)) dA H ∧ (K 6 c = 2 → FD (fr9 (b + 1)) (sz K (K 8 c)) dB H) ∧ ∀ v, dd v = 1 ↔ (inR K c v ∧ dA (fdV K v c 0) = 1 ∧ (K 6 c = 2 → dB (fdV K v c 1) = 1))
theorem FD.fo {j j2 e n : Int} {d : Int → Int} {P P1 : PH} (h : FD (fr9 j) n d P) (hf : FO j2 e P P1) (hj : 0 ≤ j) (hn : j ≠ j2) (hl : j < 2 * (e + 1)) : FD (fr9 j) n d P1 := fun v v0 v1 => by
  have q := hf j.toNat (by omega) (by omega) v
  unfold fr9 at h ⊢
  exact q.trans (h v v0 v1)
theorem FO.ro {j e e1 : Int} {P P1 : PH} (h : FO j e1 P P1) (he : e ≤ 4) (hl : 2 * (e + 1) ≤ j ∧ e ≤ e1) : RO e P P1 := ⟨he, fun i hi v => h i (by omega) (by omega) v⟩
theorem RO.tr {e : Int} {P P1 P2 : PH} (h : RO e P P1) (h1 : RO e P1 P2) : RO e P P2 := ⟨h.1, fun i hi v => (h1.2 i hi v).trans (h.2 i hi v)⟩
theorem RO.of {e : Int} {P P1 : PH} (h : ∀ i : Nat, kx i 50 → ∀ v : Int, P1 i v = P i v) (he : e ≤ 4) : RO e P P1 := ⟨he, fun i hi v => by
  have k := fr9_k (j := (i : Int)) (by omega)
  unfold fr9 at k
  rw [Int.toNat_natCast] at k
  exact h _ k v⟩
theorem CAB.one {K : PH} {c b : Int} {dA : Int → Int} {H : PH} (h6 : K 6 c = 1) (hA : FD (fr9 b) (sz K (K 7 c)) dA H) : CAB K c b (fun v => b1 (b1 (inR K c v) = 1 ∧ dA (fdV K v c 0) = 1)) H :=
  ⟨dA, dA, hA, fun q => by omega, fun v => by
    show b1 _ = 1 ↔ _
    rw [b1_i9, b1_i9]
    exact ⟨fun q => ⟨q.1, q.2, fun z => by omega⟩, fun q => ⟨q.1, q.2.1⟩⟩⟩
theorem CAB.two {K : PH} {c b : Int} {dA dB : Int → Int} {H : PH} (hA : FD (fr9 b) (sz K (K 7 c)) dA H) (hB : FD (fr9 (b + 1)) (sz K (K 8 c)) dB H) (h6 : K 6 c = 2) : CAB K c b (fun v => b1 (b1 (b1 (inR K c v) = 1 ∧ dA (fdV K v c 0) = 1) = 1 ∧ dB (fdV K v c 1) = 1)) H :=
  ⟨dA, dB, hA, fun _ => hB, fun v => by
    show b1 _ = 1 ↔ _
    rw [b1_i9, b1_i9, b1_i9]
    exact ⟨fun q => ⟨q.1.1, q.1.2, fun _ => q.2⟩, fun q => ⟨⟨q.1, q.2.1⟩, q.2.2 h6⟩⟩⟩
theorem cpr_f {K : PH} {c : Int} (h : K 6 c = 1 ∨ K 6 c = 2) : cpr K c = if K 6 c = 2 then sz K (K 7 c) * sz K (K 8 c) else sz K (K 7 c) := by
  rcases h with h | h
  · rw [if_neg (by omega), cpr_1 h]
  · rw [if_pos h, cpr_2 h]
theorem CAB.fu {K : PH} {c b j m n e : Int} {dd : Int → Int} {P0 P P1 : PH} (h : CAB K c b dd P) (hf : FCx K c n (fr9 j) (P (fr9 b)) (P (fr9 (b + 1))) P P1) (hn : n = K 10 c + cpr K c) (hr : RO e P0 P) (hj : 0 ≤ j ∧ j ≤ 9 ∧ j < 2 * (e + 1)) (hK : K 6 c = 1 ∨ K 6 c = 2) (h1 : 1 ≤ sz K (K 7 c)) (h2 : K 6 c = 2 → 1 ≤ sz K (K 8 c)) : FUR j m dd P0 P1 := by
  obtain ⟨dA, dB, hA, hB, hd⟩ := h
  refine ⟨⟨hj.1, hj.2.1⟩, hf.fu hn (fun v => ?_) hK (cpr_f hK) h1 h2 (fun w w0 w1 => hA w w0 w1) (fun q w w0 w1 => hB q w w0 w1) hd⟩
  have q := hr.2 j.toNat (by omega) v
  unfold fr9
  exact q
theorem FCx.ro {K : PH} {c n j e : Int} {A B : Int → Int} {P0 P P1 : PH} (h : FCx K c n (fr9 j) A B P P1) (hr : RO e P0 P) (hj : 0 ≤ j ∧ j ≤ 9) : FOR j e P0 P1 := ⟨hr.1, fun i hi hl v => by
  have k := fr9_k (j := (i : Int)) (by have := hr.1; omega)
  have q := fr9_i (i := (i : Int)) (j := j) (by have := hr.1; omega) hj hi
  unfold fr9 at k q
  rw [Int.toNat_natCast] at k q
  exact (h.2 _ k q v).trans (hr.2 i hl v)⟩
theorem sz_0 {K : PH} (ha : AW K) {k : Int} (h : -1 ≤ k ∧ k < K 0 0) : 0 ≤ sz K k := by
  rcases sz_s K k with q | q
  · omega
  · have := ha.2.1 k (by omega) (by omega)
    omega
theorem fsz_1 {K : PH} (hb : AB K) (ha : AW K) {c : Int} (h0 : 0 ≤ c) (h1 : c < K 0 1) : (1 ≤ K 6 c → 1 ≤ sz K (K 7 c)) ∧ (K 6 c = 2 → 1 ≤ sz K (K 8 c)) := by
  have w := ha.2.2.1 c h0 h1
  have p := (hb c h0 h1).1.1
  have a7 := sz_0 ha (k := K 7 c) ⟨by omega, by omega⟩
  have a8 := sz_0 ha (k := K 8 c) ⟨by omega, by omega⟩
  rcases (show K 6 c = 0 ∨ K 6 c = 1 ∨ K 6 c = 2 by omega) with h | h | h
  · exact ⟨fun q => by omega, fun q => by omega⟩
  · rw [cpr_1 h] at p
    exact ⟨fun _ => p, fun q => by omega⟩
  · rw [cpr_2 h] at p
    have n7 : sz K (K 7 c) ≠ 0 := fun z => by rw [z, Int.zero_mul] at p; omega
    have n8 : sz K (K 8 c) ≠ 0 := fun z => by rw [z, Int.mul_zero] at p; omega
    exact ⟨fun _ => by omega, fun _ => by omega⟩
theorem FCx.cg {K : PH} {c n n1 : Int} {o : Nat} {A B : Int → Int} {P P1 : PH} (h : FCx K c n o A B P P1) (e : n = n1) : FCx K c n1 o A B P P1 := e ▸ h
/-! the table's rows through columns, arms, statements -/
theorem fit_k {o j : Nat} (ho : kx o 28) (hj : j < 4) : kx (crX (crX o 5) j) 44 := ce_43 (ck_28_5 ho) hj
theorem fit_i {o : Nat} (ho : kx o 28) : ∀ j : Nat, j < 4 → ∀ l : Nat, l < 4 → crX (crX o 5) j = crX (crX o 5) l → j = l := (show ∀ o : Nat, o < 154 → kdX o = 28 → ∀ j : Nat, j < 4 → ∀ l : Nat, l < 4 → crX (crX o 5) j = crX (crX o 5) l → j = l by decide +kernel) o ho.1 ho.2
theorem XF.fr {K M : PH} {F : FT} {o : Nat} {P P1 : PH} {S : FSX} (h : XF K M F o P) (hm : M 0 0 ≤ 4) (hf : FrX S P P1) (hd : disX S ([], [44]) = true) : XF K M F o P1 :=
  ⟨h.1, fun c v c0 c1 v0 v1 => (disX_a hd hf (fit_k h.1 (j := c.toNat) (by omega)) (by decide) v).trans (h.2 c v c0 c1 v0 v1)⟩
/-- with the columns' bound at hand -/
def XFb (K M : PH) (F : FT) (o : Nat) (P : PH) : Prop := M 0 0 ≤ 4 ∧ XF K M F o P
theorem XFb.fr {K M : PH} {F : FT} {o : Nat} {P P1 : PH} {S : FSX} (h : XFb K M F o P) (hf : FrX S P P1) (hd : disX S ([], [44]) = true) : XFb K M F o P1 := ⟨h.1, h.2.fr h.1 hf hd⟩
def XF1b (K M : PH) (F : FT) (G : Int → List OP) (n : Int) (o : Nat) (P : PH) : Prop := M 0 0 ≤ 4 ∧ XF1 K M F G n o P
theorem XF1b.fr {K M : PH} {F : FT} {G : Int → List OP} {n : Int} {o : Nat} {P P1 : PH} {S : FSX} (h : XF1b K M F G n o P) (hf : FrX S P P1) (hd : disX S ([], [44]) = true) : XF1b K M F G n o P1 :=
  ⟨h.1, h.2.1, fun c v c0 c1 v0 v1 => (disX_a hd hf (fit_k h.2.1 (j := c.toNat) (by have := h.1; omega)) (by decide) v).trans (h.2.2 c v c0 c1 v0 v1)⟩
/-- a row of zeros so far -/
def ZRx (o : Nat) (n : Int) (P P1 : PH) : Prop := (∀ v : Int, 0 ≤ v → v < n → P1 o v = 0) ∧ ∀ i : Nat, kx i 44 → i ≠ o → ∀ v : Int, P1 i v = P i v
theorem ZRx.start {o : Nat} {P P1 : PH} (e : ∀ i : Nat, kx i 44 → ∀ v : Int, P1 i v = P i v) : ZRx o 0 P P1 := ⟨fun v v0 v1 => by omega, fun i hi _ v => e i hi v⟩
theorem ZRx.step {o : Nat} {n : Int} {P P1 : PH} (h : ZRx o n P P1) : ZRx o (n + 1) P (up P1 o n 0) := by
  refine ⟨fun v v0 v1 => ?_, fun i hi hn v => (up_o hn).trans (h.2 i hi hn v)⟩
  by_cases e : v = n
  · rw [e, up_same]
  · rw [up_k e]; exact h.1 v v0 (by omega)
theorem msk_0 {K M : PH} {F : FT} {c v : Int} (h : M 0 2 ≤ 0) : msk K F c v (M 0 2).toNat = 0 := by
  rw [show (M 0 2).toNat = 0 by omega]; rfl
/-- a table without arms: rows of zeros -/
def XFz (K M : PH) (F : FT) (o : Nat) (P : PH) : Prop := M 0 2 ≤ 0 ∧ XFb K M F o P
theorem XFz.fr {K M : PH} {F : FT} {o : Nat} {P P1 : PH} {S : FSX} (h : XFz K M F o P) (hf : FrX S P P1) (hd : disX S ([], [44]) = true) : XFz K M F o P1 := ⟨h.1, h.2.fr hf hd⟩
theorem XFz.col {K M : PH} {F : FT} {o : Nat} {k r c0 : Int} {P P1 : PH} (h : XFz K M F o P) (h4 : 0 ≤ M 0 0 ∧ M 0 0 ≤ 3) (e : c0 = M 0 0) (hz : ZRx (crX (crX o 5) c0.toNat) (sz K k) P P1) : XFz K (mCol M k r) F o P1 := by
  subst e
  have m0 := mCol_0 (M := M) (k := k) (r := r)
  refine ⟨by rw [m0.2.2.1]; exact h.1, by rw [m0.1]; omega, h.2.2.1, fun c v c0 c1 v0 v1 => ?_⟩
  rw [m0.2.2.1, msk_0 h.1]
  rw [m0.1] at c1
  rw [mCol_1] at v1
  by_cases e : c = M 0 0
  · rw [if_pos e] at v1
    rw [e]
    exact hz.1 v v0 v1
  · rw [if_neg e] at v1
    rw [hz.2 _ (fit_k h.2.2.1 (by omega)) (fun q => e (by have := fit_i h.2.2.1 c.toNat (by omega) (M 0 0).toNat (by omega) q; omega)) v]
    have q := h.2.2.2 c v c0 (by omega) v0 v1
    rw [msk_0 h.1] at q
    exact q
theorem XF.upM {K M : PH} {F : FT} {o : Nat} {P : PH} {j z : Int} (h : XF K M F o P) (j0 : j ≠ 0) (j2 : j ≠ 2) : XF K (up M 0 j z) F o P := ⟨h.1, fun c v c0 c1 v0 v1 => by
  rw [up_k (fun e => j0 e.symm)] at c1
  rw [up_row (by decide)] at v1
  rw [up_k (fun e => j2 e.symm)]
  exact h.2 c v c0 c1 v0 v1⟩
def XFT (K M : PH) (F : FT) (P : PH) : Prop := M 0 0 ≤ 4 ∧ XF K M F (P 0 10).toNat P
theorem XFT.fr {K M : PH} {F : FT} {P P1 : PH} {S : FSX} (h : XFT K M F P) (hf : FrX S P P1) (hd : disX S ([(0, 10)], [44]) = true) : XFT K M F P1 := by
  have e : P1 0 10 = P 0 10 := disX_f hd hf (o := 0) (k := 0) (j := 10) ⟨by decide, rfl⟩ (by decide)
  unfold XFT at h ⊢
  rw [e]
  exact ⟨h.1, h.2.1, fun c v c0 c1 v0 v1 => (disX_a hd hf (fit_k h.2.1 (j := c.toNat) (by have := h.1; omega)) (by decide) v).trans (h.2.2 c v c0 c1 v0 v1)⟩
theorem KT.xf {t o : Nat} {K M : PH} {F : FT} {P P1 : PH} (h : KT t P P1) (ho : kx o 28) (hn : o ≠ t) (hm : M 0 0 ≤ 4) (hk : XF K M F o P) : XF K M F o P1 := by
  have ht := tb28 ho
  have hc : ∀ j : Nat, j < 4 → tbX (crX (crX o 5) j) = o ∧ crX (crX o 5) j < 154 := (show ∀ o : Nat, o < 154 → kdX o = 28 → ∀ j : Nat, j < 4 → tbX (crX (crX o 5) j) = o ∧ crX (crX o 5) j < 154 by decide +kernel) o ho.1 ho.2
  refine ⟨hk.1, fun c v c0 c1 v0 v1 => ?_⟩
  have q := hc c.toNat (by omega)
  rw [h _ q.2 (by rw [q.1]; exact ht.2) (by rw [q.1]; exact hn) v]
  exact hk.2 c v c0 c1 v0 v1
/-- a pattern's codes, by the state that ends it -/
theorem pat_end {T : TT} {K : PH} {k p q a : Int} {L : List OP} (ho : tO T q ≠ 9) (h : ∀ (s : SK) (x : XR), Runs T K 1 (s.1, a, L ++ s.2.2) k q x → Runs T K 0 (s.1, 0, s.2.2) k p x) : pat T K k p = (0, q) ∧ cds T K k p = orE a L := by
  have r := h s0 _ (Runs.done (s := (s0.1, a, L ++ s0.2.2)) ho rfl)
  refine ⟨r.paT, ?_⟩
  rw [r.cdS]
  show orE a (L ++ []) = orE a L
  rw [List.append_nil]
