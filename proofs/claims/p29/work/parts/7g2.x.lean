section
/-! Where there is no fault its place is none. -/
def FP (P : PH) : Prop := P 0 8 ≤ 0 → P 0 9 = -1
theorem FP.fr {P P1 : PH} {F : FS} (h : FP P) (hf : FrM F P P1) (hd : disF F ([8, 9], []) = true) : FP P1 := by
  unfold FP at h ⊢
  rw [disF_k hd hf (k := 8) (by decide), disF_k hd hf (k := 9) (by decide)]
  exact h
/-! A field, a column: what is told of it, one lemma a way. -/
section KG
variable {T : TT} {K : PH} {but n many of' its most p : Int}
theorem kGo_1 (h : tK T p ≠ 1 ∨ (tO T p ≠ -1 ∧ tO T p ≠ 7)) : kGo T K but n many of' its most p = 1 := by
  unfold kGo
  rw [if_neg (by omega)]
theorem kGo_6 (hw : tK T p = 1 ∧ (tO T p = -1 ∨ tO T p = 7)) (h : many ≤ n) : kGo T K but n many of' its most p = 6 := by
  unfold kGo
  rw [if_pos hw, if_pos h]
theorem kGo_3 (hw : tK T p = 1 ∧ (tO T p = -1 ∨ tO T p = 7)) (hn : n < many) (h : tO T p = -1 ∧ (kHe T K p = -1 ∨ kHe T K p = but ∨ K 3 (kHe T K p) ≤ 0)) : kGo T K but n many of' its most p = 3 := by
  unfold kGo
  rw [if_pos hw, if_neg (by omega), if_pos ⟨by omega, h.2⟩]
theorem kGo_4 (hw : tK T p = 1 ∧ (tO T p = -1 ∨ tO T p = 7)) (hn : n < many) (hk : tO T p = 7 ∨ (kHe T K p ≠ -1 ∧ kHe T K p ≠ but ∧ 1 ≤ K 3 (kHe T K p))) (h : most < of' + its * sz K (kHe T K p)) : kGo T K but n many of' its most p = 4 := by
  unfold kGo
  rw [if_pos hw, if_neg (by omega), if_neg (fun z => by omega), if_pos h]
theorem kGo_0 (hw : tK T p = 1 ∧ (tO T p = -1 ∨ tO T p = 7)) (hn : n < many) (hk : tO T p = 7 ∨ (kHe T K p ≠ -1 ∧ kHe T K p ≠ but ∧ 1 ≤ K 3 (kHe T K p))) (h : of' + its * sz K (kHe T K p) ≤ most) : kGo T K but n many of' its most p = 0 := by
  unfold kGo
  rw [if_pos hw, if_neg (by omega), if_neg (fun z => by omega), if_neg (by omega)]
theorem szk_b (h : AW K) (hk : tO T p = 7 ∨ (kHe T K p ≠ -1 ∧ kHe T K p ≠ but ∧ 1 ≤ K 3 (kHe T K p))) : 1 ≤ sz K (kHe T K p) ∧ sz K (kHe T K p) ≤ 2006 := by
  have hb := kHe_b (T := T) h p
  rcases sz_s K (kHe T K p) with q | q
  · omega
  · have q2 := h.2.1 (kHe T K p) (by omega) hb.2
    have q3 := kHe_s T K p
    omega
end KG
end
section
/-! Which table an object is part of; what a method leaves of the other table. -/
def tbX (x : Nat) : Nat := if 70 ≤ x ∧ x ≤ 89 then 70 else if 90 ≤ x ∧ x ≤ 109 then 90 else 0
def KT (t : Nat) (P P1 : PH) : Prop := ∀ x : Nat, x < 154 → tbX x ≠ 0 → tbX x ≠ t → ∀ j : Int, P1 x j = P x j
theorem KT.rf {t : Nat} {P : PH} : KT t P P := fun _ _ _ _ _ => rfl
theorem KT.w {t : Nat} {P P1 : PH} {x : Nat} {j z : Int} (h : KT t P P1) (hx : tbX x = t ∨ tbX x = 0) : KT t P (up P1 x j z) := fun y h1 h2 h3 k => by
  have hne : y ≠ x := fun e => by
    subst e
    rcases hx with q | q
    · exact h3 q
    · exact h2 q
  rw [up_o hne]
  exact h y h1 h2 h3 k
theorem KT.t {t : Nat} {P P1 P2 : PH} (h : KT t P P1) (h2 : KT t P1 P2) : KT t P P2 := fun x a b c j => (h2 x a b c j).trans (h x a b c j)
theorem KT.e {t t1 : Nat} {P P1 : PH} (h : KT t P P1) (e : t = t1) : KT t1 P P1 := by
  subst e
  exact h
def nT (F : FSX) : Bool := F.1.all (fun q => decide (q.1 < 28) || decide (44 < q.1)) && F.2.all (fun k => decide (k < 28) || decide (44 < k))
theorem tb_kd : ∀ x : Nat, x < 154 → tbX x ≠ 0 → 28 ≤ kdX x ∧ kdX x ≤ 44 := by decide +kernel
theorem nT_in {F : FSX} (h : nT F = true) {k : Nat} (hk : 28 ≤ k ∧ k ≤ 44) (j : Int) : inF F k j = false := by
  unfold nT at h
  rw [Bool.and_eq_true] at h
  unfold inF
  rw [Bool.or_eq_false_iff]
  refine ⟨?_, ?_⟩
  · cases e : F.2.contains k with
    | false => rfl
    | true =>
      exfalso
      have q := List.all_eq_true.mp h.2 k (List.contains_iff_mem.mp e)
      rw [Bool.or_eq_true, decide_eq_true_iff, decide_eq_true_iff] at q
      omega
  · cases e : F.1.any fun q => q.1 == k && q.2 == j with
    | false => rfl
    | true =>
      exfalso
      obtain ⟨q, hq, he⟩ := List.any_eq_true.mp e
      have w := List.all_eq_true.mp h.1 q hq
      rw [Bool.or_eq_true, decide_eq_true_iff, decide_eq_true_iff] at w
      rw [Bool.and_eq_true, beq_iff_eq] at he
      omega
theorem KT.fr {t : Nat} {P P1 P2 : PH} {F : FSX} (h : KT t P P1) (hf : FrX F P1 P2) (hd : nT F = true) : KT t P P2 := fun x a b c j => (hf x j a (nT_in hd (tb_kd x a b) j)).trans (h x a b c j)
theorem tb_cr : ∀ x : Nat, x < 154 → ∀ j : Nat, j < 16 → tbX (crX x j) = tbX x ∨ tbX (crX x j) = 0 := by decide +kernel
theorem TB.c {t x j : Nat} (h : tbX x = t ∨ tbX x = 0) (hx : x < 154) (hj : j < 16) : tbX (crX x j) = t ∨ tbX (crX x j) = 0 := by
  rcases tb_cr x hx j hj with q | q
  · rw [q]; exact h
  · exact Or.inr q
theorem TB.no {t x k : Nat} (h : kx x k) (hk : k < 28 ∨ 44 < k) : tbX x = t ∨ tbX x = 0 := by
  by_cases e : tbX x = 0
  · exact Or.inr e
  · exfalso
    have q := tb_kd x h.1 e
    rw [h.2] at q
    omega
theorem tb28_0 {o : Nat} (h : kx o 28) : tbX (crX o 0) = tbX o := (show ∀ o : Nat, o < 154 → kdX o = 28 → tbX (crX o 0) = tbX o by decide +kernel) o h.1 h.2
theorem tb28 {o : Nat} (h : kx o 28) : tbX o = o ∧ o ≠ 0 := (show ∀ o : Nat, o < 154 → kdX o = 28 → tbX o = o ∧ o ≠ 0 by decide +kernel) o h.1 h.2
/-! What a method leaves of the reference's other bank. -/
def sbM : Nat → Int
  | 2 => 1
  | 3 => 4
  | 4 => 4
  | 5 => 1
  | 6 => 24
  | 7 => 24
  | 8 => 48
  | 9 => 24
  | 10 => 24
  | 11 => 1
  | 12 => 4
  | 13 => 1
  | 14 => 12
  | 15 => 1
  | 16 => 1
  | 17 => 48
  | 18 => 48
  | 19 => 2800
  | 20 => 2800
  | 21 => 2800
  | 22 => 4
  | 23 => 24
  | _ => 0
def KB (b : Int) (P P1 : PH) : Prop := ∀ (o : Nat) (j : Int), sbM o * (1 - b) ≤ j → j < sbM o * (2 - b) → P1 o j = P o j
theorem KB.rf {b : Int} {P : PH} : KB b P P := fun _ _ _ _ => rfl
theorem KB.w {b : Int} {P P1 : PH} {o : Nat} {x z s : Int} (h : KB b P P1) (hs : sbM o = s) (hx : x < s * (1 - b) ∨ s * (2 - b) ≤ x) : KB b P (up P1 o x z) := fun o1 j h1 h2 => by
  by_cases e : o1 = o
  · subst e
    rw [hs] at h1 h2
    rw [up_k (by omega)]
    exact h o1 j (by rw [hs]; exact h1) (by rw [hs]; exact h2)
  · rw [up_o e]
    exact h o1 j h1 h2
theorem KB.z {b : Int} {P P1 : PH} {o : Nat} {x z : Int} (h : KB b P P1) (hs : sbM o = 0) : KB b P (up P1 o x z) := fun o1 j h1 h2 => by
  by_cases e : o1 = o
  · subst e
    exfalso
    rw [hs, Int.zero_mul] at h1 h2
    omega
  · rw [up_o e]
    exact h o1 j h1 h2
theorem KB.t {b b1 : Int} {P P1 P2 : PH} (h : KB b P P1) (h2 : KB b1 P1 P2) (e : b1 = b) : KB b P P2 := by
  subst e
  exact fun o j a c => (h2 o j a c).trans (h o j a c)
def nB (F : FS) : Bool := F.2.all (fun o => decide (sbM o = 0))
theorem KB.fr {b : Int} {P P1 P2 : PH} {F : FS} (h : KB b P P1) (hf : FrM F P1 P2) (hd : nB F = true) : KB b P P2 := fun o j a c => by
  have h0 : sbM o ≠ 0 := fun e => by
    rw [e, Int.zero_mul] at a c
    omega
  have ho : (o == 0) = false := by
    cases e : o == 0 with
    | false => rfl
    | true =>
      rw [beq_iff_eq] at e
      rw [e] at h0
      exact absurd rfl h0
  have hc : F.2.contains o = false := by
    cases e : F.2.contains o with
    | false => rfl
    | true =>
      have q := List.all_eq_true.mp hd o (List.contains_iff_mem.mp e)
      rw [decide_eq_true_iff] at q
      exact absurd q h0
  exact (congrFun (hf.2 o ho hc) j).trans (h o j a c)
end
section
/-! The tables as they stand between calls, on both sides. -/
def MKb (b : Int) (K P : PH) : Prop := P 2 b = K 0 0 ∧ P 5 b = K 0 1 ∧
  (∀ k : Int, 0 ≤ k → k < K 0 0 → NW (K 1 k) (P 22 (4 * b + k)) ∧ P 3 (4 * b + k) = K 2 k ∧ P 4 (4 * b + k) = K 3 k) ∧
  ∀ c : Int, 0 ≤ c → c < K 0 1 → NW (K 4 c) (P 23 (24 * b + c)) ∧ P 6 (24 * b + c) = K 5 c ∧ P 7 (24 * b + c) = K 6 c ∧ (1 ≤ K 6 c → K4 (P 8 (2 * (24 * b + c))) (K 7 c)) ∧ (2 ≤ K 6 c → K4 (P 8 (2 * (24 * b + c) + 1)) (K 8 c)) ∧ P 9 (24 * b + c) = K 10 c
def MMb (b : Int) (M P : PH) : Prop := P 11 b = M 0 0 ∧ P 13 b = M 0 2 ∧ P 15 b = M 0 3 ∧ P 16 b = M 0 4 ∧
  (∀ c : Int, 0 ≤ c → c < M 0 0 → K4 (P 12 (4 * b + c)) (M 1 c)) ∧ ∀ a : Int, 0 ≤ a → a < M 0 2 → P 14 (12 * b + a) = M 2 a
theorem MKb.kb {b b1 : Int} {K P P1 : PH} (h : MKb b K P) (ha : AW K) (hk : KB b1 P P1) (hb : b = 1 - b1) : MKb b K P1 := by
  have a0 := ha.1
  obtain ⟨h1, h2, h3, h4⟩ := h
  refine ⟨?_, ?_, fun k k0 k1 => ?_, fun c c0 c1 => ?_⟩
  · rw [hk 2 b (by show 1 * (1 - b1) ≤ b; omega) (by show b < 1 * (2 - b1); omega)]; exact h1
  · rw [hk 5 b (by show 1 * (1 - b1) ≤ b; omega) (by show b < 1 * (2 - b1); omega)]; exact h2
  · rw [hk 22 (4 * b + k) (by show 4 * (1 - b1) ≤ _; omega) (by show _ < 4 * (2 - b1); omega), hk 3 (4 * b + k) (by show 4 * (1 - b1) ≤ _; omega) (by show _ < 4 * (2 - b1); omega), hk 4 (4 * b + k) (by show 4 * (1 - b1) ≤ _; omega) (by show _ < 4 * (2 - b1); omega)]
    exact h3 k k0 k1
  · rw [hk 23 (24 * b + c) (by show 24 * (1 - b1) ≤ _; omega) (by show _ < 24 * (2 - b1); omega), hk 6 (24 * b + c) (by show 24 * (1 - b1) ≤ _; omega) (by show _ < 24 * (2 - b1); omega), hk 7 (24 * b + c) (by show 24 * (1 - b1) ≤ _; omega) (by show _ < 24 * (2 - b1); omega),
      hk 8 (2 * (24 * b + c)) (by show 48 * (1 - b1) ≤ _; omega) (by show _ < 48 * (2 - b1); omega), hk 8 (2 * (24 * b + c) + 1) (by show 48 * (1 - b1) ≤ _; omega) (by show _ < 48 * (2 - b1); omega), hk 9 (24 * b + c) (by show 24 * (1 - b1) ≤ _; omega) (by show _ < 24 * (2 - b1); omega)]
    exact h4 c c0 c1
theorem MMb.kb {b b1 : Int} {K M P P1 : PH} (h : MMb b M P) (ha : AV K M) (hk : KB b1 P P1) (hb : b = 1 - b1) : MMb b M P1 := by
  obtain ⟨v1, v2, v3, v4, v5⟩ := ha
  obtain ⟨h1, h2, h3, h4, h5, h6⟩ := h
  refine ⟨?_, ?_, ?_, ?_, fun c c0 c1 => ?_, fun a a0 a1 => ?_⟩
  · rw [hk 11 b (by show 1 * (1 - b1) ≤ b; omega) (by show b < 1 * (2 - b1); omega)]; exact h1
  · rw [hk 13 b (by show 1 * (1 - b1) ≤ b; omega) (by show b < 1 * (2 - b1); omega)]; exact h2
  · rw [hk 15 b (by show 1 * (1 - b1) ≤ b; omega) (by show b < 1 * (2 - b1); omega)]; exact h3
  · rw [hk 16 b (by show 1 * (1 - b1) ≤ b; omega) (by show b < 1 * (2 - b1); omega)]; exact h4
  · rw [hk 12 (4 * b + c) (by show 4 * (1 - b1) ≤ _; omega) (by show _ < 4 * (2 - b1); omega)]; exact h5 c c0 c1
  · rw [hk 14 (12 * b + a) (by show 12 * (1 - b1) ≤ _; omega) (by show _ < 12 * (2 - b1); omega)]; exact h6 a a0 a1
/-- the reference's tables, in its bank -/
def MKB (K P : PH) : Prop := MKb (P 0 13) K P
def MMB (M P : PH) : Prop := MMb (P 0 13) M P
def MH (M P : PH) : Prop := (P 0 44 = 0 ∧ M 0 0 = 0) ∨ (P 0 44 = 1 ∧ 1 ≤ M 0 0)
theorem MKB.fr {K P P1 : PH} {F : FS} (h : MKB K P) (hf : FrM F P P1) (hd : disF F ([13], [2, 3, 4, 5, 6, 7, 8, 9, 22, 23]) = true) : MKB K P1 := by
  unfold MKB MKb at h ⊢
  rw [disF_k hd hf (k := 13) (by decide), disF_o hd hf (o := 2) (by decide) rfl, disF_o hd hf (o := 3) (by decide) rfl, disF_o hd hf (o := 4) (by decide) rfl, disF_o hd hf (o := 5) (by decide) rfl, disF_o hd hf (o := 6) (by decide) rfl, disF_o hd hf (o := 7) (by decide) rfl, disF_o hd hf (o := 8) (by decide) rfl, disF_o hd hf (o := 9) (by decide) rfl, disF_o hd hf (o := 22) (by decide) rfl, disF_o hd hf (o := 23) (by decide) rfl]
  exact h
theorem MMB.fr {M P P1 : PH} {F : FS} (h : MMB M P) (hf : FrM F P P1) (hd : disF F ([13], [11, 12, 13, 14, 15, 16]) = true) : MMB M P1 := by
  unfold MMB MMb at h ⊢
  rw [disF_k hd hf (k := 13) (by decide), disF_o hd hf (o := 11) (by decide) rfl, disF_o hd hf (o := 12) (by decide) rfl, disF_o hd hf (o := 13) (by decide) rfl, disF_o hd hf (o := 14) (by decide) rfl, disF_o hd hf (o := 15) (by decide) rfl, disF_o hd hf (o := 16) (by decide) rfl]
  exact h
theorem MH.fr {M P P1 : PH} {F : FS} (h : MH M P) (hf : FrM F P P1) (hd : disF F ([44], []) = true) : MH M P1 := by
  unfold MH at h ⊢
  rw [disF_k hd hf (k := 44) (by decide)]
  exact h
theorem MK.B {K P : PH} (h : MK K P) (e : P 0 13 = P 0 37) : MKB K P := by
  unfold MKB
  rw [e]
  exact h
theorem MM.B {M P : PH} (h : MM M P) (e : P 0 13 = P 0 37) : MMB M P := by
  unfold MMB
  rw [e]
  exact h
theorem MKB.k {K P : PH} (h : MKB K P) {k : Int} (h0 : 0 ≤ k) (h1 : k < K 0 0) : NW (K 1 k) (P 22 (4 * P 0 13 + k)) ∧ P 3 (4 * P 0 13 + k) = K 2 k ∧ P 4 (4 * P 0 13 + k) = K 3 k := h.2.2.1 k h0 h1
theorem MKB.c {K P : PH} (h : MKB K P) {c : Int} (h0 : 0 ≤ c) (h1 : c < K 0 1) : NW (K 4 c) (P 23 (24 * P 0 13 + c)) := (h.2.2.2 c h0 h1).1
theorem MKB.b {K P : PH} (h : MKB K P) : P 2 (P 0 13) = K 0 0 ∧ P 5 (P 0 13) = K 0 1 := ⟨h.1, h.2.1⟩
theorem MMB.b {M P : PH} (h : MMB M P) : P 11 (P 0 13) = M 0 0 ∧ P 13 (P 0 13) = M 0 2 ∧ P 15 (P 0 13) = M 0 3 ∧ P 16 (P 0 13) = M 0 4 := ⟨h.1, h.2.1, h.2.2.1, h.2.2.2.1⟩
/-- the class's table now -/
def XTB (K M P : PH) : Prop := XK K (crX (P 0 10).toNat 0) P ∧ XM M (P 0 10).toNat P
theorem XTB.fr {K M P P1 : PH} {F : FSX} (h : XTB K M P) (hf : FrX F P P1) (hd : disX F ([(0, 10), (28, 6), (28, 7), (28, 8), (28, 9), (28, 10), (29, 9), (29, 10)], [30, 31, 32, 33, 34, 35, 36, 37, 38, 39, 42]) = true) : XTB K M P1 := by
  have e : P1 0 10 = P 0 10 := disX_f hd hf (o := 0) (k := 0) (j := 10) ⟨by decide, rfl⟩ (by decide)
  obtain ⟨⟨hk, h1, h2, h3, h4⟩, hk2, g1, g2, g3, g4, g5, g6, g7⟩ := h
  unfold XTB
  rw [e]
  refine ⟨⟨hk, by rw [disX_f hd hf (j := 9) hk (by decide)]; exact h1, by rw [disX_f hd hf (j := 10) hk (by decide)]; exact h2, fun k k0 k1 => ?_, fun c c0 c1 => ?_⟩, ⟨hk2, by rw [disX_f hd hf (j := 6) hk2 (by decide)]; exact g1, by rw [disX_f hd hf (j := 7) hk2 (by decide)]; exact g2, by rw [disX_f hd hf (j := 8) hk2 (by decide)]; exact g3, by rw [disX_f hd hf (j := 9) hk2 (by decide)]; exact g4, by rw [disX_f hd hf (j := 10) hk2 (by decide)]; exact g5, fun c c0 c1 => ?_, fun a a0 a1 => ?_⟩⟩
  · rw [disX_a hd hf (ck_29_0 hk) (by decide), disX_a hd hf (ck_29_1 hk) (by decide), disX_a hd hf (ck_29_2 hk) (by decide), disX_a hd hf (ck_29_3 hk) (by decide)]
    exact h3 k k0 k1
  · rw [disX_a hd hf (ck_29_4 hk) (by decide), disX_a hd hf (ck_29_5 hk) (by decide), disX_a hd hf (ck_29_6 hk) (by decide), disX_a hd hf (ck_29_7 hk) (by decide), disX_a hd hf (ck_29_8 hk) (by decide)]
    exact h4 c c0 c1
  · rw [disX_a hd hf (ck_28_1 hk2) (by decide)]
    exact g6 c c0 c1
  · rw [disX_a hd hf (ck_28_4 hk2) (by decide)]
    exact g7 a a0 a1
/-- the other table's change leaves this one -/
theorem KT.xk {t o : Nat} {K P P1 : PH} (h : KT t P P1) (ho : kx o 28) (hn : o ≠ t) (hk : XK K (crX o 0) P) : XK K (crX o 0) P1 := by
  have ht := tb28 ho
  have h0 := tb28_0 ho
  rw [ht.1] at h0
  have hc : ∀ j : Nat, j < 9 → tbX (crX (crX o 0) j) = o := (show ∀ o : Nat, o < 154 → kdX o = 28 → ∀ j : Nat, j < 9 → tbX (crX (crX o 0) j) = o by decide +kernel) o ho.1 ho.2
  have hl : ∀ j : Nat, j < 9 → crX (crX o 0) j < 154 := (show ∀ o : Nat, o < 154 → kdX o = 28 → ∀ j : Nat, j < 9 → crX (crX o 0) j < 154 by decide +kernel) o ho.1 ho.2
  have ha : ∀ (f : Nat), f < 9 → ∀ j : Int, P1 (crX (crX o 0) f) j = P (crX (crX o 0) f) j := fun f hf j => h _ (hl f hf) (by rw [hc f hf]; exact ht.2) (by rw [hc f hf]; exact hn) j
  have hb : ∀ j : Int, P1 (crX o 0) j = P (crX o 0) j := fun j => h _ hk.1.1 (by rw [h0]; exact ht.2) (by rw [h0]; exact hn) j
  obtain ⟨hk0, h1, h2, h3, h4⟩ := hk
  refine ⟨hk0, by rw [hb]; exact h1, by rw [hb]; exact h2, fun k k0 k1 => ?_, fun c c0 c1 => ?_⟩
  · rw [ha 0 (by decide), ha 1 (by decide), ha 2 (by decide), ha 3 (by decide)]
    exact h3 k k0 k1
  · rw [ha 4 (by decide), ha 5 (by decide), ha 6 (by decide), ha 7 (by decide), ha 8 (by decide)]
    exact h4 c c0 c1
theorem KT.xm {t o : Nat} {M P P1 : PH} (h : KT t P P1) (ho : kx o 28) (hn : o ≠ t) (hk : XM M o P) : XM M o P1 := by
  have ht := tb28 ho
  have hc : tbX (crX o 1) = o ∧ tbX (crX o 4) = o ∧ crX o 1 < 154 ∧ crX o 4 < 154 := (show ∀ o : Nat, o < 154 → kdX o = 28 → tbX (crX o 1) = o ∧ tbX (crX o 4) = o ∧ crX o 1 < 154 ∧ crX o 4 < 154 by decide +kernel) o ho.1 ho.2
  have hb : ∀ j : Int, P1 o j = P o j := fun j => h _ ho.1 (by rw [ht.1]; exact ht.2) (by rw [ht.1]; exact hn) j
  have h1' : ∀ j : Int, P1 (crX o 1) j = P (crX o 1) j := fun j => h _ hc.2.2.1 (by rw [hc.1]; exact ht.2) (by rw [hc.1]; exact hn) j
  have h4' : ∀ j : Int, P1 (crX o 4) j = P (crX o 4) j := fun j => h _ hc.2.2.2 (by rw [hc.2.1]; exact ht.2) (by rw [hc.2.1]; exact hn) j
  obtain ⟨hk2, g1, g2, g3, g4, g5, g6, g7⟩ := hk
  exact ⟨hk2, by rw [hb]; exact g1, by rw [hb]; exact g2, by rw [hb]; exact g3, by rw [hb]; exact g4, by rw [hb]; exact g5, fun c c0 c1 => by rw [h1']; exact g6 c c0 c1, fun a a0 a1 => by rw [h4']; exact g7 a a0 a1⟩
/-- the tables behind a match's text: those told, or those that were -/
noncomputable def kmR (T : TT) (K : PH) : PH := if (mlR T).1 = 0 then (mlR T).2.2.1 else K
noncomputable def mmR (T : TT) (M : PH) : PH := if (mlR T).1 = 0 then (mlR T).2.2.2 else M
theorem kmR_0 {T : TT} {K : PH} (h : (mlR T).1 = 0) : kmR T K = (mlR T).2.2.1 := by unfold kmR; rw [if_pos h]
theorem kmR_1 {T : TT} {K : PH} (h : (mlR T).1 ≠ 0) : kmR T K = K := by unfold kmR; rw [if_neg h]
theorem mmR_0 {T : TT} {M : PH} (h : (mlR T).1 = 0) : mmR T M = (mlR T).2.2.2 := by unfold mmR; rw [if_pos h]
theorem mmR_1 {T : TT} {M : PH} (h : (mlR T).1 ≠ 0) : mmR T M = M := by unfold mmR; rw [if_neg h]
theorem mlo_w {T : TT} : ∀ (r : Nat) (n : Int) (K M : PH) (p : Int), AW K → AV K M → (mlo T r n K M p).1 = 0 → AW (mlo T r n K M p).2.2.1 ∧ AV (mlo T r n K M p).2.2.1 (mlo T r n K M p).2.2.2 ∧ 0 < (mlo T r n K M p).2.2.2 0 0 := by
  intro r
  induction r with
  | zero =>
    intro n K M p hw hv h0
    by_cases e : tK T p = 0
    · rw [mlo_end e] at h0 ⊢
      refine ⟨hw, hv, ?_⟩
      by_cases z : M 0 0 ≤ 0
      · have h0 : (if M 0 0 ≤ 0 then (1 : Int) else 0) = 0 := h0
        rw [if_pos z] at h0
        omega
      · show 0 < M 0 0
        omega
    · rw [mlo_much e] at h0
      exact absurd h0 (show (6 : Int) ≠ 0 by decide)
  | succ r ih =>
    intro n K M p hw hv h0
    by_cases e : tK T p = 0
    · rw [mlo_end e] at h0 ⊢
      refine ⟨hw, hv, ?_⟩
      by_cases z : M 0 0 ≤ 0
      · have h0 : (if M 0 0 ≤ 0 then (1 : Int) else 0) = 0 := h0
        rw [if_pos z] at h0
        omega
      · show 0 < M 0 0
        omega
    · by_cases h1 : (sSt T K M p).1 = 0
      · by_cases h2 : (sgn T 59 (sSt T K M p).2).1 = 0
        · rw [mlo_go e h1 h2] at h0 ⊢
          exact ih _ _ _ _ (hw.st h1) (hv.st hw h1) h0
        · rw [mlo_eF e h1 h2] at h0
          exact absurd h0 h2
      · rw [mlo_sF e h1] at h0
        exact absurd h0 h1
theorem mlR_w {T : TT} (h : (mlR T).1 = 0) : AW (mlR T).2.2.1 ∧ AV (mlR T).2.2.1 (mlR T).2.2.2 ∧ 0 < (mlR T).2.2.2 0 0 := mlo_w 60 0 K0 M0 0 AW.zero AV.zero h
end
