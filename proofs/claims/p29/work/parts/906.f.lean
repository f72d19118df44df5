/-! Sums: rows by the arms that they fit. -/
def smN (g : Int → Int) : Nat → Int
  | 0 => 0
  | n + 1 => smN g n + g (n : Int)
theorem smN_up1 {g : Int → Int} {n : Nat} : smN g (n + 1) = smN g n + g (n : Int) := rfl
theorem smN_cg {g h : Int → Int} : ∀ n : Nat, (∀ i : Int, 0 ≤ i → i < (n : Int) → g i = h i) → smN g n = smN h n := by
  intro n
  induction n with
  | zero => intro _; rfl
  | succ n ih =>
    intro e
    rw [smN_up1, smN_up1, ih (fun i a b => e i a (by omega)), e (n : Int) (by omega) (by omega)]
theorem smN_add {g h : Int → Int} : ∀ n : Nat, smN (fun i => g i + h i) n = smN g n + smN h n := by
  intro n
  induction n with
  | zero => rfl
  | succ n ih => rw [smN_up1, smN_up1, smN_up1, ih]; omega
theorem smN_mul {g : Int → Int} {c : Int} : ∀ n : Nat, smN (fun i => c * g i) n = c * smN g n := by
  intro n
  induction n with
  | zero => show (0 : Int) = c * 0; rw [Int.mul_zero]
  | succ n ih => rw [smN_up1, smN_up1, ih, Int.mul_add]
theorem smN_0 : ∀ n : Nat, smN (fun _ => 0) n = 0 := by
  intro n
  induction n with
  | zero => rfl
  | succ n ih => rw [smN_up1, ih]; rfl
theorem smN_nn {g : Int → Int} : ∀ n : Nat, (∀ i : Int, 0 ≤ i → i < (n : Int) → 0 ≤ g i) → 0 ≤ smN g n := by
  intro n
  induction n with
  | zero => intro _; exact Int.le_refl 0
  | succ n ih =>
    intro h
    have h1 := ih (fun i a b => h i a (by omega))
    have h2 := h (n : Int) (by omega) (by omega)
    rw [smN_up1]
    omega
theorem smN_le {g h : Int → Int} : ∀ n : Nat, (∀ i : Int, 0 ≤ i → i < (n : Int) → g i ≤ h i) → smN g n ≤ smN h n := by
  intro n
  induction n with
  | zero => intro _; exact Int.le_refl 0
  | succ n ih =>
    intro e
    have h1 := ih (fun i a b => e i a (by omega))
    have h2 := e (n : Int) (by omega) (by omega)
    rw [smN_up1, smN_up1]
    omega
theorem smN_mono {g : Int → Int} {n m : Nat} (h : n ≤ m) (hg : ∀ i : Int, 0 ≤ i → i < (m : Int) → 0 ≤ g i) : smN g n ≤ smN g m := by
  obtain ⟨k, rfl⟩ := Nat.exists_eq_add_of_le h
  induction k with
  | zero => exact Int.le_refl _
  | succ k ih =>
    have h1 := ih (by omega) (fun i a b => hg i a (by omega))
    have h2 := hg ((n + k : Nat) : Int) (by omega) (by omega)
    show smN g n ≤ smN g (n + k) + g ((n + k : Nat) : Int)
    omega
theorem smN_split {g : Int → Int} {a : Nat} : ∀ b : Nat, smN g (a + b) = smN g a + smN (fun i => g ((a : Int) + i)) b := by
  intro b
  induction b with
  | zero => show smN g a = smN g a + 0; omega
  | succ b ih =>
    show smN g (a + b) + g ((a + b : Nat) : Int) = smN g a + (smN (fun i => g ((a : Int) + i)) b + g ((a : Int) + (b : Int)))
    rw [ih, show ((a + b : Nat) : Int) = (a : Int) + (b : Int) by omega]
    omega
/-- two sums as one -/
theorem smN_prod {f : Int → Int → Int} {m : Nat} (hm : 0 < m) : ∀ n : Nat, smN (fun r => smN (fun v => f r v) m) n = smN (fun q => f (q / (m : Int)) (q % (m : Int))) (n * m) := by
  intro n
  induction n with
  | zero => rw [Nat.zero_mul]; rfl
  | succ n ih =>
    rw [smN_up1, ih, Nat.succ_mul, smN_split]
    congr 1
    refine smN_cg m (fun i a b => ?_)
    have e1 : (((n * m : Nat) : Int) + i) = i + (n : Int) * (m : Int) := by
      rw [Int.natCast_mul]; omega
    show f (n : Int) i = f ((((n * m : Nat) : Int) + i) / (m : Int)) ((((n * m : Nat) : Int) + i) % (m : Int))
    rw [e1, Int.add_mul_ediv_right _ _ (by omega), Int.add_mul_emod_self_right, Int.ediv_eq_zero_of_lt a b, Int.emod_eq_of_lt a b, Int.zero_add]
theorem smN_swap {f : Int → Int → Int} {m : Nat} : ∀ n : Nat, smN (fun i => smN (fun j => f i j) m) n = smN (fun j => smN (fun i => f i j) n) m := by
  intro n
  induction n with
  | zero => exact (smN_0 m).symm
  | succ n ih =>
    rw [smN_up1, ih, ← smN_add]
    exact smN_cg m (fun i _ _ => rfl)
/-- one place alone -/
theorem smN_at {x : Int → Int} {p : Int} (p0 : 0 ≤ p) : ∀ n : Nat, smN (fun i => if i = p then x i else 0) n = if p < (n : Int) then x p else 0 := by
  intro n
  induction n with
  | zero => rw [if_neg (by omega)]; rfl
  | succ n ih =>
    rw [smN_up1, ih]
    by_cases e : (n : Int) = p
    · rw [if_neg (by omega), if_pos e, if_pos (by omega), e, Int.zero_add]
    · rw [if_neg e]
      by_cases q : p < (n : Int)
      · rw [if_pos q, if_pos (by omega), Int.add_zero]
      · rw [if_neg q, if_neg (by omega), Int.add_zero]
/-- rows told by a number in [0, N): the sum over the numbers is the sum over the rows -/
theorem smN_by {c φ : Int → Int} {N : Nat} : ∀ n : Nat, (∀ r : Int, 0 ≤ r → r < (n : Int) → 0 ≤ φ r ∧ φ r < (N : Int)) → smN (fun s => c s * smN (fun r => if φ r = s then 1 else 0) n) N = smN (fun r => c (φ r)) n := by
  intro n h
  have e1 : smN (fun s => c s * smN (fun r => if φ r = s then 1 else 0) n) N = smN (fun s => smN (fun r => c s * (if φ r = s then 1 else 0)) n) N := smN_cg N (fun s _ _ => (smN_mul n).symm)
  rw [e1, smN_swap]
  refine smN_cg n (fun r a b => ?_)
  have q := h r a b
  have e2 : smN (fun s => c s * (if φ r = s then 1 else 0)) N = smN (fun s => if s = φ r then c s else 0) N := smN_cg N (fun s _ _ => by
    by_cases z : s = φ r
    · rw [if_pos z, if_pos z.symm, Int.mul_one]
    · rw [if_neg z, if_neg (fun w => z w.symm), Int.mul_zero])
  show smN (fun s => c s * (if φ r = s then 1 else 0)) N = c (φ r)
  rw [e2, smN_at q.1, if_pos q.2]
/-! groups: sizes Z of sets A, the first n -/
def gsm (A Z : Int → Int) (n : Nat) (h : Int → Int) : Int := smN (fun i => Z i * h (A i)) n
theorem gsm_cg {A Z A1 Z1 : Int → Int} {n : Nat} {h : Int → Int} (e : ∀ i : Int, 0 ≤ i → i < (n : Int) → A1 i = A i ∧ Z1 i = Z i) : gsm A1 Z1 n h = gsm A Z n h := smN_cg n (fun i a b => by
  have q := e i a b
  show Z1 i * h (A1 i) = Z i * h (A i)
  rw [q.1, q.2])
/-- a set more -/
theorem gsm_new {A Z A1 Z1 : Int → Int} {n : Nat} {h : Int → Int} {s z : Int} (e : ∀ i : Int, 0 ≤ i → i < (n : Int) → A1 i = A i ∧ Z1 i = Z i) (ea : A1 (n : Int) = s) (ez : Z1 (n : Int) = z) : gsm A1 Z1 (n + 1) h = gsm A Z n h + z * h s := by
  show gsm A1 Z1 n h + Z1 (n : Int) * h (A1 (n : Int)) = _
  rw [gsm_cg e, ea, ez]
/-- more of a set that is there -/
theorem gsm_old {A Z A1 Z1 : Int → Int} {n : Nat} {h : Int → Int} {p z : Int} (p0 : 0 ≤ p) (p1 : p < (n : Int)) (ea : ∀ i : Int, 0 ≤ i → i < (n : Int) → A1 i = A i) (ez : Z1 p = Z p + z) (ez2 : ∀ i : Int, i ≠ p → Z1 i = Z i) : gsm A1 Z1 n h = gsm A Z n h + z * h (A p) := by
  have e : gsm A1 Z1 n h = smN (fun i => Z i * h (A i) + (if i = p then z * h (A i) else 0)) n := smN_cg n (fun i a b => by
    show Z1 i * h (A1 i) = _
    rw [ea i a b]
    by_cases q : i = p
    · rw [if_pos q, q, ez, Int.add_mul]
    · rw [if_neg q, ez2 i q, Int.add_zero])
  rw [e, smN_add, smN_at p0, if_pos p1]
  rfl
/-- the arms that fit a row, column by column: a row of the first n columns -/
noncomputable def psR (K M : PH) (F : FT) : Nat → Int → Int
  | 0, _ => ishl 1 (M 0 2) - 1
  | n + 1, r => iand (psR K M F n (r / sz K (M 1 (n : Int)))) (msk K F (n : Int) (r % sz K (M 1 (n : Int))) (M 0 2).toNat)
theorem psR_b {K M : PH} {F : FT} (hm : 0 ≤ M 0 2 ∧ M 0 2 ≤ 12) : ∀ (n : Nat) (r : Int), 0 ≤ psR K M F n r ∧ psR K M F n r ≤ 4095 := by
  intro n
  induction n with
  | zero =>
    intro r
    have q := ishl1 12 (by decide) (y := M 0 2) ⟨hm.1, hm.2⟩
    have e : ((2 ^ 12 : Nat) : Int) = 4096 := rfl
    rw [e] at q
    show 0 ≤ ishl 1 (M 0 2) - 1 ∧ ishl 1 (M 0 2) - 1 ≤ 4095
    omega
  | succ n ih =>
    intro r
    have q := ih (r / sz K (M 1 (n : Int)))
    have w := msk_12 (K := K) (F := F) (c := (n : Int)) (v := r % sz K (M 1 (n : Int))) hm
    have w2 : 0 ≤ msk K F (n : Int) (r % sz K (M 1 (n : Int))) (M 0 2).toNat ∧ msk K F (n : Int) (r % sz K (M 1 (n : Int))) (M 0 2).toNat < 4096 := w
    have z := iand_l (x := psR K M F n (r / sz K (M 1 (n : Int)))) (y := msk K F (n : Int) (r % sz K (M 1 (n : Int))) (M 0 2).toNat) ⟨by omega, by omega⟩
    show 0 ≤ iand _ _ ∧ iand _ _ ≤ 4095
    omega
theorem psR_t {K M : PH} {F : FT} (hm : 0 ≤ M 0 2 ∧ M 0 2 ≤ 12) {a : Int} (a0 : 0 ≤ a) : ∀ (n : Nat) (r : Int), (n : Int) ≤ M 0 0 → tb (psR K M F n (rLs K M r (M 0 0 - (n : Int)).toNat)) a = (decide (a < M 0 2) && fitN K M F r a n) := by
  intro n
  induction n with
  | zero =>
    intro r _
    show tb (ishl 1 (M 0 2) - 1) a = (decide (a < M 0 2) && true)
    rw [tb_all ⟨by omega, by omega⟩ a0, Bool.and_true]
  | succ n ih =>
    intro r hn
    obtain ⟨k, hk⟩ : ∃ k : Nat, k = (M 0 0 - ((n + 1 : Nat) : Int)).toNat := ⟨_, rfl⟩
    have e1 : (M 0 0 - (n : Int)).toNat = k + 1 := by omega
    have e2 : M 0 0 - 1 - (k : Int) = (n : Int) := by omega
    have e3 : (M 0 0 - 1 - (n : Int)).toNat = k := by omega
    have q := ih r (by omega)
    rw [e1] at q
    have e4 : rLs K M r (k + 1) = rLs K M r k / sz K (M 1 (M 0 0 - 1 - (k : Int))) := rfl
    rw [e4, e2] at q
    have b1 := psR_b (K := K) (F := F) hm n (rLs K M r k / sz K (M 1 (n : Int)))
    have w := msk_12 (K := K) (F := F) (c := (n : Int)) (v := rLs K M r k % sz K (M 1 (n : Int))) hm
    have w2 : 0 ≤ msk K F (n : Int) (rLs K M r k % sz K (M 1 (n : Int))) (M 0 2).toNat ∧ msk K F (n : Int) (rLs K M r k % sz K (M 1 (n : Int))) (M 0 2).toNat < 4096 := w
    rw [← hk]
    show tb (iand (psR K M F n (rLs K M r k / sz K (M 1 (n : Int)))) (msk K F (n : Int) (rLs K M r k % sz K (M 1 (n : Int))) (M 0 2).toNat)) a = (decide (a < M 0 2) && (fitN K M F r a n && decide (tv K (F a (n : Int)) (vIn K M r (n : Int)) = 1)))
    rw [tb_iand ⟨by omega, by omega⟩ ⟨by omega, by omega⟩, q]
    have ev : vIn K M r (n : Int) = rLs K M r k % sz K (M 1 (n : Int)) := by unfold vIn; rw [e3]
    rw [ev]
    by_cases z : a < M 0 2
    · rw [decide_eq_true z, Bool.true_and, Bool.true_and, tb_msk a0 (by omega)]
    · rw [decide_eq_false z]; simp only [Bool.false_and]
/-- rows of one column more -/
theorem psR_sum {K M : PH} {F : FT} {n : Nat} {h : Int → Int} (hz : 1 ≤ sz K (M 1 (n : Int))) (hp : 0 ≤ pG K M n) : smN (fun r => smN (fun v => h (iand (psR K M F n r) (msk K F (n : Int) v (M 0 2).toNat))) (sz K (M 1 (n : Int))).toNat) (pG K M n).toNat = smN (fun q => h (psR K M F (n + 1) q)) (pG K M (n + 1)).toNat := by
  have e : (pG K M (n + 1)).toNat = (pG K M n).toNat * (sz K (M 1 (n : Int))).toNat := by
    show (pG K M n * sz K (M 1 (n : Int))).toNat = _
    exact Int.toNat_mul hp (by omega)
  rw [e, smN_prod (f := fun r v => h (iand (psR K M F n r) (msk K F (n : Int) v (M 0 2).toNat))) (by omega)]
  refine smN_cg _ (fun q _ _ => ?_)
  rw [show (((sz K (M 1 (n : Int))).toNat : Nat) : Int) = sz K (M 1 (n : Int)) by omega]
  rfl
