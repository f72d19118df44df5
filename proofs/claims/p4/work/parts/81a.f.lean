/-! What the class answers: X3_isKind. -/
set_option maxRecDepth 100000 in
set_option maxHeartbeats 4000000 in
theorem f_X3_isKind (G : GT) (P : PH) (o0 : Nat) (a1 : Int) (k_o0 : kx o0 29) (h_a1 : (-2147483648) ≤ a1 ∧ a1 ≤ 2147483647) (hB : BdX P) (Q : Option PV → PH → Prop) (hQ : ∀ (r : Int) (_ : 0 ≤ r ∧ r ≤ 1) (_ : r = 0 ∨ (0 ≤ a1 ∧ a1 < P o0 9)) (_ : (r = 1 ∧ 0 ≤ a1 ∧ a1 < P o0 9) ∨ (r = 0 ∧ (a1 < 0 ∨ P o0 9 ≤ a1))), Q (some (vI r)) P) : Ct WSX G 1 iX3_isKind [vR o0, vI a1] P Q := by
  sorry
/-! What the class answers: X3_sizeOf. -/
set_option maxRecDepth 100000 in
set_option maxHeartbeats 4000000 in
theorem f_X3_sizeOf (G : GT) (P : PH) (K : PH) (o0 : Nat) (a1 : Int) (k_o0 : kx o0 29) (h_a1 : (-2147483648) ≤ a1 ∧ a1 ≤ 2147483647) (hB : BdX P) (p_kb : -1 ≤ a1 ∧ a1 < K 0 0) (z0 : XK K o0 P) (Q : Option PV → PH → Prop) (hQ : ∀ (r : Int) (_ : (-2147483648) ≤ r ∧ r ≤ 2147483647) (_ : r = sz K a1), Q (some (vI r)) P) : Ct WSX G 1 iX3_sizeOf [vR o0, vI a1] P Q := by
  sorry
/-! What the class answers: X3_consOf. -/
set_option maxRecDepth 100000 in
set_option maxHeartbeats 4000000 in
theorem f_X3_consOf (G : GT) (P : PH) (K : PH) (o0 : Nat) (a1 : Int) (k_o0 : kx o0 29) (h_a1 : (-2147483648) ≤ a1 ∧ a1 ≤ 2147483647) (hB : BdX P) (z0 : XK K o0 P) (Q : Option PV → PH → Prop) (hQ : ∀ (r : Int) (_ : (-2147483648) ≤ r ∧ r ≤ 2147483647) (_ : (0 ≤ a1 ∧ a1 < K 0 0 ∧ r = K 3 a1) ∨ ((a1 < 0 ∨ K 0 0 ≤ a1) ∧ r = 0)), Q (some (vI r)) P) : Ct WSX G 2 iX3_consOf [vR o0, vI a1] P Q := by
  sorry
/-! What the class answers: X3_kindNamed. -/
set_option maxRecDepth 100000 in
set_option maxHeartbeats 4000000 in
theorem f_X3_kindNamed (G : GT) (P : PH) (K : PH) (o0 : Nat) (a1 : Int) (k_o0 : kx o0 29) (h_a1 : (-2147483648) ≤ a1 ∧ a1 ≤ 2147483647) (hB : BdX P) (z0 : XK K o0 P) (Q : Option PV → PH → Prop) (hQ : ∀ (r : Int) (_ : (-1) ≤ r ∧ r ≤ 3) (_ : r = kNm K a1), Q (some (vI r)) P) : Ct WSX G 1 iX3_kindNamed [vR o0, vI a1] P Q := by
  sorry
/-! What the class answers: X3_conNamed. -/
set_option maxRecDepth 100000 in
set_option maxHeartbeats 4000000 in
theorem f_X3_conNamed (G : GT) (P : PH) (K : PH) (o0 : Nat) (a1 : Int) (k_o0 : kx o0 29) (h_a1 : (-2147483648) ≤ a1 ∧ a1 ≤ 2147483647) (hB : BdX P) (z0 : XK K o0 P) (Q : Option PV → PH → Prop) (hQ : ∀ (r : Int) (_ : (-1) ≤ r ∧ r ≤ 23) (_ : r = cNm K a1), Q (some (vI r)) P) : Ct WSX G 1 iX3_conNamed [vR o0, vI a1] P Q := by
  sorry
/-! What the class answers: X3_conNamedOf. -/
set_option maxRecDepth 100000 in
set_option maxHeartbeats 4000000 in
theorem f_X3_conNamedOf (G : GT) (P : PH) (K : PH) (o0 : Nat) (a1 : Int) (a2 : Int) (k_o0 : kx o0 29) (h_a1 : (-2147483648) ≤ a1 ∧ a1 ≤ 2147483647) (h_a2 : (-2147483648) ≤ a2 ∧ a2 ≤ 2147483647) (hB : BdX P) (p_aw : AW K) (p_kb : 0 ≤ a1 ∧ a1 < K 0 0) (z0 : XK K o0 P) (Q : Option PV → PH → Prop) (hQ : ∀ (r : Int) (_ : (-1) ≤ r ∧ r ≤ 23) (_ : (r = -1 ∧ (cNm K a2 = -1 ∨ K 5 (cNm K a2) ≠ a1)) ∨ (r = cNm K a2 ∧ 0 ≤ r ∧ r < K 0 1 ∧ K 5 (cNm K a2) = a1)), Q (some (vI r)) P) : Ct WSX G 2 iX3_conNamedOf [vR o0, vI a1, vI a2] P Q := by
  sorry
/-! What the class answers: X3_clear. -/
set_option maxRecDepth 100000 in
set_option maxHeartbeats 4000000 in
theorem f_X3_clear (G : GT) (P : PH) (o0 : Nat) (k_o0 : kx o0 29) (hB : BdX P) (Q : Option PV → PH → Prop) (hQ : ∀ (P1 : PH) (_ : BdX P1) (_ : FrX ([(29, 9), (29, 10)], []) P P1) (_ : XK K0 o0 P1) (_ : KT (tbX o0) P P1), Q none P1) : Ct WSX G 1 iX3_clear [vR o0] P Q := by
  sorry
/-! What the class answers: X3_addKind. -/
set_option maxRecDepth 100000 in
set_option maxHeartbeats 4000000 in
theorem f_X3_addKind (G : GT) (P : PH) (K : PH) (o0 : Nat) (a1 : Int) (k_o0 : kx o0 29) (h_a1 : (-2147483648) ≤ a1 ∧ a1 ≤ 2147483647) (hB : BdX P) (p_k3 : 0 ≤ K 0 0 ∧ K 0 0 ≤ 3) (z0 : XK K o0 P) (Q : Option PV → PH → Prop) (hQ : ∀ (P1 : PH) (_ : BdX P1) (_ : FrX ([(29, 9)], [30, 31, 32, 33]) P P1) (_ : XK (kNew K a1) o0 P1) (_ : KT (tbX o0) P P1), Q none P1) : Ct WSX G 1 iX3_addKind [vR o0, vI a1] P Q := by
  sorry
/-! What the class answers: X3_addCon. -/
set_option maxRecDepth 100000 in
set_option maxHeartbeats 4000000 in
theorem f_X3_addCon (G : GT) (P : PH) (K : PH) (o0 : Nat) (a1 : Int) (a2 : Int) (a3 : Int) (a4 : Int) (a5 : Int) (k_o0 : kx o0 29) (h_a1 : (-2147483648) ≤ a1 ∧ a1 ≤ 2147483647) (h_a2 : (-2147483648) ≤ a2 ∧ a2 ≤ 2147483647) (h_a3 : (-2147483648) ≤ a3 ∧ a3 ≤ 2147483647) (h_a4 : (-2147483648) ≤ a4 ∧ a4 ≤ 2147483647) (h_a5 : (-2147483648) ≤ a5 ∧ a5 ≤ 2147483647) (hB : BdX P) (p_aw : AW K) (p_l5 : 1 ≤ K 0 0 ∧ K 3 (K 0 0 - 1) ≤ 5) (p_ib : 1 ≤ a5 ∧ a5 ≤ 4012000) (z0 : XK K o0 P) (Q : Option PV → PH → Prop) (hQ : ∀ (P1 : PH) (_ : BdX P1) (_ : FrX ([(29, 10)], [32, 33, 34, 35, 36, 37, 38]) P P1) (_ : XK (cNew K a1 a2 a3 a4 a5) o0 P1) (_ : KT (tbX o0) P P1), Q none P1) : Ct WSX G 2 iX3_addCon [vR o0, vI a1, vI a2, vI a3, vI a4, vI a5] P Q := by
  sorry
/-! What the class answers: X9_clear. -/
set_option maxRecDepth 100000 in
set_option maxHeartbeats 4000000 in
theorem f_X9_clear (G : GT) (P : PH) (o0 : Nat) (k_o0 : kx o0 28) (hB : BdX P) (Q : Option PV → PH → Prop) (hQ : ∀ (P1 : PH) (_ : BdX P1) (_ : FrX ([(28, 6), (28, 7), (28, 8), (28, 9), (28, 10), (29, 9), (29, 10)], []) P P1) (_ : XK K0 (crX o0 0) P1) (_ : XM M0 o0 P1) (_ : KT (tbX o0) P P1), Q none P1) : Ct WSX G 2 iX9_clear [vR o0] P Q := by
  sorry
/-! What the class answers: X9_addArm. -/
set_option maxRecDepth 100000 in
set_option maxHeartbeats 4000000 in
theorem f_X9_addArm (G : GT) (P : PH) (M : PH) (o0 : Nat) (a1 : Int) (k_o0 : kx o0 28) (h_a1 : (-2147483648) ≤ a1 ∧ a1 ≤ 2147483647) (hB : BdX P) (p_a11 : M 0 2 ≤ 11) (z0 : XM M o0 P) (Q : Option PV → PH → Prop) (hQ : ∀ (P1 : PH) (_ : BdX P1) (_ : FrX ([(28, 8)], [42]) P P1) (_ : XM (aNew M a1) o0 P1) (_ : KT (tbX o0) P P1), Q none P1) : Ct WSX G 1 iX9_addArm [vR o0, vI a1] P Q := by
  sorry
/-! What the class answers: X7_isName. -/
set_option maxRecDepth 100000 in
set_option maxHeartbeats 4000000 in
theorem f_X7_isName (G : GT) (P : PH) (T : TT) (p : Int) (hB : BdX P) (z0 : XS T p P) (Q : Option PV → PH → Prop) (hQ : ∀ (r : Int) (_ : 0 ≤ r ∧ r ≤ 1) (_ : (r = 1 ∧ tK T p = 1 ∧ tO T p = -1) ∨ (r = 0 ∧ (tK T p ≠ 1 ∨ tO T p ≠ -1))), Q (some (vI r)) P) : Ct WSX G 1 iX7_isName [vR 111] P Q := by
  sorry
/-! What the class answers: X7_isSign. -/
set_option maxRecDepth 100000 in
set_option maxHeartbeats 4000000 in
theorem f_X7_isSign (G : GT) (P : PH) (T : TT) (p : Int) (a1 : Int) (h_a1 : (-2147483648) ≤ a1 ∧ a1 ≤ 2147483647) (hB : BdX P) (z0 : XS T p P) (Q : Option PV → PH → Prop) (hQ : ∀ (r : Int) (_ : 0 ≤ r ∧ r ≤ 1) (_ : (r = 1 ∧ tK T p = 3 ∧ tV T p = a1) ∨ (r = 0 ∧ (tK T p ≠ 3 ∨ tV T p ≠ a1))), Q (some (vI r)) P) : Ct WSX G 1 iX7_isSign [vR 111, vI a1] P Q := by
  sorry
/-! What the class answers: X7_stepNumber. -/
set_option maxRecDepth 100000 in
set_option maxHeartbeats 4000000 in
theorem f_X7_stepNumber (G : GT) (P : PH) (T : TT) (p : Int) (hB : BdX P) (p_st : P 111 3 = tA T p ∧ P 111 5 = tA T p ∧ P 111 7 = 0 ∧ P 111 8 = -1) (p_nn : 0 ≤ p ∧ p ≤ T.2 ∧ tA T p < T.2 ∧ 48 ≤ T.1 (tA T p) ∧ T.1 (tA T p) ≤ 57 ∧ tJn T p = 0) (v_TX : TX P) (z0 : XT T P) (Q : Option PV → PH → Prop) (hQ : ∀ (P1 : PH) (_ : BdX P1) (_ : FrX ([(46, 3), (46, 4), (46, 6), (46, 7)], []) P P1) (_ : XS T p P1), Q none P1) : Ct WSX G 1 iX7_stepNumber [vR 111] P Q := by
  sorry
/-! What the class answers: X7_stepWord. -/
set_option maxRecDepth 100000 in
set_option maxHeartbeats 4000000 in
theorem f_X7_stepWord (G : GT) (P : PH) (T : TT) (p : Int) (hB : BdX P) (p_st : P 111 3 = tA T p ∧ P 111 5 = tA T p ∧ P 111 7 = 0 ∧ P 111 8 = -1) (p_nn : 0 ≤ p ∧ p ≤ T.2 ∧ tA T p < T.2 ∧ 97 ≤ T.1 (tA T p) ∧ T.1 (tA T p) ≤ 122 ∧ tJn T p = 0) (v_TX : TX P) (v_OWN : OWN P) (z0 : XT T P) (Q : Option PV → PH → Prop) (hQ : ∀ (P1 : PH) (_ : BdX P1) (_ : FrX ([(46, 3), (46, 4), (46, 6), (46, 7), (46, 8)], []) P P1) (_ : XS T p P1), Q none P1) : Ct WSX G 1 iX7_stepWord [vR 111] P Q := by
  sorry
/-! What the class answers: X7_step. -/
set_option maxRecDepth 100000 in
set_option maxHeartbeats 4000000 in
theorem f_X7_step (G : GT) (P : PH) (T : TT) (q : Int) (hB : BdX P) (p_q : P 111 3 = q ∧ 0 ≤ q ∧ q ≤ T.2) (p_bw : ((P 111 4 = 1 ∨ P 111 4 = 2) ∧ jn T q = 1) ∨ (P 111 4 ≠ 1 ∧ P 111 4 ≠ 2 ∧ jn T q = 0)) (v_TX : TX P) (v_OWN : OWN P) (z0 : XT T P) (Q : Option PV → PH → Prop) (hQ : ∀ (P1 : PH) (_ : BdX P1) (_ : FrX ([(46, 3), (46, 4), (46, 5), (46, 6), (46, 7), (46, 8)], []) P P1) (_ : XS T q P1), Q none P1) : Ct WSX G 2 iX7_step [vR 111] P Q := by
  sorry
/-! What the class answers: X7_begin_B16. -/
set_option maxRecDepth 100000 in
set_option maxHeartbeats 4000000 in
theorem f_X7_begin_B16 (G : GT) (P : PH) (T : TT) (hB : BdX P) (p_tx : P 1 1 = T.2 ∧ ∀ i : Int, 0 ≤ i → i < T.2 → P 2 i = T.1 i) (v_OWN : OWN P) (Q : Option PV → PH → Prop) (hQ : ∀ (P1 : PH) (_ : BdX P1) (_ : FrX ([(46, 1), (46, 2), (46, 3), (46, 4), (46, 5), (46, 6), (46, 7), (46, 8)], []) P P1) (_ : TX P1) (_ : XT T P1) (_ : XS T 0 P1), Q none P1) : Ct WSX G 3 iX7_begin [vR 111, vR 1] P Q := by
  sorry
/-! What the class answers: X6_fail. -/
set_option maxRecDepth 100000 in
set_option maxHeartbeats 4000000 in
theorem f_X6_fail (G : GT) (P : PH) (a1 : Int) (a2 : Int) (h_a1 : (-2147483648) ≤ a1 ∧ a1 ≤ 2147483647) (h_a2 : (-2147483648) ≤ a2 ∧ a2 ≤ 2147483647) (hB : BdX P) (Q : Option PV → PH → Prop) (hQ : ∀ (r : Int) (_ : 0 ≤ r ∧ r ≤ 1) (P1 : PH) (_ : BdX P1) (_ : FrX ([(45, 3), (45, 4)], []) P P1) (_ : P1 110 3 = a1 ∧ P1 110 4 = a2 ∧ r = 0), Q (some (vI r)) P1) : Ct WSX G 1 iX6_fail [vR 110, vI a1, vI a2] P Q := by
  sorry
/-! What the class answers: X6_failHere. -/
set_option maxRecDepth 100000 in
set_option maxHeartbeats 4000000 in
theorem f_X6_failHere (G : GT) (P : PH) (T : TT) (p : Int) (hB : BdX P) (z0 : XS T p P) (Q : Option PV → PH → Prop) (hQ : ∀ (r : Int) (_ : 0 ≤ r ∧ r ≤ 1) (P1 : PH) (_ : BdX P1) (_ : FrX ([(45, 3), (45, 4)], []) P P1) (_ : P1 110 3 = 1 ∧ P1 110 4 = fh T p ∧ r = 0), Q (some (vI r)) P1) : Ct WSX G 1 iX6_failHere [vR 110] P Q := by
  sorry
/-! What the class answers: X6_begin_B16. -/
set_option maxRecDepth 100000 in
set_option maxHeartbeats 4000000 in
theorem f_X6_begin_B16 (G : GT) (P : PH) (T : TT) (hB : BdX P) (p_tx : P 1 1 = T.2 ∧ ∀ i : Int, 0 ≤ i → i < T.2 → P 2 i = T.1 i) (v_OWN : OWN P) (Q : Option PV → PH → Prop) (hQ : ∀ (P1 : PH) (_ : BdX P1) (_ : FrX ([(45, 3), (45, 4), (46, 1), (46, 2), (46, 3), (46, 4), (46, 5), (46, 6), (46, 7), (46, 8)], []) P P1) (_ : P1 110 3 = 0 ∧ P1 110 4 = -1) (_ : TX P1) (_ : XT T P1) (_ : XS T 0 P1), Q none P1) : Ct WSX G 4 iX6_begin [vR 110, vR 1] P Q := by
  sorry
/-! What the class answers: X6_readSign. -/
set_option maxRecDepth 100000 in
set_option maxHeartbeats 4000000 in
theorem f_X6_readSign (G : GT) (P : PH) (T : TT) (p : Int) (a1 : Int) (h_a1 : (-2147483648) ≤ a1 ∧ a1 ≤ 2147483647) (hB : BdX P) (v_TX : TX P) (v_OWN : OWN P) (z0 : XT T P) (z1 : XS T p P) (Q : Option PV → PH → Prop) (hQ : ∀ (r : Int) (_ : 0 ≤ r ∧ r ≤ 1) (P1 : PH) (_ : BdX P1) (_ : FrX ([(45, 3), (45, 4), (46, 3), (46, 4), (46, 5), (46, 6), (46, 7), (46, 8)], []) P P1) (_ : (r = 1 ∧ (sgn T a1 p).1 = 0 ∧ P1 110 3 = P 110 3 ∧ P1 110 4 = P 110 4) ∨ (r = 0 ∧ (sgn T a1 p).1 ≠ 0 ∧ P1 110 3 = (sgn T a1 p).1 ∧ P1 110 4 = (sgn T a1 p).2)) (_ : CP (sgn T a1 p).1 (XS T (sgn T a1 p).2) P1), Q (some (vI r)) P1) : Ct WSX G 3 iX6_readSign [vR 110, vI a1] P Q := by
  sorry
/-! What the class answers: X6_readNumber. -/
set_option maxRecDepth 100000 in
set_option maxHeartbeats 4000000 in
theorem f_X6_readNumber (G : GT) (P : PH) (T : TT) (p : Int) (a1 : Int) (a2 : Int) (h_a1 : (-2147483648) ≤ a1 ∧ a1 ≤ 2147483647) (h_a2 : (-2147483648) ≤ a2 ∧ a2 ≤ 2147483647) (hB : BdX P) (p_lo : 0 ≤ a1) (v_TX : TX P) (v_OWN : OWN P) (z0 : XT T P) (z1 : XS T p P) (Q : Option PV → PH → Prop) (hQ : ∀ (r : Int) (_ : (-2147483648) ≤ r ∧ r ≤ 2147483647) (P1 : PH) (_ : BdX P1) (_ : FrX ([(45, 3), (45, 4), (46, 3), (46, 4), (46, 5), (46, 6), (46, 7), (46, 8)], []) P P1) (_ : (r = tV T p ∧ a1 ≤ r ∧ r ≤ a2 ∧ (num T a1 a2 p).1 = 0 ∧ P1 110 3 = P 110 3 ∧ P1 110 4 = P 110 4) ∨ (r = -1 ∧ (num T a1 a2 p).1 ≠ 0 ∧ P1 110 3 = (num T a1 a2 p).1 ∧ P1 110 4 = (num T a1 a2 p).2)) (_ : CP (num T a1 a2 p).1 (XS T (num T a1 a2 p).2) P1), Q (some (vI r)) P1) : Ct WSX G 3 iX6_readNumber [vR 110, vI a1, vI a2] P Q := by
  sorry
/-! What the class answers: X6_readRule. -/
set_option maxRecDepth 100000 in
set_option maxHeartbeats 4000000 in
theorem f_X6_readRule (G : GT) (P : PH) (T : TT) (p : Int) (M : PH) (o : Nat) (k_o : kx o 28) (hB : BdX P) (p_k0 : tO T p = 5) (v_TX : TX P) (v_OWN : OWN P) (z0 : XT T P) (z1 : XS T p P) (z2 : XM M o P) (z3 : RT o P) (Q : Option PV → PH → Prop) (hQ : ∀ (r : Int) (_ : 0 ≤ r ∧ r ≤ 1) (P1 : PH) (_ : BdX P1) (_ : FrX ([(28, 9), (45, 3), (45, 4), (46, 3), (46, 4), (46, 5), (46, 6), (46, 7), (46, 8)], []) P P1) (_ : (r = 1 ∧ (num T 0 3 (tE T p)).1 = 0 ∧ P1 110 3 = P 110 3 ∧ P1 110 4 = P 110 4) ∨ (r = 0 ∧ (num T 0 3 (tE T p)).1 ≠ 0 ∧ P1 110 3 = (num T 0 3 (tE T p)).1 ∧ P1 110 4 = (num T 0 3 (tE T p)).2)) (_ : CP (num T 0 3 (tE T p)).1 (XS T (num T 0 3 (tE T p)).2) P1) (_ : CP (num T 0 3 (tE T p)).1 (XM (up M 0 3 (tV T (tE T p))) o) P1) (_ : KT (tbX o) P P1), Q (some (vI r)) P1) : Ct WSX G 4 iX6_readRule [vR 110] P Q := by
  sorry
/-! What the class answers: X6_readBudget. -/
set_option maxRecDepth 100000 in
set_option maxHeartbeats 4000000 in
theorem f_X6_readBudget (G : GT) (P : PH) (T : TT) (p : Int) (M : PH) (o : Nat) (k_o : kx o 28) (hB : BdX P) (p_k0 : tO T p = 6) (v_TX : TX P) (v_OWN : OWN P) (z0 : XT T P) (z1 : XS T p P) (z2 : XM M o P) (z3 : RT o P) (Q : Option PV → PH → Prop) (hQ : ∀ (r : Int) (_ : 0 ≤ r ∧ r ≤ 1) (P1 : PH) (_ : BdX P1) (_ : FrX ([(28, 10), (45, 3), (45, 4), (46, 3), (46, 4), (46, 5), (46, 6), (46, 7), (46, 8)], []) P P1) (_ : (r = 1 ∧ (num T 1 999 (tE T p)).1 = 0 ∧ P1 110 3 = P 110 3 ∧ P1 110 4 = P 110 4) ∨ (r = 0 ∧ (num T 1 999 (tE T p)).1 ≠ 0 ∧ P1 110 3 = (num T 1 999 (tE T p)).1 ∧ P1 110 4 = (num T 1 999 (tE T p)).2)) (_ : CP (num T 1 999 (tE T p)).1 (XS T (num T 1 999 (tE T p)).2) P1) (_ : CP (num T 1 999 (tE T p)).1 (XM (up M 0 4 (tV T (tE T p))) o) P1) (_ : KT (tbX o) P P1), Q (some (vI r)) P1) : Ct WSX G 4 iX6_readBudget [vR 110] P Q := by
  sorry
/-! What the class answers: X9_addColumn. -/
set_option maxRecDepth 100000 in
set_option maxHeartbeats 4000000 in
theorem f_X9_addColumn (G : GT) (P : PH) (K : PH) (M : PH) (i : Int) (o0 : Nat) (a1 : Int) (k_o0 : kx o0 28) (h_a1 : (-2147483648) ≤ a1 ∧ a1 ≤ 2147483647) (hB : BdX P) (p_aw : AW K) (p_kb : -1 ≤ a1 ∧ a1 < K 0 0) (p_m4 : 0 ≤ M 0 0 ∧ M 0 0 ≤ 3) (p_ri : (M 0 0 = 0 ∧ i = 1) ∨ (1 ≤ M 0 0 ∧ i = M 0 1)) (p_rb : 1 ≤ i ∧ i ≤ 20000 ∧ 1 ≤ sz K a1) (z0 : XK K (crX o0 0) P) (z1 : XM M o0 P) (Q : Option PV → PH → Prop) (hQ : ∀ (P1 : PH) (_ : BdX P1) (_ : FrX ([(28, 6), (28, 7)], [39, 40, 41, 44]) P P1) (_ : XM (mCol M a1 (i * sz K a1)) o0 P1) (_ : KT (tbX o0) P P1), Q none P1) : Ct WSX G 2 iX9_addColumn [vR o0, vI a1] P Q := by
  sorry
/-! What the class answers: X6_isNewName. -/
set_option maxRecDepth 100000 in
set_option maxHeartbeats 4000000 in
theorem f_X6_isNewName (G : GT) (P : PH) (T : TT) (K : PH) (p : Int) (o : Nat) (k_o : kx o 28) (hB : BdX P) (p_aw : AW K) (z0 : XS T p P) (z1 : XK K (crX o 0) P) (z2 : RT o P) (Q : Option PV → PH → Prop) (hQ : ∀ (r : Int) (_ : 0 ≤ r ∧ r ≤ 1) (P1 : PH) (_ : BdX P1) (_ : FrX ([(45, 3), (45, 4)], []) P P1) (_ : (r = 1 ∧ (fre T K p).1 = 0 ∧ P1 110 3 = P 110 3 ∧ P1 110 4 = P 110 4 ∧ tK T p = 1) ∨ (r = 0 ∧ (fre T K p).1 ≠ 0 ∧ P1 110 3 = (fre T K p).1 ∧ P1 110 4 = (fre T K p).2)), Q (some (vI r)) P1) : Ct WSX G 2 iX6_isNewName [vR 110] P Q := by
  sorry
/-! What the class answers: X6_readKind. -/
set_option maxRecDepth 100000 in
set_option maxHeartbeats 4000000 in
theorem f_X6_readKind (G : GT) (P : PH) (T : TT) (K : PH) (M : PH) (p : Int) (o : Nat) (k_o : kx o 28) (hB : BdX P) (p_aw : AW K) (p_k0 : tO T p = 0) (v_TX : TX P) (v_OWN : OWN P) (z0 : XT T P) (z1 : XS T p P) (z2 : XK K (crX o 0) P) (z3 : XM M o P) (z4 : RT o P) (Q : Option PV → PH → Prop) (hQ : ∀ (r : Int) (_ : 0 ≤ r ∧ r ≤ 1) (P1 : PH) (_ : BdX P1) (_ : FrX ([(29, 9), (45, 3), (45, 4), (46, 3), (46, 4), (46, 5), (46, 6), (46, 7), (46, 8)], [30, 31, 32, 33]) P P1) (_ : (r = 1 ∧ (sKi T K M p).1 = 0 ∧ P1 110 3 = P 110 3 ∧ P1 110 4 = P 110 4) ∨ (r = 0 ∧ (sKi T K M p).1 ≠ 0 ∧ P1 110 3 = (sKi T K M p).1 ∧ P1 110 4 = (sKi T K M p).2)) (_ : CP (sKi T K M p).1 (XS T (sKi T K M p).2) P1) (_ : CP (sKi T K M p).1 (XK (kNew K (tV T (tE T p))) (crX o 0)) P1) (_ : KT (tbX o) P P1), Q (some (vI r)) P1) : Ct WSX G 3 iX6_readKind [vR 110] P Q := by
  sorry
/-! What the class answers: X6_isKindWord. -/
set_option maxRecDepth 100000 in
set_option maxHeartbeats 4000000 in
theorem f_X6_isKindWord (G : GT) (P : PH) (T : TT) (p : Int) (hB : BdX P) (z0 : XS T p P) (Q : Option PV → PH → Prop) (hQ : ∀ (r : Int) (_ : 0 ≤ r ∧ r ≤ 1) (_ : (r = 1 ∧ tK T p = 1 ∧ (tO T p = -1 ∨ tO T p = 7)) ∨ (r = 0 ∧ (tK T p ≠ 1 ∨ (tO T p ≠ -1 ∧ tO T p ≠ 7)))), Q (some (vI r)) P) : Ct WSX G 2 iX6_isKindWord [vR 110] P Q := by
  sorry
/-! What the class answers: X6_kindHere. -/
set_option maxRecDepth 100000 in
set_option maxHeartbeats 4000000 in
theorem f_X6_kindHere (G : GT) (P : PH) (T : TT) (K : PH) (p : Int) (o : Nat) (k_o : kx o 28) (hB : BdX P) (p_kw : tK T p = 1 ∧ (tO T p = -1 ∨ tO T p = 7)) (z0 : XS T p P) (z1 : XK K (crX o 0) P) (z2 : RT o P) (Q : Option PV → PH → Prop) (hQ : ∀ (r : Int) (_ : (-1) ≤ r ∧ r ≤ 3) (_ : r = kHe T K p), Q (some (vI r)) P) : Ct WSX G 2 iX6_kindHere [vR 110] P Q := by
  sorry
/-! What the class answers: X6_isKindHere. -/
set_option maxRecDepth 100000 in
set_option maxHeartbeats 4000000 in
theorem f_X6_isKindHere (G : GT) (P : PH) (T : TT) (K : PH) (p : Int) (o : Nat) (k_o : kx o 28) (a1 : Int) (h_a1 : (-2147483648) ≤ a1 ∧ a1 ≤ 2147483647) (hB : BdX P) (p_aw : AW K) (p_kw : tK T p = 1 ∧ (tO T p = -1 ∨ tO T p = 7)) (z0 : XS T p P) (z1 : XK K (crX o 0) P) (z2 : RT o P) (Q : Option PV → PH → Prop) (hQ : ∀ (r : Int) (_ : 0 ≤ r ∧ r ≤ 1) (_ : (r = 1 ∧ (tO T p = 7 ∨ (kHe T K p ≠ -1 ∧ kHe T K p ≠ a1 ∧ 1 ≤ K 3 (kHe T K p)))) ∨ (r = 0 ∧ tO T p = -1 ∧ (kHe T K p = -1 ∨ kHe T K p = a1 ∨ K 3 (kHe T K p) ≤ 0))), Q (some (vI r)) P) : Ct WSX G 3 iX6_isKindHere [vR 110, vI a1] P Q := by
  sorry
