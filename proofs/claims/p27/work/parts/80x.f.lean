/-! What the class answers: X11_end. -/
set_option maxRecDepth 100000 in
set_option maxHeartbeats 4000000 in
theorem f_X11_end (G : GT) (P : PH) (T : TT) (a1 : Int) (h_a1 : (-2147483648) ≤ a1 ∧ a1 ≤ 2147483647) (hB : BdX P) (z0 : CX T P) (Q : Option PV → PH → Prop) (hQ : ∀ (r : Int) (_ : 0 ≤ r ∧ r ≤ 1) (P1 : PH) (_ : BdX P1) (_ : FrX ([(1, 1)], [27]) P P1) (_ : (0 ≤ a1 ∧ a1 ≤ P 1 1 ∧ r = 1 ∧ P1 1 1 = a1) ∨ ((a1 < 0 ∨ P 1 1 < a1) ∧ r = 0 ∧ P1 1 1 = P 1 1)) (_ : CX (fe T a1) P1), Q (some (vI r)) P1) : Ct WSX G 2 iX11_end [vR 0, vI a1] P Q := by
  sorry
/-! What the class answers: X11_fault. -/
set_option maxRecDepth 100000 in
set_option maxHeartbeats 4000000 in
theorem f_X11_fault (G : GT) (P : PH) (a1 : Int) (h_a1 : (-2147483648) ≤ a1 ∧ a1 ≤ 2147483647) (hB : BdX P) (Q : Option PV → PH → Prop) (hQ : ∀ (r : Int) (_ : (-2147483648) ≤ r ∧ r ≤ 2147483647) (_ : (a1 = 0 ∧ r = P 110 3) ∨ (a1 = 1 ∧ r = P 110 4) ∨ (a1 ≠ 0 ∧ a1 ≠ 1 ∧ r = -1)), Q (some (vI r)) P) : Ct WSX G 1 iX11_fault [vR 0, vI a1] P Q := by
  sorry
/-! What the class answers: X11_feed. -/
set_option maxRecDepth 100000 in
set_option maxHeartbeats 4000000 in
theorem f_X11_feed (G : GT) (P : PH) (T : TT) (a1 : Int) (a2 : Int) (a3 : Int) (a4 : Int) (a5 : Int) (h_a1 : (-2147483648) ≤ a1 ∧ a1 ≤ 2147483647) (h_a2 : (-2147483648) ≤ a2 ∧ a2 ≤ 2147483647) (h_a3 : (-2147483648) ≤ a3 ∧ a3 ≤ 2147483647) (h_a4 : (-2147483648) ≤ a4 ∧ a4 ≤ 2147483647) (h_a5 : (-2147483648) ≤ a5 ∧ a5 ≤ 2147483647) (hB : BdX P) (z0 : CX T P) (Q : Option PV → PH → Prop) (hQ : ∀ (r : Int) (_ : (-2147483648) ≤ r ∧ r ≤ 2147483647) (P1 : PH) (_ : BdX P1) (_ : FrX ([(1, 1)], [2, 27]) P P1) (_ : (P 1 1 ≤ 1580 ∧ r = P 1 1 + 20 ∧ P1 1 1 = P 1 1 + 20) ∨ (1580 < P 1 1 ∧ r = -1 ∧ P1 1 1 = P 1 1)) (_ : CX (ff T a1 a2 a3 a4 a5) P1), Q (some (vI r)) P1) : Ct WSX G 3 iX11_feed [vR 0, vI a1, vI a2, vI a3, vI a4, vI a5] P Q := by
  sorry
/-! What the class answers: X11_letter. -/
set_option maxRecDepth 100000 in
set_option maxHeartbeats 4000000 in
theorem f_X11_letter (G : GT) (P : PH) (K : PH) (M : PH) (a1 : Int) (a2 : Int) (a3 : Int) (h_a1 : (-2147483648) ≤ a1 ∧ a1 ≤ 2147483647) (h_a2 : (-2147483648) ≤ a2 ∧ a2 ≤ 2147483647) (h_a3 : (-2147483648) ≤ a3 ∧ a3 ≤ 2147483647) (hB : BdX P) (p_aw : AW K) (p_an : AN K) (z0 : XTB K M P) (Q : Option PV → PH → Prop) (hQ : ∀ (r : Int) (_ : (-2147483648) ≤ r ∧ r ≤ 2147483647) (_ : r = ltr K a1 a2 a3), Q (some (vI r)) P) : Ct WSX G 2 iX11_letter [vR 0, vI a1, vI a2, vI a3] P Q := by
  sorry
/-! What the class answers: X11_letterOf. -/
set_option maxRecDepth 100000 in
set_option maxHeartbeats 4000000 in
theorem f_X11_letterOf (G : GT) (P : PH) (a1 : Int) (a2 : Int) (h_a1 : (-2147483648) ≤ a1 ∧ a1 ≤ 2147483647) (h_a2 : (-2147483648) ≤ a2 ∧ a2 ≤ 2147483647) (hB : BdX P) (p_n : 0 ≤ a1) (p_k : 0 ≤ a2 ∧ a2 ≤ 5) (Q : Option PV → PH → Prop) (hQ : ∀ (r : Int) (_ : (-2147483648) ≤ r ∧ r ≤ 2147483647) (_ : r = lt a1 a2), Q (some (vI r)) P) : Ct WSX G 1 iX11_letterOf [vI a1, vI a2] P Q := by
  sorry
/-! What the class answers: X11_match. -/
set_option maxRecDepth 100000 in
set_option maxHeartbeats 4000000 in
theorem f_X11_match (G : GT) (P : PH) (T : TT) (K : PH) (M : PH) (hB : BdX P) (p_tx : P 1 1 = T.2 ∧ ∀ i : Int, 0 ≤ i → i < T.2 → P 2 i = T.1 i) (p_ts : P 0 10 ≠ P 0 11) (v_OWN : OWN P) (z0 : XTB K M P) (z1 : XZT K M P) (Q : Option PV → PH → Prop) (hQ : ∀ (r : Int) (_ : (-2147483648) ≤ r ∧ r ≤ 2147483647) (P1 : PH) (_ : BdX P1) (_ : FrX ([(0, 10), (0, 11), (1, 1), (5, 2), (8, 3), (11, 3), (14, 1), (14, 2), (14, 3), (16, 5), (16, 7), (22, 2), (28, 6), (28, 7), (28, 8), (28, 9), (28, 10), (29, 9), (29, 10), (45, 2), (45, 3), (45, 4), (46, 1), (46, 2), (46, 3), (46, 4), (46, 5), (46, 6), (46, 7), (46, 8), (51, 13)], [6, 7, 9, 10, 12, 13, 15, 27, 30, 31, 32, 33, 34, 35, 36, 37, 38, 39, 40, 41, 42, 44, 50]) P P1) (_ : P1 1 1 = 0) (_ : (r = -1 ∧ (mlR T).1 ≠ 0) ∨ (r = (mlR T).2.1 ∧ (mlR T).1 = 0)) (_ : (r = -1 ∧ P1 0 10 = P 0 10 ∧ P1 0 11 = P 0 11) ∨ (0 ≤ r ∧ P1 0 10 = P 0 11 ∧ P1 0 11 = P 0 10)) (_ : (r = -1 ∧ P1 110 3 = (mlR T).1 ∧ P1 110 4 = (mlR T).2.1) ∨ (0 ≤ r ∧ P1 110 3 = 0 ∧ P1 110 4 = -1)) (_ : XTB (kmR T K) (mmR T M) P1) (_ : XZT (kmR T K) (mmR T M) P1), Q (some (vI r)) P1) : Ct WSX G 27 iX11_match [vR 0] P Q := by
  sorry
/-! What the class answers: X11_matched. -/
set_option maxRecDepth 100000 in
set_option maxHeartbeats 4000000 in
theorem f_X11_matched (G : GT) (P : PH) (K : PH) (M : PH) (hB : BdX P) (z0 : XTB K M P) (Q : Option PV → PH → Prop) (hQ : ∀ (r : Int) (_ : 0 ≤ r ∧ r ≤ 1) (_ : (r = 1 ∧ 0 < M 0 0) ∨ (r = 0 ∧ M 0 0 ≤ 0)), Q (some (vI r)) P) : Ct WSX G 1 iX11_matched [vR 0] P Q := by
  sorry
/-! What the class answers: X11_row. -/
set_option maxRecDepth 100000 in
set_option maxHeartbeats 4000000 in
theorem f_X11_row (G : GT) (P : PH) (T : TT) (K : PH) (M : PH) (hB : BdX P) (p_tx : P 1 1 = T.2 ∧ ∀ i : Int, 0 ≤ i → i < T.2 → P 2 i = T.1 i) (p_aw : AW K) (p_ab : AB K) (p_av : AV K M) (p_az : AZ K M) (p_ar : AR K M) (v_OWN : OWN P) (z0 : XTB K M P) (z1 : XZT K M P) (Q : Option PV → PH → Prop) (hQ : ∀ (r : Int) (_ : (-2147483648) ≤ r ∧ r ≤ 2147483647) (P1 : PH) (_ : BdX P1) (_ : FrX ([(1, 1), (45, 2), (45, 3), (45, 4), (46, 1), (46, 2), (46, 3), (46, 4), (46, 5), (46, 6), (46, 7), (46, 8)], [27]) P P1) (_ : P1 1 1 = 0) (_ : (r = -1 ∧ (rwR T K M).1 ≠ 0) ∨ (r = (rwR T K M).2.2 ∧ 0 ≤ r ∧ (rwR T K M).1 = 0)) (_ : P1 110 3 = (rwR T K M).1 ∧ P1 110 4 = (rwR T K M).2.1), Q (some (vI r)) P1) : Ct WSX G 13 iX11_row [vR 0] P Q := by
  sorry
/-! What the class answers: X11_values. -/
set_option maxRecDepth 100000 in
set_option maxHeartbeats 4000000 in
theorem f_X11_values (G : GT) (P : PH) (K : PH) (M : PH) (a1 : Int) (h_a1 : (-2147483648) ≤ a1 ∧ a1 ≤ 2147483647) (hB : BdX P) (p_aw : AW K) (z0 : XTB K M P) (Q : Option PV → PH → Prop) (hQ : ∀ (r : Int) (_ : (-2147483648) ≤ r ∧ r ≤ 2147483647) (_ : r = vls K M a1), Q (some (vI r)) P) : Ct WSX G 2 iX11_values [vR 0, vI a1] P Q := by
  sorry
/-! What the class answers: X1_addFour_B16. -/
set_option maxRecDepth 100000 in
set_option maxHeartbeats 4000000 in
theorem f_X1_addFour_B16 (G : GT) (P : PH) (T : TT) (a1 : Int) (h_a1 : (-2147483648) ≤ a1 ∧ a1 ≤ 2147483647) (hB : BdX P) (p_l4 : P 1 1 ≤ 1596) (z0 : CX T P) (Q : Option PV → PH → Prop) (hQ : ∀ (P1 : PH) (_ : BdX P1) (_ : FrX ([(1, 1)], [2]) P P1) (_ : 1596 < P 1 1 ∨ P1 1 1 = P 1 1 + 4) (_ : CX (tput T a1 4) P1), Q none P1) : Ct WSX G 2 iX1_addFour [vR 1, vI a1] P Q := by
  sorry
/-! What the class answers: X1_add_B16. -/
set_option maxRecDepth 100000 in
set_option maxHeartbeats 4000000 in
theorem f_X1_add_B16 (G : GT) (P : PH) (T : TT) (a1 : Int) (h_a1 : (-2147483648) ≤ a1 ∧ a1 ≤ 2147483647) (hB : BdX P) (p_l9 : P 1 1 ≤ 1599) (z0 : CX T P) (Q : Option PV → PH → Prop) (hQ : ∀ (P1 : PH) (_ : BdX P1) (_ : FrX ([(1, 1)], [2]) P P1) (_ : (P 1 1 ≤ 1599 ∧ P1 1 1 = P 1 1 + 1) ∨ (1600 ≤ P 1 1 ∧ P1 1 1 = P 1 1)) (_ : CX (tadd T (iand a1 255)) P1), Q none P1) : Ct WSX G 1 iX1_add [vR 1, vI a1] P Q := by
  sorry
/-! What the class answers: X3_addCon. -/
set_option maxRecDepth 100000 in
set_option maxHeartbeats 4000000 in
theorem f_X3_addCon (G : GT) (P : PH) (K : PH) (o0 : Nat) (a1 : Int) (a2 : Int) (a3 : Int) (a4 : Int) (a5 : Int) (k_o0 : kx o0 29) (h_a1 : (-2147483648) ≤ a1 ∧ a1 ≤ 2147483647) (h_a2 : (-2147483648) ≤ a2 ∧ a2 ≤ 2147483647) (h_a3 : (-2147483648) ≤ a3 ∧ a3 ≤ 2147483647) (h_a4 : (-2147483648) ≤ a4 ∧ a4 ≤ 2147483647) (h_a5 : (-2147483648) ≤ a5 ∧ a5 ≤ 2147483647) (hB : BdX P) (p_aw : AW K) (p_l5 : 1 ≤ K 0 0 ∧ K 3 (K 0 0 - 1) ≤ 5) (p_ib : 1 ≤ a5 ∧ a5 ≤ 4012000) (z0 : XK K o0 P) (Q : Option PV → PH → Prop) (hQ : ∀ (P1 : PH) (_ : BdX P1) (_ : FrX ([(29, 10)], [32, 33, 34, 35, 36, 37, 38]) P P1) (_ : XK (cNew K a1 a2 a3 a4 a5) o0 P1) (_ : KT (tbX o0) P P1), Q none P1) : Ct WSX G 2 iX3_addCon [vR o0, vI a1, vI a2, vI a3, vI a4, vI a5] P Q := by
  sorry
/-! What the class answers: X3_addKind. -/
set_option maxRecDepth 100000 in
set_option maxHeartbeats 4000000 in
theorem f_X3_addKind (G : GT) (P : PH) (K : PH) (o0 : Nat) (a1 : Int) (k_o0 : kx o0 29) (h_a1 : (-2147483648) ≤ a1 ∧ a1 ≤ 2147483647) (hB : BdX P) (p_k3 : 0 ≤ K 0 0 ∧ K 0 0 ≤ 3) (z0 : XK K o0 P) (Q : Option PV → PH → Prop) (hQ : ∀ (P1 : PH) (_ : BdX P1) (_ : FrX ([(29, 9)], [30, 31, 32, 33]) P P1) (_ : XK (kNew K a1) o0 P1) (_ : KT (tbX o0) P P1), Q none P1) : Ct WSX G 1 iX3_addKind [vR o0, vI a1] P Q := by
  sorry
/-! What the class answers: X3_clear. -/
set_option maxRecDepth 100000 in
set_option maxHeartbeats 4000000 in
theorem f_X3_clear (G : GT) (P : PH) (o0 : Nat) (k_o0 : kx o0 29) (hB : BdX P) (Q : Option PV → PH → Prop) (hQ : ∀ (P1 : PH) (_ : BdX P1) (_ : FrX ([(29, 9), (29, 10)], []) P P1) (_ : XK K0 o0 P1) (_ : KT (tbX o0) P P1), Q none P1) : Ct WSX G 1 iX3_clear [vR o0] P Q := by
  sorry
/-! What the class answers: X3_conNamed. -/
set_option maxRecDepth 100000 in
set_option maxHeartbeats 4000000 in
theorem f_X3_conNamed (G : GT) (P : PH) (K : PH) (o0 : Nat) (a1 : Int) (k_o0 : kx o0 29) (h_a1 : (-2147483648) ≤ a1 ∧ a1 ≤ 2147483647) (hB : BdX P) (z0 : XK K o0 P) (Q : Option PV → PH → Prop) (hQ : ∀ (r : Int) (_ : (-1) ≤ r ∧ r ≤ 23) (_ : r = cNm K a1), Q (some (vI r)) P) : Ct WSX G 1 iX3_conNamed [vR o0, vI a1] P Q := by
  sorry
/-! What the class answers: X3_conNamedOf. -/
set_option maxRecDepth 100000 in
set_option maxHeartbeats 4000000 in
theorem f_X3_conNamedOf (G : GT) (P : PH) (K : PH) (o0 : Nat) (a1 : Int) (a2 : Int) (k_o0 : kx o0 29) (h_a1 : (-2147483648) ≤ a1 ∧ a1 ≤ 2147483647) (h_a2 : (-2147483648) ≤ a2 ∧ a2 ≤ 2147483647) (hB : BdX P) (p_aw : AW K) (p_kb : 0 ≤ a1 ∧ a1 < K 0 0) (z0 : XK K o0 P) (Q : Option PV → PH → Prop) (hQ : ∀ (r : Int) (_ : (-1) ≤ r ∧ r ≤ 23) (_ : (r = -1 ∧ (cNm K a2 = -1 ∨ K 5 (cNm K a2) ≠ a1)) ∨ (r = cNm K a2 ∧ 0 ≤ r ∧ r < K 0 1 ∧ K 5 (cNm K a2) = a1)), Q (some (vI r)) P) : Ct WSX G 2 iX3_conNamedOf [vR o0, vI a1, vI a2] P Q := by
  sorry
/-! What the class answers: X3_consOf. -/
set_option maxRecDepth 100000 in
set_option maxHeartbeats 4000000 in
theorem f_X3_consOf (G : GT) (P : PH) (K : PH) (o0 : Nat) (a1 : Int) (k_o0 : kx o0 29) (h_a1 : (-2147483648) ≤ a1 ∧ a1 ≤ 2147483647) (hB : BdX P) (z0 : XK K o0 P) (Q : Option PV → PH → Prop) (hQ : ∀ (r : Int) (_ : (-2147483648) ≤ r ∧ r ≤ 2147483647) (_ : (0 ≤ a1 ∧ a1 < K 0 0 ∧ r = K 3 a1) ∨ ((a1 < 0 ∨ K 0 0 ≤ a1) ∧ r = 0)), Q (some (vI r)) P) : Ct WSX G 2 iX3_consOf [vR o0, vI a1] P Q := by
  sorry
/-! What the class answers: X3_isCon. -/
set_option maxRecDepth 100000 in
set_option maxHeartbeats 4000000 in
theorem f_X3_isCon (G : GT) (P : PH) (o0 : Nat) (a1 : Int) (k_o0 : kx o0 29) (h_a1 : (-2147483648) ≤ a1 ∧ a1 ≤ 2147483647) (hB : BdX P) (Q : Option PV → PH → Prop) (hQ : ∀ (r : Int) (_ : 0 ≤ r ∧ r ≤ 1) (_ : r = 0 ∨ (0 ≤ a1 ∧ a1 < P o0 10)) (_ : (r = 1 ∧ 0 ≤ a1 ∧ a1 < P o0 10) ∨ (r = 0 ∧ (a1 < 0 ∨ P o0 10 ≤ a1))), Q (some (vI r)) P) : Ct WSX G 1 iX3_isCon [vR o0, vI a1] P Q := by
  sorry
/-! What the class answers: X3_isKind. -/
set_option maxRecDepth 100000 in
set_option maxHeartbeats 4000000 in
theorem f_X3_isKind (G : GT) (P : PH) (o0 : Nat) (a1 : Int) (k_o0 : kx o0 29) (h_a1 : (-2147483648) ≤ a1 ∧ a1 ≤ 2147483647) (hB : BdX P) (Q : Option PV → PH → Prop) (hQ : ∀ (r : Int) (_ : 0 ≤ r ∧ r ≤ 1) (_ : r = 0 ∨ (0 ≤ a1 ∧ a1 < P o0 9)) (_ : (r = 1 ∧ 0 ≤ a1 ∧ a1 < P o0 9) ∨ (r = 0 ∧ (a1 < 0 ∨ P o0 9 ≤ a1))), Q (some (vI r)) P) : Ct WSX G 1 iX3_isKind [vR o0, vI a1] P Q := by
  sorry
/-! What the class answers: X3_kindNamed. -/
set_option maxRecDepth 100000 in
set_option maxHeartbeats 4000000 in
theorem f_X3_kindNamed (G : GT) (P : PH) (K : PH) (o0 : Nat) (a1 : Int) (k_o0 : kx o0 29) (h_a1 : (-2147483648) ≤ a1 ∧ a1 ≤ 2147483647) (hB : BdX P) (z0 : XK K o0 P) (Q : Option PV → PH → Prop) (hQ : ∀ (r : Int) (_ : (-1) ≤ r ∧ r ≤ 3) (_ : r = kNm K a1), Q (some (vI r)) P) : Ct WSX G 1 iX3_kindNamed [vR o0, vI a1] P Q := by
  sorry
/-! What the class answers: X3_secondSize. -/
set_option maxRecDepth 100000 in
set_option maxHeartbeats 4000000 in
theorem f_X3_secondSize (G : GT) (P : PH) (K : PH) (o0 : Nat) (a1 : Int) (k_o0 : kx o0 29) (h_a1 : (-2147483648) ≤ a1 ∧ a1 ≤ 2147483647) (hB : BdX P) (p_aw : AW K) (p_cb : 0 ≤ a1 ∧ a1 < K 0 1) (z0 : XK K o0 P) (Q : Option PV → PH → Prop) (hQ : ∀ (r : Int) (_ : (-2147483648) ≤ r ∧ r ≤ 2147483647) (_ : (K 6 a1 = 2 ∧ r = sz K (K 8 a1)) ∨ (K 6 a1 ≠ 2 ∧ r = 1)), Q (some (vI r)) P) : Ct WSX G 2 iX3_secondSize [vR o0, vI a1] P Q := by
  sorry
/-! What the class answers: X3_sizeOf. -/
set_option maxRecDepth 100000 in
set_option maxHeartbeats 4000000 in
theorem f_X3_sizeOf (G : GT) (P : PH) (K : PH) (o0 : Nat) (a1 : Int) (k_o0 : kx o0 29) (h_a1 : (-2147483648) ≤ a1 ∧ a1 ≤ 2147483647) (hB : BdX P) (p_kb : -1 ≤ a1 ∧ a1 < K 0 0) (z0 : XK K o0 P) (Q : Option PV → PH → Prop) (hQ : ∀ (r : Int) (_ : (-2147483648) ≤ r ∧ r ≤ 2147483647) (_ : r = sz K a1), Q (some (vI r)) P) : Ct WSX G 1 iX3_sizeOf [vR o0, vI a1] P Q := by
  sorry
/-! What the class answers: X6_begin_B16. -/
set_option maxRecDepth 100000 in
set_option maxHeartbeats 4000000 in
theorem f_X6_begin_B16 (G : GT) (P : PH) (T : TT) (hB : BdX P) (p_tx : P 1 1 = T.2 ∧ ∀ i : Int, 0 ≤ i → i < T.2 → P 2 i = T.1 i) (v_OWN : OWN P) (Q : Option PV → PH → Prop) (hQ : ∀ (P1 : PH) (_ : BdX P1) (_ : FrX ([(45, 3), (45, 4), (46, 1), (46, 2), (46, 3), (46, 4), (46, 5), (46, 6), (46, 7), (46, 8)], []) P P1) (_ : P1 110 3 = 0 ∧ P1 110 4 = -1) (_ : TX P1) (_ : XT T P1) (_ : XS T 0 P1), Q none P1) : Ct WSX G 4 iX6_begin [vR 110, vR 1] P Q := by
  sorry
/-! What the class answers: X6_fail. -/
set_option maxRecDepth 100000 in
set_option maxHeartbeats 4000000 in
theorem f_X6_fail (G : GT) (P : PH) (a1 : Int) (a2 : Int) (h_a1 : (-2147483648) ≤ a1 ∧ a1 ≤ 2147483647) (h_a2 : (-2147483648) ≤ a2 ∧ a2 ≤ 2147483647) (hB : BdX P) (Q : Option PV → PH → Prop) (hQ : ∀ (r : Int) (_ : 0 ≤ r ∧ r ≤ 1) (P1 : PH) (_ : BdX P1) (_ : FrX ([(45, 3), (45, 4)], []) P P1) (_ : P1 110 3 = a1 ∧ P1 110 4 = a2 ∧ r = 0), Q (some (vI r)) P1) : Ct WSX G 1 iX6_fail [vR 110, vI a1, vI a2] P Q := by
  sorry
/-! What the class answers: X6_failHere. -/
set_option maxRecDepth 100000 in
set_option maxHeartbeats 4000000 in
theorem f_X6_failHere (G : GT) (P : PH) (T : TT) (p : Int) (hB : BdX P) (z0 : XS T p P) (Q : Option PV → PH → Prop) (hQ : ∀ (r : Int) (_ : 0 ≤ r ∧ r ≤ 1) (P1 : PH) (_ : BdX P1) (_ : FrX ([(45, 3), (45, 4)], []) P P1) (_ : P1 110 3 = 1 ∧ P1 110 4 = fh T p ∧ r = 0), Q (some (vI r)) P1) : Ct WSX G 1 iX6_failHere [vR 110] P Q := by
  sorry
/-! What the class answers: X6_isKindHere. -/
set_option maxRecDepth 100000 in
set_option maxHeartbeats 4000000 in
theorem f_X6_isKindHere (G : GT) (P : PH) (T : TT) (K : PH) (p : Int) (o : Nat) (k_o : kx o 28) (a1 : Int) (h_a1 : (-2147483648) ≤ a1 ∧ a1 ≤ 2147483647) (hB : BdX P) (p_aw : AW K) (p_kw : tK T p = 1 ∧ (tO T p = -1 ∨ tO T p = 7)) (z0 : XS T p P) (z1 : XK K (crX o 0) P) (z2 : RT o P) (Q : Option PV → PH → Prop) (hQ : ∀ (r : Int) (_ : 0 ≤ r ∧ r ≤ 1) (_ : (r = 1 ∧ (tO T p = 7 ∨ (kHe T K p ≠ -1 ∧ kHe T K p ≠ a1 ∧ 1 ≤ K 3 (kHe T K p)))) ∨ (r = 0 ∧ tO T p = -1 ∧ (kHe T K p = -1 ∨ kHe T K p = a1 ∨ K 3 (kHe T K p) ≤ 0))), Q (some (vI r)) P) : Ct WSX G 3 iX6_isKindHere [vR 110, vI a1] P Q := by
  sorry
/-! What the class answers: X6_isKindWord. -/
set_option maxRecDepth 100000 in
set_option maxHeartbeats 4000000 in
theorem f_X6_isKindWord (G : GT) (P : PH) (T : TT) (p : Int) (hB : BdX P) (z0 : XS T p P) (Q : Option PV → PH → Prop) (hQ : ∀ (r : Int) (_ : 0 ≤ r ∧ r ≤ 1) (_ : (r = 1 ∧ tK T p = 1 ∧ (tO T p = -1 ∨ tO T p = 7)) ∨ (r = 0 ∧ (tK T p ≠ 1 ∨ (tO T p ≠ -1 ∧ tO T p ≠ 7)))), Q (some (vI r)) P) : Ct WSX G 2 iX6_isKindWord [vR 110] P Q := by
  sorry
/-! What the class answers: X6_isNewName. -/
set_option maxRecDepth 100000 in
set_option maxHeartbeats 4000000 in
theorem f_X6_isNewName (G : GT) (P : PH) (T : TT) (K : PH) (p : Int) (o : Nat) (k_o : kx o 28) (hB : BdX P) (p_aw : AW K) (z0 : XS T p P) (z1 : XK K (crX o 0) P) (z2 : RT o P) (Q : Option PV → PH → Prop) (hQ : ∀ (r : Int) (_ : 0 ≤ r ∧ r ≤ 1) (P1 : PH) (_ : BdX P1) (_ : FrX ([(45, 3), (45, 4)], []) P P1) (_ : (r = 1 ∧ (fre T K p).1 = 0 ∧ P1 110 3 = P 110 3 ∧ P1 110 4 = P 110 4 ∧ tK T p = 1) ∨ (r = 0 ∧ (fre T K p).1 ≠ 0 ∧ P1 110 3 = (fre T K p).1 ∧ P1 110 4 = (fre T K p).2)), Q (some (vI r)) P1) : Ct WSX G 2 iX6_isNewName [vR 110] P Q := by
  sorry
/-! What the class answers: X6_kindHere. -/
set_option maxRecDepth 100000 in
set_option maxHeartbeats 4000000 in
theorem f_X6_kindHere (G : GT) (P : PH) (T : TT) (K : PH) (p : Int) (o : Nat) (k_o : kx o 28) (hB : BdX P) (p_kw : tK T p = 1 ∧ (tO T p = -1 ∨ tO T p = 7)) (z0 : XS T p P) (z1 : XK K (crX o 0) P) (z2 : RT o P) (Q : Option PV → PH → Prop) (hQ : ∀ (r : Int) (_ : (-1) ≤ r ∧ r ≤ 3) (_ : r = kHe T K p), Q (some (vI r)) P) : Ct WSX G 2 iX6_kindHere [vR 110] P Q := by
  sorry
/-! What the class answers: X6_readArm. -/
set_option maxRecDepth 100000 in
set_option maxHeartbeats 4000000 in
theorem f_X6_readArm (G : GT) (P : PH) (T : TT) (K : PH) (M : PH) (p : Int) (o : Nat) (k_o : kx o 28) (hB : BdX P) (p_aw : AW K) (p_av : AV K M) (p_k0 : tO T p = 3) (v_TX : TX P) (v_OWN : OWN P) (z0 : XT T P) (z1 : XS T p P) (z2 : XK K (crX o 0) P) (z3 : XM M o P) (z4 : RT o P) (Q : Option PV → PH → Prop) (hQ : ∀ (r : Int) (_ : 0 ≤ r ∧ r ≤ 1) (P1 : PH) (_ : BdX P1) (_ : FrX ([(28, 8), (45, 3), (45, 4), (46, 3), (46, 4), (46, 5), (46, 6), (46, 7), (46, 8)], [41, 42, 44, 50]) P P1) (_ : (r = 1 ∧ (sAr T K M p).1 = 0 ∧ P1 110 3 = P 110 3 ∧ P1 110 4 = P 110 4) ∨ (r = 0 ∧ (sAr T K M p).1 ≠ 0 ∧ P1 110 3 = (sAr T K M p).1 ∧ P1 110 4 = (sAr T K M p).2)) (_ : CP (sAr T K M p).1 (XS T (sAr T K M p).2) P1) (_ : CP (sAr T K M p).1 (XM (mAr T K M p) o) P1) (_ : KT (tbX o) P P1), Q (some (vI r)) P1) : Ct WSX G 25 iX6_readArm [vR 110] P Q := by
  sorry
/-! What the class answers: X6_readBudget. -/
set_option maxRecDepth 100000 in
set_option maxHeartbeats 4000000 in
theorem f_X6_readBudget (G : GT) (P : PH) (T : TT) (p : Int) (M : PH) (o : Nat) (k_o : kx o 28) (hB : BdX P) (p_k0 : tO T p = 6) (v_TX : TX P) (v_OWN : OWN P) (z0 : XT T P) (z1 : XS T p P) (z2 : XM M o P) (z3 : RT o P) (Q : Option PV → PH → Prop) (hQ : ∀ (r : Int) (_ : 0 ≤ r ∧ r ≤ 1) (P1 : PH) (_ : BdX P1) (_ : FrX ([(28, 10), (45, 3), (45, 4), (46, 3), (46, 4), (46, 5), (46, 6), (46, 7), (46, 8)], []) P P1) (_ : (r = 1 ∧ (num T 1 999 (tE T p)).1 = 0 ∧ P1 110 3 = P 110 3 ∧ P1 110 4 = P 110 4) ∨ (r = 0 ∧ (num T 1 999 (tE T p)).1 ≠ 0 ∧ P1 110 3 = (num T 1 999 (tE T p)).1 ∧ P1 110 4 = (num T 1 999 (tE T p)).2)) (_ : CP (num T 1 999 (tE T p)).1 (XS T (num T 1 999 (tE T p)).2) P1) (_ : CP (num T 1 999 (tE T p)).1 (XM (up M 0 4 (tV T (tE T p))) o) P1) (_ : KT (tbX o) P P1), Q (some (vI r)) P1) : Ct WSX G 4 iX6_readBudget [vR 110] P Q := by
  sorry
/-! What the class answers: X6_readColumns. -/
set_option maxRecDepth 100000 in
set_option maxHeartbeats 4000000 in
theorem f_X6_readColumns (G : GT) (P : PH) (T : TT) (K : PH) (M : PH) (p : Int) (o : Nat) (k_o : kx o 28) (hB : BdX P) (p_aw : AW K) (p_av : AV K M) (p_k0 : tO T p = 2) (v_TX : TX P) (v_OWN : OWN P) (z0 : XT T P) (z1 : XS T p P) (z2 : XK K (crX o 0) P) (z3 : XM M o P) (z4 : RT o P) (z5 : XZ K M o P) (Q : Option PV → PH → Prop) (hQ : ∀ (r : Int) (_ : 0 ≤ r ∧ r ≤ 1) (P1 : PH) (_ : BdX P1) (_ : FrX ([(28, 6), (28, 7), (45, 3), (45, 4), (46, 3), (46, 4), (46, 5), (46, 6), (46, 7), (46, 8)], [39, 40, 41, 44]) P P1) (_ : (r = 1 ∧ (sMa T K M p).1 = 0 ∧ P1 110 3 = P 110 3 ∧ P1 110 4 = P 110 4) ∨ (r = 0 ∧ (sMa T K M p).1 ≠ 0 ∧ P1 110 3 = (sMa T K M p).1 ∧ P1 110 4 = (sMa T K M p).2.1)) (_ : CP (sMa T K M p).1 (XS T (sMa T K M p).2.1) P1) (_ : CP (sMa T K M p).1 (XM (sMa T K M p).2.2 o) P1) (_ : KT (tbX o) P P1) (_ : CP (sMa T K M p).1 (XZ K (sMa T K M p).2.2 o) P1), Q (some (vI r)) P1) : Ct WSX G 4 iX6_readColumns [vR 110] P Q := by
  sorry
/-! What the class answers: X6_readCon. -/
set_option maxRecDepth 100000 in
set_option maxHeartbeats 4000000 in
theorem f_X6_readCon (G : GT) (P : PH) (T : TT) (K : PH) (M : PH) (p : Int) (o : Nat) (k_o : kx o 28) (hB : BdX P) (p_aw : AW K) (p_k0 : tO T p = 1) (v_TX : TX P) (v_OWN : OWN P) (z0 : XT T P) (z1 : XS T p P) (z2 : XK K (crX o 0) P) (z3 : XM M o P) (z4 : RT o P) (Q : Option PV → PH → Prop) (hQ : ∀ (r : Int) (_ : 0 ≤ r ∧ r ≤ 1) (P1 : PH) (_ : BdX P1) (_ : FrX ([(29, 10), (45, 3), (45, 4), (46, 3), (46, 4), (46, 5), (46, 6), (46, 7), (46, 8)], [32, 33, 34, 35, 36, 37, 38]) P P1) (_ : (r = 1 ∧ (sCo T K M p).1 = 0 ∧ P1 110 3 = P 110 3 ∧ P1 110 4 = P 110 4) ∨ (r = 0 ∧ (sCo T K M p).1 ≠ 0 ∧ P1 110 3 = (sCo T K M p).1 ∧ P1 110 4 = (sCo T K M p).2)) (_ : CP (sCo T K M p).1 (XS T (sCo T K M p).2) P1) (_ : CP (sCo T K M p).1 (XK (kCo T K p) (crX o 0)) P1) (_ : KT (tbX o) P P1), Q (some (vI r)) P1) : Ct WSX G 4 iX6_readCon [vR 110] P Q := by
  sorry
/-! What the class answers: X6_readConName. -/
set_option maxRecDepth 100000 in
set_option maxHeartbeats 4000000 in
theorem f_X6_readConName (G : GT) (P : PH) (T : TT) (K : PH) (p : Int) (o : Nat) (k_o : kx o 28) (a1 : Int) (h_a1 : (-2147483648) ≤ a1 ∧ a1 ≤ 2147483647) (hB : BdX P) (p_aw : AW K) (p_kb : 0 ≤ a1 ∧ a1 < K 0 0) (v_TX : TX P) (v_OWN : OWN P) (z0 : XT T P) (z1 : XS T p P) (z2 : XK K (crX o 0) P) (z3 : RT o P) (Q : Option PV → PH → Prop) (hQ : ∀ (r : Int) (_ : (-1) ≤ r ∧ r ≤ 23) (P1 : PH) (_ : BdX P1) (_ : FrX ([(45, 3), (45, 4), (46, 3), (46, 4), (46, 5), (46, 6), (46, 7), (46, 8)], []) P P1) (_ : (r = cNm K (tV T p) ∧ 0 ≤ r ∧ r < K 0 1 ∧ (cas T K a1 p).1 = 0 ∧ P1 110 3 = P 110 3 ∧ P1 110 4 = P 110 4) ∨ (r = -1 ∧ (cas T K a1 p).1 ≠ 0 ∧ P1 110 3 = (cas T K a1 p).1 ∧ P1 110 4 = (cas T K a1 p).2)) (_ : CP (cas T K a1 p).1 (XS T (tE T p)) P1), Q (some (vI r)) P1) : Ct WSX G 3 iX6_readConName [vR 110, vI a1] P Q := by
  sorry
/-! What the class answers: X6_readKind. -/
set_option maxRecDepth 100000 in
set_option maxHeartbeats 4000000 in
theorem f_X6_readKind (G : GT) (P : PH) (T : TT) (K : PH) (M : PH) (p : Int) (o : Nat) (k_o : kx o 28) (hB : BdX P) (p_aw : AW K) (p_k0 : tO T p = 0) (v_TX : TX P) (v_OWN : OWN P) (z0 : XT T P) (z1 : XS T p P) (z2 : XK K (crX o 0) P) (z3 : XM M o P) (z4 : RT o P) (Q : Option PV → PH → Prop) (hQ : ∀ (r : Int) (_ : 0 ≤ r ∧ r ≤ 1) (P1 : PH) (_ : BdX P1) (_ : FrX ([(29, 9), (45, 3), (45, 4), (46, 3), (46, 4), (46, 5), (46, 6), (46, 7), (46, 8)], [30, 31, 32, 33]) P P1) (_ : (r = 1 ∧ (sKi T K M p).1 = 0 ∧ P1 110 3 = P 110 3 ∧ P1 110 4 = P 110 4) ∨ (r = 0 ∧ (sKi T K M p).1 ≠ 0 ∧ P1 110 3 = (sKi T K M p).1 ∧ P1 110 4 = (sKi T K M p).2)) (_ : CP (sKi T K M p).1 (XS T (sKi T K M p).2) P1) (_ : CP (sKi T K M p).1 (XK (kNew K (tV T (tE T p))) (crX o 0)) P1) (_ : KT (tbX o) P P1), Q (some (vI r)) P1) : Ct WSX G 3 iX6_readKind [vR 110] P Q := by
  sorry
/-! What the class answers: X6_readMatch_B16. -/
set_option maxRecDepth 100000 in
set_option maxHeartbeats 4000000 in
theorem f_X6_readMatch_B16 (G : GT) (P : PH) (T : TT) (o1 : Nat) (k_o1 : kx o1 28) (hB : BdX P) (p_tx : P 1 1 = T.2 ∧ ∀ i : Int, 0 ≤ i → i < T.2 → P 2 i = T.1 i) (v_OWN : OWN P) (Q : Option PV → PH → Prop) (hQ : ∀ (r : Int) (_ : (-2147483648) ≤ r ∧ r ≤ 2147483647) (P1 : PH) (_ : BdX P1) (_ : FrX ([(28, 6), (28, 7), (28, 8), (28, 9), (28, 10), (29, 9), (29, 10), (45, 2), (45, 3), (45, 4), (46, 1), (46, 2), (46, 3), (46, 4), (46, 5), (46, 6), (46, 7), (46, 8)], [30, 31, 32, 33, 34, 35, 36, 37, 38, 39, 40, 41, 42, 44, 50]) P P1) (_ : (r = -1 ∧ (mlR T).1 ≠ 0 ∧ P1 110 3 = (mlR T).1 ∧ P1 110 4 = (mlR T).2.1) ∨ (r = (mlR T).2.1 ∧ 0 ≤ r ∧ (mlR T).1 = 0 ∧ P1 110 3 = 0 ∧ P1 110 4 = -1)) (_ : TX P1) (_ : CP (mlR T).1 (XK (mlR T).2.2.1 (crX o1 0)) P1) (_ : CP (mlR T).1 (XM (mlR T).2.2.2 o1) P1) (_ : KT (tbX o1) P P1) (_ : CP (mlR T).1 (XZ (mlR T).2.2.1 (mlR T).2.2.2 o1) P1), Q (some (vI r)) P1) : Ct WSX G 26 iX6_readMatch [vR 110, vR 1, vR o1] P Q := by
  sorry
/-! What the class answers: X6_readNumber. -/
set_option maxRecDepth 100000 in
set_option maxHeartbeats 4000000 in
theorem f_X6_readNumber (G : GT) (P : PH) (T : TT) (p : Int) (a1 : Int) (a2 : Int) (h_a1 : (-2147483648) ≤ a1 ∧ a1 ≤ 2147483647) (h_a2 : (-2147483648) ≤ a2 ∧ a2 ≤ 2147483647) (hB : BdX P) (p_lo : 0 ≤ a1) (v_TX : TX P) (v_OWN : OWN P) (z0 : XT T P) (z1 : XS T p P) (Q : Option PV → PH → Prop) (hQ : ∀ (r : Int) (_ : (-2147483648) ≤ r ∧ r ≤ 2147483647) (P1 : PH) (_ : BdX P1) (_ : FrX ([(45, 3), (45, 4), (46, 3), (46, 4), (46, 5), (46, 6), (46, 7), (46, 8)], []) P P1) (_ : (r = tV T p ∧ a1 ≤ r ∧ r ≤ a2 ∧ (num T a1 a2 p).1 = 0 ∧ P1 110 3 = P 110 3 ∧ P1 110 4 = P 110 4) ∨ (r = -1 ∧ (num T a1 a2 p).1 ≠ 0 ∧ P1 110 3 = (num T a1 a2 p).1 ∧ P1 110 4 = (num T a1 a2 p).2)) (_ : CP (num T a1 a2 p).1 (XS T (num T a1 a2 p).2) P1), Q (some (vI r)) P1) : Ct WSX G 3 iX6_readNumber [vR 110, vI a1, vI a2] P Q := by
  sorry
/-! What the class answers: X6_readRange. -/
set_option maxRecDepth 100000 in
set_option maxHeartbeats 4000000 in
theorem f_X6_readRange (G : GT) (P : PH) (T : TT) (p : Int) (a1 : Int) (h_a1 : 0 ≤ a1 ∧ a1 ≤ 9) (hB : BdX P) (v_TX : TX P) (v_OWN : OWN P) (z0 : XT T P) (z1 : XS T p P) (Q : Option PV → PH → Prop) (hQ : ∀ (r : Int) (_ : 0 ≤ r ∧ r ≤ 1) (P1 : PH) (_ : BdX P1) (_ : FrX ([(45, 3), (45, 4), (46, 3), (46, 4), (46, 5), (46, 6), (46, 7), (46, 8)], [50]) P P1) (_ : (r = 1 ∧ (rg8 T p).1 = 0 ∧ P1 110 3 = P 110 3 ∧ P1 110 4 = P 110 4) ∨ (r = 0 ∧ (rg8 T p).1 ≠ 0 ∧ P1 110 3 = (rg8 T p).1 ∧ P1 110 4 = (rg8 T p).2)) (_ : CP (rg8 T p).1 (XS T (rg8 T p).2) P1), Q (some (vI r)) P1) : Ct WSX G 4 iX6_readRange [vR 110, vI a1] P Q := by
  sorry
/-! What the class answers: X6_readRow_B16. -/
set_option maxRecDepth 100000 in
set_option maxHeartbeats 4000000 in
theorem f_X6_readRow_B16 (G : GT) (P : PH) (T : TT) (K : PH) (M : PH) (o1 : Nat) (k_o1 : kx o1 28) (hB : BdX P) (p_tx : P 1 1 = T.2 ∧ ∀ i : Int, 0 ≤ i → i < T.2 → P 2 i = T.1 i) (p_aw : AW K) (p_ab : AB K) (p_av : AV K M) (p_az : AZ K M) (p_ar : AR K M) (v_OWN : OWN P) (z0 : XK K (crX o1 0) P) (z1 : XM M o1 P) (z2 : XZ K M o1 P) (Q : Option PV → PH → Prop) (hQ : ∀ (r : Int) (_ : (-2147483648) ≤ r ∧ r ≤ 2147483647) (P1 : PH) (_ : BdX P1) (_ : FrX ([(45, 2), (45, 3), (45, 4), (46, 1), (46, 2), (46, 3), (46, 4), (46, 5), (46, 6), (46, 7), (46, 8)], []) P P1) (_ : (r = -1 ∧ (rwR T K M).1 ≠ 0 ∧ P1 110 3 = (rwR T K M).1 ∧ P1 110 4 = (rwR T K M).2.1) ∨ (r = (rwR T K M).2.2 ∧ 0 ≤ r ∧ (rwR T K M).1 = 0 ∧ P1 110 3 = (rwR T K M).1 ∧ P1 110 4 = (rwR T K M).2.1)) (_ : TX P1), Q (some (vI r)) P1) : Ct WSX G 12 iX6_readRow [vR 110, vR 1, vR o1] P Q := by
  sorry
/-! What the class answers: X6_readRule. -/
set_option maxRecDepth 100000 in
set_option maxHeartbeats 4000000 in
theorem f_X6_readRule (G : GT) (P : PH) (T : TT) (p : Int) (M : PH) (o : Nat) (k_o : kx o 28) (hB : BdX P) (p_k0 : tO T p = 5) (v_TX : TX P) (v_OWN : OWN P) (z0 : XT T P) (z1 : XS T p P) (z2 : XM M o P) (z3 : RT o P) (Q : Option PV → PH → Prop) (hQ : ∀ (r : Int) (_ : 0 ≤ r ∧ r ≤ 1) (P1 : PH) (_ : BdX P1) (_ : FrX ([(28, 9), (45, 3), (45, 4), (46, 3), (46, 4), (46, 5), (46, 6), (46, 7), (46, 8)], []) P P1) (_ : (r = 1 ∧ (num T 0 3 (tE T p)).1 = 0 ∧ P1 110 3 = P 110 3 ∧ P1 110 4 = P 110 4) ∨ (r = 0 ∧ (num T 0 3 (tE T p)).1 ≠ 0 ∧ P1 110 3 = (num T 0 3 (tE T p)).1 ∧ P1 110 4 = (num T 0 3 (tE T p)).2)) (_ : CP (num T 0 3 (tE T p)).1 (XS T (num T 0 3 (tE T p)).2) P1) (_ : CP (num T 0 3 (tE T p)).1 (XM (up M 0 3 (tV T (tE T p))) o) P1) (_ : KT (tbX o) P P1), Q (some (vI r)) P1) : Ct WSX G 4 iX6_readRule [vR 110] P Q := by
  sorry
/-! What the class answers: X6_readSign. -/
set_option maxRecDepth 100000 in
set_option maxHeartbeats 4000000 in
theorem f_X6_readSign (G : GT) (P : PH) (T : TT) (p : Int) (a1 : Int) (h_a1 : (-2147483648) ≤ a1 ∧ a1 ≤ 2147483647) (hB : BdX P) (v_TX : TX P) (v_OWN : OWN P) (z0 : XT T P) (z1 : XS T p P) (Q : Option PV → PH → Prop) (hQ : ∀ (r : Int) (_ : 0 ≤ r ∧ r ≤ 1) (P1 : PH) (_ : BdX P1) (_ : FrX ([(45, 3), (45, 4), (46, 3), (46, 4), (46, 5), (46, 6), (46, 7), (46, 8)], []) P P1) (_ : (r = 1 ∧ (sgn T a1 p).1 = 0 ∧ P1 110 3 = P 110 3 ∧ P1 110 4 = P 110 4) ∨ (r = 0 ∧ (sgn T a1 p).1 ≠ 0 ∧ P1 110 3 = (sgn T a1 p).1 ∧ P1 110 4 = (sgn T a1 p).2)) (_ : CP (sgn T a1 p).1 (XS T (sgn T a1 p).2) P1), Q (some (vI r)) P1) : Ct WSX G 3 iX6_readSign [vR 110, vI a1] P Q := by
  sorry
/-! What the class answers: X6_readValue. -/
def st_f_X6_readValue (G : GT) (n : Nat) : Prop := ∀ (P : PH) (T : TT) (K : PH) (p : Int) (o : Nat) (k_o : kx o 28) (a1 : Int) (a2 : Int) (h_a1 : (-2147483648) ≤ a1 ∧ a1 ≤ 2147483647) (h_a2 : (-2147483648) ≤ a2 ∧ a2 ≤ 2147483647) (hB : BdX P) (p_dp : 0 ≤ a2) (p_aw : AW K) (p_ab : AB K) (p_kd : -1 ≤ a1 ∧ a1 < K 0 0 ∧ a1 + a2 ≤ 3) (v_TX : TX P) (v_OWN : OWN P) (z0 : XT T P) (z1 : XS T p P) (z2 : XK K (crX o 0) P) (z3 : RT o P) (hm : (6 - a2 : Int).toNat < n) (Q : Option PV → PH → Prop) (hQ : ∀ (r : Int) (_ : (-2147483648) ≤ r ∧ r ≤ 2147483647) (P1 : PH) (_ : BdX P1) (_ : FrX ([(45, 3), (45, 4), (46, 3), (46, 4), (46, 5), (46, 6), (46, 7), (46, 8)], []) P P1) (_ : VC T K a1 p r P P1), Q (some (vI r)) P1), Ct WSX G (4 + 1 * n) iX6_readValue [vR 110, vI a1, vI a2] P Q
set_option maxRecDepth 100000 in
set_option maxHeartbeats 4000000 in
theorem mr_f_X6_readValue (G : GT) (n : Nat) : st_f_X6_readValue G n := by
  sorry
theorem f_X6_readValue (G : GT) (P : PH) (T : TT) (K : PH) (p : Int) (o : Nat) (k_o : kx o 28) (a1 : Int) (a2 : Int) (h_a1 : (-2147483648) ≤ a1 ∧ a1 ≤ 2147483647) (h_a2 : (-2147483648) ≤ a2 ∧ a2 ≤ 2147483647) (hB : BdX P) (p_dp : 0 ≤ a2) (p_aw : AW K) (p_ab : AB K) (p_kd : -1 ≤ a1 ∧ a1 < K 0 0 ∧ a1 + a2 ≤ 3) (v_TX : TX P) (v_OWN : OWN P) (z0 : XT T P) (z1 : XS T p P) (z2 : XK K (crX o 0) P) (z3 : RT o P) (hm : (6 - a2 : Int).toNat < 7) (Q : Option PV → PH → Prop) (hQ : ∀ (r : Int) (_ : (-2147483648) ≤ r ∧ r ≤ 2147483647) (P1 : PH) (_ : BdX P1) (_ : FrX ([(45, 3), (45, 4), (46, 3), (46, 4), (46, 5), (46, 6), (46, 7), (46, 8)], []) P P1) (_ : VC T K a1 p r P P1), Q (some (vI r)) P1) : Ct WSX G 11 iX6_readValue [vR 110, vI a1, vI a2] P Q := mr_f_X6_readValue G 7 P T K p o k_o a1 a2     h_a1 h_a2 hB p_dp p_aw p_ab p_kd v_TX v_OWN z0 z1 z2 z3 hm Q hQ
/-! What the class answers: X7_begin_B16. -/
set_option maxRecDepth 100000 in
set_option maxHeartbeats 4000000 in
theorem f_X7_begin_B16 (G : GT) (P : PH) (T : TT) (hB : BdX P) (p_tx : P 1 1 = T.2 ∧ ∀ i : Int, 0 ≤ i → i < T.2 → P 2 i = T.1 i) (v_OWN : OWN P) (Q : Option PV → PH → Prop) (hQ : ∀ (P1 : PH) (_ : BdX P1) (_ : FrX ([(46, 1), (46, 2), (46, 3), (46, 4), (46, 5), (46, 6), (46, 7), (46, 8)], []) P P1) (_ : TX P1) (_ : XT T P1) (_ : XS T 0 P1), Q none P1) : Ct WSX G 3 iX7_begin [vR 111, vR 1] P Q := by
  sorry
/-! What the class answers: X7_isName. -/
set_option maxRecDepth 100000 in
set_option maxHeartbeats 4000000 in
theorem f_X7_isName (G : GT) (P : PH) (T : TT) (p : Int) (hB : BdX P) (z0 : XS T p P) (Q : Option PV → PH → Prop) (hQ : ∀ (r : Int) (_ : 0 ≤ r ∧ r ≤ 1) (_ : (r = 1 ∧ tK T p = 1 ∧ tO T p = -1) ∨ (r = 0 ∧ (tK T p ≠ 1 ∨ tO T p ≠ -1))), Q (some (vI r)) P) : Ct WSX G 1 iX7_isName [vR 111] P Q := by
  sorry
/-! What the class answers: X7_isSign. -/
set_option maxRecDepth 100000 in
set_option maxHeartbeats 4000000 in
theorem f_X7_isSign (G : GT) (P : PH) (T : TT) (p : Int) (a1 : Int) (h_a1 : (-2147483648) ≤ a1 ∧ a1 ≤ 2147483647) (hB : BdX P) (z0 : XS T p P) (Q : Option PV → PH → Prop) (hQ : ∀ (r : Int) (_ : 0 ≤ r ∧ r ≤ 1) (_ : (r = 1 ∧ tK T p = 3 ∧ tV T p = a1) ∨ (r = 0 ∧ (tK T p ≠ 3 ∨ tV T p ≠ a1))), Q (some (vI r)) P) : Ct WSX G 1 iX7_isSign [vR 111, vI a1] P Q := by
  sorry
/-! What the class answers: X7_step. -/
set_option maxRecDepth 100000 in
set_option maxHeartbeats 4000000 in
theorem f_X7_step (G : GT) (P : PH) (T : TT) (q : Int) (hB : BdX P) (p_q : P 111 3 = q ∧ 0 ≤ q ∧ q ≤ T.2) (p_bw : ((P 111 4 = 1 ∨ P 111 4 = 2) ∧ jn T q = 1) ∨ (P 111 4 ≠ 1 ∧ P 111 4 ≠ 2 ∧ jn T q = 0)) (v_TX : TX P) (v_OWN : OWN P) (z0 : XT T P) (Q : Option PV → PH → Prop) (hQ : ∀ (P1 : PH) (_ : BdX P1) (_ : FrX ([(46, 3), (46, 4), (46, 5), (46, 6), (46, 7), (46, 8)], []) P P1) (_ : XS T q P1), Q none P1) : Ct WSX G 2 iX7_step [vR 111] P Q := by
  sorry
/-! What the class answers: X7_stepNumber. -/
set_option maxRecDepth 100000 in
set_option maxHeartbeats 4000000 in
theorem f_X7_stepNumber (G : GT) (P : PH) (T : TT) (p : Int) (hB : BdX P) (p_st : P 111 3 = tA T p ∧ P 111 5 = tA T p ∧ P 111 7 = 0 ∧ P 111 8 = -1) (p_nn : 0 ≤ p ∧ p ≤ T.2 ∧ tA T p < T.2 ∧ 48 ≤ T.1 (tA T p) ∧ T.1 (tA T p) ≤ 57 ∧ tJn T p = 0) (v_TX : TX P) (z0 : XT T P) (Q : Option PV → PH → Prop) (hQ : ∀ (P1 : PH) (_ : BdX P1) (_ : FrX ([(46, 3), (46, 4), (46, 6), (46, 7)], []) P P1) (_ : XS T p P1), Q none P1) : Ct WSX G 1 iX7_stepNumber [vR 111] P Q := by
  sorry
/-! What the class answers: X7_stepWord. -/
set_option maxRecDepth 100000 in
set_option maxHeartbeats 4000000 in
theorem f_X7_stepWord (G : GT) (P : PH) (T : TT) (p : Int) (hB : BdX P) (p_st : P 111 3 = tA T p ∧ P 111 5 = tA T p ∧ P 111 7 = 0 ∧ P 111 8 = -1) (p_nn : 0 ≤ p ∧ p ≤ T.2 ∧ tA T p < T.2 ∧ 97 ≤ T.1 (tA T p) ∧ T.1 (tA T p) ≤ 122 ∧ tJn T p = 0) (v_TX : TX P) (v_OWN : OWN P) (z0 : XT T P) (Q : Option PV → PH → Prop) (hQ : ∀ (P1 : PH) (_ : BdX P1) (_ : FrX ([(46, 3), (46, 4), (46, 6), (46, 7), (46, 8)], []) P P1) (_ : XS T p P1), Q none P1) : Ct WSX G 1 iX7_stepWord [vR 111] P Q := by
  sorry
/-! What the class answers: X9_addArm. -/
set_option maxRecDepth 100000 in
set_option maxHeartbeats 4000000 in
theorem f_X9_addArm (G : GT) (P : PH) (M : PH) (o0 : Nat) (a1 : Int) (k_o0 : kx o0 28) (h_a1 : (-2147483648) ≤ a1 ∧ a1 ≤ 2147483647) (hB : BdX P) (p_a11 : M 0 2 ≤ 11) (z0 : XM M o0 P) (Q : Option PV → PH → Prop) (hQ : ∀ (P1 : PH) (_ : BdX P1) (_ : FrX ([(28, 8)], [42]) P P1) (_ : XM (aNew M a1) o0 P1) (_ : KT (tbX o0) P P1), Q none P1) : Ct WSX G 1 iX9_addArm [vR o0, vI a1] P Q := by
  sorry
/-! What the class answers: X9_addColumn. -/
set_option maxRecDepth 100000 in
set_option maxHeartbeats 4000000 in
theorem f_X9_addColumn (G : GT) (P : PH) (K : PH) (M : PH) (i : Int) (o0 : Nat) (a1 : Int) (k_o0 : kx o0 28) (h_a1 : (-2147483648) ≤ a1 ∧ a1 ≤ 2147483647) (hB : BdX P) (p_aw : AW K) (p_kb : -1 ≤ a1 ∧ a1 < K 0 0) (p_m4 : 0 ≤ M 0 0 ∧ M 0 0 ≤ 3) (p_ri : (M 0 0 = 0 ∧ i = 1) ∨ (1 ≤ M 0 0 ∧ i = M 0 1)) (p_rb : 1 ≤ i ∧ i ≤ 20000 ∧ 1 ≤ sz K a1) (z0 : XK K (crX o0 0) P) (z1 : XM M o0 P) (z2 : XZ K M o0 P) (Q : Option PV → PH → Prop) (hQ : ∀ (P1 : PH) (_ : BdX P1) (_ : FrX ([(28, 6), (28, 7)], [39, 40, 41, 44]) P P1) (_ : XM (mCol M a1 (i * sz K a1)) o0 P1) (_ : KT (tbX o0) P P1) (_ : XZ K (mCol M a1 (i * sz K a1)) o0 P1), Q none P1) : Ct WSX G 2 iX9_addColumn [vR o0, vI a1] P Q := by
  sorry
/-! What the class answers: X9_clear. -/
set_option maxRecDepth 100000 in
set_option maxHeartbeats 4000000 in
theorem f_X9_clear (G : GT) (P : PH) (o0 : Nat) (k_o0 : kx o0 28) (hB : BdX P) (Q : Option PV → PH → Prop) (hQ : ∀ (P1 : PH) (_ : BdX P1) (_ : FrX ([(28, 6), (28, 7), (28, 8), (28, 9), (28, 10), (29, 9), (29, 10)], []) P P1) (_ : XK K0 (crX o0 0) P1) (_ : XM M0 o0 P1) (_ : KT (tbX o0) P P1), Q none P1) : Ct WSX G 2 iX9_clear [vR o0] P Q := by
  sorry
/-! What the class answers: X9_setPattern. -/
set_option maxRecDepth 100000 in
set_option maxHeartbeats 4000000 in
theorem f_X9_setPattern (G : GT) (P : PH) (o0 : Nat) (a1 : Int) (o1 : Nat) (k_o0 : kx o0 28) (h_a1 : (-2147483648) ≤ a1 ∧ a1 ≤ 2147483647) (k_o1 : kx o1 50) (hB : BdX P) (Q : Option PV → PH → Prop) (hQ : ∀ (P1 : PH) (_ : BdX P1) (_ : FrX ([], [41, 44]) P P1) (_ : KT (tbX o0) P P1), Q none P1) : Ct WSX G 1 iX9_setPattern [vR o0, vI a1, vR o1] P Q := by
  sorry
/-! What the reference answers: X12_ahead. -/
set_option maxRecDepth 100000 in
set_option maxHeartbeats 4000000 in
theorem f_X12_ahead (G : GT) (P : PH) (T : TT) (p : Int) (hB : BdM P) (p_pp : P 0 5 = p ∧ 0 ≤ p ∧ p ≤ T.2) (z0 : MT T P) (Q : Option PV → PH → Prop) (hQ : ∀ (P1 : PH) (_ : BdM P1) (_ : FrM ([3, 4, 5, 6, 7, 12], []) P P1) (_ : (P1 0 3 = 0 ∨ P1 0 4 + 1 ≤ P1 0 5) ∧ P1 0 4 ≤ P1 0 5) (_ : P 0 5 ≤ P1 0 4) (_ : MS T p P1), Q none P1) : Ct WSM G 2 iX12_ahead [vR 0] P Q := by
  sorry
/-! What the reference answers: X12_alternative. -/
set_option maxRecDepth 100000 in
set_option maxHeartbeats 4000000 in
theorem f_X12_alternative (G : GT) (P : PH) (f : Int) (T : TT) (K : PH) (s : SK) (k : Int) (p : Int) (hB : BdM P) (p_lx : (P 0 3 = 0 ∨ P 0 4 + 1 ≤ P 0 5) ∧ P 0 4 ≤ P 0 5) (p_po : pot P ≤ 8 * P 0 4) (p_sx : SX f 0 P) (p_fk : P 0 8 ≤ 0) (p_aw : AW K) (v_CF : CF P) (v_FP : FP P) (z0 : MT T P) (z1 : MS T p P) (z2 : MK K P) (z3 : STK s k P) (Q : Option PV → PH → Prop) (hQ : ∀ (r : Int) (_ : 0 ≤ r ∧ r ≤ 1) (P1 : PH) (_ : BdM P1) (_ : FrM ([3, 4, 5, 6, 7, 8, 9, 12, 36, 43], [19, 20, 21, 24, 25, 26, 27]) P P1) (_ : (P1 0 3 = 0 ∨ P1 0 4 + 1 ≤ P1 0 5) ∧ P1 0 4 ≤ P1 0 5) (_ : P 0 4 ≤ P1 0 4) (_ : P 0 8 ≤ 0 ∨ 0 < P1 0 8) (_ : LO P P1) (_ : 0 < P1 0 8 ∨ P 0 4 + 1 ≤ P1 0 4) (_ : 0 < P1 0 8 ∨ (r = 1 ∧ SX f 1 P1 ∧ pot P1 + 3 ≤ 8 * P1 0 4) ∨ (r = 0 ∧ SX f 0 P1 ∧ pot P1 ≤ 8 * P1 0 4)) (_ : AL T K s k p r P1) (_ : FP P1) (_ : KB (P 0 37) P P1), Q (some (vI r)) P1) : Ct WSM G 5 iX12_alternative [vR 0] P Q := by
  sorry
/-! What the reference answers: X12_armIs. -/
set_option maxRecDepth 100000 in
set_option maxHeartbeats 40000000 in
theorem f_X12_armIs (G : GT) (P : PH) (T : TT) (K : PH) (M : PH) (p : Int) (hB : BdM P) (p_lx : (P 0 3 = 0 ∨ P 0 4 + 1 ≤ P 0 5) ∧ P 0 4 ≤ P 0 5) (p_po : 0 < P 0 8 ∨ 5 * P 0 36 ≤ 8 * P 0 4) (p_fk : P 0 8 ≤ 0) (p_aw : AW K) (p_k0 : tO T p = 3) (v_CF : CF P) (v_ZI : ZI P) (v_ZS : ZS P) (v_FP : FP P) (z0 : MT T P) (z1 : MS T p P) (z2 : MK K P) (z3 : MM M P) (z4 : MTl M P) (Q : Option PV → PH → Prop) (hQ : ∀ (P1 : PH) (_ : BdM P1) (_ : FrM ([3, 4, 5, 6, 7, 8, 9, 12, 36, 43], [13, 14, 17, 18, 19, 20, 21, 24, 25, 26, 27]) P P1) (_ : (P1 0 3 = 0 ∨ P1 0 4 + 1 ≤ P1 0 5) ∧ P1 0 4 ≤ P1 0 5) (_ : P 0 4 ≤ P1 0 4) (_ : P 0 8 ≤ 0 ∨ 0 < P1 0 8) (_ : 0 < P1 0 8 ∨ 5 * P1 0 36 ≤ 8 * P1 0 4) (_ : (P1 0 8 = (sAr T K M p).1 ∧ ((sAr T K M p).1 = 0 ∨ P1 0 9 = (sAr T K M p).2)) ∨ ((sAr T K M p).1 = 0 ∧ tK T (sAr T K M p).2 = 4 ∧ P1 0 8 = 1 ∧ P1 0 9 = tS T (sAr T K M p).2)) (_ : ZI P1) (_ : ZS P1) (_ : FP P1) (_ : CP (P1 0 8) (MS T (sAr T K M p).2) P1) (_ : CP (P1 0 8) (MM (mAr T K M p)) P1) (_ : KB (P 0 37) P P1), Q none P1) : Ct WSM G 7 iX12_armIs [vR 0] P Q := by
  sorry
/-! What the reference answers: X12_blame. -/
set_option maxRecDepth 100000 in
set_option maxHeartbeats 4000000 in
theorem f_X12_blame (G : GT) (P : PH) (a1 : Int) (a2 : Int) (h_a1 : 0 ≤ a1 ∧ a1 ≤ 6) (h_a2 : (-1) ≤ a2 ∧ a2 ≤ 1600) (hB : BdM P) (p_k1 : 1 ≤ a1) (v_FP : FP P) (Q : Option PV → PH → Prop) (hQ : ∀ (P1 : PH) (_ : BdM P1) (_ : FrM ([8, 9], []) P P1) (_ : 0 < P1 0 8 ∨ a1 ≤ 0) (_ : P 0 8 ≤ 0 ∨ 0 < P1 0 8) (_ : (0 < P 0 8 ∧ P1 0 8 = P 0 8 ∧ P1 0 9 = P 0 9) ∨ (P 0 8 ≤ 0 ∧ P1 0 8 = a1 ∧ P1 0 9 = a2)) (_ : FP P1), Q none P1) : Ct WSM G 1 iX12_blame [vR 0, vI a1, vI a2] P Q := by
  sorry
/-! What the reference answers: X12_budgetIs. -/
set_option maxRecDepth 100000 in
set_option maxHeartbeats 4000000 in
theorem f_X12_budgetIs (G : GT) (P : PH) (T : TT) (K : PH) (M : PH) (p : Int) (hB : BdM P) (p_lx : (P 0 3 = 0 ∨ P 0 4 + 1 ≤ P 0 5) ∧ P 0 4 ≤ P 0 5) (p_fk : P 0 8 ≤ 0) (p_k0 : tO T p = 6) (v_FP : FP P) (z0 : MT T P) (z1 : MS T p P) (z2 : MM M P) (Q : Option PV → PH → Prop) (hQ : ∀ (P1 : PH) (_ : BdM P1) (_ : FrM ([3, 4, 5, 6, 7, 8, 9, 12], [16]) P P1) (_ : (P1 0 3 = 0 ∨ P1 0 4 + 1 ≤ P1 0 5) ∧ P1 0 4 ≤ P1 0 5) (_ : P 0 4 ≤ P1 0 4) (_ : P 0 8 ≤ 0 ∨ 0 < P1 0 8) (_ : 0 < P1 0 8 ∨ (1 ≤ P1 16 (P 0 37) ∧ P1 16 (P 0 37) ≤ 999)) (_ : ∀ j : Int, j ≠ P 0 37 → P1 16 j = P 16 j) (_ : P1 0 8 = (num T 1 999 (tE T p)).1 ∧ ((num T 1 999 (tE T p)).1 = 0 ∨ P1 0 9 = (num T 1 999 (tE T p)).2)) (_ : FP P1) (_ : CP (num T 1 999 (tE T p)).1 (MS T (num T 1 999 (tE T p)).2) P1) (_ : CP (num T 1 999 (tE T p)).1 (MM (up M 0 4 (tV T (tE T p)))) P1) (_ : KB (P 0 37) P P1), Q none P1) : Ct WSM G 4 iX12_budgetIs [vR 0] P Q := by
  sorry
/-! What the reference answers: X12_conIs. -/
set_option maxRecDepth 100000 in
set_option maxHeartbeats 4000000 in
theorem f_X12_conIs (G : GT) (P : PH) (T : TT) (K : PH) (M : PH) (p : Int) (hB : BdM P) (p_lx : (P 0 3 = 0 ∨ P 0 4 + 1 ≤ P 0 5) ∧ P 0 4 ≤ P 0 5) (p_fk : P 0 8 ≤ 0) (p_aw : AW K) (p_k0 : tO T p = 1) (v_KVP : KVP P) (v_KC : KC P) (v_CF : CF P) (v_ZT : ZT P) (v_ZO : ZO P) (v_ZC : ZC P) (v_ZI : ZI P) (v_ZS : ZS P) (v_FP : FP P) (z0 : MT T P) (z1 : MS T p P) (z2 : MK K P) (z3 : MM M P) (z4 : MTl M P) (Q : Option PV → PH → Prop) (hQ : ∀ (P1 : PH) (_ : BdM P1) (_ : FrM ([3, 4, 5, 6, 7, 8, 9, 12], [3, 4, 5, 6, 7, 8, 9, 10, 23]) P P1) (_ : (P1 0 3 = 0 ∨ P1 0 4 + 1 ≤ P1 0 5) ∧ P1 0 4 ≤ P1 0 5) (_ : P 0 4 ≤ P1 0 4) (_ : P 0 8 ≤ 0 ∨ 0 < P1 0 8) (_ : 0 < P1 0 8 ∨ P 0 38 = 0) (_ : (P1 0 8 = (sCo T K M p).1 ∧ ((sCo T K M p).1 = 0 ∨ P1 0 9 = (sCo T K M p).2)) ∨ ((sCo T K M p).1 = 0 ∧ tK T (sCo T K M p).2 = 4 ∧ P1 0 8 = 1 ∧ P1 0 9 = tS T (sCo T K M p).2)) (_ : KVP P1) (_ : KC P1) (_ : CF P1) (_ : ZT P1) (_ : ZO P1) (_ : ZC P1) (_ : ZS P1) (_ : FP P1) (_ : CP (P1 0 8) (MS T (sCo T K M p).2) P1) (_ : CP (P1 0 8) (MK (kCo T K p)) P1) (_ : KB (P 0 37) P P1), Q none P1) : Ct WSM G 4 iX12_conIs [vR 0] P Q := by
  sorry
/-! What the reference answers: X12_conNamed. -/
set_option maxRecDepth 100000 in
set_option maxHeartbeats 4000000 in
theorem f_X12_conNamed (G : GT) (P : PH) (a1 : Int) (a2 : Int) (h_a1 : 0 ≤ a1 ∧ a1 ≤ 1) (h_a2 : (-9223372036854775808) ≤ a2 ∧ a2 ≤ 9223372036854775807) (hB : BdM P) (Q : Option PV → PH → Prop) (hQ : ∀ (r : Int) (_ : (-1) ≤ r ∧ r ≤ 23) (_ : r < P 5 a1 ∨ r = -1) (_ : r = fxi (fun i => P 23 (24 * a1 + i)) a2 (P 5 (a1)).toNat), Q (some (vI r)) P) : Ct WSM G 1 iX12_conNamed [vR 0, vI a1, vL a2] P Q := by
  sorry
/-! What the reference answers: X12_conRead. -/
set_option maxRecDepth 100000 in
set_option maxHeartbeats 4000000 in
theorem f_X12_conRead (G : GT) (P : PH) (T : TT) (K : PH) (p : Int) (a1 : Int) (h_a1 : 0 ≤ a1 ∧ a1 ≤ 4) (hB : BdM P) (p_lx : (P 0 3 = 0 ∨ P 0 4 + 1 ≤ P 0 5) ∧ P 0 4 ≤ P 0 5) (p_fk : P 0 8 ≤ 0) (p_aw : AW K) (p_k4 : tK T p ≠ 4) (p_kk : 0 ≤ a1 ∧ a1 ≤ 3) (v_FP : FP P) (z0 : MT T P) (z1 : MS T p P) (z2 : MKB K P) (Q : Option PV → PH → Prop) (hQ : ∀ (r : Int) (_ : 0 ≤ r ∧ r ≤ 23) (P1 : PH) (_ : BdM P1) (_ : FrM ([3, 4, 5, 6, 7, 8, 9, 12], []) P P1) (_ : (P1 0 3 = 0 ∨ P1 0 4 + 1 ≤ P1 0 5) ∧ P1 0 4 ≤ P1 0 5) (_ : P 0 4 ≤ P1 0 4) (_ : P 0 8 ≤ 0 ∨ 0 < P1 0 8) (_ : 0 < P1 0 8 ∨ (r < P 5 (P 0 13) ∧ P 6 (24 * P 0 13 + r) = a1 ∧ P 0 4 + 1 ≤ P1 0 4)) (_ : (P1 0 8 = (cas T K a1 p).1 ∧ ((cas T K a1 p).1 = 0 ∨ P1 0 9 = (cas T K a1 p).2)) ∧ ((cas T K a1 p).1 ≠ 0 ∨ r = cNm K (tV T p))) (_ : FP P1) (_ : CP (cas T K a1 p).1 (MS T (tE T p)) P1), Q (some (vI r)) P1) : Ct WSM G 3 iX12_conRead [vR 0, vI a1] P Q := by
  sorry
/-! What the reference answers: X12_emits. -/
set_option maxRecDepth 100000 in
set_option maxHeartbeats 4000000 in
theorem f_X12_emits (G : GT) (P : PH) (a1 : Int) (a2 : Int) (a3 : Int) (h_a1 : 0 ≤ a1 ∧ a1 ≤ 6) (h_a2 : 0 ≤ a2 ∧ a2 ≤ 23) (h_a3 : 0 ≤ a3 ∧ a3 ≤ 19) (hB : BdM P) (p_o : P 0 36 ≤ 2799) (Q : Option PV → PH → Prop) (hQ : ∀ (P1 : PH) (_ : BdM P1) (_ : FrM ([36], [19, 20, 21]) P P1) (_ : P1 0 36 = P 0 36 + 1) (_ : EM a1 a2 a3 P P1) (_ : KB (P 0 37) P P1), Q none P1) : Ct WSM G 1 iX12_emits [vR 0, vI a1, vI a2, vI a3] P Q := by
  sorry
/-! What the reference answers: X12_end. -/
set_option maxRecDepth 100000 in
set_option maxHeartbeats 4000000 in
theorem f_X12_end (G : GT) (P : PH) (T : TT) (a1 : Int) (h_a1 : (-2147483648) ≤ a1 ∧ a1 ≤ 2147483647) (hB : BdM P) (z0 : CM T P) (Q : Option PV → PH → Prop) (hQ : ∀ (r : Int) (_ : 0 ≤ r ∧ r ≤ 1) (P1 : PH) (_ : BdM P1) (_ : FrM ([1], [28]) P P1) (_ : (0 ≤ a1 ∧ a1 ≤ P 0 1 ∧ r = 1 ∧ P1 0 1 = a1) ∨ ((a1 < 0 ∨ P 0 1 < a1) ∧ r = 0 ∧ P1 0 1 = P 0 1)) (_ : CM (fe T a1) P1), Q (some (vI r)) P1) : Ct WSM G 2 iX12_end [vR 0, vI a1] P Q := by
  sorry
/-! What the reference answers: X12_fault. -/
set_option maxRecDepth 100000 in
set_option maxHeartbeats 4000000 in
theorem f_X12_fault (G : GT) (P : PH) (a1 : Int) (h_a1 : (-2147483648) ≤ a1 ∧ a1 ≤ 2147483647) (hB : BdM P) (Q : Option PV → PH → Prop) (hQ : ∀ (r : Int) (_ : (-1) ≤ r ∧ r ≤ 1600) (_ : (a1 = 0 ∧ r = P 0 10) ∨ (a1 = 1 ∧ r = P 0 11) ∨ (a1 ≠ 0 ∧ a1 ≠ 1 ∧ r = -1)), Q (some (vI r)) P) : Ct WSM G 1 iX12_fault [vR 0, vI a1] P Q := by
  sorry
/-! What the reference answers: X12_feed. -/
set_option maxRecDepth 100000 in
set_option maxHeartbeats 4000000 in
theorem f_X12_feed (G : GT) (P : PH) (T : TT) (a1 : Int) (a2 : Int) (a3 : Int) (a4 : Int) (a5 : Int) (h_a1 : (-2147483648) ≤ a1 ∧ a1 ≤ 2147483647) (h_a2 : (-2147483648) ≤ a2 ∧ a2 ≤ 2147483647) (h_a3 : (-2147483648) ≤ a3 ∧ a3 ≤ 2147483647) (h_a4 : (-2147483648) ≤ a4 ∧ a4 ≤ 2147483647) (h_a5 : (-2147483648) ≤ a5 ∧ a5 ≤ 2147483647) (hB : BdM P) (z0 : CM T P) (Q : Option PV → PH → Prop) (hQ : ∀ (r : Int) (_ : (-2147483648) ≤ r ∧ r ≤ 2147483647) (P1 : PH) (_ : BdM P1) (_ : FrM ([1], [1, 28]) P P1) (_ : (P 0 1 ≤ 1580 ∧ r = P 0 1 + 20 ∧ P1 0 1 = P 0 1 + 20) ∨ (1580 < P 0 1 ∧ r = -1 ∧ P1 0 1 = P 0 1)) (_ : CM (ff T a1 a2 a3 a4 a5) P1), Q (some (vI r)) P1) : Ct WSM G 2 iX12_feed [vR 0, vI a1, vI a2, vI a3, vI a4, vI a5] P Q := by
  sorry
/-! What the reference answers: X12_fieldBegins. -/
set_option maxRecDepth 100000 in
set_option maxHeartbeats 4000000 in
theorem f_X12_fieldBegins (G : GT) (P : PH) (f : Int) (s : SK) (k : Int) (k1 : Int) (a1 : Int) (a2 : Int) (h_a1 : 0 ≤ a1 ∧ a1 ≤ 23) (h_a2 : 0 ≤ a2 ∧ a2 ≤ 1) (hB : BdM P) (p_sx : SX f 1 P) (p_cn : a1 < P 5 (P 0 37)) (p_fl : a2 < P 7 (24 * P 0 37 + a1)) (p_k : P 6 (24 * P 0 37 + a1) + P 0 43 ≤ 4) (p_co : P 0 36 ≤ 2799) (p_fk4 : K4 (P 8 (2 * (24 * P 0 37 + a1) + a2)) k1) (v_CF : CF P) (z0 : STK s k P) (Q : Option PV → PH → Prop) (hQ : ∀ (P1 : PH) (_ : BdM P1) (_ : FrM ([36, 43], [19, 20, 21, 24, 25, 26, 27]) P P1) (_ : LO P P1) (_ : SX f 0 P1) (_ : (a2 = 0 ∧ pot P1 = pot P + 11) ∨ (a2 ≠ 0 ∧ pot P1 = pot P + 7)) (_ : STK ((a1, a2, k) :: s) k1 P1) (_ : KB (P 0 37) P P1), Q none P1) : Ct WSM G 2 iX12_fieldBegins [vR 0, vI a1, vI a2] P Q := by
  sorry
/-! What the reference answers: X12_finishes. -/
set_option maxRecDepth 100000 in
set_option maxHeartbeats 4000000 in
theorem f_X12_finishes (G : GT) (P : PH) (T : TT) (p : Int) (a1 : Int) (h_a1 : 0 ≤ a1 ∧ a1 ≤ 2147483647) (hB : BdM P) (p_lx : (P 0 3 = 0 ∨ P 0 4 + 1 ≤ P 0 5) ∧ P 0 4 ≤ P 0 5) (v_FP : FP P) (z0 : MT T P) (z1 : CP (P 0 8) (MS T p) P) (Q : Option PV → PH → Prop) (hQ : ∀ (P1 : PH) (_ : BdM P1) (_ : FrM ([3, 4, 5, 6, 7, 8, 9, 12], []) P P1) (_ : (P1 0 3 = 0 ∨ P1 0 4 + 1 ≤ P1 0 5) ∧ P1 0 4 ≤ P1 0 5) (_ : P 0 4 ≤ P1 0 4) (_ : P 0 8 ≤ 0 ∨ 0 < P1 0 8) (_ : 0 < P1 0 8 ∨ P 0 4 + 1 ≤ P1 0 4) (_ : (0 < P 0 8 ∧ P1 0 8 = P 0 8 ∧ P1 0 9 = P 0 9) ∨ (P 0 8 ≤ 0 ∧ (sgn T 59 p).1 = 0 ∧ a1 = 60 ∧ tA T (tE T p) < T.2 ∧ P1 0 8 = 6 ∧ P1 0 9 = tA T (tE T p)) ∨ (P 0 8 ≤ 0 ∧ ((sgn T 59 p).1 ≠ 0 ∨ a1 ≠ 60 ∨ T.2 ≤ tA T (tE T p)) ∧ P1 0 8 = (sgn T 59 p).1 ∧ ((sgn T 59 p).1 = 0 ∨ P1 0 9 = (sgn T 59 p).2))) (_ : FP P1) (_ : CP (P1 0 8) (MS T (sgn T 59 p).2) P1), Q none P1) : Ct WSM G 4 iX12_finishes [vR 0, vI a1] P Q := by
  sorry
/-! What the reference answers: X12_fresh. -/
set_option maxRecDepth 100000 in
set_option maxHeartbeats 4000000 in
theorem f_X12_fresh (G : GT) (P : PH) (T : TT) (K : PH) (p : Int) (hB : BdM P) (p_lx : (P 0 3 = 0 ∨ P 0 4 + 1 ≤ P 0 5) ∧ P 0 4 ≤ P 0 5) (p_fk : P 0 8 ≤ 0) (p_aw : AW K) (v_FP : FP P) (z0 : MT T P) (z1 : MS T p P) (z2 : MK K P) (Q : Option PV → PH → Prop) (hQ : ∀ (r : Int) (_ : (-9223372036854775808) ≤ r ∧ r ≤ 9223372036854775807) (P1 : PH) (_ : BdM P1) (_ : FrM ([3, 4, 5, 6, 7, 8, 9, 12], []) P P1) (_ : (P1 0 3 = 0 ∨ P1 0 4 + 1 ≤ P1 0 5) ∧ P1 0 4 ≤ P1 0 5) (_ : P 0 4 ≤ P1 0 4) (_ : P 0 8 ≤ 0 ∨ 0 < P1 0 8) (_ : P1 0 8 = (fre T K p).1 ∧ ((fre T K p).1 = 0 ∨ P1 0 9 = (fre T K p).2)) (_ : (fre T K p).1 ≠ 0 ∨ (r = tW T p ∧ tK T p = 1)) (_ : FP P1) (_ : CP (fre T K p).1 (MS T (fre T K p).2) P1), Q (some (vL r)) P1) : Ct WSM G 3 iX12_fresh [vR 0] P Q := by
  sorry
/-! What the reference answers: X12_goesOn. -/
set_option maxRecDepth 100000 in
set_option maxHeartbeats 4000000 in
theorem f_X12_goesOn (G : GT) (P : PH) (f : Int) (T : TT) (K : PH) (s : SK) (k : Int) (p : Int) (a1 : Int) (h_a1 : 0 ≤ a1 ∧ a1 ≤ 0) (hB : BdM P) (p_lx : (P 0 3 = 0 ∨ P 0 4 + 1 ≤ P 0 5) ∧ P 0 4 ≤ P 0 5) (p_sx : 0 < P 0 8 ∨ (SX f 1 P ∧ pot P + 3 ≤ 8 * P 0 4)) (p_aw : AW K) (p_go : 0 < P 0 8 ∨ (MS T p P ∧ STK s k P)) (v_CF : CF P) (v_FP : FP P) (z0 : MT T P) (z1 : MK K P) (Q : Option PV → PH → Prop) (hQ : ∀ (r : Int) (_ : 0 ≤ r ∧ r ≤ 1) (P1 : PH) (_ : BdM P1) (_ : FrM ([3, 4, 5, 6, 7, 8, 9, 12, 36, 43], [19, 20, 21, 24, 25, 26, 27]) P P1) (_ : (P1 0 3 = 0 ∨ P1 0 4 + 1 ≤ P1 0 5) ∧ P1 0 4 ≤ P1 0 5) (_ : P 0 4 ≤ P1 0 4) (_ : P 0 8 ≤ 0 ∨ 0 < P1 0 8) (_ : LO P P1) (_ : 0 < P1 0 8 ∨ (r = 1 ∧ SX f 0 P1 ∧ pot P1 ≤ 8 * P1 0 4) ∨ (r = 0 ∧ WF P1 (P 0 37) f (2800 * P 0 37 + P1 0 36) ∧ 5 * P1 0 36 ≤ 8 * P1 0 4)) (_ : (0 < P 0 8 ∧ P1 0 8 = P 0 8 ∧ P1 0 9 = P 0 9) ∨ (P 0 8 ≤ 0 ∧ GN T K s k p r P1)) (_ : FP P1) (_ : KB (P 0 37) P P1), Q (some (vI r)) P1) : Ct WSM G 4 iX12_goesOn [vR 0, vI a1] P Q := by
  sorry
/-! What the reference answers: X12_isCounted. -/
set_option maxRecDepth 100000 in
set_option maxHeartbeats 4000000 in
theorem f_X12_isCounted (G : GT) (P : PH) (T : TT) (p : Int) (a1 : Int) (h_a1 : 0 ≤ a1 ∧ a1 ≤ 1) (hB : BdM P) (p_lx : (P 0 3 = 0 ∨ P 0 4 + 1 ≤ P 0 5) ∧ P 0 4 ≤ P 0 5) (p_k1 : 1 ≤ tK T p ∧ tK T p ≤ 3) (v_FP : FP P) (z0 : MT T P) (z1 : MS T p P) (Q : Option PV → PH → Prop) (hQ : ∀ (r : Int) (_ : 0 ≤ r ∧ r ≤ 1) (P1 : PH) (_ : BdM P1) (_ : FrM ([3, 4, 5, 6, 7, 8, 9, 12], []) P P1) (_ : (P1 0 3 = 0 ∨ P1 0 4 + 1 ≤ P1 0 5) ∧ P1 0 4 ≤ P1 0 5) (_ : P 0 4 ≤ P1 0 4) (_ : P 0 8 ≤ 0 ∨ 0 < P1 0 8) (_ : (r = 1 ∧ P1 0 8 ≤ 0 ∧ a1 = 0) ∨ (r = 0 ∧ 0 < P1 0 8)) (_ : r = 0 ∨ P 0 3 = 0 ∨ P 0 4 + 1 ≤ P1 0 4) (_ : (0 < P 0 8 ∧ P1 0 8 = P 0 8 ∧ P1 0 9 = P 0 9 ∧ r = 0) ∨ (P 0 8 ≤ 0 ∧ a1 = 1 ∧ P1 0 8 = 6 ∧ P1 0 9 = tA T p ∧ r = 0) ∨ (P 0 8 ≤ 0 ∧ a1 = 0 ∧ P1 0 8 = 0 ∧ r = 1)) (_ : FP P1) (_ : CP (P1 0 8) (MS T (tE T p)) P1), Q (some (vI r)) P1) : Ct WSM G 3 iX12_isCounted [vR 0, vI a1] P Q := by
  sorry
/-! What the reference answers: X12_isKindHere. -/
set_option maxRecDepth 100000 in
set_option maxHeartbeats 4000000 in
theorem f_X12_isKindHere (G : GT) (P : PH) (T : TT) (p : Int) (hB : BdM P) (z0 : MS T p P) (Q : Option PV → PH → Prop) (hQ : ∀ (r : Int) (_ : 0 ≤ r ∧ r ≤ 1) (_ : r = 0 ∨ P 0 3 = 1) (_ : (r = 1 ∧ tK T p = 1 ∧ (tO T p = -1 ∨ tO T p = 7)) ∨ (r = 0 ∧ (tK T p ≠ 1 ∨ (tO T p ≠ -1 ∧ tO T p ≠ 7)))), Q (some (vI r)) P) : Ct WSM G 2 iX12_isKindHere [vR 0] P Q := by
  sorry
/-! What the reference answers: X12_isMoreOf. -/
set_option maxRecDepth 100000 in
set_option maxHeartbeats 4000000 in
theorem f_X12_isMoreOf (G : GT) (P : PH) (T : TT) (K : PH) (s : SV) (k0 : Int) (k : Int) (p : Int) (a1 : Int) (h_a1 : (-2147483648) ≤ a1 ∧ a1 ≤ 2147483647) (hB : BdM P) (p_lx : (P 0 3 = 0 ∨ P 0 4 + 1 ≤ P 0 5) ∧ P 0 4 ≤ P 0 5) (p_sr : SR P) (p_aw : AW K) (p_ab : AB K) (p_k3 : k0 ≤ 3) (p_go : 0 < P 0 8 ∨ (MS T p P ∧ STW s P ∧ TSV K k0 s k ∧ 0 ≤ a1 ∧ a1 < sz K k)) (v_CF : CF P) (v_FP : FP P) (z0 : MT T P) (z1 : MKB K P) (Q : Option PV → PH → Prop) (hQ : ∀ (r : Int) (_ : 0 ≤ r ∧ r ≤ 1) (P1 : PH) (_ : BdM P1) (_ : FrM ([3, 4, 5, 6, 7, 8, 9, 12, 43], [24, 25, 27]) P P1) (_ : (P1 0 3 = 0 ∨ P1 0 4 + 1 ≤ P1 0 5) ∧ P1 0 4 ≤ P1 0 5) (_ : P 0 4 ≤ P1 0 4) (_ : P 0 8 ≤ 0 ∨ 0 < P1 0 8) (_ : (r = 1 ∧ SR P1) ∨ r = 0) (_ : (0 < P 0 8 ∧ P1 0 8 = P 0 8 ∧ P1 0 9 = P 0 9) ∨ (P 0 8 ≤ 0 ∧ VN T K k0 s p a1 r P1)) (_ : FP P1), Q (some (vI r)) P1) : Ct WSM G 4 iX12_isMoreOf [vR 0, vI a1] P Q := by
  sorry
/-! What the reference answers: X12_isOwn. -/
set_option maxRecDepth 100000 in
set_option maxHeartbeats 4000000 in
theorem f_X12_isOwn (G : GT) (P : PH) (a1 : Int) (h_a1 : (-9223372036854775808) ≤ a1 ∧ a1 ≤ 9223372036854775807) (hB : BdM P) (Q : Option PV → PH → Prop) (hQ : ∀ (r : Int) (_ : 0 ≤ r ∧ r ≤ 1) (_ : (r = 1 ∧ oWS a1) ∨ (r = 0 ∧ ¬ oWS a1)), Q (some (vI r)) P) : Ct WSM G 1 iX12_isOwn [vR 0, vL a1] P Q := by
  sorry
/-! What the reference answers: X12_isSign. -/
set_option maxRecDepth 100000 in
set_option maxHeartbeats 4000000 in
theorem f_X12_isSign (G : GT) (P : PH) (T : TT) (p : Int) (a1 : Int) (h_a1 : (-2147483648) ≤ a1 ∧ a1 ≤ 2147483647) (hB : BdM P) (z0 : MS T p P) (Q : Option PV → PH → Prop) (hQ : ∀ (r : Int) (_ : 0 ≤ r ∧ r ≤ 1) (_ : r = 0 ∨ (P 0 3 = 3 ∧ P 0 6 = a1)) (_ : tK T p = 4 ∨ (r = 1 ∧ tK T p = 3 ∧ tV T p = a1) ∨ (r = 0 ∧ (tK T p ≠ 3 ∨ tV T p ≠ a1))), Q (some (vI r)) P) : Ct WSM G 1 iX12_isSign [vR 0, vI a1] P Q := by
  sorry
/-! What the reference answers: X12_isWord. -/
set_option maxRecDepth 100000 in
set_option maxHeartbeats 4000000 in
theorem f_X12_isWord (G : GT) (P : PH) (T : TT) (p : Int) (a1 : Int) (h_a1 : (-9223372036854775808) ≤ a1 ∧ a1 ≤ 9223372036854775807) (hB : BdM P) (z0 : MS T p P) (Q : Option PV → PH → Prop) (hQ : ∀ (r : Int) (_ : 0 ≤ r ∧ r ≤ 1) (_ : r = 0 ∨ (P 0 3 = 1 ∧ P 0 7 = a1)) (_ : tK T p = 4 ∨ (r = 1 ∧ tK T p = 1 ∧ tW T p = a1) ∨ (r = 0 ∧ (tK T p ≠ 1 ∨ tW T p ≠ a1))), Q (some (vI r)) P) : Ct WSM G 1 iX12_isWord [vR 0, vL a1] P Q := by
  sorry
/-! What the reference answers: X12_kindIs. -/
set_option maxRecDepth 100000 in
set_option maxHeartbeats 4000000 in
theorem f_X12_kindIs (G : GT) (P : PH) (T : TT) (K : PH) (M : PH) (p : Int) (hB : BdM P) (p_lx : (P 0 3 = 0 ∨ P 0 4 + 1 ≤ P 0 5) ∧ P 0 4 ≤ P 0 5) (p_fk : P 0 8 ≤ 0) (p_aw : AW K) (p_k0 : tO T p = 0) (v_KVP : KVP P) (v_KC : KC P) (v_CF : CF P) (v_ZT : ZT P) (v_ZO : ZO P) (v_ZC : ZC P) (v_ZI : ZI P) (v_FP : FP P) (z0 : MT T P) (z1 : MS T p P) (z2 : MK K P) (z3 : MM M P) (z4 : MTl M P) (Q : Option PV → PH → Prop) (hQ : ∀ (P1 : PH) (_ : BdM P1) (_ : FrM ([3, 4, 5, 6, 7, 8, 9, 12], [2, 3, 4, 22]) P P1) (_ : (P1 0 3 = 0 ∨ P1 0 4 + 1 ≤ P1 0 5) ∧ P1 0 4 ≤ P1 0 5) (_ : P 0 4 ≤ P1 0 4) (_ : P 0 8 ≤ 0 ∨ 0 < P1 0 8) (_ : 0 < P1 0 8 ∨ P 0 38 = 0) (_ : P1 0 8 = (sKi T K M p).1 ∧ ((sKi T K M p).1 = 0 ∨ P1 0 9 = (sKi T K M p).2)) (_ : KVP P1) (_ : KC P1) (_ : CF P1) (_ : ZT P1) (_ : ZO P1) (_ : ZC P1) (_ : FP P1) (_ : CP (sKi T K M p).1 (MS T (sKi T K M p).2) P1) (_ : CP (sKi T K M p).1 (MK (kNew K (tV T (tE T p)))) P1) (_ : KB (P 0 37) P P1), Q none P1) : Ct WSM G 4 iX12_kindIs [vR 0] P Q := by
  sorry
/-! What the reference answers: X12_kindNamed. -/
set_option maxRecDepth 100000 in
set_option maxHeartbeats 4000000 in
theorem f_X12_kindNamed (G : GT) (P : PH) (a1 : Int) (h_a1 : (-9223372036854775808) ≤ a1 ∧ a1 ≤ 9223372036854775807) (hB : BdM P) (Q : Option PV → PH → Prop) (hQ : ∀ (r : Int) (_ : (-1) ≤ r ∧ r ≤ 3) (_ : r < P 2 (P 0 37)) (_ : r = fxi (fun i => P 22 (4 * P 0 37 + i)) a1 (P 2 (P 0 37)).toNat), Q (some (vI r)) P) : Ct WSM G 1 iX12_kindNamed [vR 0, vL a1] P Q := by
  sorry
/-! What the reference answers: X12_known. -/
set_option maxRecDepth 100000 in
set_option maxHeartbeats 4000000 in
theorem f_X12_known (G : GT) (P : PH) (T : TT) (K : PH) (p : Int) (a1 : Int) (h_a1 : (-1) ≤ a1 ∧ a1 ≤ 4) (hB : BdM P) (p_lx : (P 0 3 = 0 ∨ P 0 4 + 1 ≤ P 0 5) ∧ P 0 4 ≤ P 0 5) (p_aw : AW K) (p_kw : tK T p = 1 ∧ (tO T p = -1 ∨ tO T p = 7)) (v_FP : FP P) (z0 : MS T p P) (z1 : MK K P) (Q : Option PV → PH → Prop) (hQ : ∀ (r : Int) (_ : 0 ≤ r ∧ r ≤ 4) (P1 : PH) (_ : BdM P1) (_ : FrM ([8, 9], []) P P1) (_ : (P1 0 3 = 0 ∨ P1 0 4 + 1 ≤ P1 0 5) ∧ P1 0 4 ≤ P1 0 5) (_ : P 0 4 ≤ P1 0 4) (_ : P 0 8 ≤ 0 ∨ 0 < P1 0 8) (_ : 0 < P1 0 8 ∨ r = 4 ∨ (r < a1 ∧ 1 ≤ P1 3 (4 * P 0 37 + r) ∧ r < P1 2 (P 0 37))) (_ : (0 < P 0 8 ∧ P1 0 8 = P 0 8 ∧ P1 0 9 = P 0 9) ∨ (P 0 8 ≤ 0 ∧ tO T p = -1 ∧ (kHe T K p = -1 ∨ a1 ≤ kHe T K p ∨ K 2 (kHe T K p) = 0) ∧ P1 0 8 = 3 ∧ P1 0 9 = tA T p) ∨ (P 0 8 ≤ 0 ∧ P1 0 8 = 0 ∧ ((tO T p = 7 ∧ r = 4 ∧ kHe T K p = -1) ∨ (tO T p = -1 ∧ r = kHe T K p ∧ 0 ≤ r ∧ r ≤ 3 ∧ r < a1 ∧ 1 ≤ K 2 (kHe T K p))))) (_ : FP P1), Q (some (vI r)) P1) : Ct WSM G 3 iX12_known [vR 0, vI a1] P Q := by
  sorry
/-! What the reference answers: X12_letter. -/
set_option maxRecDepth 100000 in
set_option maxHeartbeats 4000000 in
theorem f_X12_letter (G : GT) (P : PH) (K : PH) (a1 : Int) (a2 : Int) (a3 : Int) (h_a1 : (-2147483648) ≤ a1 ∧ a1 ≤ 2147483647) (h_a2 : (-2147483648) ≤ a2 ∧ a2 ≤ 2147483647) (h_a3 : (-2147483648) ≤ a3 ∧ a3 ≤ 2147483647) (hB : BdM P) (p_aw : AW K) (z0 : MKB K P) (Q : Option PV → PH → Prop) (hQ : ∀ (r : Int) (_ : (-2147483648) ≤ r ∧ r ≤ 2147483647) (_ : r = ltr K a1 a2 a3), Q (some (vI r)) P) : Ct WSM G 2 iX12_letter [vR 0, vI a1, vI a2, vI a3] P Q := by
  sorry
/-! What the reference answers: X12_lettersOf. -/
set_option maxRecDepth 100000 in
set_option maxHeartbeats 4000000 in
theorem f_X12_lettersOf (G : GT) (P : PH) (g : Nat → Int) (L : Nat) (a1 : Int) (h_a1 : (-9223372036854775808) ≤ a1 ∧ a1 ≤ 9223372036854775807) (hB : BdM P) (p_L : L ≤ 6) (p_g : ∀ i : Nat, i < L → 1 ≤ g i ∧ g i ≤ 26) (p_w : a1 = e56 g L) (Q : Option PV → PH → Prop) (hQ : ∀ (r : Int) (_ : 0 ≤ r ∧ r ≤ 8) (_ : r = (L : Int)), Q (some (vI r)) P) : Ct WSM G 1 iX12_lettersOf [vL a1] P Q := by
  sorry
/-! What the reference answers: X12_lex. -/
set_option maxRecDepth 100000 in
set_option maxHeartbeats 4000000 in
theorem f_X12_lex (G : GT) (P : PH) (T : TT) (p : Int) (hB : BdM P) (v_FP : FP P) (z0 : CP (P 0 8) (MS T p) P) (Q : Option PV → PH → Prop) (hQ : ∀ (P1 : PH) (_ : BdM P1) (_ : FrM ([8, 9], []) P P1) (_ : P 0 8 ≤ 0 ∨ 0 < P1 0 8) (_ : (0 < P 0 8 ∧ P1 0 8 = P 0 8 ∧ P1 0 9 = P 0 9) ∨ (P 0 8 = 0 ∧ tK T p = 4 ∧ P1 0 8 = 1 ∧ P1 0 9 = tS T p) ∨ (P 0 8 = 0 ∧ tK T p ≠ 4 ∧ P1 0 8 = P 0 8 ∧ P1 0 9 = P 0 9)) (_ : FP P1), Q none P1) : Ct WSM G 2 iX12_lex [vR 0] P Q := by
  sorry
/-! What the reference answers: X12_match. -/
set_option maxRecDepth 100000 in
set_option maxHeartbeats 4000000 in
theorem f_X12_match (G : GT) (P : PH) (T : TT) (K : PH) (M : PH) (hB : BdM P) (p_tx : P 0 1 = T.2 ∧ ∀ i : Int, 0 ≤ i → i < T.2 → P 1 i = T.1 i) (p_aw : AW K) (p_av : AV K M) (v_KVP : KVP P) (v_CF : CF P) (v_ZT : ZT P) (v_ZO : ZO P) (v_ZC : ZC P) (v_ZS : ZS P) (v_okB : okB P) (v_okR : okR P) (z0 : MKB K P) (z1 : MMB M P) (z2 : MH M P) (Q : Option PV → PH → Prop) (hQ : ∀ (r : Int) (_ : (-2147483648) ≤ r ∧ r ≤ 2147483647) (P1 : PH) (_ : BdM P1) (_ : FrM ([1, 2, 3, 4, 5, 6, 7, 8, 9, 10, 11, 12, 13, 36, 37, 38, 43, 44, 52, 60, 92], [2, 3, 4, 5, 6, 7, 8, 9, 10, 11, 12, 13, 14, 15, 16, 17, 18, 19, 20, 21, 22, 23, 24, 25, 26, 27, 28, 29, 30, 31, 32, 33, 34, 35, 36, 37, 38, 39]) P P1) (_ : P1 0 1 = 0) (_ : (r = -1 ∧ (mlR T).1 ≠ 0) ∨ (r = (mlR T).2.1 ∧ (mlR T).1 = 0)) (_ : P1 0 10 = (mlR T).1 ∧ (((mlR T).1 = 0 ∧ P1 0 11 = -1) ∨ ((mlR T).1 ≠ 0 ∧ P1 0 11 = (mlR T).2.1))) (_ : KVP P1) (_ : CF P1) (_ : ZT P1) (_ : ZO P1) (_ : ZC P1) (_ : ZS P1) (_ : okB P1) (_ : okR P1) (_ : okC P1) (_ : MKB (kmR T K) P1) (_ : MMB (mmR T M) P1) (_ : MH (mmR T M) P1), Q (some (vI r)) P1) : Ct WSM G 9 iX12_match [vR 0] P Q := by
  sorry
/-! What the reference answers: X12_matchIs. -/
set_option maxRecDepth 100000 in
set_option maxHeartbeats 4000000 in
theorem f_X12_matchIs (G : GT) (P : PH) (T : TT) (K : PH) (M : PH) (p : Int) (hB : BdM P) (p_lx : (P 0 3 = 0 ∨ P 0 4 + 1 ≤ P 0 5) ∧ P 0 4 ≤ P 0 5) (p_fk : P 0 8 ≤ 0) (p_aw : AW K) (p_k0 : tO T p = 2) (v_ZC : ZC P) (v_ZI : ZI P) (v_ZS : ZS P) (v_FP : FP P) (z0 : MT T P) (z1 : MS T p P) (z2 : MK K P) (z3 : MM M P) (z4 : MTl M P) (Q : Option PV → PH → Prop) (hQ : ∀ (P1 : PH) (_ : BdM P1) (_ : FrM ([3, 4, 5, 6, 7, 8, 9, 12, 38], [11, 12]) P P1) (_ : (P1 0 3 = 0 ∨ P1 0 4 + 1 ≤ P1 0 5) ∧ P1 0 4 ≤ P1 0 5) (_ : P 0 4 ≤ P1 0 4) (_ : P 0 8 ≤ 0 ∨ 0 < P1 0 8) (_ : 0 < P1 0 8 ∨ prdU P1 (P 0 37) (P1 11 (P 0 37)).toNat ≤ 20000) (_ : (P1 0 8 = (sMa T K M p).1 ∧ ((sMa T K M p).1 = 0 ∨ P1 0 9 = (sMa T K M p).2.1)) ∨ ((sMa T K M p).1 = 0 ∧ tK T (sMa T K M p).2.1 = 4 ∧ P1 0 8 = 1 ∧ P1 0 9 = tS T (sMa T K M p).2.1)) (_ : ZC P1) (_ : ZI P1) (_ : ZS P1) (_ : FP P1) (_ : CP (P1 0 8) (MS T (sMa T K M p).2.1) P1) (_ : CP (P1 0 8) (MM (sMa T K M p).2.2) P1) (_ : CP (P1 0 8) (MTl (sMa T K M p).2.2) P1) (_ : KB (P 0 37) P P1), Q none P1) : Ct WSM G 4 iX12_matchIs [vR 0] P Q := by
  sorry
/-! What the reference answers: X12_must. -/
set_option maxRecDepth 100000 in
set_option maxHeartbeats 4000000 in
theorem f_X12_must (G : GT) (P : PH) (T : TT) (p : Int) (a1 : Int) (h_a1 : (-2147483648) ≤ a1 ∧ a1 ≤ 2147483647) (hB : BdM P) (p_lx : (P 0 3 = 0 ∨ P 0 4 + 1 ≤ P 0 5) ∧ P 0 4 ≤ P 0 5) (v_FP : FP P) (z0 : MT T P) (z1 : MS T p P) (Q : Option PV → PH → Prop) (hQ : ∀ (P1 : PH) (_ : BdM P1) (_ : FrM ([3, 4, 5, 6, 7, 8, 9, 12], []) P P1) (_ : (P1 0 3 = 0 ∨ P1 0 4 + 1 ≤ P1 0 5) ∧ P1 0 4 ≤ P1 0 5) (_ : P 0 4 ≤ P1 0 4) (_ : P 0 8 ≤ 0 ∨ 0 < P1 0 8) (_ : 0 < P1 0 8 ∨ P 0 4 + 1 ≤ P1 0 4) (_ : (0 < P 0 8 ∧ P1 0 8 = P 0 8 ∧ P1 0 9 = P 0 9) ∨ (P 0 8 ≤ 0 ∧ P1 0 8 = (sgn T a1 p).1 ∧ ((sgn T a1 p).1 = 0 ∨ P1 0 9 = (sgn T a1 p).2))) (_ : FP P1) (_ : CP (P1 0 8) (MS T (sgn T a1 p).2) P1), Q none P1) : Ct WSM G 3 iX12_must [vR 0, vI a1] P Q := by
  sorry
/-! What the reference answers: X12_number. -/
set_option maxRecDepth 100000 in
set_option maxHeartbeats 4000000 in
theorem f_X12_number (G : GT) (P : PH) (T : TT) (p : Int) (a1 : Int) (a2 : Int) (h_a1 : (-2147483648) ≤ a1 ∧ a1 ≤ 2147483647) (h_a2 : (-2147483648) ≤ a2 ∧ a2 ≤ 2147483647) (hB : BdM P) (p_lx : (P 0 3 = 0 ∨ P 0 4 + 1 ≤ P 0 5) ∧ P 0 4 ≤ P 0 5) (p_fk : P 0 8 ≤ 0) (v_FP : FP P) (z0 : MT T P) (z1 : MS T p P) (Q : Option PV → PH → Prop) (hQ : ∀ (r : Int) (_ : (-2147483648) ≤ r ∧ r ≤ 2147483647) (P1 : PH) (_ : BdM P1) (_ : FrM ([3, 4, 5, 6, 7, 8, 9, 12], []) P P1) (_ : (P1 0 3 = 0 ∨ P1 0 4 + 1 ≤ P1 0 5) ∧ P1 0 4 ≤ P1 0 5) (_ : P 0 4 ≤ P1 0 4) (_ : P 0 8 ≤ 0 ∨ 0 < P1 0 8) (_ : 0 < P1 0 8 ∨ (a1 ≤ r ∧ r ≤ a2 ∧ P 0 4 + 1 ≤ P1 0 4)) (_ : P1 0 8 = (num T a1 a2 p).1 ∧ ((num T a1 a2 p).1 = 0 ∨ P1 0 9 = (num T a1 a2 p).2)) (_ : (num T a1 a2 p).1 ≠ 0 ∨ r = tV T p) (_ : FP P1) (_ : CP (num T a1 a2 p).1 (MS T (num T a1 a2 p).2) P1), Q (some (vI r)) P1) : Ct WSM G 3 iX12_number [vR 0, vI a1, vI a2] P Q := by
  sorry
/-! What the reference answers: X12_pattern. -/
set_option maxRecDepth 100000 in
set_option maxHeartbeats 4000000 in
theorem f_X12_pattern (G : GT) (P : PH) (T : TT) (K : PH) (k : Int) (p : Int) (a1 : Int) (h_a1 : 0 ≤ a1 ∧ a1 ≤ 4) (hB : BdM P) (p_lx : (P 0 3 = 0 ∨ P 0 4 + 1 ≤ P 0 5) ∧ P 0 4 ≤ P 0 5) (p_po : 5 * P 0 36 ≤ 8 * P 0 4) (p_fk : P 0 8 ≤ 0) (p_aw : AW K) (p_k4 : K4 a1 k) (v_CF : CF P) (v_FP : FP P) (z0 : MT T P) (z1 : MS T p P) (z2 : MK K P) (Q : Option PV → PH → Prop) (hQ : ∀ (P1 : PH) (_ : BdM P1) (_ : FrM ([3, 4, 5, 6, 7, 8, 9, 12, 36, 43], [19, 20, 21, 24, 25, 26, 27]) P P1) (_ : (P1 0 3 = 0 ∨ P1 0 4 + 1 ≤ P1 0 5) ∧ P1 0 4 ≤ P1 0 5) (_ : P 0 4 ≤ P1 0 4) (_ : P 0 8 ≤ 0 ∨ 0 < P1 0 8) (_ : LO P P1) (_ : 0 < P1 0 8 ∨ (WF P1 (P 0 37) (2800 * P 0 37 + P 0 36) (2800 * P 0 37 + P1 0 36) ∧ 5 * P1 0 36 ≤ 8 * P1 0 4)) (_ : (P1 0 8 = (pat T K k p).1 ∧ ((pat T K k p).1 = 0 ∨ P1 0 9 = (pat T K k p).2)) ∨ ((pat T K k p).1 = 0 ∧ tK T (pat T K k p).2 = 4 ∧ P1 0 8 = 1 ∧ P1 0 9 = tS T (pat T K k p).2)) (_ : FP P1) (_ : CP (P1 0 8) (MS T (pat T K k p).2) P1) (_ : KB (P 0 37) P P1), Q none P1) : Ct WSM G 6 iX12_pattern [vR 0, vI a1] P Q := by
  sorry
/-! What the reference answers: X12_put. -/
set_option maxRecDepth 100000 in
set_option maxHeartbeats 4000000 in
theorem f_X12_put (G : GT) (P : PH) (T : TT) (a1 : Int) (h_a1 : (-2147483648) ≤ a1 ∧ a1 ≤ 2147483647) (hB : BdM P) (p_t : P 0 1 ≤ 1596) (z0 : CM T P) (Q : Option PV → PH → Prop) (hQ : ∀ (P1 : PH) (_ : BdM P1) (_ : FrM ([1], [1]) P P1) (_ : P1 0 1 = P 0 1 + 4) (_ : CM (tput T a1 4) P1), Q none P1) : Ct WSM G 1 iX12_put [vR 0, vI a1] P Q := by
  sorry
/-! What the reference answers: X12_range. -/
set_option maxRecDepth 100000 in
set_option maxHeartbeats 4000000 in
theorem f_X12_range (G : GT) (P : PH) (f : Int) (T : TT) (p : Int) (hB : BdM P) (p_lx : (P 0 3 = 0 ∨ P 0 4 + 1 ≤ P 0 5) ∧ P 0 4 ≤ P 0 5) (p_po : pot P ≤ 8 * P 0 4) (p_sx : SX f 0 P) (p_fk : P 0 8 ≤ 0) (v_FP : FP P) (z0 : MT T P) (z1 : MS T p P) (Q : Option PV → PH → Prop) (hQ : ∀ (P1 : PH) (_ : BdM P1) (_ : FrM ([3, 4, 5, 6, 7, 8, 9, 12, 36], [19, 20, 21]) P P1) (_ : (P1 0 3 = 0 ∨ P1 0 4 + 1 ≤ P1 0 5) ∧ P1 0 4 ≤ P1 0 5) (_ : P 0 4 ≤ P1 0 4) (_ : P 0 8 ≤ 0 ∨ 0 < P1 0 8) (_ : LO P P1) (_ : 0 < P1 0 8 ∨ (SX f 1 P1 ∧ pot P1 + 3 ≤ 8 * P1 0 4)) (_ : 0 < P1 0 8 ∨ P 0 4 + 1 ≤ P1 0 4) (_ : (P1 0 8 = (rng T p).1 ∧ ((rng T p).1 = 0 ∨ P1 0 9 = (rng T p).2)) ∨ ((rng T p).1 = 0 ∧ tK T (rng T p).2 = 4 ∧ P1 0 8 = 1 ∧ P1 0 9 = tS T (rng T p).2)) (_ : FP P1) (_ : CP (P1 0 8) (MS T (rng T p).2) P1) (_ : KB (P 0 37) P P1), Q none P1) : Ct WSM G 4 iX12_range [vR 0] P Q := by
  sorry
/-! What the reference answers: X12_row. -/
set_option maxRecDepth 100000 in
set_option maxHeartbeats 4000000 in
theorem f_X12_row (G : GT) (P : PH) (T : TT) (K : PH) (M : PH) (hB : BdM P) (p_aw : AW K) (p_ab : AB K) (p_av : AV K M) (p_az : AZ K M) (p_ar : AR K M) (v_okC : okC P) (v_CF : CF P) (z0 : CM T P) (z1 : MKB K P) (z2 : MMB M P) (z3 : MH M P) (Q : Option PV → PH → Prop) (hQ : ∀ (r : Int) (_ : (-2147483648) ≤ r ∧ r ≤ 2147483647) (P1 : PH) (_ : BdM P1) (_ : FrM ([1, 2, 3, 4, 5, 6, 7, 8, 9, 10, 11, 12, 43], [24, 25, 26, 27, 28]) P P1) (_ : P1 0 1 = 0) (_ : (r = -1 ∧ (rwR T K M).1 ≠ 0) ∨ (r = (rwR T K M).2.2 ∧ 0 ≤ r ∧ (rwR T K M).1 = 0)) (_ : P1 0 10 = (rwR T K M).1 ∧ P1 0 11 = (rwR T K M).2.1), Q (some (vI r)) P1) : Ct WSM G 6 iX12_row [vR 0] P Q := by
  sorry
/-! What the reference answers: X12_ruleIs. -/
set_option maxRecDepth 100000 in
set_option maxHeartbeats 4000000 in
theorem f_X12_ruleIs (G : GT) (P : PH) (T : TT) (K : PH) (M : PH) (p : Int) (hB : BdM P) (p_lx : (P 0 3 = 0 ∨ P 0 4 + 1 ≤ P 0 5) ∧ P 0 4 ≤ P 0 5) (p_fk : P 0 8 ≤ 0) (p_k0 : tO T p = 5) (v_FP : FP P) (z0 : MT T P) (z1 : MS T p P) (z2 : MM M P) (Q : Option PV → PH → Prop) (hQ : ∀ (P1 : PH) (_ : BdM P1) (_ : FrM ([3, 4, 5, 6, 7, 8, 9, 12], [15]) P P1) (_ : (P1 0 3 = 0 ∨ P1 0 4 + 1 ≤ P1 0 5) ∧ P1 0 4 ≤ P1 0 5) (_ : P 0 4 ≤ P1 0 4) (_ : P 0 8 ≤ 0 ∨ 0 < P1 0 8) (_ : P1 0 8 = (num T 0 3 (tE T p)).1 ∧ ((num T 0 3 (tE T p)).1 = 0 ∨ P1 0 9 = (num T 0 3 (tE T p)).2)) (_ : FP P1) (_ : CP (num T 0 3 (tE T p)).1 (MS T (num T 0 3 (tE T p)).2) P1) (_ : CP (num T 0 3 (tE T p)).1 (MM (up M 0 3 (tV T (tE T p)))) P1) (_ : KB (P 0 37) P P1), Q none P1) : Ct WSM G 4 iX12_ruleIs [vR 0] P Q := by
  sorry
/-! What the reference answers: X12_statement. -/
set_option maxRecDepth 100000 in
set_option maxHeartbeats 4000000 in
theorem f_X12_statement (G : GT) (P : PH) (T : TT) (K : PH) (M : PH) (p : Int) (hB : BdM P) (p_lx : (P 0 3 = 0 ∨ P 0 4 + 1 ≤ P 0 5) ∧ P 0 4 ≤ P 0 5) (p_po : 0 < P 0 8 ∨ 5 * P 0 36 ≤ 8 * P 0 4) (p_pr : 0 < P 0 8 ∨ prdU P (P 0 37) (P 11 (P 0 37)).toNat ≤ 20000) (p_bu : 0 < P 0 8 ∨ (1 ≤ P 16 (P 0 37) ∧ P 16 (P 0 37) ≤ 999)) (p_fk : P 0 8 ≤ 0) (p_aw : AW K) (v_KVP : KVP P) (v_KC : KC P) (v_CF : CF P) (v_ZT : ZT P) (v_ZO : ZO P) (v_ZC : ZC P) (v_ZI : ZI P) (v_ZS : ZS P) (v_FP : FP P) (z0 : MT T P) (z1 : MS T p P) (z2 : MK K P) (z3 : MM M P) (z4 : MTl M P) (Q : Option PV → PH → Prop) (hQ : ∀ (P1 : PH) (_ : BdM P1) (_ : FrM ([3, 4, 5, 6, 7, 8, 9, 12, 36, 38, 43], [2, 3, 4, 5, 6, 7, 8, 9, 10, 11, 12, 13, 14, 15, 16, 17, 18, 19, 20, 21, 22, 23, 24, 25, 26, 27]) P P1) (_ : (P1 0 3 = 0 ∨ P1 0 4 + 1 ≤ P1 0 5) ∧ P1 0 4 ≤ P1 0 5) (_ : P 0 4 ≤ P1 0 4) (_ : P 0 8 ≤ 0 ∨ 0 < P1 0 8) (_ : 0 < P1 0 8 ∨ 5 * P1 0 36 ≤ 8 * P1 0 4) (_ : 0 < P1 0 8 ∨ prdU P1 (P 0 37) (P1 11 (P 0 37)).toNat ≤ 20000) (_ : 0 < P1 0 8 ∨ (1 ≤ P1 16 (P 0 37) ∧ P1 16 (P 0 37) ≤ 999)) (_ : ∀ j : Int, j ≠ P 0 37 → P1 16 j = P 16 j) (_ : (P1 0 8 = (sSt T K M p).1 ∧ ((sSt T K M p).1 = 0 ∨ P1 0 9 = (sSt T K M p).2)) ∨ ((sSt T K M p).1 = 0 ∧ tK T (sSt T K M p).2 = 4 ∧ P1 0 8 = 1 ∧ P1 0 9 = tS T (sSt T K M p).2)) (_ : KVP P1) (_ : KC P1) (_ : CF P1) (_ : ZT P1) (_ : ZO P1) (_ : ZC P1) (_ : ZI P1) (_ : ZS P1) (_ : FP P1) (_ : CP (P1 0 8) (MS T (sSt T K M p).2) P1) (_ : CP (P1 0 8) (MK (kSt T K p)) P1) (_ : CP (P1 0 8) (MM (mSt T K M p)) P1) (_ : CP (P1 0 8) (MTl (mSt T K M p)) P1) (_ : KB (P 0 37) P P1), Q none P1) : Ct WSM G 8 iX12_statement [vR 0] P Q := by
  sorry
/-! What the reference answers: X12_values. -/
set_option maxRecDepth 100000 in
set_option maxHeartbeats 4000000 in
theorem f_X12_values (G : GT) (P : PH) (K : PH) (M : PH) (a1 : Int) (h_a1 : (-2147483648) ≤ a1 ∧ a1 ≤ 2147483647) (hB : BdM P) (p_aw : AW K) (z0 : MKB K P) (z1 : MH M P) (Q : Option PV → PH → Prop) (hQ : ∀ (r : Int) (_ : (-1) ≤ r ∧ r ≤ 2006) (_ : r = vls K M a1), Q (some (vI r)) P) : Ct WSM G 2 iX12_values [vR 0, vI a1] P Q := by
  sorry
