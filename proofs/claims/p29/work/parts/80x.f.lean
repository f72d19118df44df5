/-! What the class answers: J9_floorMod_7cf53. -/
set_option maxRecDepth 100000 in
set_option maxHeartbeats 4000000 in
theorem f_J9_floorMod_7cf53 (G : GT) (P : PH) (a1 : Int) (a2 : Int) (h_a1 : (-2147483648) ≤ a1 ∧ a1 ≤ 2147483647) (h_a2 : (-2147483648) ≤ a2 ∧ a2 ≤ 2147483647) (hB : BdX P) (p_p : 0 < a2) (Q : Option PV → PH → Prop) (hQ : ∀ (r : Int) (_ : (-2147483648) ≤ r ∧ r ≤ 2147483647) (_ : 0 ≤ r ∧ r < a2) (_ : r = a1 % a2), Q (some (vI r)) P) : Ct WSX G 1 iJ9_floorMod_7cf53 [vI a1, vI a2] P Q := by
  sorry
/-! What the class answers: X0_clear. -/
set_option maxRecDepth 100000 in
set_option maxHeartbeats 4000000 in
theorem f_X0_clear (G : GT) (P : PH) (hB : BdX P) (Q : Option PV → PH → Prop) (hQ : ∀ (P1 : PH) (_ : BdX P1) (_ : FrX ([(16, 5), (16, 7)], []) P P1) (_ : P1 18 5 = 0) (_ : P1 18 7 = 0), Q none P1) : Ct WSX G 1 iX0_clear [vR 18] P Q := by
  sorry
/-! What the class answers: X0_keep. -/
set_option maxRecDepth 100000 in
set_option maxHeartbeats 4000000 in
theorem f_X0_keep (G : GT) (P : PH) (a1 : Int) (a2 : Int) (a3 : Int) (h_a1 : (-2147483648) ≤ a1 ∧ a1 ≤ 2147483647) (h_a2 : (-2147483648) ≤ a2 ∧ a2 ≤ 2147483647) (h_a3 : (-2147483648) ≤ a3 ∧ a3 ≤ 2147483647) (hB : BdX P) (p_kb : 0 ≤ P 18 5 ∧ P 18 5 ≤ 2000000) (Q : Option PV → PH → Prop) (hQ : ∀ (P1 : PH) (_ : BdX P1) (_ : FrX ([(16, 5)], [17, 18, 19]) P P1) (_ : P1 18 5 = P 18 5 + 1), Q none P1) : Ct WSX G 2 iX0_keep [vR 18, vI a1, vI a2, vI a3] P Q := by
  sorry
/-! What the class answers: X0_keptTold. -/
set_option maxRecDepth 100000 in
set_option maxHeartbeats 4000000 in
theorem f_X0_keptTold (G : GT) (P : PH) (hB : BdX P) (Q : Option PV → PH → Prop) (hQ : ∀ (r : Int) (_ : (-2147483648) ≤ r ∧ r ≤ 40) (_ : r = m40 (P 18 5)), Q (some (vI r)) P) : Ct WSX G 2 iX0_keptTold [vR 18] P Q := by
  sorry
/-! What the class answers: X0_remember. -/
set_option maxRecDepth 100000 in
set_option maxHeartbeats 4000000 in
theorem f_X0_remember (G : GT) (P : PH) (A : PH) (k : Int) (o1 : Nat) (k_o1 : kx o1 14) (hB : BdX P) (p_wa : WA k A) (p_w : o1 = 14) (z0 : AX A P) (Q : Option PV → PH → Prop) (hQ : ∀ (P1 : PH) (_ : BdX P1) (_ : FrX ([(14, 1), (14, 2), (14, 3), (16, 6), (16, 7)], [15, 21]) P P1) (_ : AX (aPush A) P1), Q none P1) : Ct WSX G 2 iX0_remember [vR 18, vR o1] P Q := by
  sorry
/-! What the class answers: X0_takeBack. -/
set_option maxRecDepth 100000 in
set_option maxHeartbeats 4000000 in
theorem f_X0_takeBack (G : GT) (P : PH) (A : PH) (k : Int) (o1 : Nat) (k_o1 : kx o1 14) (hB : BdX P) (p_wa : WA k A) (p_w : o1 = 14) (p_u : 0 < A 0 4) (z0 : AX A P) (Q : Option PV → PH → Prop) (hQ : ∀ (P1 : PH) (_ : BdX P1) (_ : FrX ([(14, 1), (14, 2), (14, 3), (16, 5), (16, 6), (16, 7)], [15]) P P1) (_ : AX (aPop A) P1), Q none P1) : Ct WSX G 2 iX0_takeBack [vR 18, vR o1] P Q := by
  sorry
/-! What the class answers: X11_best. -/
set_option maxRecDepth 100000 in
set_option maxHeartbeats 4000000 in
theorem f_X11_best (G : GT) (P : PH) (A : PH) (a1 : Int) (h_a1 : (-2147483648) ≤ a1 ∧ a1 ≤ 2147483647) (hB : BdX P) (z0 : AX A P) (Q : Option PV → PH → Prop) (hQ : ∀ (r : Int) (_ : (-2147483648) ≤ r ∧ r ≤ 2147483647) (P1 : PH) (_ : BdX P1) (_ : FrX ([(5, 2), (11, 3), (14, 1), (14, 2), (14, 3), (51, 4), (51, 5), (51, 12), (51, 14)], [6, 7, 12, 13, 15, 54]) P P1) (_ : AX A P1), Q (some (vI r)) P1) : Ct WSX G 31 iX11_best [vR 0, vI a1] P Q := by
  sorry
/-! What the class answers: X11_chance. -/
set_option maxRecDepth 100000 in
set_option maxHeartbeats 4000000 in
theorem f_X11_chance (G : GT) (P : PH) (A : PH) (k : Int) (K : PH) (M : PH) (F : FT) (a1 : Int) (h_a1 : (-2147483648) ≤ a1 ∧ a1 ≤ 2147483647) (hB : BdX P) (p_wa : WA k A) (p_k5 : k ≤ 600) (p_aw : AW K) (p_av : AV K M) (p_az : AZ K M) (p_ga : GA M A) (p_gw : GW M) (p_ar : AR K M) (z0 : AX A P) (z1 : XTB K M P) (z2 : XZT K M P) (z3 : XFT K M F P) (Q : Option PV → PH → Prop) (hQ : ∀ (r : Int) (_ : (-2147483648) ≤ r ∧ r ≤ 2147483647) (P1 : PH) (_ : BdX P1) (_ : FrX ([(0, 14), (5, 2), (14, 1), (14, 2), (14, 3), (16, 5), (16, 6), (16, 7), (51, 12), (51, 14)], [6, 15, 17, 18, 19, 21, 27]) P P1) (_ : r = chR K M F A a1) (_ : AX (aCha A M a1) P1), Q (some (vI r)) P1) : Ct WSX G 7 iX11_chance [vR 0, vI a1] P Q := by
  sorry
/-! What the class answers: X11_choose. -/
set_option maxRecDepth 100000 in
set_option maxHeartbeats 4000000 in
theorem f_X11_choose (G : GT) (P : PH) (A : PH) (k : Int) (K : PH) (M : PH) (a1 : Int) (h_a1 : (-2147483648) ≤ a1 ∧ a1 ≤ 2147483647) (hB : BdX P) (p_wa : WA k A) (z0 : AX A P) (z1 : XTB K M P) (Q : Option PV → PH → Prop) (hQ : ∀ (r : Int) (_ : 0 ≤ r ∧ r ≤ 1) (P1 : PH) (_ : BdX P1) (_ : FrX ([(14, 1), (14, 2), (14, 3), (16, 6), (16, 7)], [15, 21, 27]) P P1) (_ : (r = 0 ∧ (M 0 0 ≤ 0 ∨ a1 < 0 ∨ 3 < a1 ∨ A 0 2 = a1)) ∨ (r = 1 ∧ 0 < M 0 0 ∧ 0 ≤ a1 ∧ a1 ≤ 3 ∧ A 0 2 ≠ a1)) (_ : AX (aRule A M a1) P1), Q (some (vI r)) P1) : Ct WSX G 4 iX11_choose [vR 0, vI a1] P Q := by
  sorry
/-! What the class answers: X11_draw. -/
set_option maxRecDepth 100000 in
set_option maxHeartbeats 4000000 in
theorem f_X11_draw (G : GT) (P : PH) (A : PH) (a1 : Int) (h_a1 : (-2147483648) ≤ a1 ∧ a1 ≤ 2147483647) (hB : BdX P) (z0 : AX A P) (Q : Option PV → PH → Prop) (hQ : ∀ (r : Int) (_ : (-2147483648) ≤ r ∧ r ≤ 2147483647) (P1 : PH) (_ : BdX P1) (_ : FrX ([(0, 14)], []) P P1) (_ : a1 ≤ 0 ∨ r = drw (A 0 5) / 64 % a1) (_ : AX (up A 0 5 (drw (A 0 5))) P1), Q (some (vI r)) P1) : Ct WSX G 1 iX11_draw [vR 0, vI a1] P Q := by
  sorry
/-! What the class answers: X11_drop. -/
set_option maxRecDepth 100000 in
set_option maxHeartbeats 4000000 in
theorem f_X11_drop (G : GT) (P : PH) (A : PH) (k : Int) (a1 : Int) (h_a1 : (-2147483648) ≤ a1 ∧ a1 ≤ 2147483647) (hB : BdX P) (p_wa : WA k A) (z0 : AX A P) (Q : Option PV → PH → Prop) (hQ : ∀ (r : Int) (_ : 0 ≤ r ∧ r ≤ 1) (P1 : PH) (_ : BdX P1) (_ : FrX ([(14, 1), (14, 2), (14, 3), (16, 6), (16, 7)], [15, 21, 27]) P P1) (_ : (r = 1 ∧ 0 ≤ a1 ∧ a1 < A 0 0) ∨ (r = 0 ∧ (a1 < 0 ∨ A 0 0 ≤ a1))) (_ : AX (aDrop A a1) P1), Q (some (vI r)) P1) : Ct WSX G 4 iX11_drop [vR 0, vI a1] P Q := by
  sorry
/-! What the class answers: X11_end. -/
set_option maxRecDepth 100000 in
set_option maxHeartbeats 4000000 in
theorem f_X11_end (G : GT) (P : PH) (T : TT) (a1 : Int) (h_a1 : (-2147483648) ≤ a1 ∧ a1 ≤ 2147483647) (hB : BdX P) (z0 : CX T P) (Q : Option PV → PH → Prop) (hQ : ∀ (r : Int) (_ : 0 ≤ r ∧ r ≤ 1) (P1 : PH) (_ : BdX P1) (_ : FrX ([(1, 1)], [27]) P P1) (_ : (0 ≤ a1 ∧ a1 ≤ P 1 1 ∧ r = 1 ∧ P1 1 1 = a1) ∨ ((a1 < 0 ∨ P 1 1 < a1) ∧ r = 0 ∧ P1 1 1 = P 1 1)) (_ : CX (fe T a1) P1), Q (some (vI r)) P1) : Ct WSX G 2 iX11_end [vR 0, vI a1] P Q := by
  sorry
/-! What the class answers: X11_fault. -/
set_option maxRecDepth 100000 in
set_option maxHeartbeats 4000000 in
theorem f_X11_fault (G : GT) (P : PH) (a1 : Int) (h_a1 : (-2147483648) ≤ a1 ∧ a1 ≤ 2147483647) (hB : BdX P) (Q : Option PV → PH → Prop) (hQ : ∀ (r : Int) (_ : (-2147483648) ≤ r ∧ r ≤ 2147483647) (_ : (a1 = 0 ∧ r = P 110 3) ∨ (a1 = 1 ∧ r = P 110 4) ∨ (a1 ≠ 0 ∧ a1 ≠ 1 ∧ r = -1)), Q (some (vI r)) P) : Ct WSX G 1 iX11_fault [vR 0, vI a1] P Q := by
  sorry
/-! What the class answers: X11_feed. -/
set_option maxRecDepth 100000 in
set_option maxHeartbeats 4000000 in
theorem f_X11_feed (G : GT) (P : PH) (T : TT) (a1 : Int) (a2 : Int) (a3 : Int) (a4 : Int) (a5 : Int) (h_a1 : (-2147483648) ≤ a1 ∧ a1 ≤ 2147483647) (h_a2 : (-2147483648) ≤ a2 ∧ a2 ≤ 2147483647) (h_a3 : (-2147483648) ≤ a3 ∧ a3 ≤ 2147483647) (h_a4 : (-2147483648) ≤ a4 ∧ a4 ≤ 2147483647) (h_a5 : (-2147483648) ≤ a5 ∧ a5 ≤ 2147483647) (hB : BdX P) (z0 : CX T P) (Q : Option PV → PH → Prop) (hQ : ∀ (r : Int) (_ : (-2147483648) ≤ r ∧ r ≤ 2147483647) (P1 : PH) (_ : BdX P1) (_ : FrX ([(1, 1)], [2, 27]) P P1) (_ : (P 1 1 ≤ 1580 ∧ r = P 1 1 + 20 ∧ P1 1 1 = P 1 1 + 20) ∨ (1580 < P 1 1 ∧ r = -1 ∧ P1 1 1 = P 1 1)) (_ : CX (ff T a1 a2 a3 a4 a5) P1), Q (some (vI r)) P1) : Ct WSX G 3 iX11_feed [vR 0, vI a1, vI a2, vI a3, vI a4, vI a5] P Q := by
  sorry
/-! What the class answers: X11_fits. -/
set_option maxRecDepth 100000 in
set_option maxHeartbeats 4000000 in
theorem f_X11_fits (G : GT) (P : PH) (K : PH) (M : PH) (F : FT) (A : PH) (a1 : Int) (a2 : Int) (a3 : Int) (h_a1 : (-2147483648) ≤ a1 ∧ a1 ≤ 2147483647) (h_a2 : (-2147483648) ≤ a2 ∧ a2 ≤ 2147483647) (h_a3 : (-2147483648) ≤ a3 ∧ a3 ≤ 2147483647) (hB : BdX P) (p_aw : AW K) (p_av : AV K M) (p_ga : GA M A) (z0 : AX A P) (z1 : XTB K M P) (z2 : XZT K M P) (z3 : XFT K M F P) (Q : Option PV → PH → Prop) (hQ : ∀ (r : Int) (_ : (-2147483648) ≤ r ∧ r ≤ 2147483647) (_ : r = ftR K M F A a1 a2 a3), Q (some (vI r)) P) : Ct WSX G 3 iX11_fits [vR 0, vI a1, vI a2, vI a3] P Q := by
  sorry
/-! What the class answers: X11_has. -/
set_option maxRecDepth 100000 in
set_option maxHeartbeats 4000000 in
theorem f_X11_has (G : GT) (P : PH) (A : PH) (K : PH) (M : PH) (a1 : Int) (h_a1 : (-2147483648) ≤ a1 ∧ a1 ≤ 2147483647) (hB : BdX P) (z0 : AX A P) (z1 : XTB K M P) (Q : Option PV → PH → Prop) (hQ : ∀ (r : Int) (_ : (-2147483648) ≤ r ∧ r ≤ 2147483647) (_ : r = hasV K M A a1), Q (some (vI r)) P) : Ct WSX G 3 iX11_has [vR 0, vI a1] P Q := by
  sorry
/-! What the class answers: X11_image. -/
set_option maxRecDepth 100000 in
set_option maxHeartbeats 4000000 in
theorem f_X11_image (G : GT) (P : PH) (A : PH) (hB : BdX P) (z0 : AX A P) (Q : Option PV → PH → Prop) (hQ : ∀ (r : Int) (_ : (-2147483648) ≤ r ∧ r ≤ 2147483647) (P1 : PH) (_ : BdX P1) (_ : FrX ([(3, 1)], [4]) P P1) (_ : r = A 0 0 + 4), Q (some (vI r)) P1) : Ct WSX G 2 iX11_image [vR 0] P Q := by
  sorry
/-! What the class answers: X11_isImage. -/
set_option maxRecDepth 100000 in
set_option maxHeartbeats 4000000 in
theorem f_X11_isImage (G : GT) (P : PH) (T : TT) (K : PH) (M : PH) (hB : BdX P) (p_m : 0 < M 0 0) (p_v : M 0 2 ≤ 12) (z0 : CX T P) (z1 : XTB K M P) (Q : Option PV → PH → Prop) (hQ : ∀ (r : Int) (_ : 0 ≤ r ∧ r ≤ 1) (_ : (r = 1 ∧ onOk T M) ∨ (r = 0 ∧ ¬ onOk T M)), Q (some (vI r)) P) : Ct WSX G 2 iX11_isImage [vR 0] P Q := by
  sorry
/-! What the class answers: X11_isIn. -/
set_option maxRecDepth 100000 in
set_option maxHeartbeats 4000000 in
theorem f_X11_isIn (G : GT) (P : PH) (a1 : Int) (a2 : Int) (h_a1 : (-2147483648) ≤ a1 ∧ a1 ≤ 2147483647) (h_a2 : (-2147483648) ≤ a2 ∧ a2 ≤ 2147483647) (hB : BdX P) (Q : Option PV → PH → Prop) (hQ : ∀ (r : Int) (_ : 0 ≤ r ∧ r ≤ 1) (_ : (r = 1 ∧ iand (ishr a1 a2) 1 ≠ 0) ∨ (r = 0 ∧ iand (ishr a1 a2) 1 = 0)), Q (some (vI r)) P) : Ct WSX G 1 iX11_isIn [vI a1, vI a2] P Q := by
  sorry
/-! What the class answers: X11_isRule. -/
set_option maxRecDepth 100000 in
set_option maxHeartbeats 4000000 in
theorem f_X11_isRule (G : GT) (P : PH) (a1 : Int) (h_a1 : (-2147483648) ≤ a1 ∧ a1 ≤ 2147483647) (hB : BdX P) (Q : Option PV → PH → Prop) (hQ : ∀ (r : Int) (_ : 0 ≤ r ∧ r ≤ 1) (_ : r = 0 ∨ (0 ≤ a1 ∧ a1 ≤ 3)) (_ : (r = 1 ∧ 0 ≤ a1 ∧ a1 ≤ 3) ∨ (r = 0 ∧ (a1 < 0 ∨ 3 < a1))), Q (some (vI r)) P) : Ct WSX G 1 iX11_isRule [vI a1] P Q := by
  sorry
/-! What the class answers: X11_letter. -/
set_option maxRecDepth 100000 in
set_option maxHeartbeats 4000000 in
theorem f_X11_letter (G : GT) (P : PH) (K : PH) (M : PH) (a1 : Int) (a2 : Int) (a3 : Int) (h_a1 : (-2147483648) ≤ a1 ∧ a1 ≤ 2147483647) (h_a2 : (-2147483648) ≤ a2 ∧ a2 ≤ 2147483647) (h_a3 : (-2147483648) ≤ a3 ∧ a3 ≤ 2147483647) (hB : BdX P) (p_aw : AW K) (p_an : AN K) (z0 : XTB K M P) (Q : Option PV → PH → Prop) (hQ : ∀ (r : Int) (_ : (-2147483648) ≤ r ∧ r ≤ 2147483647) (_ : r = ltr K a1 a2 a3), Q (some (vI r)) P) : Ct WSX G 2 iX11_letter [vR 0, vI a1, vI a2, vI a3] P Q := by
  sorry
/-! What the class answers: X11_letterOf. -/
set_option maxRecDepth 100000 in
set_option maxHeartbeats 4000000 in
theorem f_X11_letterOf (G : GT) (P : PH) (a1 : Int) (a2 : Int) (h_a1 : (-2147483648) ≤ a1 ∧ a1 ≤ 2147483647) (h_a2 : (-2147483648) ≤ a2 ∧ a2 ≤ 2147483647) (hB : BdX P) (p_n : 0 ≤ a1) (p_k : 0 ≤ a2 ∧ a2 ≤ 5) (Q : Option PV → PH → Prop) (hQ : ∀ (r : Int) (_ : (-2147483648) ≤ r ∧ r ≤ 2147483647) (_ : r = lt a1 a2), Q (some (vI r)) P) : Ct WSX G 1 iX11_letterOf [vI a1, vI a2] P Q := by
  sorry
/-! What the class answers: X11_match. -/
set_option maxRecDepth 100000 in
set_option maxHeartbeats 4000000 in
theorem f_X11_match (G : GT) (P : PH) (T : TT) (K : PH) (M : PH) (A : PH) (F : FT) (hB : BdX P) (p_tx : P 1 1 = T.2 ∧ ∀ i : Int, 0 ≤ i → i < T.2 → P 2 i = T.1 i) (p_ts : P 0 10 ≠ P 0 11) (v_OWN : OWN P) (z0 : XTB K M P) (z1 : AX A P) (z2 : XZT K M P) (z3 : XFT K M F P) (Q : Option PV → PH → Prop) (hQ : ∀ (r : Int) (_ : (-2147483648) ≤ r ∧ r ≤ 2147483647) (P1 : PH) (_ : BdX P1) (_ : FrX ([(0, 10), (0, 11), (1, 1), (5, 2), (8, 3), (11, 3), (14, 1), (14, 2), (14, 3), (16, 5), (16, 7), (22, 2), (28, 6), (28, 7), (28, 8), (28, 9), (28, 10), (29, 9), (29, 10), (45, 2), (45, 3), (45, 4), (46, 1), (46, 2), (46, 3), (46, 4), (46, 5), (46, 6), (46, 7), (46, 8), (51, 13)], [6, 7, 9, 10, 12, 13, 15, 27, 30, 31, 32, 33, 34, 35, 36, 37, 38, 39, 40, 41, 42, 44, 50]) P P1) (_ : P1 1 1 = 0) (_ : (r = -1 ∧ (mlR T).1 ≠ 0) ∨ (r = (mlR T).2.1 ∧ (mlR T).1 = 0)) (_ : (r = -1 ∧ P1 0 10 = P 0 10 ∧ P1 0 11 = P 0 11) ∨ (0 ≤ r ∧ P1 0 10 = P 0 11 ∧ P1 0 11 = P 0 10)) (_ : (r = -1 ∧ P1 110 3 = (mlR T).1 ∧ P1 110 4 = (mlR T).2.1) ∨ (0 ≤ r ∧ P1 110 3 = 0 ∧ P1 110 4 = -1)) (_ : XTB (kmR T K) (mmR T M) P1) (_ : AX (aMat T A) P1) (_ : XZT (kmR T K) (mmR T M) P1) (_ : XFT (kmR T K) (mmR T M) (fmR T F) P1), Q (some (vI r)) P1) : Ct WSX G 27 iX11_match [vR 0] P Q := by
  sorry
/-! What the class answers: X11_matched. -/
set_option maxRecDepth 100000 in
set_option maxHeartbeats 4000000 in
theorem f_X11_matched (G : GT) (P : PH) (K : PH) (M : PH) (hB : BdX P) (z0 : XTB K M P) (Q : Option PV → PH → Prop) (hQ : ∀ (r : Int) (_ : 0 ≤ r ∧ r ≤ 1) (_ : (r = 1 ∧ 0 < M 0 0) ∨ (r = 0 ∧ M 0 0 ≤ 0)), Q (some (vI r)) P) : Ct WSX G 1 iX11_matched [vR 0] P Q := by
  sorry
/-! What the class answers: X11_on. -/
set_option maxRecDepth 100000 in
set_option maxHeartbeats 4000000 in
theorem f_X11_on (G : GT) (P : PH) (T : TT) (K : PH) (M : PH) (A : PH) (hB : BdX P) (p_v : M 0 2 ≤ 12) (z0 : CX T P) (z1 : AX A P) (z2 : XTB K M P) (Q : Option PV → PH → Prop) (hQ : ∀ (r : Int) (_ : 0 ≤ r ∧ r ≤ 1) (P1 : PH) (_ : BdX P1) (_ : FrX ([(1, 1), (14, 1), (14, 2), (14, 3), (16, 5), (16, 7)], [15, 27]) P P1) (_ : P1 1 1 = 0) (_ : (r = 1 ∧ onOk T M) ∨ (r = 0 ∧ ¬ onOk T M)) (_ : AX (aOn T M A) P1), Q (some (vI r)) P1) : Ct WSX G 3 iX11_on [vR 0] P Q := by
  sorry
/-! What the class answers: X11_remember. -/
set_option maxRecDepth 100000 in
set_option maxHeartbeats 4000000 in
theorem f_X11_remember (G : GT) (P : PH) (A : PH) (k : Int) (hB : BdX P) (p_wa : WA k A) (z0 : AX A P) (Q : Option PV → PH → Prop) (hQ : ∀ (P1 : PH) (_ : BdX P1) (_ : FrX ([(14, 1), (14, 2), (14, 3), (16, 6), (16, 7)], [15, 21]) P P1) (_ : AX (aPush A) P1), Q none P1) : Ct WSX G 3 iX11_remember [vR 0] P Q := by
  sorry
/-! What the class answers: X11_row. -/
set_option maxRecDepth 100000 in
set_option maxHeartbeats 4000000 in
theorem f_X11_row (G : GT) (P : PH) (T : TT) (K : PH) (M : PH) (hB : BdX P) (p_tx : P 1 1 = T.2 ∧ ∀ i : Int, 0 ≤ i → i < T.2 → P 2 i = T.1 i) (p_aw : AW K) (p_ab : AB K) (p_av : AV K M) (p_az : AZ K M) (p_ar : AR K M) (v_OWN : OWN P) (z0 : XTB K M P) (z1 : XZT K M P) (Q : Option PV → PH → Prop) (hQ : ∀ (r : Int) (_ : (-2147483648) ≤ r ∧ r ≤ 2147483647) (P1 : PH) (_ : BdX P1) (_ : FrX ([(1, 1), (45, 2), (45, 3), (45, 4), (46, 1), (46, 2), (46, 3), (46, 4), (46, 5), (46, 6), (46, 7), (46, 8)], [27]) P P1) (_ : P1 1 1 = 0) (_ : (r = -1 ∧ (rwR T K M).1 ≠ 0) ∨ (r = (rwR T K M).2.2 ∧ 0 ≤ r ∧ (rwR T K M).1 = 0)) (_ : P1 110 3 = (rwR T K M).1 ∧ P1 110 4 = (rwR T K M).2.1), Q (some (vI r)) P1) : Ct WSX G 13 iX11_row [vR 0] P Q := by
  sorry
/-! What the class answers: X11_run. -/
set_option maxRecDepth 100000 in
set_option maxHeartbeats 4000000 in
theorem f_X11_run (G : GT) (P : PH) (A : PH) (k : Int) (K : PH) (M : PH) (F : FT) (a1 : Int) (h_a1 : (-2147483648) ≤ a1 ∧ a1 ≤ 2147483647) (hB : BdX P) (p_wa : WA k A) (p_wm : 0 < M 0 0 ∨ M 0 1 ≤ 0) (p_k5 : k ≤ 600) (p_aw : AW K) (p_av : AV K M) (p_az : AZ K M) (p_ga : GA M A) (p_gw : GW M) (z0 : AX A P) (z1 : XTB K M P) (z2 : XZT K M P) (z3 : XFT K M F P) (Q : Option PV → PH → Prop) (hQ : ∀ (r : Int) (_ : (-2147483648) ≤ r ∧ r ≤ 2147483647) (P1 : PH) (_ : BdX P1) (_ : FrX ([(5, 2), (14, 1), (14, 2), (14, 3), (16, 5), (16, 6), (16, 7), (51, 12), (51, 14)], [6, 15, 17, 18, 19, 21, 27]) P P1) (_ : r = tkR K M F A a1) (_ : AX (aRun A M a1) P1), Q (some (vI r)) P1) : Ct WSX G 7 iX11_run [vR 0, vI a1] P Q := by
  sorry
/-! What the class answers: X11_runRow. -/
set_option maxRecDepth 100000 in
set_option maxHeartbeats 4000000 in
theorem f_X11_runRow (G : GT) (P : PH) (A : PH) (K : PH) (M : PH) (F : FT) (a1 : Int) (h_a1 : (-2147483648) ≤ a1 ∧ a1 ≤ 2147483647) (hB : BdX P) (p_kb : 0 ≤ A 0 3 ∧ A 0 3 ≤ 2000000) (p_aw : AW K) (p_av : AV K M) (p_az : AZ K M) (p_ga : GA M A) (p_gw : GW M) (p_r0 : 0 ≤ a1) (z0 : AX A P) (z1 : XTB K M P) (z2 : XZT K M P) (z3 : XFT K M F P) (Q : Option PV → PH → Prop) (hQ : ∀ (r : Int) (_ : (-2147483648) ≤ r ∧ r ≤ 2147483647) (P1 : PH) (_ : BdX P1) (_ : FrX ([(5, 2), (16, 5), (51, 12), (51, 14)], [6, 17, 18, 19]) P P1) (_ : r = tak K M F A (A 0 1) a1) (_ : AX (up A 0 3 (A 0 3 + 1)) P1), Q (some (vI r)) P1) : Ct WSX G 6 iX11_runRow [vR 0, vI a1] P Q := by
  sorry
/-! What the class answers: X11_safe. -/
set_option maxRecDepth 100000 in
set_option maxHeartbeats 4000000 in
theorem f_X11_safe (G : GT) (P : PH) (A : PH) (a1 : Int) (a2 : Int) (h_a1 : (-2147483648) ≤ a1 ∧ a1 ≤ 2147483647) (h_a2 : (-2147483648) ≤ a2 ∧ a2 ≤ 2147483647) (hB : BdX P) (z0 : AX A P) (Q : Option PV → PH → Prop) (hQ : ∀ (r : Int) (_ : (-2147483648) ≤ r ∧ r ≤ 2147483647) (P1 : PH) (_ : BdX P1) (_ : FrX ([(14, 1), (14, 2), (14, 3)], [15]) P P1) (_ : AX A P1), Q (some (vI r)) P1) : Ct WSX G 4 iX11_safe [vR 0, vI a1, vI a2] P Q := by
  sorry
/-! What the class answers: X11_see. -/
set_option maxRecDepth 100000 in
set_option maxHeartbeats 4000000 in
theorem f_X11_see (G : GT) (P : PH) (T : TT) (K : PH) (M : PH) (A : PH) (hB : BdX P) (z0 : CX T P) (z1 : AX A P) (z2 : XTB K M P) (Q : Option PV → PH → Prop) (hQ : ∀ (r : Int) (_ : (-2147483648) ≤ r ∧ r ≤ 2147483647) (P1 : PH) (_ : BdX P1) (_ : FrX ([(1, 1), (22, 2)], [23, 24, 27]) P P1) (_ : P1 1 1 = 0) (_ : (r = -1 ∧ ¬ seOk T M A) ∨ (r = T.2 / 3 ∧ seOk T M A)) (_ : AX (aSee T M A) P1), Q (some (vI r)) P1) : Ct WSX G 4 iX11_see [vR 0] P Q := by
  sorry
/-! What the class answers: X11_seed. -/
set_option maxRecDepth 100000 in
set_option maxHeartbeats 4000000 in
theorem f_X11_seed (G : GT) (P : PH) (A : PH) (a1 : Int) (h_a1 : (-2147483648) ≤ a1 ∧ a1 ≤ 2147483647) (hB : BdX P) (z0 : AX A P) (Q : Option PV → PH → Prop) (hQ : ∀ (r : Int) (_ : 0 ≤ r ∧ r ≤ 1) (P1 : PH) (_ : BdX P1) (_ : FrX ([(0, 14)], [27]) P P1) (_ : (a1 < 0 ∧ r = 0) ∨ (0 ≤ a1 ∧ r = 1)) (_ : AX (aSeed A a1) P1), Q (some (vI r)) P1) : Ct WSX G 2 iX11_seed [vR 0, vI a1] P Q := by
  sorry
/-! What the class answers: X11_startMatch. -/
set_option maxRecDepth 100000 in
set_option maxHeartbeats 4000000 in
theorem f_X11_startMatch (G : GT) (P : PH) (A : PH) (K : PH) (M : PH) (hB : BdX P) (p_av : 0 ≤ M 0 2 ∧ M 0 2 ≤ 12) (z0 : AX A P) (z1 : XTB K M P) (Q : Option PV → PH → Prop) (hQ : ∀ (P1 : PH) (_ : BdX P1) (_ : FrX ([(5, 2), (8, 3), (11, 3), (14, 1), (14, 2), (14, 3), (16, 5), (16, 7), (22, 2), (51, 13)], [6, 7, 9, 10, 12, 13, 15]) P P1) (_ : AX (aBeg A (M 0 2) (M 0 3)) P1), Q none P1) : Ct WSX G 4 iX11_startMatch [vR 0] P Q := by
  sorry
/-! What the class answers: X11_swap. -/
set_option maxRecDepth 100000 in
set_option maxHeartbeats 4000000 in
theorem f_X11_swap (G : GT) (P : PH) (A : PH) (k : Int) (a1 : Int) (a2 : Int) (h_a1 : (-2147483648) ≤ a1 ∧ a1 ≤ 2147483647) (h_a2 : (-2147483648) ≤ a2 ∧ a2 ≤ 2147483647) (hB : BdX P) (p_wa : WA k A) (z0 : AX A P) (Q : Option PV → PH → Prop) (hQ : ∀ (r : Int) (_ : 0 ≤ r ∧ r ≤ 1) (P1 : PH) (_ : BdX P1) (_ : FrX ([(14, 1), (14, 2), (14, 3), (16, 6), (16, 7)], [15, 21, 27]) P P1) (_ : (r = 1 ∧ 0 ≤ a1 ∧ a1 < A 0 0 ∧ 0 ≤ a2 ∧ a2 < A 0 0 ∧ a1 ≠ a2) ∨ (r = 0 ∧ (a1 < 0 ∨ A 0 0 ≤ a1 ∨ a2 < 0 ∨ A 0 0 ≤ a2 ∨ a1 = a2))) (_ : AX (aSwap A a1 a2) P1), Q (some (vI r)) P1) : Ct WSX G 4 iX11_swap [vR 0, vI a1, vI a2] P Q := by
  sorry
/-! What the class answers: X11_takeImage. -/
set_option maxRecDepth 100000 in
set_option maxHeartbeats 4000000 in
theorem f_X11_takeImage (G : GT) (P : PH) (T : TT) (A : PH) (hB : BdX P) (p_h : 4 ≤ T.2 ∧ T.2 = T.1 0 + 4 ∧ T.1 0 ≤ 12) (z0 : CX T P) (z1 : AX A P) (Q : Option PV → PH → Prop) (hQ : ∀ (P1 : PH) (_ : BdX P1) (_ : FrX ([(14, 1), (14, 2), (14, 3), (16, 5), (16, 7)], [15]) P P1) (_ : AX (aLd T A) P1), Q none P1) : Ct WSX G 2 iX11_takeImage [vR 0] P Q := by
  sorry
/-! What the class answers: X11_taken. -/
set_option maxRecDepth 100000 in
set_option maxHeartbeats 4000000 in
theorem f_X11_taken (G : GT) (P : PH) (K : PH) (M : PH) (F : FT) (A : PH) (a1 : Int) (h_a1 : (-2147483648) ≤ a1 ∧ a1 ≤ 2147483647) (hB : BdX P) (p_aw : AW K) (p_av : AV K M) (p_az : AZ K M) (p_ga : GA M A) (p_gw : GW M) (p_wm : 0 < M 0 0 ∨ M 0 1 ≤ 0) (z0 : AX A P) (z1 : XTB K M P) (z2 : XZT K M P) (z3 : XFT K M F P) (Q : Option PV → PH → Prop) (hQ : ∀ (r : Int) (_ : (-2147483648) ≤ r ∧ r ≤ 2147483647) (_ : r = tkR K M F A a1), Q (some (vI r)) P) : Ct WSX G 3 iX11_taken [vR 0, vI a1] P Q := by
  sorry
/-! What the class answers: X11_turn. -/
set_option maxRecDepth 100000 in
set_option maxHeartbeats 4000000 in
theorem f_X11_turn (G : GT) (P : PH) (A : PH) (k : Int) (K : PH) (M : PH) (a1 : Int) (h_a1 : (-2147483648) ≤ a1 ∧ a1 ≤ 2147483647) (hB : BdX P) (p_wa : WA k A) (z0 : AX A P) (z1 : XTB K M P) (Q : Option PV → PH → Prop) (hQ : ∀ (r : Int) (_ : (-2147483648) ≤ r ∧ r ≤ 2147483647) (P1 : PH) (_ : BdX P1) (_ : FrX ([(14, 1), (14, 2), (14, 3), (16, 6), (16, 7)], [15, 21, 27]) P P1) (_ : (r = -1 ∧ (M 0 0 ≤ 0 ∨ a1 < 0 ∨ 7 < a1)) ∨ (r = iand (ishr (ixor (A 0 1) (ishl 1 a1)) a1) 1 ∧ 0 < M 0 0 ∧ 0 ≤ a1 ∧ a1 ≤ 7)) (_ : AX (aTurn A M a1) P1), Q (some (vI r)) P1) : Ct WSX G 4 iX11_turn [vR 0, vI a1] P Q := by
  sorry
/-! What the class answers: X11_undo. -/
set_option maxRecDepth 100000 in
set_option maxHeartbeats 4000000 in
theorem f_X11_undo (G : GT) (P : PH) (A : PH) (k : Int) (hB : BdX P) (p_wa : WA k A) (z0 : AX A P) (Q : Option PV → PH → Prop) (hQ : ∀ (r : Int) (_ : 0 ≤ r ∧ r ≤ 1) (P1 : PH) (_ : BdX P1) (_ : FrX ([(14, 1), (14, 2), (14, 3), (16, 5), (16, 6), (16, 7)], [15, 27]) P P1) (_ : (A 0 4 ≤ 0 ∧ r = 0) ∨ (0 < A 0 4 ∧ r = 1)) (_ : AX (aUndo A) P1), Q (some (vI r)) P1) : Ct WSX G 3 iX11_undo [vR 0] P Q := by
  sorry
/-! What the class answers: X11_values. -/
set_option maxRecDepth 100000 in
set_option maxHeartbeats 4000000 in
theorem f_X11_values (G : GT) (P : PH) (K : PH) (M : PH) (a1 : Int) (h_a1 : (-2147483648) ≤ a1 ∧ a1 ≤ 2147483647) (hB : BdX P) (p_aw : AW K) (z0 : XTB K M P) (Q : Option PV → PH → Prop) (hQ : ∀ (r : Int) (_ : (-2147483648) ≤ r ∧ r ≤ 2147483647) (_ : r = vls K M a1), Q (some (vI r)) P) : Ct WSX G 2 iX11_values [vR 0, vI a1] P Q := by
  sorry
/-! What the class answers: X1_addFour_B16. -/
set_option maxRecDepth 100000 in
set_option maxHeartbeats 4000000 in
theorem f_X1_addFour_B16 (G : GT) (P : PH) (T : TT) (a1 : Int) (h_a1 : (-2147483648) ≤ a1 ∧ a1 ≤ 2147483647) (hB : BdX P) (p_l4 : P 1 1 ≤ 1596) (z0 : CX T P) (Q : Option PV → PH → Prop) (hQ : ∀ (P1 : PH) (_ : BdX P1) (_ : FrX ([(1, 1)], [2]) P P1) (_ : 1596 < P 1 1 ∨ P1 1 1 = P 1 1 + 4) (_ : CX (tput T a1 4) P1), Q none P1) : Ct WSX G 2 iX1_addFour [vR 1, vI a1] P Q := by
  sorry
/-! What the class answers: X1_add_B10. -/
set_option maxRecDepth 100000 in
set_option maxHeartbeats 4000000 in
theorem f_X1_add_B10 (G : GT) (P : PH) (a1 : Int) (h_a1 : (-2147483648) ≤ a1 ∧ a1 ≤ 2147483647) (hB : BdX P) (Q : Option PV → PH → Prop) (hQ : ∀ (P1 : PH) (_ : BdX P1) (_ : FrX ([(3, 1)], [4]) P P1) (_ : (P 3 1 ≤ 1023 ∧ P1 3 1 = P 3 1 + 1) ∨ (1024 ≤ P 3 1 ∧ P1 3 1 = P 3 1)), Q none P1) : Ct WSX G 1 iX1_add [vR 3, vI a1] P Q := by
  sorry
/-! What the class answers: X1_add_B16. -/
set_option maxRecDepth 100000 in
set_option maxHeartbeats 4000000 in
theorem f_X1_add_B16 (G : GT) (P : PH) (T : TT) (a1 : Int) (h_a1 : (-2147483648) ≤ a1 ∧ a1 ≤ 2147483647) (hB : BdX P) (p_l9 : P 1 1 ≤ 1599) (z0 : CX T P) (Q : Option PV → PH → Prop) (hQ : ∀ (P1 : PH) (_ : BdX P1) (_ : FrX ([(1, 1)], [2]) P P1) (_ : (P 1 1 ≤ 1599 ∧ P1 1 1 = P 1 1 + 1) ∨ (1600 ≤ P 1 1 ∧ P1 1 1 = P 1 1)) (_ : CX (tadd T (iand a1 255)) P1), Q none P1) : Ct WSX G 1 iX1_add [vR 1, vI a1] P Q := by
  sorry
/-! What the class answers: X1_byteAt_B16. -/
set_option maxRecDepth 100000 in
set_option maxHeartbeats 4000000 in
theorem f_X1_byteAt_B16 (G : GT) (P : PH) (a1 : Int) (h_a1 : (-2147483648) ≤ a1 ∧ a1 ≤ 2147483647) (hB : BdX P) (Q : Option PV → PH → Prop) (hQ : ∀ (r : Int) (_ : (-1) ≤ r ∧ r ≤ 255) (_ : (0 ≤ a1 ∧ a1 < P 1 1 ∧ r = P 2 a1) ∨ ((a1 < 0 ∨ P 1 1 ≤ a1) ∧ r = -1)), Q (some (vI r)) P) : Ct WSX G 1 iX1_byteAt [vR 1, vI a1] P Q := by
  sorry
/-! What the class answers: X1_checkByte_B16. -/
set_option maxRecDepth 100000 in
set_option maxHeartbeats 4000000 in
theorem f_X1_checkByte_B16 (G : GT) (P : PH) (T : TT) (a1 : Int) (h_a1 : (-2147483648) ≤ a1 ∧ a1 ≤ 2147483647) (hB : BdX P) (p_n : 0 ≤ a1 ∧ a1 ≤ T.2) (z0 : CX T P) (Q : Option PV → PH → Prop) (hQ : ∀ (r : Int) (_ : (-2147483648) ≤ r ∧ r ≤ 2147483647) (_ : r = ckF T (a1).toNat), Q (some (vI r)) P) : Ct WSX G 1 iX1_checkByte [vR 1, vI a1] P Q := by
  sorry
/-! What the class answers: X3_addCon. -/
set_option maxRecDepth 100000 in
set_option maxHeartbeats 4000000 in
theorem f_X3_addCon (G : GT) (P : PH) (K : PH) (o0 : Nat) (a1 : Int) (a2 : Int) (a3 : Int) (a4 : Int) (a5 : Int) (k_o0 : kx o0 29) (h_a1 : (-2147483648) ≤ a1 ∧ a1 ≤ 2147483647) (h_a2 : (-2147483648) ≤ a2 ∧ a2 ≤ 2147483647) (h_a3 : (-2147483648) ≤ a3 ∧ a3 ≤ 2147483647) (h_a4 : (-2147483648) ≤ a4 ∧ a4 ≤ 2147483647) (h_a5 : (-2147483648) ≤ a5 ∧ a5 ≤ 2147483647) (hB : BdX P) (p_aw : AW K) (p_l5 : 1 ≤ K 0 0 ∧ K 3 (K 0 0 - 1) ≤ 5) (p_ib : 1 ≤ a5 ∧ a5 ≤ 4012000) (z0 : XK K o0 P) (Q : Option PV → PH → Prop) (hQ : ∀ (P1 : PH) (_ : BdX P1) (_ : FrX ([(29, 10)], [32, 33, 34, 35, 36, 37, 38]) P P1) (_ : XK (cNew K a1 a2 a3 a4 a5) o0 P1) (_ : KT (tbX o0) P P1), Q none P1) : Ct WSX G 2 iX3_addCon [vR o0, vI a1, vI a2, vI a3, vI a4, vI a5] P Q := by
  sorry
/-! What the class answers: X3_addKind. -/
set_option maxRecDepth 100000 in
set_option maxHeartbeats 4000000 in
theorem f_X3_addKind (G : GT) (P : PH) (K : PH) (o0 : Nat) (a1 : Int) (k_o0 : kx o0 29) (h_a1 : (-2147483648) ≤ a1 ∧ a1 ≤ 2147483647) (hB : BdX P) (p_k3 : 0 ≤ K 0 0 ∧ K 0 0 ≤ 3) (z0 : XK K o0 P) (Q : Option PV → PH → Prop) (hQ : ∀ (P1 : PH) (_ : BdX P1) (_ : FrX ([(29, 9)], [30, 31, 32, 33]) P P1) (_ : XK (kNew K a1) o0 P1) (_ : KT (tbX o0) P P1), Q none P1) : Ct WSX G 1 iX3_addKind [vR o0, vI a1] P Q := by
  sorry
/-! What the class answers: X3_clear. -/
set_option maxRecDepth 100000 in
set_option maxHeartbeats 4000000 in
theorem f_X3_clear (G : GT) (P : PH) (o0 : Nat) (k_o0 : kx o0 29) (hB : BdX P) (Q : Option PV → PH → Prop) (hQ : ∀ (P1 : PH) (_ : BdX P1) (_ : FrX ([(29, 9), (29, 10)], []) P P1) (_ : XK K0 o0 P1) (_ : KT (tbX o0) P P1), Q none P1) : Ct WSX G 1 iX3_clear [vR o0] P Q := by
  sorry
/-! What the class answers: X3_conNamed. -/
set_option maxRecDepth 100000 in
set_option maxHeartbeats 4000000 in
theorem f_X3_conNamed (G : GT) (P : PH) (K : PH) (o0 : Nat) (a1 : Int) (k_o0 : kx o0 29) (h_a1 : (-2147483648) ≤ a1 ∧ a1 ≤ 2147483647) (hB : BdX P) (z0 : XK K o0 P) (Q : Option PV → PH → Prop) (hQ : ∀ (r : Int) (_ : (-1) ≤ r ∧ r ≤ 23) (_ : r = cNm K a1), Q (some (vI r)) P) : Ct WSX G 1 iX3_conNamed [vR o0, vI a1] P Q := by
  sorry
/-! What the class answers: X3_conNamedOf. -/
set_option maxRecDepth 100000 in
set_option maxHeartbeats 4000000 in
theorem f_X3_conNamedOf (G : GT) (P : PH) (K : PH) (o0 : Nat) (a1 : Int) (a2 : Int) (k_o0 : kx o0 29) (h_a1 : (-2147483648) ≤ a1 ∧ a1 ≤ 2147483647) (h_a2 : (-2147483648) ≤ a2 ∧ a2 ≤ 2147483647) (hB : BdX P) (p_aw : AW K) (p_kb : 0 ≤ a1 ∧ a1 < K 0 0) (z0 : XK K o0 P) (Q : Option PV → PH → Prop) (hQ : ∀ (r : Int) (_ : (-1) ≤ r ∧ r ≤ 23) (_ : (r = -1 ∧ (cNm K a2 = -1 ∨ K 5 (cNm K a2) ≠ a1)) ∨ (r = cNm K a2 ∧ 0 ≤ r ∧ r < K 0 1 ∧ K 5 (cNm K a2) = a1)), Q (some (vI r)) P) : Ct WSX G 2 iX3_conNamedOf [vR o0, vI a1, vI a2] P Q := by
  sorry
/-! What the class answers: X3_consOf. -/
set_option maxRecDepth 100000 in
set_option maxHeartbeats 4000000 in
theorem f_X3_consOf (G : GT) (P : PH) (K : PH) (o0 : Nat) (a1 : Int) (k_o0 : kx o0 29) (h_a1 : (-2147483648) ≤ a1 ∧ a1 ≤ 2147483647) (hB : BdX P) (z0 : XK K o0 P) (Q : Option PV → PH → Prop) (hQ : ∀ (r : Int) (_ : (-2147483648) ≤ r ∧ r ≤ 2147483647) (_ : (0 ≤ a1 ∧ a1 < K 0 0 ∧ r = K 3 a1) ∨ ((a1 < 0 ∨ K 0 0 ≤ a1) ∧ r = 0)), Q (some (vI r)) P) : Ct WSX G 2 iX3_consOf [vR o0, vI a1] P Q := by
  sorry
/-! What the class answers: X3_isCon. -/
set_option maxRecDepth 100000 in
set_option maxHeartbeats 4000000 in
theorem f_X3_isCon (G : GT) (P : PH) (o0 : Nat) (a1 : Int) (k_o0 : kx o0 29) (h_a1 : (-2147483648) ≤ a1 ∧ a1 ≤ 2147483647) (hB : BdX P) (Q : Option PV → PH → Prop) (hQ : ∀ (r : Int) (_ : 0 ≤ r ∧ r ≤ 1) (_ : r = 0 ∨ (0 ≤ a1 ∧ a1 < P o0 10)) (_ : (r = 1 ∧ 0 ≤ a1 ∧ a1 < P o0 10) ∨ (r = 0 ∧ (a1 < 0 ∨ P o0 10 ≤ a1))), Q (some (vI r)) P) : Ct WSX G 1 iX3_isCon [vR o0, vI a1] P Q := by
  sorry
/-! What the class answers: X3_isKind. -/
set_option maxRecDepth 100000 in
set_option maxHeartbeats 4000000 in
theorem f_X3_isKind (G : GT) (P : PH) (o0 : Nat) (a1 : Int) (k_o0 : kx o0 29) (h_a1 : (-2147483648) ≤ a1 ∧ a1 ≤ 2147483647) (hB : BdX P) (Q : Option PV → PH → Prop) (hQ : ∀ (r : Int) (_ : 0 ≤ r ∧ r ≤ 1) (_ : r = 0 ∨ (0 ≤ a1 ∧ a1 < P o0 9)) (_ : (r = 1 ∧ 0 ≤ a1 ∧ a1 < P o0 9) ∨ (r = 0 ∧ (a1 < 0 ∨ P o0 9 ≤ a1))), Q (some (vI r)) P) : Ct WSX G 1 iX3_isKind [vR o0, vI a1] P Q := by
  sorry
/-! What the class answers: X3_kindNamed. -/
set_option maxRecDepth 100000 in
set_option maxHeartbeats 4000000 in
theorem f_X3_kindNamed (G : GT) (P : PH) (K : PH) (o0 : Nat) (a1 : Int) (k_o0 : kx o0 29) (h_a1 : (-2147483648) ≤ a1 ∧ a1 ≤ 2147483647) (hB : BdX P) (z0 : XK K o0 P) (Q : Option PV → PH → Prop) (hQ : ∀ (r : Int) (_ : (-1) ≤ r ∧ r ≤ 3) (_ : r = kNm K a1), Q (some (vI r)) P) : Ct WSX G 1 iX3_kindNamed [vR o0, vI a1] P Q := by
  sorry
/-! What the class answers: X3_secondSize. -/
set_option maxRecDepth 100000 in
set_option maxHeartbeats 4000000 in
theorem f_X3_secondSize (G : GT) (P : PH) (K : PH) (o0 : Nat) (a1 : Int) (k_o0 : kx o0 29) (h_a1 : (-2147483648) ≤ a1 ∧ a1 ≤ 2147483647) (hB : BdX P) (p_aw : AW K) (p_cb : 0 ≤ a1 ∧ a1 < K 0 1) (z0 : XK K o0 P) (Q : Option PV → PH → Prop) (hQ : ∀ (r : Int) (_ : (-2147483648) ≤ r ∧ r ≤ 2147483647) (_ : (K 6 a1 = 2 ∧ r = sz K (K 8 a1)) ∨ (K 6 a1 ≠ 2 ∧ r = 1)), Q (some (vI r)) P) : Ct WSX G 2 iX3_secondSize [vR o0, vI a1] P Q := by
  sorry
/-! What the class answers: X3_sizeOf. -/
set_option maxRecDepth 100000 in
set_option maxHeartbeats 4000000 in
theorem f_X3_sizeOf (G : GT) (P : PH) (K : PH) (o0 : Nat) (a1 : Int) (k_o0 : kx o0 29) (h_a1 : (-2147483648) ≤ a1 ∧ a1 ≤ 2147483647) (hB : BdX P) (p_kb : -1 ≤ a1 ∧ a1 < K 0 0) (z0 : XK K o0 P) (Q : Option PV → PH → Prop) (hQ : ∀ (r : Int) (_ : (-2147483648) ≤ r ∧ r ≤ 2147483647) (_ : r = sz K a1), Q (some (vI r)) P) : Ct WSX G 1 iX3_sizeOf [vR o0, vI a1] P Q := by
  sorry
/-! What the class answers: X5_armAt. -/
set_option maxRecDepth 100000 in
set_option maxHeartbeats 4000000 in
theorem f_X5_armAt (G : GT) (P : PH) (o0 : Nat) (a1 : Int) (k_o0 : kx o0 14) (h_a1 : (-2147483648) ≤ a1 ∧ a1 ≤ 2147483647) (hB : BdX P) (Q : Option PV → PH → Prop) (hQ : ∀ (r : Int) (_ : (-1) ≤ r ∧ r ≤ 255) (_ : (0 ≤ a1 ∧ a1 < P o0 1 ∧ r = P (crX o0 0) a1) ∨ ((a1 < 0 ∨ P o0 1 ≤ a1) ∧ r = -1)), Q (some (vI r)) P) : Ct WSX G 2 iX5_armAt [vR o0, vI a1] P Q := by
  sorry
/-! What the class answers: X5_begin. -/
set_option maxRecDepth 100000 in
set_option maxHeartbeats 4000000 in
theorem f_X5_begin (G : GT) (P : PH) (o0 : Nat) (a1 : Int) (a2 : Int) (k_o0 : kx o0 14) (h_a1 : (-2147483648) ≤ a1 ∧ a1 ≤ 2147483647) (h_a2 : (-2147483648) ≤ a2 ∧ a2 ≤ 2147483647) (hB : BdX P) (p_n : 0 ≤ a1 ∧ a1 ≤ 12) (Q : Option PV → PH → Prop) (hQ : ∀ (P1 : PH) (_ : BdX P1) (_ : FrX ([(14, 1), (14, 2), (14, 3)], [15]) P P1) (_ : P1 o0 1 = a1) (_ : P1 o0 2 = 255) (_ : P1 o0 3 = a2) (_ : ∀ q : Int, 0 ≤ q → q < a1 → P1 (crX o0 0) q = q) (_ : KO o0 P P1), Q none P1) : Ct WSX G 2 iX5_begin [vR o0, vI a1, vI a2] P Q := by
  sorry
/-! What the class answers: X5_copy. -/
set_option maxRecDepth 100000 in
set_option maxHeartbeats 4000000 in
theorem f_X5_copy (G : GT) (P : PH) (o0 : Nat) (o1 : Nat) (k_o0 : kx o0 14) (k_o1 : kx o1 14) (hB : BdX P) (p_ne : o1 ≠ o0) (Q : Option PV → PH → Prop) (hQ : ∀ (P1 : PH) (_ : BdX P1) (_ : FrX ([(14, 1), (14, 2), (14, 3)], [15]) P P1) (_ : P1 o0 1 = P o1 1) (_ : P1 o0 2 = P o1 2) (_ : P1 o0 3 = P o1 3) (_ : ∀ q : Int, 0 ≤ q → q < 12 → P1 (crX o0 0) q = P (crX o1 0) q) (_ : KO o0 P P1), Q none P1) : Ct WSX G 1 iX5_copy [vR o0, vR o1] P Q := by
  sorry
/-! What the class answers: X5_exchange. -/
set_option maxRecDepth 100000 in
set_option maxHeartbeats 4000000 in
theorem f_X5_exchange (G : GT) (P : PH) (o0 : Nat) (a1 : Int) (a2 : Int) (k_o0 : kx o0 14) (h_a1 : (-2147483648) ≤ a1 ∧ a1 ≤ 2147483647) (h_a2 : (-2147483648) ≤ a2 ∧ a2 ≤ 2147483647) (hB : BdX P) (Q : Option PV → PH → Prop) (hQ : ∀ (P1 : PH) (_ : BdX P1) (_ : FrX ([], [15]) P P1) (_ : 0 ≤ a1 → a1 < P o0 1 → 0 ≤ a2 → a2 < P o0 1 → P1 (crX o0 0) a1 = P (crX o0 0) a2) (_ : 0 ≤ a1 → a1 < P o0 1 → 0 ≤ a2 → a2 < P o0 1 → P1 (crX o0 0) a2 = P (crX o0 0) a1) (_ : ∀ j : Int, j ≠ a1 → j ≠ a2 → P1 (crX o0 0) j = P (crX o0 0) j) (_ : KO o0 P P1), Q none P1) : Ct WSX G 2 iX5_exchange [vR o0, vI a1, vI a2] P Q := by
  sorry
/-! What the class answers: X5_isPlace. -/
set_option maxRecDepth 100000 in
set_option maxHeartbeats 4000000 in
theorem f_X5_isPlace (G : GT) (P : PH) (o0 : Nat) (a1 : Int) (k_o0 : kx o0 14) (h_a1 : (-2147483648) ≤ a1 ∧ a1 ≤ 2147483647) (hB : BdX P) (Q : Option PV → PH → Prop) (hQ : ∀ (r : Int) (_ : 0 ≤ r ∧ r ≤ 1) (_ : r = 0 ∨ (0 ≤ a1 ∧ a1 < P o0 1)) (_ : (r = 1 ∧ 0 ≤ a1 ∧ a1 < P o0 1) ∨ (r = 0 ∧ (a1 < 0 ∨ P o0 1 ≤ a1))), Q (some (vI r)) P) : Ct WSX G 1 iX5_isPlace [vR o0, vI a1] P Q := by
  sorry
/-! What the class answers: X5_placeTaking. -/
set_option maxRecDepth 100000 in
set_option maxHeartbeats 4000000 in
theorem f_X5_placeTaking (G : GT) (P : PH) (M : PH) (o0 : Nat) (o1 : Nat) (a1 : Int) (a2 : Int) (k_o0 : kx o0 14) (k_o1 : kx o1 28) (h_a1 : (-2147483648) ≤ a1 ∧ a1 ≤ 2147483647) (h_a2 : (-2147483648) ≤ a2 ∧ a2 ≤ 2147483647) (hB : BdX P) (p_m12 : M 0 2 ≤ 12) (p_gw : GW M) (p_fb : ∀ p : Int, 0 ≤ p → p < P o0 1 → 0 ≤ P (crX o0 0) p ∧ P (crX o0 0) p < M 0 2) (p_ft : 0 ≤ a1 ∧ a1 ≤ 4095) (p_on : 0 ≤ a2 ∧ a2 ≤ 255) (z0 : XM M o1 P) (Q : Option PV → PH → Prop) (hQ : ∀ (r : Int) (_ : (-1) ≤ r ∧ r ≤ 11) (_ : r = fxi (ptk M a1 a2 (P (crX o0 0))) 1 (P o0 1).toNat), Q (some (vI r)) P) : Ct WSX G 2 iX5_placeTaking [vR o0, vR o1, vI a1, vI a2] P Q := by
  sorry
/-! What the class answers: X5_takeOut. -/
set_option maxRecDepth 100000 in
set_option maxHeartbeats 4000000 in
theorem f_X5_takeOut (G : GT) (P : PH) (o0 : Nat) (a1 : Int) (k_o0 : kx o0 14) (h_a1 : (-2147483648) ≤ a1 ∧ a1 ≤ 2147483647) (hB : BdX P) (Q : Option PV → PH → Prop) (hQ : ∀ (P1 : PH) (_ : BdX P1) (_ : FrX ([(14, 1)], [15]) P P1) (_ : 0 ≤ a1 → a1 < P o0 1 → P1 o0 1 = P o0 1 - 1) (_ : ∀ q : Int, q < a1 → P1 (crX o0 0) q = P (crX o0 0) q) (_ : 0 ≤ a1 → ∀ q : Int, a1 ≤ q → q + 1 < P o0 1 → P1 (crX o0 0) q = P (crX o0 0) (q + 1)) (_ : KO o0 P P1), Q none P1) : Ct WSX G 2 iX5_takeOut [vR o0, vI a1] P Q := by
  sorry
/-! What the class answers: X6_begin_B16. -/
set_option maxRecDepth 100000 in
set_option maxHeartbeats 4000000 in
theorem f_X6_begin_B16 (G : GT) (P : PH) (T : TT) (hB : BdX P) (p_tx : P 1 1 = T.2 ∧ ∀ i : Int, 0 ≤ i → i < T.2 → P 2 i = T.1 i) (v_OWN : OWN P) (Q : Option PV → PH → Prop) (hQ : ∀ (P1 : PH) (_ : BdX P1) (_ : FrX ([(45, 3), (45, 4), (46, 1), (46, 2), (46, 3), (46, 4), (46, 5), (46, 6), (46, 7), (46, 8)], []) P P1) (_ : P1 110 3 = 0 ∧ P1 110 4 = -1) (_ : TX P1) (_ : XT T P1) (_ : XS T 0 P1), Q none P1) : Ct WSX G 4 iX6_begin [vR 110, vR 1] P Q := by
  sorry
/-! What the class answers: X6_fail. -/
set_option maxRecDepth 100000 in
set_option maxHeartbeats 4000000 in
theorem f_X6_fail (G : GT) (P : PH) (a1 : Int) (a2 : Int) (h_a1 : (-2147483648) ≤ a1 ∧ a1 ≤ 2147483647) (h_a2 : (-2147483648) ≤ a2 ∧ a2 ≤ 2147483647) (hB : BdX P) (Q : Option PV → PH → Prop) (hQ : ∀ (r : Int) (_ : 0 ≤ r ∧ r ≤ 1) (P1 : PH) (_ : BdX P1) (_ : FrX ([(45, 3), (45, 4)], []) P P1) (_ : P1 110 3 = a1 ∧ P1 110 4 = a2 ∧ r = 0), Q (some (vI r)) P1) : Ct WSX G 1 iX6_fail [vR 110, vI a1, vI a2] P Q := by
  sorry
/-! What the class answers: X6_failHere. -/
set_option maxRecDepth 100000 in
set_option maxHeartbeats 4000000 in
theorem f_X6_failHere (G : GT) (P : PH) (T : TT) (p : Int) (hB : BdX P) (z0 : XS T p P) (Q : Option PV → PH → Prop) (hQ : ∀ (r : Int) (_ : 0 ≤ r ∧ r ≤ 1) (P1 : PH) (_ : BdX P1) (_ : FrX ([(45, 3), (45, 4)], []) P P1) (_ : P1 110 3 = 1 ∧ P1 110 4 = fh T p ∧ r = 0), Q (some (vI r)) P1) : Ct WSX G 1 iX6_failHere [vR 110] P Q := by
  sorry
/-! What the class answers: X6_fill. -/
set_option maxRecDepth 100000 in
set_option maxHeartbeats 4000000 in
theorem f_X6_fill (G : GT) (P : PH) (o1 : Nat) (a1 : Int) (a2 : Int) (a3 : Int) (k_o1 : kx o1 50) (h_a1 : (-2147483648) ≤ a1 ∧ a1 ≤ 2147483647) (h_a2 : (-2147483648) ≤ a2 ∧ a2 ≤ 2147483647) (h_a3 : (-2147483648) ≤ a3 ∧ a3 ≤ 2147483647) (hB : BdX P) (p_b : a2 ≤ 2047) (Q : Option PV → PH → Prop) (hQ : ∀ (P1 : PH) (_ : BdX P1) (_ : FrX ([], [50]) P P1) (_ : FLx o1 a1 a2 a3 P P1), Q none P1) : Ct WSX G 2 iX6_fill [vR o1, vI a1, vI a2, vI a3] P Q := by
  sorry
/-! What the class answers: X6_fillCase. -/
set_option maxRecDepth 100000 in
set_option maxHeartbeats 4000000 in
theorem f_X6_fillCase (G : GT) (P : PH) (K : PH) (o : Nat) (k_o : kx o 28) (a1 : Int) (a2 : Int) (a3 : Int) (h_a1 : 0 ≤ a1 ∧ a1 ≤ 23) (h_a2 : 0 ≤ a2 ∧ a2 ≤ 9) (h_a3 : 0 ≤ a3 ∧ a3 ≤ 10) (hB : BdX P) (p_aw : AW K) (p_ab : AB K) (p_cb : a1 < K 0 1) (p_k6 : 1 ≤ K 6 a1) (p_sl : a2 ≠ a3 ∧ a2 ≠ a3 + 1 ∧ a3 ≤ 8) (v_OWN : OWN P) (z0 : XK K (crX o 0) P) (z1 : RT o P) (Q : Option PV → PH → Prop) (hQ : ∀ (P1 : PH) (_ : BdX P1) (_ : FrX ([], [50]) P P1) (_ : FCx K a1 (K 10 a1 + cpr K a1) (fr9 a2) (P (fr9 a3)) (P (fr9 (a3 + 1))) P P1), Q none P1) : Ct WSX G 3 iX6_fillCase [vR 110, vI a1, vI a2, vI a3] P Q := by
  sorry
/-! What the class answers: X6_isKindHere. -/
set_option maxRecDepth 100000 in
set_option maxHeartbeats 4000000 in
theorem f_X6_isKindHere (G : GT) (P : PH) (T : TT) (K : PH) (p : Int) (o : Nat) (k_o : kx o 28) (a1 : Int) (h_a1 : (-2147483648) ≤ a1 ∧ a1 ≤ 2147483647) (hB : BdX P) (p_aw : AW K) (p_kw : tK T p = 1 ∧ (tO T p = -1 ∨ tO T p = 7)) (z0 : XS T p P) (z1 : XK K (crX o 0) P) (z2 : RT o P) (Q : Option PV → PH → Prop) (hQ : ∀ (r : Int) (_ : 0 ≤ r ∧ r ≤ 1) (_ : (r = 1 ∧ (tO T p = 7 ∨ (kHe T K p ≠ -1 ∧ kHe T K p ≠ a1 ∧ 1 ≤ K 3 (kHe T K p)))) ∨ (r = 0 ∧ tO T p = -1 ∧ (kHe T K p = -1 ∨ kHe T K p = a1 ∨ K 3 (kHe T K p) ≤ 0))), Q (some (vI r)) P) : Ct WSX G 3 iX6_isKindHere [vR 110, vI a1] P Q := by
  sorry
/-! What the class answers: X6_isKindWord. -/
set_option maxRecDepth 100000 in
set_option maxHeartbeats 4000000 in
theorem f_X6_isKindWord (G : GT) (P : PH) (T : TT) (p : Int) (hB : BdX P) (z0 : XS T p P) (Q : Option PV → PH → Prop) (hQ : ∀ (r : Int) (_ : 0 ≤ r ∧ r ≤ 1) (_ : (r = 1 ∧ tK T p = 1 ∧ (tO T p = -1 ∨ tO T p = 7)) ∨ (r = 0 ∧ (tK T p ≠ 1 ∨ (tO T p ≠ -1 ∧ tO T p ≠ 7)))), Q (some (vI r)) P) : Ct WSX G 2 iX6_isKindWord [vR 110] P Q := by
  sorry
/-! What the class answers: X6_isNewName. -/
set_option maxRecDepth 100000 in
set_option maxHeartbeats 4000000 in
theorem f_X6_isNewName (G : GT) (P : PH) (T : TT) (K : PH) (p : Int) (o : Nat) (k_o : kx o 28) (hB : BdX P) (p_aw : AW K) (z0 : XS T p P) (z1 : XK K (crX o 0) P) (z2 : RT o P) (Q : Option PV → PH → Prop) (hQ : ∀ (r : Int) (_ : 0 ≤ r ∧ r ≤ 1) (P1 : PH) (_ : BdX P1) (_ : FrX ([(45, 3), (45, 4)], []) P P1) (_ : (r = 1 ∧ (fre T K p).1 = 0 ∧ P1 110 3 = P 110 3 ∧ P1 110 4 = P 110 4 ∧ tK T p = 1) ∨ (r = 0 ∧ (fre T K p).1 ≠ 0 ∧ P1 110 3 = (fre T K p).1 ∧ P1 110 4 = (fre T K p).2)), Q (some (vI r)) P1) : Ct WSX G 2 iX6_isNewName [vR 110] P Q := by
  sorry
/-! What the class answers: X6_kindHere. -/
set_option maxRecDepth 100000 in
set_option maxHeartbeats 4000000 in
theorem f_X6_kindHere (G : GT) (P : PH) (T : TT) (K : PH) (p : Int) (o : Nat) (k_o : kx o 28) (hB : BdX P) (p_kw : tK T p = 1 ∧ (tO T p = -1 ∨ tO T p = 7)) (z0 : XS T p P) (z1 : XK K (crX o 0) P) (z2 : RT o P) (Q : Option PV → PH → Prop) (hQ : ∀ (r : Int) (_ : (-1) ≤ r ∧ r ≤ 3) (_ : r = kHe T K p), Q (some (vI r)) P) : Ct WSX G 2 iX6_kindHere [vR 110] P Q := by
  sorry
/-! What the class answers: X6_readArm. -/
set_option maxRecDepth 100000 in
set_option maxHeartbeats 4000000 in
theorem f_X6_readArm (G : GT) (P : PH) (T : TT) (K : PH) (M : PH) (F : FT) (p : Int) (o : Nat) (k_o : kx o 28) (hB : BdX P) (p_aw : AW K) (p_av : AV K M) (p_k0 : tO T p = 3) (p_ab : AB K) (v_TX : TX P) (v_OWN : OWN P) (z0 : XT T P) (z1 : XS T p P) (z2 : XK K (crX o 0) P) (z3 : XM M o P) (z4 : RT o P) (z5 : XFb K M F o P) (z6 : XZ K M o P) (Q : Option PV → PH → Prop) (hQ : ∀ (r : Int) (_ : 0 ≤ r ∧ r ≤ 1) (P1 : PH) (_ : BdX P1) (_ : FrX ([(28, 8), (45, 3), (45, 4), (46, 3), (46, 4), (46, 5), (46, 6), (46, 7), (46, 8)], [41, 42, 44, 50]) P P1) (_ : (r = 1 ∧ (sAr T K M p).1 = 0 ∧ P1 110 3 = P 110 3 ∧ P1 110 4 = P 110 4) ∨ (r = 0 ∧ (sAr T K M p).1 ≠ 0 ∧ P1 110 3 = (sAr T K M p).1 ∧ P1 110 4 = (sAr T K M p).2)) (_ : CP (sAr T K M p).1 (XS T (sAr T K M p).2) P1) (_ : CP (sAr T K M p).1 (XM (mAr T K M p) o) P1) (_ : KT (tbX o) P P1) (_ : CP (sAr T K M p).1 (XFb K (mAr T K M p) (fAr T K M F p) o) P1), Q (some (vI r)) P1) : Ct WSX G 25 iX6_readArm [vR 110] P Q := by
  sorry
/-! What the class answers: X6_readBudget. -/
set_option maxRecDepth 100000 in
set_option maxHeartbeats 4000000 in
theorem f_X6_readBudget (G : GT) (P : PH) (T : TT) (p : Int) (M : PH) (o : Nat) (k_o : kx o 28) (hB : BdX P) (p_k0 : tO T p = 6) (v_TX : TX P) (v_OWN : OWN P) (z0 : XT T P) (z1 : XS T p P) (z2 : XM M o P) (z3 : RT o P) (Q : Option PV → PH → Prop) (hQ : ∀ (r : Int) (_ : 0 ≤ r ∧ r ≤ 1) (P1 : PH) (_ : BdX P1) (_ : FrX ([(28, 10), (45, 3), (45, 4), (46, 3), (46, 4), (46, 5), (46, 6), (46, 7), (46, 8)], []) P P1) (_ : (r = 1 ∧ (num T 1 999 (tE T p)).1 = 0 ∧ P1 110 3 = P 110 3 ∧ P1 110 4 = P 110 4) ∨ (r = 0 ∧ (num T 1 999 (tE T p)).1 ≠ 0 ∧ P1 110 3 = (num T 1 999 (tE T p)).1 ∧ P1 110 4 = (num T 1 999 (tE T p)).2)) (_ : CP (num T 1 999 (tE T p)).1 (XS T (num T 1 999 (tE T p)).2) P1) (_ : CP (num T 1 999 (tE T p)).1 (XM (up M 0 4 (tV T (tE T p))) o) P1) (_ : KT (tbX o) P P1), Q (some (vI r)) P1) : Ct WSX G 4 iX6_readBudget [vR 110] P Q := by
  sorry
/-! What the class answers: X6_readColumns. -/
set_option maxRecDepth 100000 in
set_option maxHeartbeats 4000000 in
theorem f_X6_readColumns (G : GT) (P : PH) (T : TT) (K : PH) (M : PH) (F : FT) (p : Int) (o : Nat) (k_o : kx o 28) (hB : BdX P) (p_aw : AW K) (p_av : AV K M) (p_k0 : tO T p = 2) (p_na : NA M) (v_TX : TX P) (v_OWN : OWN P) (z0 : XT T P) (z1 : XS T p P) (z2 : XK K (crX o 0) P) (z3 : XM M o P) (z4 : RT o P) (z5 : XZ K M o P) (z6 : XFb K M F o P) (Q : Option PV → PH → Prop) (hQ : ∀ (r : Int) (_ : 0 ≤ r ∧ r ≤ 1) (P1 : PH) (_ : BdX P1) (_ : FrX ([(28, 6), (28, 7), (45, 3), (45, 4), (46, 3), (46, 4), (46, 5), (46, 6), (46, 7), (46, 8)], [39, 40, 41, 44]) P P1) (_ : (r = 1 ∧ (sMa T K M p).1 = 0 ∧ P1 110 3 = P 110 3 ∧ P1 110 4 = P 110 4) ∨ (r = 0 ∧ (sMa T K M p).1 ≠ 0 ∧ P1 110 3 = (sMa T K M p).1 ∧ P1 110 4 = (sMa T K M p).2.1)) (_ : CP (sMa T K M p).1 (XS T (sMa T K M p).2.1) P1) (_ : CP (sMa T K M p).1 (XM (sMa T K M p).2.2 o) P1) (_ : KT (tbX o) P P1) (_ : CP (sMa T K M p).1 (XZ K (sMa T K M p).2.2 o) P1) (_ : CP (sMa T K M p).1 (XFz K (sMa T K M p).2.2 F o) P1), Q (some (vI r)) P1) : Ct WSX G 4 iX6_readColumns [vR 110] P Q := by
  sorry
/-! What the class answers: X6_readCon. -/
set_option maxRecDepth 100000 in
set_option maxHeartbeats 4000000 in
theorem f_X6_readCon (G : GT) (P : PH) (T : TT) (K : PH) (M : PH) (p : Int) (o : Nat) (k_o : kx o 28) (hB : BdX P) (p_aw : AW K) (p_k0 : tO T p = 1) (v_TX : TX P) (v_OWN : OWN P) (z0 : XT T P) (z1 : XS T p P) (z2 : XK K (crX o 0) P) (z3 : XM M o P) (z4 : RT o P) (Q : Option PV → PH → Prop) (hQ : ∀ (r : Int) (_ : 0 ≤ r ∧ r ≤ 1) (P1 : PH) (_ : BdX P1) (_ : FrX ([(29, 10), (45, 3), (45, 4), (46, 3), (46, 4), (46, 5), (46, 6), (46, 7), (46, 8)], [32, 33, 34, 35, 36, 37, 38]) P P1) (_ : (r = 1 ∧ (sCo T K M p).1 = 0 ∧ P1 110 3 = P 110 3 ∧ P1 110 4 = P 110 4) ∨ (r = 0 ∧ (sCo T K M p).1 ≠ 0 ∧ P1 110 3 = (sCo T K M p).1 ∧ P1 110 4 = (sCo T K M p).2)) (_ : CP (sCo T K M p).1 (XS T (sCo T K M p).2) P1) (_ : CP (sCo T K M p).1 (XK (kCo T K p) (crX o 0)) P1) (_ : KT (tbX o) P P1), Q (some (vI r)) P1) : Ct WSX G 4 iX6_readCon [vR 110] P Q := by
  sorry
/-! What the class answers: X6_readConName. -/
set_option maxRecDepth 100000 in
set_option maxHeartbeats 4000000 in
theorem f_X6_readConName (G : GT) (P : PH) (T : TT) (K : PH) (p : Int) (o : Nat) (k_o : kx o 28) (a1 : Int) (h_a1 : (-2147483648) ≤ a1 ∧ a1 ≤ 2147483647) (hB : BdX P) (p_aw : AW K) (p_kb : 0 ≤ a1 ∧ a1 < K 0 0) (v_TX : TX P) (v_OWN : OWN P) (z0 : XT T P) (z1 : XS T p P) (z2 : XK K (crX o 0) P) (z3 : RT o P) (Q : Option PV → PH → Prop) (hQ : ∀ (r : Int) (_ : (-1) ≤ r ∧ r ≤ 23) (P1 : PH) (_ : BdX P1) (_ : FrX ([(45, 3), (45, 4), (46, 3), (46, 4), (46, 5), (46, 6), (46, 7), (46, 8)], []) P P1) (_ : (r = cNm K (tV T p) ∧ 0 ≤ r ∧ r < K 0 1 ∧ (cas T K a1 p).1 = 0 ∧ P1 110 3 = P 110 3 ∧ P1 110 4 = P 110 4) ∨ (r = -1 ∧ (cas T K a1 p).1 ≠ 0 ∧ P1 110 3 = (cas T K a1 p).1 ∧ P1 110 4 = (cas T K a1 p).2)) (_ : CP (cas T K a1 p).1 (XS T (tE T p)) P1), Q (some (vI r)) P1) : Ct WSX G 3 iX6_readConName [vR 110, vI a1] P Q := by
  sorry
/-! What the class answers: X6_readKind. -/
set_option maxRecDepth 100000 in
set_option maxHeartbeats 4000000 in
theorem f_X6_readKind (G : GT) (P : PH) (T : TT) (K : PH) (M : PH) (p : Int) (o : Nat) (k_o : kx o 28) (hB : BdX P) (p_aw : AW K) (p_k0 : tO T p = 0) (v_TX : TX P) (v_OWN : OWN P) (z0 : XT T P) (z1 : XS T p P) (z2 : XK K (crX o 0) P) (z3 : XM M o P) (z4 : RT o P) (Q : Option PV → PH → Prop) (hQ : ∀ (r : Int) (_ : 0 ≤ r ∧ r ≤ 1) (P1 : PH) (_ : BdX P1) (_ : FrX ([(29, 9), (45, 3), (45, 4), (46, 3), (46, 4), (46, 5), (46, 6), (46, 7), (46, 8)], [30, 31, 32, 33]) P P1) (_ : (r = 1 ∧ (sKi T K M p).1 = 0 ∧ P1 110 3 = P 110 3 ∧ P1 110 4 = P 110 4) ∨ (r = 0 ∧ (sKi T K M p).1 ≠ 0 ∧ P1 110 3 = (sKi T K M p).1 ∧ P1 110 4 = (sKi T K M p).2)) (_ : CP (sKi T K M p).1 (XS T (sKi T K M p).2) P1) (_ : CP (sKi T K M p).1 (XK (kNew K (tV T (tE T p))) (crX o 0)) P1) (_ : KT (tbX o) P P1), Q (some (vI r)) P1) : Ct WSX G 3 iX6_readKind [vR 110] P Q := by
  sorry
/-! What the class answers: X6_readMatch_B16. -/
set_option maxRecDepth 100000 in
set_option maxHeartbeats 4000000 in
theorem f_X6_readMatch_B16 (G : GT) (P : PH) (T : TT) (o1 : Nat) (k_o1 : kx o1 28) (hB : BdX P) (p_tx : P 1 1 = T.2 ∧ ∀ i : Int, 0 ≤ i → i < T.2 → P 2 i = T.1 i) (v_OWN : OWN P) (Q : Option PV → PH → Prop) (hQ : ∀ (r : Int) (_ : (-2147483648) ≤ r ∧ r ≤ 2147483647) (P1 : PH) (_ : BdX P1) (_ : FrX ([(28, 6), (28, 7), (28, 8), (28, 9), (28, 10), (29, 9), (29, 10), (45, 2), (45, 3), (45, 4), (46, 1), (46, 2), (46, 3), (46, 4), (46, 5), (46, 6), (46, 7), (46, 8)], [30, 31, 32, 33, 34, 35, 36, 37, 38, 39, 40, 41, 42, 44, 50]) P P1) (_ : (r = -1 ∧ (mlR T).1 ≠ 0 ∧ P1 110 3 = (mlR T).1 ∧ P1 110 4 = (mlR T).2.1) ∨ (r = (mlR T).2.1 ∧ 0 ≤ r ∧ (mlR T).1 = 0 ∧ P1 110 3 = 0 ∧ P1 110 4 = -1)) (_ : TX P1) (_ : CP (mlR T).1 (XK (mlR T).2.2.1 (crX o1 0)) P1) (_ : CP (mlR T).1 (XM (mlR T).2.2.2 o1) P1) (_ : KT (tbX o1) P P1) (_ : CP (mlR T).1 (XZ (mlR T).2.2.1 (mlR T).2.2.2 o1) P1) (_ : CP (mlR T).1 (XFb (mlR T).2.2.1 (mlR T).2.2.2 (mlRF T) o1) P1), Q (some (vI r)) P1) : Ct WSX G 26 iX6_readMatch [vR 110, vR 1, vR o1] P Q := by
  sorry
/-! What the class answers: X6_readNumber. -/
set_option maxRecDepth 100000 in
set_option maxHeartbeats 4000000 in
theorem f_X6_readNumber (G : GT) (P : PH) (T : TT) (p : Int) (a1 : Int) (a2 : Int) (h_a1 : (-2147483648) ≤ a1 ∧ a1 ≤ 2147483647) (h_a2 : (-2147483648) ≤ a2 ∧ a2 ≤ 2147483647) (hB : BdX P) (p_lo : 0 ≤ a1) (v_TX : TX P) (v_OWN : OWN P) (z0 : XT T P) (z1 : XS T p P) (Q : Option PV → PH → Prop) (hQ : ∀ (r : Int) (_ : (-2147483648) ≤ r ∧ r ≤ 2147483647) (P1 : PH) (_ : BdX P1) (_ : FrX ([(45, 3), (45, 4), (46, 3), (46, 4), (46, 5), (46, 6), (46, 7), (46, 8)], []) P P1) (_ : (r = tV T p ∧ a1 ≤ r ∧ r ≤ a2 ∧ (num T a1 a2 p).1 = 0 ∧ P1 110 3 = P 110 3 ∧ P1 110 4 = P 110 4) ∨ (r = -1 ∧ (num T a1 a2 p).1 ≠ 0 ∧ P1 110 3 = (num T a1 a2 p).1 ∧ P1 110 4 = (num T a1 a2 p).2)) (_ : CP (num T a1 a2 p).1 (XS T (num T a1 a2 p).2) P1), Q (some (vI r)) P1) : Ct WSX G 3 iX6_readNumber [vR 110, vI a1, vI a2] P Q := by
  sorry
/-! What the class answers: X6_readPattern. -/
set_option maxRecDepth 100000 in
set_option maxHeartbeats 4000000 in
theorem f_X6_readPattern (G : GT) (P : PH) (T : TT) (K : PH) (p : Int) (o : Nat) (k_o : kx o 28) (a1 : Int) (a2 : Int) (a3 : Int) (h_a1 : (-2147483648) ≤ a1 ∧ a1 ≤ 2147483647) (h_a2 : (-2147483648) ≤ a2 ∧ a2 ≤ 2147483647) (h_a3 : (-2147483648) ≤ a3 ∧ a3 ≤ 2147483647) (hB : BdX P) (p_dp : 0 ≤ a3) (p_aw : AW K) (p_ab : AB K) (p_sd : 0 ≤ a2 ∧ a2 ≤ 9 ∧ 0 ≤ a3 ∧ a3 ≤ 4 ∧ a1 + a3 ≤ 3 ∧ -1 ≤ a1 ∧ a1 < K 0 0 ∧ a2 ≤ 2 * a3 + 1) (v_TX : TX P) (v_OWN : OWN P) (z0 : XT T P) (z1 : XS T p P) (z2 : XK K (crX o 0) P) (z3 : RT o P) (hm : (6 - a3 : Int).toNat < 7) (Q : Option PV → PH → Prop) (hQ : ∀ (r : Int) (_ : 0 ≤ r ∧ r ≤ 1) (P1 : PH) (_ : BdX P1) (_ : FrX ([(45, 3), (45, 4), (46, 3), (46, 4), (46, 5), (46, 6), (46, 7), (46, 8)], [50]) P P1) (_ : AP T K a1 a2 a3 p r P P1), Q (some (vI r)) P1) : Ct WSX G 24 iX6_readPattern [vR 110, vI a1, vI a2, vI a3] P Q := by
  sorry
/-! What the class answers: X6_readRange. -/
set_option maxRecDepth 100000 in
set_option maxHeartbeats 4000000 in
theorem f_X6_readRange (G : GT) (P : PH) (T : TT) (p : Int) (a1 : Int) (h_a1 : 0 ≤ a1 ∧ a1 ≤ 9) (hB : BdX P) (p_sl : 0 ≤ a1 ∧ a1 ≤ 9) (v_TX : TX P) (v_OWN : OWN P) (z0 : XT T P) (z1 : XS T p P) (Q : Option PV → PH → Prop) (hQ : ∀ (r : Int) (_ : 0 ≤ r ∧ r ≤ 1) (P1 : PH) (_ : BdX P1) (_ : FrX ([(45, 3), (45, 4), (46, 3), (46, 4), (46, 5), (46, 6), (46, 7), (46, 8)], [50]) P P1) (_ : (r = 1 ∧ (rg8 T p).1 = 0 ∧ P1 110 3 = P 110 3 ∧ P1 110 4 = P 110 4) ∨ (r = 0 ∧ (rg8 T p).1 ≠ 0 ∧ P1 110 3 = (rg8 T p).1 ∧ P1 110 4 = (rg8 T p).2)) (_ : r = 1 → (tO T p = 8 → FLx (fr9 a1) 0 19 1 P P1) ∧ (tO T p ≠ 8 → FLx (fr9 a1) (tV T p) (hiV T p) 1 P P1)) (_ : CP (rg8 T p).1 (XS T (rg8 T p).2) P1), Q (some (vI r)) P1) : Ct WSX G 4 iX6_readRange [vR 110, vI a1] P Q := by
  sorry
/-! What the class answers: X6_readRow_B16. -/
set_option maxRecDepth 100000 in
set_option maxHeartbeats 4000000 in
theorem f_X6_readRow_B16 (G : GT) (P : PH) (T : TT) (K : PH) (M : PH) (o1 : Nat) (k_o1 : kx o1 28) (hB : BdX P) (p_tx : P 1 1 = T.2 ∧ ∀ i : Int, 0 ≤ i → i < T.2 → P 2 i = T.1 i) (p_aw : AW K) (p_ab : AB K) (p_av : AV K M) (p_az : AZ K M) (p_ar : AR K M) (v_OWN : OWN P) (z0 : XK K (crX o1 0) P) (z1 : XM M o1 P) (z2 : XZ K M o1 P) (Q : Option PV → PH → Prop) (hQ : ∀ (r : Int) (_ : (-2147483648) ≤ r ∧ r ≤ 2147483647) (P1 : PH) (_ : BdX P1) (_ : FrX ([(45, 2), (45, 3), (45, 4), (46, 1), (46, 2), (46, 3), (46, 4), (46, 5), (46, 6), (46, 7), (46, 8)], []) P P1) (_ : (r = -1 ∧ (rwR T K M).1 ≠ 0 ∧ P1 110 3 = (rwR T K M).1 ∧ P1 110 4 = (rwR T K M).2.1) ∨ (r = (rwR T K M).2.2 ∧ 0 ≤ r ∧ (rwR T K M).1 = 0 ∧ P1 110 3 = (rwR T K M).1 ∧ P1 110 4 = (rwR T K M).2.1)) (_ : TX P1), Q (some (vI r)) P1) : Ct WSX G 12 iX6_readRow [vR 110, vR 1, vR o1] P Q := by
  sorry
/-! What the class answers: X6_readRule. -/
set_option maxRecDepth 100000 in
set_option maxHeartbeats 4000000 in
theorem f_X6_readRule (G : GT) (P : PH) (T : TT) (p : Int) (M : PH) (o : Nat) (k_o : kx o 28) (hB : BdX P) (p_k0 : tO T p = 5) (v_TX : TX P) (v_OWN : OWN P) (z0 : XT T P) (z1 : XS T p P) (z2 : XM M o P) (z3 : RT o P) (Q : Option PV → PH → Prop) (hQ : ∀ (r : Int) (_ : 0 ≤ r ∧ r ≤ 1) (P1 : PH) (_ : BdX P1) (_ : FrX ([(28, 9), (45, 3), (45, 4), (46, 3), (46, 4), (46, 5), (46, 6), (46, 7), (46, 8)], []) P P1) (_ : (r = 1 ∧ (num T 0 3 (tE T p)).1 = 0 ∧ P1 110 3 = P 110 3 ∧ P1 110 4 = P 110 4) ∨ (r = 0 ∧ (num T 0 3 (tE T p)).1 ≠ 0 ∧ P1 110 3 = (num T 0 3 (tE T p)).1 ∧ P1 110 4 = (num T 0 3 (tE T p)).2)) (_ : CP (num T 0 3 (tE T p)).1 (XS T (num T 0 3 (tE T p)).2) P1) (_ : CP (num T 0 3 (tE T p)).1 (XM (up M 0 3 (tV T (tE T p))) o) P1) (_ : KT (tbX o) P P1), Q (some (vI r)) P1) : Ct WSX G 4 iX6_readRule [vR 110] P Q := by
  sorry
/-! What the class answers: X6_readSign. -/
set_option maxRecDepth 100000 in
set_option maxHeartbeats 4000000 in
theorem f_X6_readSign (G : GT) (P : PH) (T : TT) (p : Int) (a1 : Int) (h_a1 : (-2147483648) ≤ a1 ∧ a1 ≤ 2147483647) (hB : BdX P) (v_TX : TX P) (v_OWN : OWN P) (z0 : XT T P) (z1 : XS T p P) (Q : Option PV → PH → Prop) (hQ : ∀ (r : Int) (_ : 0 ≤ r ∧ r ≤ 1) (P1 : PH) (_ : BdX P1) (_ : FrX ([(45, 3), (45, 4), (46, 3), (46, 4), (46, 5), (46, 6), (46, 7), (46, 8)], []) P P1) (_ : (r = 1 ∧ (sgn T a1 p).1 = 0 ∧ P1 110 3 = P 110 3 ∧ P1 110 4 = P 110 4) ∨ (r = 0 ∧ (sgn T a1 p).1 ≠ 0 ∧ P1 110 3 = (sgn T a1 p).1 ∧ P1 110 4 = (sgn T a1 p).2)) (_ : CP (sgn T a1 p).1 (XS T (sgn T a1 p).2) P1), Q (some (vI r)) P1) : Ct WSX G 3 iX6_readSign [vR 110, vI a1] P Q := by
  sorry
/-! What the class answers: X6_readValue. -/
def st_f_X6_readValue (G : GT) (n : Nat) : Prop := ∀ (P : PH) (T : TT) (K : PH) (p : Int) (o : Nat) (k_o : kx o 28) (a1 : Int) (a2 : Int) (h_a1 : (-2147483648) ≤ a1 ∧ a1 ≤ 2147483647) (h_a2 : (-2147483648) ≤ a2 ∧ a2 ≤ 2147483647) (hB : BdX P) (p_dp : 0 ≤ a2) (p_aw : AW K) (p_ab : AB K) (p_kd : -1 ≤ a1 ∧ a1 < K 0 0 ∧ a1 + a2 ≤ 3) (v_TX : TX P) (v_OWN : OWN P) (z0 : XT T P) (z1 : XS T p P) (z2 : XK K (crX o 0) P) (z3 : RT o P) (hm : (6 - a2 : Int).toNat < n) (Q : Option PV → PH → Prop) (hQ : ∀ (r : Int) (_ : (-2147483648) ≤ r ∧ r ≤ 2147483647) (P1 : PH) (_ : BdX P1) (_ : FrX ([(45, 3), (45, 4), (46, 3), (46, 4), (46, 5), (46, 6), (46, 7), (46, 8)], []) P P1) (_ : VC T K a1 p r P P1), Q (some (vI r)) P1), Ct WSX G (4 + 1 * n) iX6_readValue [vR 110, vI a1, vI a2] P Q
set_option maxRecDepth 100000 in
set_option maxHeartbeats 4000000 in
theorem mr_f_X6_readValue (G : GT) (n : Nat) : st_f_X6_readValue G n := by
  sorry
theorem f_X6_readValue (G : GT) (P : PH) (T : TT) (K : PH) (p : Int) (o : Nat) (k_o : kx o 28) (a1 : Int) (a2 : Int) (h_a1 : (-2147483648) ≤ a1 ∧ a1 ≤ 2147483647) (h_a2 : (-2147483648) ≤ a2 ∧ a2 ≤ 2147483647) (hB : BdX P) (p_dp : 0 ≤ a2) (p_aw : AW K) (p_ab : AB K) (p_kd : -1 ≤ a1 ∧ a1 < K 0 0 ∧ a1 + a2 ≤ 3) (v_TX : TX P) (v_OWN : OWN P) (z0 : XT T P) (z1 : XS T p P) (z2 : XK K (crX o 0) P) (z3 : RT o P) (hm : (6 - a2 : Int).toNat < 7) (Q : Option PV → PH → Prop) (hQ : ∀ (r : Int) (_ : (-2147483648) ≤ r ∧ r ≤ 2147483647) (P1 : PH) (_ : BdX P1) (_ : FrX ([(45, 3), (45, 4), (46, 3), (46, 4), (46, 5), (46, 6), (46, 7), (46, 8)], []) P P1) (_ : VC T K a1 p r P P1), Q (some (vI r)) P1) : Ct WSX G 11 iX6_readValue [vR 110, vI a1, vI a2] P Q := mr_f_X6_readValue G 7 P T K p o k_o a1 a2     h_a1 h_a2 hB p_dp p_aw p_ab p_kd v_TX v_OWN z0 z1 z2 z3 hm Q hQ
/-! What the class answers: X7_begin_B16. -/
set_option maxRecDepth 100000 in
set_option maxHeartbeats 4000000 in
theorem f_X7_begin_B16 (G : GT) (P : PH) (T : TT) (hB : BdX P) (p_tx : P 1 1 = T.2 ∧ ∀ i : Int, 0 ≤ i → i < T.2 → P 2 i = T.1 i) (v_OWN : OWN P) (Q : Option PV → PH → Prop) (hQ : ∀ (P1 : PH) (_ : BdX P1) (_ : FrX ([(46, 1), (46, 2), (46, 3), (46, 4), (46, 5), (46, 6), (46, 7), (46, 8)], []) P P1) (_ : TX P1) (_ : XT T P1) (_ : XS T 0 P1), Q none P1) : Ct WSX G 3 iX7_begin [vR 111, vR 1] P Q := by
  sorry
/-! What the class answers: X7_isName. -/
set_option maxRecDepth 100000 in
set_option maxHeartbeats 4000000 in
theorem f_X7_isName (G : GT) (P : PH) (T : TT) (p : Int) (hB : BdX P) (z0 : XS T p P) (Q : Option PV → PH → Prop) (hQ : ∀ (r : Int) (_ : 0 ≤ r ∧ r ≤ 1) (_ : (r = 1 ∧ tK T p = 1 ∧ tO T p = -1) ∨ (r = 0 ∧ (tK T p ≠ 1 ∨ tO T p ≠ -1))), Q (some (vI r)) P) : Ct WSX G 1 iX7_isName [vR 111] P Q := by
  sorry
/-! What the class answers: X7_isSign. -/
set_option maxRecDepth 100000 in
set_option maxHeartbeats 4000000 in
theorem f_X7_isSign (G : GT) (P : PH) (T : TT) (p : Int) (a1 : Int) (h_a1 : (-2147483648) ≤ a1 ∧ a1 ≤ 2147483647) (hB : BdX P) (z0 : XS T p P) (Q : Option PV → PH → Prop) (hQ : ∀ (r : Int) (_ : 0 ≤ r ∧ r ≤ 1) (_ : (r = 1 ∧ tK T p = 3 ∧ tV T p = a1) ∨ (r = 0 ∧ (tK T p ≠ 3 ∨ tV T p ≠ a1))), Q (some (vI r)) P) : Ct WSX G 1 iX7_isSign [vR 111, vI a1] P Q := by
  sorry
/-! What the class answers: X7_step. -/
set_option maxRecDepth 100000 in
set_option maxHeartbeats 4000000 in
theorem f_X7_step (G : GT) (P : PH) (T : TT) (q : Int) (hB : BdX P) (p_q : P 111 3 = q ∧ 0 ≤ q ∧ q ≤ T.2) (p_bw : ((P 111 4 = 1 ∨ P 111 4 = 2) ∧ jn T q = 1) ∨ (P 111 4 ≠ 1 ∧ P 111 4 ≠ 2 ∧ jn T q = 0)) (v_TX : TX P) (v_OWN : OWN P) (z0 : XT T P) (Q : Option PV → PH → Prop) (hQ : ∀ (P1 : PH) (_ : BdX P1) (_ : FrX ([(46, 3), (46, 4), (46, 5), (46, 6), (46, 7), (46, 8)], []) P P1) (_ : XS T q P1), Q none P1) : Ct WSX G 2 iX7_step [vR 111] P Q := by
  sorry
/-! What the class answers: X7_stepNumber. -/
set_option maxRecDepth 100000 in
set_option maxHeartbeats 4000000 in
theorem f_X7_stepNumber (G : GT) (P : PH) (T : TT) (p : Int) (hB : BdX P) (p_st : P 111 3 = tA T p ∧ P 111 5 = tA T p ∧ P 111 7 = 0 ∧ P 111 8 = -1) (p_nn : 0 ≤ p ∧ p ≤ T.2 ∧ tA T p < T.2 ∧ 48 ≤ T.1 (tA T p) ∧ T.1 (tA T p) ≤ 57 ∧ tJn T p = 0) (v_TX : TX P) (z0 : XT T P) (Q : Option PV → PH → Prop) (hQ : ∀ (P1 : PH) (_ : BdX P1) (_ : FrX ([(46, 3), (46, 4), (46, 6), (46, 7)], []) P P1) (_ : XS T p P1), Q none P1) : Ct WSX G 1 iX7_stepNumber [vR 111] P Q := by
  sorry
/-! What the class answers: X7_stepWord. -/
set_option maxRecDepth 100000 in
set_option maxHeartbeats 4000000 in
theorem f_X7_stepWord (G : GT) (P : PH) (T : TT) (p : Int) (hB : BdX P) (p_st : P 111 3 = tA T p ∧ P 111 5 = tA T p ∧ P 111 7 = 0 ∧ P 111 8 = -1) (p_nn : 0 ≤ p ∧ p ≤ T.2 ∧ tA T p < T.2 ∧ 97 ≤ T.1 (tA T p) ∧ T.1 (tA T p) ≤ 122 ∧ tJn T p = 0) (v_TX : TX P) (v_OWN : OWN P) (z0 : XT T P) (Q : Option PV → PH → Prop) (hQ : ∀ (P1 : PH) (_ : BdX P1) (_ : FrX ([(46, 3), (46, 4), (46, 6), (46, 7), (46, 8)], []) P P1) (_ : XS T p P1), Q none P1) : Ct WSX G 1 iX7_stepWord [vR 111] P Q := by
  sorry
/-! What the class answers: X8_read_B16. -/
set_option maxRecDepth 100000 in
set_option maxHeartbeats 4000000 in
theorem f_X8_read_B16 (G : GT) (P : PH) (T : TT) (M : PH) (A : PH) (o1 : Nat) (o2 : Nat) (k_o1 : kx o1 28) (k_o2 : kx o2 14) (hB : BdX P) (p_w : o2 = 14) (p_m : 0 < M 0 0) (z0 : CX T P) (z1 : AX A P) (z2 : XM M o1 P) (Q : Option PV → PH → Prop) (hQ : ∀ (r : Int) (_ : 0 ≤ r ∧ r ≤ 1) (P1 : PH) (_ : BdX P1) (_ : FrX ([(22, 2)], [23, 24]) P P1) (_ : (r = 1 ∧ seOk T M A) ∨ (r = 0 ∧ ¬ seOk T M A)) (_ : AX (aSee T M A) P1), Q (some (vI r)) P1) : Ct WSX G 3 iX8_read [vR 64, vR 1, vR o1, vR o2] P Q := by
  sorry
/-! What the class answers: X8_rowOn_B16. -/
set_option maxRecDepth 100000 in
set_option maxHeartbeats 4000000 in
theorem f_X8_rowOn_B16 (G : GT) (P : PH) (T : TT) (a1 : Int) (h_a1 : (-2147483648) ≤ a1 ∧ a1 ≤ 2147483647) (hB : BdX P) (p_i : 0 ≤ a1 ∧ 3 * a1 + 1 < T.2) (z0 : CX T P) (Q : Option PV → PH → Prop) (hQ : ∀ (r : Int) (_ : (-2147483648) ≤ r ∧ r ≤ 2147483647) (_ : r = 256 * T.1 (3 * a1) + T.1 (3 * a1 + 1)), Q (some (vI r)) P) : Ct WSX G 2 iX8_rowOn [vR 1, vI a1] P Q := by
  sorry
/-! What the class answers: X9_addArm. -/
set_option maxRecDepth 100000 in
set_option maxHeartbeats 4000000 in
theorem f_X9_addArm (G : GT) (P : PH) (M : PH) (o0 : Nat) (a1 : Int) (k_o0 : kx o0 28) (h_a1 : (-2147483648) ≤ a1 ∧ a1 ≤ 2147483647) (hB : BdX P) (p_a11 : M 0 2 ≤ 11) (z0 : XM M o0 P) (Q : Option PV → PH → Prop) (hQ : ∀ (P1 : PH) (_ : BdX P1) (_ : FrX ([(28, 8)], [42]) P P1) (_ : XM (aNew M a1) o0 P1) (_ : KT (tbX o0) P P1), Q none P1) : Ct WSX G 1 iX9_addArm [vR o0, vI a1] P Q := by
  sorry
/-! What the class answers: X9_addColumn. -/
set_option maxRecDepth 100000 in
set_option maxHeartbeats 4000000 in
theorem f_X9_addColumn (G : GT) (P : PH) (K : PH) (M : PH) (i : Int) (F : FT) (o0 : Nat) (a1 : Int) (k_o0 : kx o0 28) (h_a1 : (-2147483648) ≤ a1 ∧ a1 ≤ 2147483647) (hB : BdX P) (p_aw : AW K) (p_kb : -1 ≤ a1 ∧ a1 < K 0 0) (p_m4 : 0 ≤ M 0 0 ∧ M 0 0 ≤ 3) (p_ri : (M 0 0 = 0 ∧ i = 1) ∨ (1 ≤ M 0 0 ∧ i = M 0 1)) (p_rb : 1 ≤ i ∧ i ≤ 20000 ∧ 1 ≤ sz K a1) (z0 : XK K (crX o0 0) P) (z1 : XM M o0 P) (z2 : XZ K M o0 P) (z3 : XFz K M F o0 P) (Q : Option PV → PH → Prop) (hQ : ∀ (P1 : PH) (_ : BdX P1) (_ : FrX ([(28, 6), (28, 7)], [39, 40, 41, 44]) P P1) (_ : XM (mCol M a1 (i * sz K a1)) o0 P1) (_ : KT (tbX o0) P P1) (_ : XZ K (mCol M a1 (i * sz K a1)) o0 P1) (_ : XFz K (mCol M a1 (i * sz K a1)) F o0 P1), Q none P1) : Ct WSX G 2 iX9_addColumn [vR o0, vI a1] P Q := by
  sorry
/-! What the class answers: X9_armsFitting. -/
set_option maxRecDepth 100000 in
set_option maxHeartbeats 4000000 in
theorem f_X9_armsFitting (G : GT) (P : PH) (K : PH) (M : PH) (F : FT) (o0 : Nat) (a1 : Int) (a2 : Int) (k_o0 : kx o0 28) (h_a1 : (-2147483648) ≤ a1 ∧ a1 ≤ 2147483647) (h_a2 : (-2147483648) ≤ a2 ∧ a2 ≤ 2147483647) (hB : BdX P) (p_aw : AW K) (p_av : AV K M) (p_cb : 0 ≤ a1 ∧ a1 < M 0 0) (p_vb : 0 ≤ a2 ∧ a2 < sz K (M 1 a1)) (z0 : XM M o0 P) (z1 : XFb K M F o0 P) (Q : Option PV → PH → Prop) (hQ : ∀ (r : Int) (_ : (-2147483648) ≤ r ∧ r ≤ 2147483647) (_ : r = msk K F a1 a2 (M 0 2).toNat), Q (some (vI r)) P) : Ct WSX G 1 iX9_armsFitting [vR o0, vI a1, vI a2] P Q := by
  sorry
/-! What the class answers: X9_armsOf. -/
set_option maxRecDepth 100000 in
set_option maxHeartbeats 4000000 in
theorem f_X9_armsOf (G : GT) (P : PH) (K : PH) (M : PH) (F : FT) (o0 : Nat) (a1 : Int) (k_o0 : kx o0 28) (h_a1 : (-2147483648) ≤ a1 ∧ a1 ≤ 2147483647) (hB : BdX P) (p_aw : AW K) (p_av : AV K M) (p_zz : ∀ c : Int, 0 ≤ c → c < M 0 0 → 1 ≤ sz K (M 1 c)) (p_r0 : 0 ≤ a1) (z0 : XM M o0 P) (z1 : XZ K M o0 P) (z2 : XFb K M F o0 P) (Q : Option PV → PH → Prop) (hQ : ∀ (r : Int) (_ : (-2147483648) ≤ r ∧ r ≤ 2147483647) (_ : 0 ≤ r ∧ r ≤ 4095) (_ : ∀ a : Int, 0 ≤ a → tb r a = (decide (a < M 0 2) && fitB K M F a1 a)), Q (some (vI r)) P) : Ct WSX G 2 iX9_armsOf [vR o0, vI a1] P Q := by
  sorry
/-! What the class answers: X9_clear. -/
set_option maxRecDepth 100000 in
set_option maxHeartbeats 4000000 in
theorem f_X9_clear (G : GT) (P : PH) (o0 : Nat) (k_o0 : kx o0 28) (hB : BdX P) (Q : Option PV → PH → Prop) (hQ : ∀ (P1 : PH) (_ : BdX P1) (_ : FrX ([(28, 6), (28, 7), (28, 8), (28, 9), (28, 10), (29, 9), (29, 10)], []) P P1) (_ : XK K0 (crX o0 0) P1) (_ : XM M0 o0 P1) (_ : KT (tbX o0) P P1), Q none P1) : Ct WSX G 2 iX9_clear [vR o0] P Q := by
  sorry
/-! What the class answers: X9_guardOf. -/
set_option maxRecDepth 100000 in
set_option maxHeartbeats 4000000 in
theorem f_X9_guardOf (G : GT) (P : PH) (M : PH) (o0 : Nat) (a1 : Int) (k_o0 : kx o0 28) (h_a1 : (-2147483648) ≤ a1 ∧ a1 ≤ 2147483647) (hB : BdX P) (z0 : XM M o0 P) (Q : Option PV → PH → Prop) (hQ : ∀ (r : Int) (_ : (-2147483648) ≤ r ∧ r ≤ 2147483647) (_ : (0 ≤ a1 ∧ a1 < M 0 2 ∧ r = M 2 a1) ∨ ((a1 < 0 ∨ M 0 2 ≤ a1) ∧ r = -1)), Q (some (vI r)) P) : Ct WSX G 1 iX9_guardOf [vR o0, vI a1] P Q := by
  sorry
/-! What the class answers: X9_isRow. -/
set_option maxRecDepth 100000 in
set_option maxHeartbeats 4000000 in
theorem f_X9_isRow (G : GT) (P : PH) (o0 : Nat) (a1 : Int) (k_o0 : kx o0 28) (h_a1 : (-2147483648) ≤ a1 ∧ a1 ≤ 2147483647) (hB : BdX P) (Q : Option PV → PH → Prop) (hQ : ∀ (r : Int) (_ : 0 ≤ r ∧ r ≤ 1) (_ : r = 0 ∨ (0 ≤ a1 ∧ a1 < P o0 7)) (_ : (r = 1 ∧ 0 ≤ a1 ∧ a1 < P o0 7) ∨ (r = 0 ∧ (a1 < 0 ∨ P o0 7 ≤ a1))), Q (some (vI r)) P) : Ct WSX G 1 iX9_isRow [vR o0, vI a1] P Q := by
  sorry
/-! What the class answers: X9_setPattern. -/
set_option maxRecDepth 100000 in
set_option maxHeartbeats 4000000 in
theorem f_X9_setPattern (G : GT) (P : PH) (K : PH) (M : PH) (F : FT) (GL : Int → List OP) (d : Int → Int) (o0 : Nat) (a1 : Int) (o1 : Nat) (k_o0 : kx o0 28) (h_a1 : (-2147483648) ≤ a1 ∧ a1 ≤ 2147483647) (k_o1 : kx o1 50) (hB : BdX P) (p_fr : FD o1 (sz K (M 1 a1)) d P) (p_tvd : ∀ v : Int, tv K (GL a1) v = d v) (p_c : 0 ≤ a1 ∧ a1 < M 0 0) (p_m2 : 0 ≤ M 0 2 ∧ M 0 2 ≤ 11) (p_szb : 0 ≤ sz K (M 1 a1) ∧ sz K (M 1 a1) ≤ 2006) (z0 : XM M o0 P) (z1 : XZ K M o0 P) (z2 : XF1b K M F GL a1 o0 P) (Q : Option PV → PH → Prop) (hQ : ∀ (P1 : PH) (_ : BdX P1) (_ : FrX ([], [41, 44]) P P1) (_ : XF1b K M F GL (a1 + 1) o0 P1) (_ : KT (tbX o0) P P1), Q none P1) : Ct WSX G 1 iX9_setPattern [vR o0, vI a1, vR o1] P Q := by
  sorry
/-! What the reference answers: X12_ahead. -/
set_option maxRecDepth 100000 in
set_option maxHeartbeats 4000000 in
theorem f_X12_ahead (G : GT) (P : PH) (T : TT) (p : Int) (hB : BdM P) (p_pp : P 0 5 = p ∧ 0 ≤ p ∧ p ≤ T.2) (z0 : MT T P) (Q : Option PV → PH → Prop) (hQ : ∀ (P1 : PH) (_ : BdM P1) (_ : FrM ([3, 4, 5, 6, 7, 12], []) P P1) (_ : (P1 0 3 = 0 ∨ P1 0 4 + 1 ≤ P1 0 5) ∧ P1 0 4 ≤ P1 0 5) (_ : P 0 5 ≤ P1 0 4) (_ : MS T p P1), Q none P1) : Ct WSM G 2 iX12_ahead [vR 0] P Q := by
  sorry
/-! What the reference answers: X12_alternative. -/
set_option maxRecDepth 100000 in
set_option maxHeartbeats 4000000 in
theorem f_X12_alternative (G : GT) (P : PH) (f : Int) (T : TT) (K : PH) (fb : Int) (s : SK) (k : Int) (p : Int) (hB : BdM P) (p_lx : (P 0 3 = 0 ∨ P 0 4 + 1 ≤ P 0 5) ∧ P 0 4 ≤ P 0 5) (p_po : pot P ≤ 8 * P 0 4) (p_sx : SX f 0 P) (p_fk : P 0 8 ≤ 0) (p_aw : AW K) (v_CF : CF P) (v_FP : FP P) (z0 : MT T P) (z1 : MS T p P) (z2 : MK K P) (z3 : STK fb s k P) (Q : Option PV → PH → Prop) (hQ : ∀ (r : Int) (_ : 0 ≤ r ∧ r ≤ 1) (P1 : PH) (_ : BdM P1) (_ : FrM ([3, 4, 5, 6, 7, 8, 9, 12, 36, 43], [19, 20, 21, 24, 25, 26, 27]) P P1) (_ : (P1 0 3 = 0 ∨ P1 0 4 + 1 ≤ P1 0 5) ∧ P1 0 4 ≤ P1 0 5) (_ : P 0 4 ≤ P1 0 4) (_ : P 0 8 ≤ 0 ∨ 0 < P1 0 8) (_ : LO P P1) (_ : 0 < P1 0 8 ∨ P 0 4 + 1 ≤ P1 0 4) (_ : 0 < P1 0 8 ∨ (r = 1 ∧ SX f 1 P1 ∧ pot P1 + 3 ≤ 8 * P1 0 4) ∨ (r = 0 ∧ SX f 0 P1 ∧ pot P1 ≤ 8 * P1 0 4)) (_ : AL fb T K s k p r P1) (_ : FP P1) (_ : KB (P 0 37) P P1), Q (some (vI r)) P1) : Ct WSM G 5 iX12_alternative [vR 0] P Q := by
  sorry
/-! What the reference answers: X12_armIs. -/
set_option maxRecDepth 100000 in
set_option maxHeartbeats 40000000 in
theorem f_X12_armIs (G : GT) (P : PH) (T : TT) (K : PH) (M : PH) (F : FT) (p : Int) (hB : BdM P) (p_lx : (P 0 3 = 0 ∨ P 0 4 + 1 ≤ P 0 5) ∧ P 0 4 ≤ P 0 5) (p_po : 0 < P 0 8 ∨ 5 * P 0 36 ≤ 8 * P 0 4) (p_fk : P 0 8 ≤ 0) (p_aw : AW K) (p_k0 : tO T p = 3) (v_CF : CF P) (v_ZI : ZI P) (v_ZS : ZS P) (v_FP : FP P) (z0 : MT T P) (z1 : MS T p P) (z2 : MK K P) (z3 : MM M P) (z4 : MTl M P) (z5 : MC K M F P) (Q : Option PV → PH → Prop) (hQ : ∀ (P1 : PH) (_ : BdM P1) (_ : FrM ([3, 4, 5, 6, 7, 8, 9, 12, 36, 43], [13, 14, 17, 18, 19, 20, 21, 24, 25, 26, 27]) P P1) (_ : (P1 0 3 = 0 ∨ P1 0 4 + 1 ≤ P1 0 5) ∧ P1 0 4 ≤ P1 0 5) (_ : P 0 4 ≤ P1 0 4) (_ : P 0 8 ≤ 0 ∨ 0 < P1 0 8) (_ : 0 < P1 0 8 ∨ 5 * P1 0 36 ≤ 8 * P1 0 4) (_ : (P1 0 8 = (sAr T K M p).1 ∧ ((sAr T K M p).1 = 0 ∨ P1 0 9 = (sAr T K M p).2)) ∨ ((sAr T K M p).1 = 0 ∧ tK T (sAr T K M p).2 = 4 ∧ P1 0 8 = 1 ∧ P1 0 9 = tS T (sAr T K M p).2)) (_ : ZI P1) (_ : ZS P1) (_ : FP P1) (_ : CP (P1 0 8) (MS T (sAr T K M p).2) P1) (_ : CP (P1 0 8) (MM (mAr T K M p)) P1) (_ : CP (P1 0 8) (MC K (mAr T K M p) (fAr T K M F p)) P1) (_ : KB (P 0 37) P P1), Q none P1) : Ct WSM G 7 iX12_armIs [vR 0] P Q := by
  sorry
/-! What the reference answers: X12_arranges. -/
set_option maxRecDepth 100000 in
set_option maxHeartbeats 4000000 in
theorem f_X12_arranges (G : GT) (P : PH) (K : PH) (M : PH) (F : FT) (n : Int) (f : IF) (a1 : Int) (h_a1 : 0 ≤ a1 ∧ a1 ≤ 21) (hB : BdM P) (p_st : P 0 74 ≤ 199999999) (p_aw : AW K) (p_av : AV K M) (p_fb : ∀ p : Int, 0 ≤ p → p < n → 0 ≤ f p ∧ f p < M 0 2) (p_n12 : 0 ≤ n ∧ n ≤ 12) (v_MVw : MVw P) (v_RE : RE P) (z0 : MMB M P) (z1 : LYT K M F P) (z2 : ODb a1 n f P) (Q : Option PV → PH → Prop) (hQ : ∀ (P1 : PH) (_ : BdM P1) (_ : FrM ([62, 66, 74], [41, 42, 43]) P P1) (_ : P1 0 74 = P 0 74 + 1) (_ : MV P1) (_ : RE P1) (_ : RLt P1) (_ : ARG K M F n f P1), Q none P1) : Ct WSM G 2 iX12_arranges [vR 0, vI a1] P Q := by
  sorry
/-! What the reference answers: X12_begin. -/
set_option maxRecDepth 100000 in
set_option maxHeartbeats 4000000 in
theorem f_X12_begin (G : GT) (P : PH) (A : PH) (hB : BdM P) (p_im : P 0 44 = 1) (z0 : AM A P) (Q : Option PV → PH → Prop) (hQ : ∀ (P1 : PH) (_ : BdM P1) (_ : FrM ([60, 92], [35, 36, 37, 38, 39]) P P1) (_ : P1 35 0 = P 13 (P 0 13)) (_ : (P 0 44 = 0 ∧ P1 37 0 = 0) ∨ P 0 44 = 1) (_ : P1 38 0 = P 15 (P 0 13)) (_ : P1 39 0 = 0 ∧ P1 0 60 = 0 ∧ P1 0 92 = 0) (_ : AM (aBeg A (P 13 (P 0 13)) (P 15 (P 0 13))) P1), Q none P1) : Ct WSM G 1 iX12_begin [vR 0] P Q := by
  sorry
/-! What the reference answers: X12_best. -/
set_option maxRecDepth 100000 in
set_option maxHeartbeats 4000000 in
theorem f_X12_best (G : GT) (P : PH) (A : PH) (a1 : Int) (h_a1 : (-2147483648) ≤ a1 ∧ a1 ≤ 2147483647) (hB : BdM P) (p_st : P 0 74 ≤ 199999900) (v_okC : okC P) (v_MVw : MVw P) (v_RE : RE P) (z0 : AM A P) (Q : Option PV → PH → Prop) (hQ : ∀ (r : Int) (_ : (-2147483648) ≤ r ∧ r ≤ 2147483647) (P1 : PH) (_ : BdM P1) (_ : FrM ([62, 66, 74, 76, 78], [35, 36, 37, 38, 39, 40, 41, 42, 43, 44, 45, 49, 50, 58]) P P1) (_ : P1 0 74 ≤ P 0 74 + 14) (_ : MVw P1) (_ : RE P1) (_ : AM A P1), Q (some (vI r)) P1) : Ct WSM G 6 iX12_best [vR 0, vI a1] P Q := by
  sorry
/-! What the reference answers: X12_blame. -/
set_option maxRecDepth 100000 in
set_option maxHeartbeats 4000000 in
theorem f_X12_blame (G : GT) (P : PH) (a1 : Int) (a2 : Int) (h_a1 : 0 ≤ a1 ∧ a1 ≤ 6) (h_a2 : (-1) ≤ a2 ∧ a2 ≤ 1600) (hB : BdM P) (p_k1 : 1 ≤ a1) (v_FP : FP P) (Q : Option PV → PH → Prop) (hQ : ∀ (P1 : PH) (_ : BdM P1) (_ : FrM ([8, 9], []) P P1) (_ : 0 < P1 0 8 ∨ a1 ≤ 0) (_ : P 0 8 ≤ 0 ∨ 0 < P1 0 8) (_ : (0 < P 0 8 ∧ P1 0 8 = P 0 8 ∧ P1 0 9 = P 0 9) ∨ (P 0 8 ≤ 0 ∧ P1 0 8 = a1 ∧ P1 0 9 = a2)) (_ : FP P1), Q none P1) : Ct WSM G 1 iX12_blame [vR 0, vI a1, vI a2] P Q := by
  sorry
/-! What the reference answers: X12_budgetIs. -/
set_option maxRecDepth 100000 in
set_option maxHeartbeats 4000000 in
theorem f_X12_budgetIs (G : GT) (P : PH) (T : TT) (K : PH) (M : PH) (p : Int) (hB : BdM P) (p_lx : (P 0 3 = 0 ∨ P 0 4 + 1 ≤ P 0 5) ∧ P 0 4 ≤ P 0 5) (p_fk : P 0 8 ≤ 0) (p_k0 : tO T p = 6) (v_FP : FP P) (z0 : MT T P) (z1 : MS T p P) (z2 : MM M P) (Q : Option PV → PH → Prop) (hQ : ∀ (P1 : PH) (_ : BdM P1) (_ : FrM ([3, 4, 5, 6, 7, 8, 9, 12], [16]) P P1) (_ : (P1 0 3 = 0 ∨ P1 0 4 + 1 ≤ P1 0 5) ∧ P1 0 4 ≤ P1 0 5) (_ : P 0 4 ≤ P1 0 4) (_ : P 0 8 ≤ 0 ∨ 0 < P1 0 8) (_ : 0 < P1 0 8 ∨ (1 ≤ P1 16 (P 0 37) ∧ P1 16 (P 0 37) ≤ 999)) (_ : ∀ j : Int, j ≠ P 0 37 → P1 16 j = P 16 j) (_ : P1 0 8 = (num T 1 999 (tE T p)).1 ∧ ((num T 1 999 (tE T p)).1 = 0 ∨ P1 0 9 = (num T 1 999 (tE T p)).2)) (_ : FP P1) (_ : CP (num T 1 999 (tE T p)).1 (MS T (num T 1 999 (tE T p)).2) P1) (_ : CP (num T 1 999 (tE T p)).1 (MM (up M 0 4 (tV T (tE T p)))) P1) (_ : KB (P 0 37) P P1), Q none P1) : Ct WSM G 4 iX12_budgetIs [vR 0] P Q := by
  sorry
/-! What the reference answers: X12_chance. -/
set_option maxRecDepth 100000 in
set_option maxHeartbeats 4000000 in
theorem f_X12_chance (G : GT) (P : PH) (A : PH) (k : Int) (M : PH) (K : PH) (F : FT) (a1 : Int) (h_a1 : (-2147483648) ≤ a1 ∧ a1 ≤ 2147483647) (hB : BdM P) (p_st : P 0 74 ≤ 199999900) (p_wa : WA k A) (p_aw : AW K) (p_av : AV K M) (p_az : AZ K M) (p_ga : GA M A) (p_gw : GW M) (v_okC : okC P) (v_okR : okR P) (v_MVw : MVw P) (v_RE : RE P) (z0 : AM A P) (z1 : MH M P) (z2 : MR M P) (z3 : MKB K P) (z4 : MMB M P) (z5 : LYT K M F P) (Q : Option PV → PH → Prop) (hQ : ∀ (r : Int) (_ : (-2147483648) ≤ r ∧ r ≤ 2147483647) (P1 : PH) (_ : BdM P1) (_ : FrM ([59, 60, 61, 62, 66, 74, 76, 78], [28, 35, 36, 37, 38, 39, 40, 41, 42, 43, 44, 49, 50]) P P1) (_ : P1 0 74 ≤ P 0 74 + 40) (_ : r = chR K M F A a1) (_ : MVw P1) (_ : RE P1) (_ : AM (aCha A M a1) P1), Q (some (vI r)) P1) : Ct WSM G 6 iX12_chance [vR 0, vI a1] P Q := by
  sorry
/-! What the reference answers: X12_choose. -/
set_option maxRecDepth 100000 in
set_option maxHeartbeats 4000000 in
theorem f_X12_choose (G : GT) (P : PH) (A : PH) (k : Int) (M : PH) (a1 : Int) (h_a1 : (-2147483648) ≤ a1 ∧ a1 ≤ 2147483647) (hB : BdM P) (p_wa : WA k A) (z0 : AM A P) (z1 : MH M P) (Q : Option PV → PH → Prop) (hQ : ∀ (r : Int) (_ : 0 ≤ r ∧ r ≤ 1) (P1 : PH) (_ : BdM P1) (_ : FrM ([59, 60], [28, 35, 36, 37, 38, 39, 40]) P P1) (_ : (r = 0 ∧ (M 0 0 ≤ 0 ∨ a1 < 0 ∨ 3 < a1 ∨ A 0 2 = a1)) ∨ (r = 1 ∧ 0 < M 0 0 ∧ 0 ≤ a1 ∧ a1 ≤ 3 ∧ A 0 2 ≠ a1)) (_ : AM (aRule A M a1) P1), Q (some (vI r)) P1) : Ct WSM G 3 iX12_choose [vR 0, vI a1] P Q := by
  sorry
/-! What the reference answers: X12_comesOn. -/
set_option maxRecDepth 100000 in
set_option maxHeartbeats 4000000 in
theorem f_X12_comesOn (G : GT) (P : PH) (T : TT) (A : PH) (M : PH) (a1 : Int) (h_a1 : 0 ≤ a1 ∧ a1 ≤ 1600) (hB : BdM P) (p_n : a1 = T.2) (p_tx : ∀ i : Int, 0 ≤ i → i < T.2 → P 1 i = T.1 i) (z0 : AM A P) (z1 : MH M P) (z2 : MMB M P) (Q : Option PV → PH → Prop) (hQ : ∀ (r : Int) (_ : 0 ≤ r ∧ r ≤ 1) (P1 : PH) (_ : BdM P1) (_ : FrM ([], [35, 36, 37, 38, 39, 40]) P P1) (_ : (r = 1 ∧ onOk T M ∧ P1 35 1 = T.1 0 ∧ P1 37 1 = T.1 (T.2 - 3) ∧ P1 38 1 = T.1 (T.2 - 2) ∧ P1 39 1 = 0 ∧ ∀ q : Int, 0 ≤ q → q < T.1 0 → P1 36 (12 + q) = T.1 (1 + q)) ∨ (r = 0 ∧ ¬ onOk T M)) (_ : AM A P1), Q (some (vI r)) P1) : Ct WSM G 2 iX12_comesOn [vR 0, vI a1] P Q := by
  sorry
/-! What the reference answers: X12_conIs. -/
set_option maxRecDepth 100000 in
set_option maxHeartbeats 4000000 in
theorem f_X12_conIs (G : GT) (P : PH) (T : TT) (K : PH) (M : PH) (p : Int) (hB : BdM P) (p_lx : (P 0 3 = 0 ∨ P 0 4 + 1 ≤ P 0 5) ∧ P 0 4 ≤ P 0 5) (p_fk : P 0 8 ≤ 0) (p_aw : AW K) (p_k0 : tO T p = 1) (v_KVP : KVP P) (v_KC : KC P) (v_CF : CF P) (v_ZT : ZT P) (v_ZO : ZO P) (v_ZC : ZC P) (v_ZI : ZI P) (v_ZS : ZS P) (v_FP : FP P) (z0 : MT T P) (z1 : MS T p P) (z2 : MK K P) (z3 : MM M P) (z4 : MTl M P) (Q : Option PV → PH → Prop) (hQ : ∀ (P1 : PH) (_ : BdM P1) (_ : FrM ([3, 4, 5, 6, 7, 8, 9, 12], [3, 4, 5, 6, 7, 8, 9, 10, 23]) P P1) (_ : (P1 0 3 = 0 ∨ P1 0 4 + 1 ≤ P1 0 5) ∧ P1 0 4 ≤ P1 0 5) (_ : P 0 4 ≤ P1 0 4) (_ : P 0 8 ≤ 0 ∨ 0 < P1 0 8) (_ : 0 < P1 0 8 ∨ P 0 38 = 0) (_ : (P1 0 8 = (sCo T K M p).1 ∧ ((sCo T K M p).1 = 0 ∨ P1 0 9 = (sCo T K M p).2)) ∨ ((sCo T K M p).1 = 0 ∧ tK T (sCo T K M p).2 = 4 ∧ P1 0 8 = 1 ∧ P1 0 9 = tS T (sCo T K M p).2)) (_ : KVP P1) (_ : KC P1) (_ : CF P1) (_ : ZT P1) (_ : ZO P1) (_ : ZC P1) (_ : ZS P1) (_ : FP P1) (_ : CP (P1 0 8) (MS T (sCo T K M p).2) P1) (_ : CP (P1 0 8) (MK (kCo T K p)) P1) (_ : KB (P 0 37) P P1), Q none P1) : Ct WSM G 4 iX12_conIs [vR 0] P Q := by
  sorry
/-! What the reference answers: X12_conNamed. -/
set_option maxRecDepth 100000 in
set_option maxHeartbeats 4000000 in
theorem f_X12_conNamed (G : GT) (P : PH) (a1 : Int) (a2 : Int) (h_a1 : 0 ≤ a1 ∧ a1 ≤ 1) (h_a2 : (-9223372036854775808) ≤ a2 ∧ a2 ≤ 9223372036854775807) (hB : BdM P) (Q : Option PV → PH → Prop) (hQ : ∀ (r : Int) (_ : (-1) ≤ r ∧ r ≤ 23) (_ : r < P 5 a1 ∨ r = -1) (_ : r = fxi (fun i => P 23 (24 * a1 + i)) a2 (P 5 (a1)).toNat), Q (some (vI r)) P) : Ct WSM G 1 iX12_conNamed [vR 0, vI a1, vL a2] P Q := by
  sorry
/-! What the reference answers: X12_conRead. -/
set_option maxRecDepth 100000 in
set_option maxHeartbeats 4000000 in
theorem f_X12_conRead (G : GT) (P : PH) (T : TT) (K : PH) (p : Int) (a1 : Int) (h_a1 : 0 ≤ a1 ∧ a1 ≤ 4) (hB : BdM P) (p_lx : (P 0 3 = 0 ∨ P 0 4 + 1 ≤ P 0 5) ∧ P 0 4 ≤ P 0 5) (p_fk : P 0 8 ≤ 0) (p_aw : AW K) (p_k4 : tK T p ≠ 4) (p_kk : 0 ≤ a1 ∧ a1 ≤ 3) (v_FP : FP P) (z0 : MT T P) (z1 : MS T p P) (z2 : MKB K P) (Q : Option PV → PH → Prop) (hQ : ∀ (r : Int) (_ : 0 ≤ r ∧ r ≤ 23) (P1 : PH) (_ : BdM P1) (_ : FrM ([3, 4, 5, 6, 7, 8, 9, 12], []) P P1) (_ : (P1 0 3 = 0 ∨ P1 0 4 + 1 ≤ P1 0 5) ∧ P1 0 4 ≤ P1 0 5) (_ : P 0 4 ≤ P1 0 4) (_ : P 0 8 ≤ 0 ∨ 0 < P1 0 8) (_ : 0 < P1 0 8 ∨ (r < P 5 (P 0 13) ∧ P 6 (24 * P 0 13 + r) = a1 ∧ P 0 4 + 1 ≤ P1 0 4)) (_ : (P1 0 8 = (cas T K a1 p).1 ∧ ((cas T K a1 p).1 = 0 ∨ P1 0 9 = (cas T K a1 p).2)) ∧ ((cas T K a1 p).1 ≠ 0 ∨ r = cNm K (tV T p))) (_ : FP P1) (_ : CP (cas T K a1 p).1 (MS T (tE T p)) P1), Q (some (vI r)) P1) : Ct WSM G 3 iX12_conRead [vR 0, vI a1] P Q := by
  sorry
/-! What the reference answers: X12_copies. -/
set_option maxRecDepth 100000 in
set_option maxHeartbeats 4000000 in
theorem f_X12_copies (G : GT) (P : PH) (a1 : Int) (a2 : Int) (h_a1 : 0 ≤ a1 ∧ a1 ≤ 21) (h_a2 : 0 ≤ a2 ∧ a2 ≤ 21) (hB : BdM P) (p_ne : a1 ≠ a2) (Q : Option PV → PH → Prop) (hQ : ∀ (P1 : PH) (_ : BdM P1) (_ : FrM ([], [35, 36, 37, 38, 39, 40]) P P1) (_ : a1 = 0 ∨ P1 35 0 = P 35 0) (_ : CY a1 a2 P P1), Q none P1) : Ct WSM G 1 iX12_copies [vR 0, vI a1, vI a2] P Q := by
  sorry
/-! What the reference answers: X12_draw. -/
set_option maxRecDepth 100000 in
set_option maxHeartbeats 4000000 in
theorem f_X12_draw (G : GT) (P : PH) (A : PH) (a1 : Int) (h_a1 : 1 ≤ a1 ∧ a1 ≤ 2147483647) (hB : BdM P) (z0 : AM A P) (Q : Option PV → PH → Prop) (hQ : ∀ (r : Int) (_ : 0 ≤ r ∧ r ≤ 2147483646) (P1 : PH) (_ : BdM P1) (_ : FrM ([61], []) P P1) (_ : r < a1) (_ : r = drw (A 0 5) / 64 % a1) (_ : AM (up A 0 5 (drw (A 0 5))) P1), Q (some (vI r)) P1) : Ct WSM G 1 iX12_draw [vR 0, vI a1] P Q := by
  sorry
/-! What the reference answers: X12_drop. -/
set_option maxRecDepth 100000 in
set_option maxHeartbeats 4000000 in
theorem f_X12_drop (G : GT) (P : PH) (A : PH) (k : Int) (a1 : Int) (h_a1 : (-2147483648) ≤ a1 ∧ a1 ≤ 2147483647) (hB : BdM P) (p_im : P 0 44 = 1 ∨ A 0 0 ≤ 0) (p_wa : WA k A) (z0 : AM A P) (Q : Option PV → PH → Prop) (hQ : ∀ (r : Int) (_ : 0 ≤ r ∧ r ≤ 1) (P1 : PH) (_ : BdM P1) (_ : FrM ([59, 60], [28, 35, 36, 37, 38, 39, 40]) P P1) (_ : (r = 1 ∧ 0 ≤ a1 ∧ a1 < A 0 0) ∨ (r = 0 ∧ (a1 < 0 ∨ A 0 0 ≤ a1))) (_ : AM (aDrop A a1) P1), Q (some (vI r)) P1) : Ct WSM G 3 iX12_drop [vR 0, vI a1] P Q := by
  sorry
/-! What the reference answers: X12_emits. -/
set_option maxRecDepth 100000 in
set_option maxHeartbeats 4000000 in
theorem f_X12_emits (G : GT) (P : PH) (a1 : Int) (a2 : Int) (a3 : Int) (h_a1 : 0 ≤ a1 ∧ a1 ≤ 6) (h_a2 : 0 ≤ a2 ∧ a2 ≤ 23) (h_a3 : 0 ≤ a3 ∧ a3 ≤ 19) (hB : BdM P) (p_o : P 0 36 ≤ 2799) (Q : Option PV → PH → Prop) (hQ : ∀ (P1 : PH) (_ : BdM P1) (_ : FrM ([36], [19, 20, 21]) P P1) (_ : P1 0 36 = P 0 36 + 1) (_ : EM a1 a2 a3 P P1) (_ : KB (P 0 37) P P1), Q none P1) : Ct WSM G 1 iX12_emits [vR 0, vI a1, vI a2, vI a3] P Q := by
  sorry
/-! What the reference answers: X12_end. -/
set_option maxRecDepth 100000 in
set_option maxHeartbeats 4000000 in
theorem f_X12_end (G : GT) (P : PH) (T : TT) (a1 : Int) (h_a1 : (-2147483648) ≤ a1 ∧ a1 ≤ 2147483647) (hB : BdM P) (z0 : CM T P) (Q : Option PV → PH → Prop) (hQ : ∀ (r : Int) (_ : 0 ≤ r ∧ r ≤ 1) (P1 : PH) (_ : BdM P1) (_ : FrM ([1], [28]) P P1) (_ : (0 ≤ a1 ∧ a1 ≤ P 0 1 ∧ r = 1 ∧ P1 0 1 = a1) ∨ ((a1 < 0 ∨ P 0 1 < a1) ∧ r = 0 ∧ P1 0 1 = P 0 1)) (_ : CM (fe T a1) P1), Q (some (vI r)) P1) : Ct WSM G 2 iX12_end [vR 0, vI a1] P Q := by
  sorry
/-! What the reference answers: X12_exchanges. -/
set_option maxRecDepth 100000 in
set_option maxHeartbeats 4000000 in
theorem f_X12_exchanges (G : GT) (P : PH) (a1 : Int) (a2 : Int) (a3 : Int) (h_a1 : 0 ≤ a1 ∧ a1 ≤ 21) (h_a2 : 0 ≤ a2 ∧ a2 ≤ 11) (h_a3 : 0 ≤ a3 ∧ a3 ≤ 11) (hB : BdM P) (Q : Option PV → PH → Prop) (hQ : ∀ (P1 : PH) (_ : BdM P1) (_ : FrM ([], [36]) P P1) (_ : P1 36 ((12 * a1) + a2) = P 36 ((12 * a1) + a3)) (_ : P1 36 ((12 * a1) + a3) = P 36 ((12 * a1) + a2)) (_ : ∀ j : Int, j ≠ (12 * a1) + a2 → j ≠ (12 * a1) + a3 → P1 36 j = P 36 j), Q none P1) : Ct WSM G 1 iX12_exchanges [vR 0, vI a1, vI a2, vI a3] P Q := by
  sorry
/-! What the reference answers: X12_fault. -/
set_option maxRecDepth 100000 in
set_option maxHeartbeats 4000000 in
theorem f_X12_fault (G : GT) (P : PH) (a1 : Int) (h_a1 : (-2147483648) ≤ a1 ∧ a1 ≤ 2147483647) (hB : BdM P) (Q : Option PV → PH → Prop) (hQ : ∀ (r : Int) (_ : (-1) ≤ r ∧ r ≤ 1600) (_ : (a1 = 0 ∧ r = P 0 10) ∨ (a1 = 1 ∧ r = P 0 11) ∨ (a1 ≠ 0 ∧ a1 ≠ 1 ∧ r = -1)), Q (some (vI r)) P) : Ct WSM G 1 iX12_fault [vR 0, vI a1] P Q := by
  sorry
/-! What the reference answers: X12_feed. -/
set_option maxRecDepth 100000 in
set_option maxHeartbeats 4000000 in
theorem f_X12_feed (G : GT) (P : PH) (T : TT) (a1 : Int) (a2 : Int) (a3 : Int) (a4 : Int) (a5 : Int) (h_a1 : (-2147483648) ≤ a1 ∧ a1 ≤ 2147483647) (h_a2 : (-2147483648) ≤ a2 ∧ a2 ≤ 2147483647) (h_a3 : (-2147483648) ≤ a3 ∧ a3 ≤ 2147483647) (h_a4 : (-2147483648) ≤ a4 ∧ a4 ≤ 2147483647) (h_a5 : (-2147483648) ≤ a5 ∧ a5 ≤ 2147483647) (hB : BdM P) (z0 : CM T P) (Q : Option PV → PH → Prop) (hQ : ∀ (r : Int) (_ : (-2147483648) ≤ r ∧ r ≤ 2147483647) (P1 : PH) (_ : BdM P1) (_ : FrM ([1], [1, 28]) P P1) (_ : (P 0 1 ≤ 1580 ∧ r = P 0 1 + 20 ∧ P1 0 1 = P 0 1 + 20) ∨ (1580 < P 0 1 ∧ r = -1 ∧ P1 0 1 = P 0 1)) (_ : CM (ff T a1 a2 a3 a4 a5) P1), Q (some (vI r)) P1) : Ct WSM G 2 iX12_feed [vR 0, vI a1, vI a2, vI a3, vI a4, vI a5] P Q := by
  sorry
/-! What the reference answers: X12_fieldBegins. -/
set_option maxRecDepth 100000 in
set_option maxHeartbeats 4000000 in
theorem f_X12_fieldBegins (G : GT) (P : PH) (f : Int) (fb : Int) (s : SK) (k : Int) (k1 : Int) (a1 : Int) (a2 : Int) (h_a1 : 0 ≤ a1 ∧ a1 ≤ 23) (h_a2 : 0 ≤ a2 ∧ a2 ≤ 1) (hB : BdM P) (p_sx : SX f 1 P) (p_cn : a1 < P 5 (P 0 37)) (p_fl : a2 < P 7 (24 * P 0 37 + a1)) (p_k : P 6 (24 * P 0 37 + a1) + P 0 43 ≤ 4) (p_co : P 0 36 ≤ 2799) (p_fk4 : K4 (P 8 (2 * (24 * P 0 37 + a1) + a2)) k1) (v_CF : CF P) (z0 : STK fb s k P) (Q : Option PV → PH → Prop) (hQ : ∀ (P1 : PH) (_ : BdM P1) (_ : FrM ([36, 43], [19, 20, 21, 24, 25, 26, 27]) P P1) (_ : LO P P1) (_ : SX f 0 P1) (_ : (a2 = 0 ∧ pot P1 = pot P + 11) ∨ (a2 ≠ 0 ∧ pot P1 = pot P + 7)) (_ : STK fb (fbS s a1 a2 k) k1 P1) (_ : KB (P 0 37) P P1), Q none P1) : Ct WSM G 2 iX12_fieldBegins [vR 0, vI a1, vI a2] P Q := by
  sorry
/-! What the reference answers: X12_fieldOf. -/
set_option maxRecDepth 100000 in
set_option maxHeartbeats 4000000 in
theorem f_X12_fieldOf (G : GT) (P : PH) (K : PH) (a1 : Int) (a2 : Int) (a3 : Int) (h_a1 : (-2147483648) ≤ a1 ∧ a1 ≤ 2147483647) (h_a2 : 0 ≤ a2 ∧ a2 ≤ 23) (h_a3 : 0 ≤ a3 ∧ a3 ≤ 19) (hB : BdM P) (p_zv : ZV P (P 0 13) (24 * P 0 13 + a2)) (p_fl : a3 < P 7 (24 * P 0 13 + a2)) (p_aw : AW K) (p_cb : a2 < K 0 1) (z0 : MKB K P) (Q : Option PV → PH → Prop) (hQ : ∀ (r : Int) (_ : (-2147483648) ≤ r ∧ r ≤ 2147483647) (_ : (a1 < P 9 (24 * P 0 13 + a2) ∨ P 9 (24 * P 0 13 + a2) + P 10 (24 * P 0 13 + a2) ≤ a1) ∨ (0 ≤ r ∧ (a3 = 0 → r < vals P (P 0 13) (P 8 (2 * (24 * P 0 13 + a2)))) ∧ (a3 = 1 → r < vals P (P 0 13) (P 8 (2 * (24 * P 0 13 + a2) + 1))))) (_ : r = fdV K a1 a2 a3), Q (some (vI r)) P) : Ct WSM G 2 iX12_fieldOf [vR 0, vI a1, vI a2, vI a3] P Q := by
  sorry
/-! What the reference answers: X12_finishes. -/
set_option maxRecDepth 100000 in
set_option maxHeartbeats 4000000 in
theorem f_X12_finishes (G : GT) (P : PH) (T : TT) (p : Int) (a1 : Int) (h_a1 : 0 ≤ a1 ∧ a1 ≤ 2147483647) (hB : BdM P) (p_lx : (P 0 3 = 0 ∨ P 0 4 + 1 ≤ P 0 5) ∧ P 0 4 ≤ P 0 5) (v_FP : FP P) (z0 : MT T P) (z1 : CP (P 0 8) (MS T p) P) (Q : Option PV → PH → Prop) (hQ : ∀ (P1 : PH) (_ : BdM P1) (_ : FrM ([3, 4, 5, 6, 7, 8, 9, 12], []) P P1) (_ : (P1 0 3 = 0 ∨ P1 0 4 + 1 ≤ P1 0 5) ∧ P1 0 4 ≤ P1 0 5) (_ : P 0 4 ≤ P1 0 4) (_ : P 0 8 ≤ 0 ∨ 0 < P1 0 8) (_ : 0 < P1 0 8 ∨ P 0 4 + 1 ≤ P1 0 4) (_ : (0 < P 0 8 ∧ P1 0 8 = P 0 8 ∧ P1 0 9 = P 0 9) ∨ (P 0 8 ≤ 0 ∧ (sgn T 59 p).1 = 0 ∧ a1 = 60 ∧ tA T (tE T p) < T.2 ∧ P1 0 8 = 6 ∧ P1 0 9 = tA T (tE T p)) ∨ (P 0 8 ≤ 0 ∧ ((sgn T 59 p).1 ≠ 0 ∨ a1 ≠ 60 ∨ T.2 ≤ tA T (tE T p)) ∧ P1 0 8 = (sgn T 59 p).1 ∧ ((sgn T 59 p).1 = 0 ∨ P1 0 9 = (sgn T 59 p).2))) (_ : FP P1) (_ : CP (P1 0 8) (MS T (sgn T 59 p).2) P1), Q none P1) : Ct WSM G 4 iX12_finishes [vR 0, vI a1] P Q := by
  sorry
/-! What the reference answers: X12_fits. -/
set_option maxRecDepth 100000 in
set_option maxHeartbeats 4000000 in
theorem f_X12_fits (G : GT) (P : PH) (K : PH) (M : PH) (F : FT) (A : PH) (a1 : Int) (a2 : Int) (a3 : Int) (h_a1 : (-2147483648) ≤ a1 ∧ a1 ≤ 2147483647) (h_a2 : (-2147483648) ≤ a2 ∧ a2 ≤ 2147483647) (h_a3 : (-2147483648) ≤ a3 ∧ a3 ≤ 2147483647) (hB : BdM P) (p_st : P 0 74 ≤ 199999999) (p_im : P 0 44 = 1 ∨ A 0 0 ≤ 0) (p_aw : AW K) (p_av : AV K M) (p_ga : GA M A) (v_okC : okC P) (v_MVw : MVw P) (v_RE : RE P) (z0 : AM A P) (z1 : MH M P) (z2 : MKB K P) (z3 : MMB M P) (z4 : LYT K M F P) (Q : Option PV → PH → Prop) (hQ : ∀ (r : Int) (_ : (-2147483648) ≤ r ∧ r ≤ 2147483647) (P1 : PH) (_ : BdM P1) (_ : FrM ([62, 66, 74], [41, 42, 43]) P P1) (_ : P1 0 74 ≤ P 0 74 + 1) (_ : r = ftR K M F A a1 a2 a3) (_ : MVw P1) (_ : RE P1), Q (some (vI r)) P1) : Ct WSM G 3 iX12_fits [vR 0, vI a1, vI a2, vI a3] P Q := by
  sorry
/-! What the reference answers: X12_fitting. -/
set_option maxRecDepth 100000 in
set_option maxHeartbeats 4000000 in
theorem f_X12_fitting (G : GT) (P : PH) (K : PH) (M : PH) (F : FT) (n : Int) (f : IF) (a1 : Int) (h_a1 : 0 ≤ a1 ∧ a1 ≤ 2147483647) (hB : BdM P) (p_aw : AW K) (p_av : AV K M) (p_az : AZ K M) (p_n12 : 0 ≤ n ∧ n ≤ 12) (v_okC : okC P) (z0 : MKB K P) (z1 : MMB M P) (z2 : ARG K M F n f P) (Q : Option PV → PH → Prop) (hQ : ∀ (r : Int) (_ : 0 ≤ r ∧ r ≤ 4095) (P1 : PH) (_ : BdM P1) (_ : FrM ([], [44]) P P1) (_ : FTs K M F f n a1 (M 0 0).toNat r), Q (some (vI r)) P1) : Ct WSM G 4 iX12_fitting [vR 0, vI a1] P Q := by
  sorry
/-! What the reference answers: X12_fresh. -/
set_option maxRecDepth 100000 in
set_option maxHeartbeats 4000000 in
theorem f_X12_fresh (G : GT) (P : PH) (T : TT) (K : PH) (p : Int) (hB : BdM P) (p_lx : (P 0 3 = 0 ∨ P 0 4 + 1 ≤ P 0 5) ∧ P 0 4 ≤ P 0 5) (p_fk : P 0 8 ≤ 0) (p_aw : AW K) (v_FP : FP P) (z0 : MT T P) (z1 : MS T p P) (z2 : MK K P) (Q : Option PV → PH → Prop) (hQ : ∀ (r : Int) (_ : (-9223372036854775808) ≤ r ∧ r ≤ 9223372036854775807) (P1 : PH) (_ : BdM P1) (_ : FrM ([3, 4, 5, 6, 7, 8, 9, 12], []) P P1) (_ : (P1 0 3 = 0 ∨ P1 0 4 + 1 ≤ P1 0 5) ∧ P1 0 4 ≤ P1 0 5) (_ : P 0 4 ≤ P1 0 4) (_ : P 0 8 ≤ 0 ∨ 0 < P1 0 8) (_ : P1 0 8 = (fre T K p).1 ∧ ((fre T K p).1 = 0 ∨ P1 0 9 = (fre T K p).2)) (_ : (fre T K p).1 ≠ 0 ∨ (r = tW T p ∧ tK T p = 1)) (_ : FP P1) (_ : CP (fre T K p).1 (MS T (fre T K p).2) P1), Q (some (vL r)) P1) : Ct WSM G 3 iX12_fresh [vR 0] P Q := by
  sorry
/-! What the reference answers: X12_has. -/
set_option maxRecDepth 100000 in
set_option maxHeartbeats 4000000 in
theorem f_X12_has (G : GT) (P : PH) (K : PH) (M : PH) (A : PH) (a1 : Int) (h_a1 : (-2147483648) ≤ a1 ∧ a1 ≤ 2147483647) (hB : BdM P) (p_m0 : M 0 0 = 0 → M 0 1 = 0) (z0 : MKB K P) (z1 : MMB M P) (z2 : MH M P) (z3 : MR M P) (z4 : AM A P) (Q : Option PV → PH → Prop) (hQ : ∀ (r : Int) (_ : (-2147483648) ≤ r ∧ r ≤ 2147483647) (_ : r = hasV K M A a1), Q (some (vI r)) P) : Ct WSM G 2 iX12_has [vR 0, vI a1] P Q := by
  sorry
/-! What the reference answers: X12_image. -/
set_option maxRecDepth 100000 in
set_option maxHeartbeats 4000000 in
theorem f_X12_image (G : GT) (P : PH) (A : PH) (hB : BdM P) (z0 : AM A P) (Q : Option PV → PH → Prop) (hQ : ∀ (r : Int) (_ : (-2147483648) ≤ r ∧ r ≤ 2147483647) (P1 : PH) (_ : BdM P1) (_ : FrM ([70], [46]) P P1) (_ : r = A 0 0 + 4), Q (some (vI r)) P1) : Ct WSM G 2 iX12_image [vR 0] P Q := by
  sorry
/-! What the reference answers: X12_isCounted. -/
set_option maxRecDepth 100000 in
set_option maxHeartbeats 4000000 in
theorem f_X12_isCounted (G : GT) (P : PH) (T : TT) (p : Int) (a1 : Int) (h_a1 : 0 ≤ a1 ∧ a1 ≤ 1) (hB : BdM P) (p_lx : (P 0 3 = 0 ∨ P 0 4 + 1 ≤ P 0 5) ∧ P 0 4 ≤ P 0 5) (p_k1 : 1 ≤ tK T p ∧ tK T p ≤ 3) (v_FP : FP P) (z0 : MT T P) (z1 : MS T p P) (Q : Option PV → PH → Prop) (hQ : ∀ (r : Int) (_ : 0 ≤ r ∧ r ≤ 1) (P1 : PH) (_ : BdM P1) (_ : FrM ([3, 4, 5, 6, 7, 8, 9, 12], []) P P1) (_ : (P1 0 3 = 0 ∨ P1 0 4 + 1 ≤ P1 0 5) ∧ P1 0 4 ≤ P1 0 5) (_ : P 0 4 ≤ P1 0 4) (_ : P 0 8 ≤ 0 ∨ 0 < P1 0 8) (_ : (r = 1 ∧ P1 0 8 ≤ 0 ∧ a1 = 0) ∨ (r = 0 ∧ 0 < P1 0 8)) (_ : r = 0 ∨ P 0 3 = 0 ∨ P 0 4 + 1 ≤ P1 0 4) (_ : (0 < P 0 8 ∧ P1 0 8 = P 0 8 ∧ P1 0 9 = P 0 9 ∧ r = 0) ∨ (P 0 8 ≤ 0 ∧ a1 = 1 ∧ P1 0 8 = 6 ∧ P1 0 9 = tA T p ∧ r = 0) ∨ (P 0 8 ≤ 0 ∧ a1 = 0 ∧ P1 0 8 = 0 ∧ r = 1)) (_ : FP P1) (_ : CP (P1 0 8) (MS T (tE T p)) P1), Q (some (vI r)) P1) : Ct WSM G 3 iX12_isCounted [vR 0, vI a1] P Q := by
  sorry
/-! What the reference answers: X12_isFitting. -/
set_option maxRecDepth 100000 in
set_option maxHeartbeats 4000000 in
theorem f_X12_isFitting (G : GT) (P : PH) (K : PH) (M : PH) (F : FT) (a1 : Int) (a2 : Int) (a3 : Int) (h_a1 : 0 ≤ a1 ∧ a1 ≤ 11) (h_a2 : 0 ≤ a2 ∧ a2 ≤ 3) (h_a3 : (-2147483648) ≤ a3 ∧ a3 ≤ 2147483647) (hB : BdM P) (p_a : a1 < P 13 (P 0 13)) (p_c : a2 < P 11 (P 0 13)) (p_aw : AW K) (v_ZT : ZT P) (v_ZS : ZS P) (z0 : MKB K P) (z1 : MMB M P) (z2 : MCB K M F P) (Q : Option PV → PH → Prop) (hQ : ∀ (r : Int) (_ : 0 ≤ r ∧ r ≤ 1) (P1 : PH) (_ : BdM P1) (_ : FrM ([], [29, 30]) P P1) (_ : (r = 1 ∧ tv K (F a1 a2) a3 = 1) ∨ (r = 0 ∧ tv K (F a1 a2) a3 ≠ 1)), Q (some (vI r)) P1) : Ct WSM G 3 iX12_isFitting [vR 0, vI a1, vI a2, vI a3] P Q := by
  sorry
/-! What the reference answers: X12_isKindHere. -/
set_option maxRecDepth 100000 in
set_option maxHeartbeats 4000000 in
theorem f_X12_isKindHere (G : GT) (P : PH) (T : TT) (p : Int) (hB : BdM P) (z0 : MS T p P) (Q : Option PV → PH → Prop) (hQ : ∀ (r : Int) (_ : 0 ≤ r ∧ r ≤ 1) (_ : r = 0 ∨ P 0 3 = 1) (_ : (r = 1 ∧ tK T p = 1 ∧ (tO T p = -1 ∨ tO T p = 7)) ∨ (r = 0 ∧ (tK T p ≠ 1 ∨ (tO T p ≠ -1 ∧ tO T p ≠ 7)))), Q (some (vI r)) P) : Ct WSM G 2 iX12_isKindHere [vR 0] P Q := by
  sorry
/-! What the reference answers: X12_isMoreOf. -/
set_option maxRecDepth 100000 in
set_option maxHeartbeats 4000000 in
theorem f_X12_isMoreOf (G : GT) (P : PH) (T : TT) (K : PH) (s : SV) (k0 : Int) (k : Int) (p : Int) (a1 : Int) (h_a1 : (-2147483648) ≤ a1 ∧ a1 ≤ 2147483647) (hB : BdM P) (p_lx : (P 0 3 = 0 ∨ P 0 4 + 1 ≤ P 0 5) ∧ P 0 4 ≤ P 0 5) (p_sr : SR P) (p_aw : AW K) (p_ab : AB K) (p_k3 : k0 ≤ 3) (p_go : 0 < P 0 8 ∨ (MS T p P ∧ STW s P ∧ TSV K k0 s k ∧ 0 ≤ a1 ∧ a1 < sz K k)) (v_CF : CF P) (v_FP : FP P) (z0 : MT T P) (z1 : MKB K P) (Q : Option PV → PH → Prop) (hQ : ∀ (r : Int) (_ : 0 ≤ r ∧ r ≤ 1) (P1 : PH) (_ : BdM P1) (_ : FrM ([3, 4, 5, 6, 7, 8, 9, 12, 43], [24, 25, 27]) P P1) (_ : (P1 0 3 = 0 ∨ P1 0 4 + 1 ≤ P1 0 5) ∧ P1 0 4 ≤ P1 0 5) (_ : P 0 4 ≤ P1 0 4) (_ : P 0 8 ≤ 0 ∨ 0 < P1 0 8) (_ : (r = 1 ∧ SR P1) ∨ r = 0) (_ : (0 < P 0 8 ∧ P1 0 8 = P 0 8 ∧ P1 0 9 = P 0 9) ∨ (P 0 8 ≤ 0 ∧ VN T K k0 s p a1 r P1)) (_ : FP P1), Q (some (vI r)) P1) : Ct WSM G 4 iX12_isMoreOf [vR 0, vI a1] P Q := by
  sorry
/-! What the reference answers: X12_isOwn. -/
set_option maxRecDepth 100000 in
set_option maxHeartbeats 4000000 in
theorem f_X12_isOwn (G : GT) (P : PH) (a1 : Int) (h_a1 : (-9223372036854775808) ≤ a1 ∧ a1 ≤ 9223372036854775807) (hB : BdM P) (Q : Option PV → PH → Prop) (hQ : ∀ (r : Int) (_ : 0 ≤ r ∧ r ≤ 1) (_ : (r = 1 ∧ oWS a1) ∨ (r = 0 ∧ ¬ oWS a1)), Q (some (vI r)) P) : Ct WSM G 1 iX12_isOwn [vR 0, vL a1] P Q := by
  sorry
/-! What the reference answers: X12_isPlace. -/
set_option maxRecDepth 100000 in
set_option maxHeartbeats 4000000 in
theorem f_X12_isPlace (G : GT) (P : PH) (A : PH) (a1 : Int) (h_a1 : (-2147483648) ≤ a1 ∧ a1 ≤ 2147483647) (hB : BdM P) (p_im : P 0 44 = 1 ∨ A 0 0 ≤ 0) (z0 : AM A P) (Q : Option PV → PH → Prop) (hQ : ∀ (r : Int) (_ : 0 ≤ r ∧ r ≤ 1) (_ : r = 0 ∨ (P 0 44 ≠ 0 ∧ 0 ≤ a1 ∧ a1 < P 35 0)) (_ : (r = 1 ∧ 0 ≤ a1 ∧ a1 < A 0 0) ∨ (r = 0 ∧ (a1 < 0 ∨ A 0 0 ≤ a1))), Q (some (vI r)) P) : Ct WSM G 2 iX12_isPlace [vR 0, vI a1] P Q := by
  sorry
/-! What the reference answers: X12_isRow. -/
set_option maxRecDepth 100000 in
set_option maxHeartbeats 4000000 in
theorem f_X12_isRow (G : GT) (P : PH) (M : PH) (a1 : Int) (h_a1 : (-2147483648) ≤ a1 ∧ a1 ≤ 2147483647) (hB : BdM P) (z0 : MH M P) (z1 : MR M P) (Q : Option PV → PH → Prop) (hQ : ∀ (r : Int) (_ : 0 ≤ r ∧ r ≤ 1) (_ : r = 0 ∨ (P 0 44 ≠ 0 ∧ 0 ≤ a1 ∧ a1 < P 0 52)) (_ : (r = 1 ∧ 0 < M 0 0 ∧ 0 ≤ a1 ∧ a1 < M 0 1) ∨ (r = 0 ∧ (M 0 0 ≤ 0 ∨ a1 < 0 ∨ M 0 1 ≤ a1))), Q (some (vI r)) P) : Ct WSM G 2 iX12_isRow [vR 0, vI a1] P Q := by
  sorry
/-! What the reference answers: X12_isSign. -/
set_option maxRecDepth 100000 in
set_option maxHeartbeats 4000000 in
theorem f_X12_isSign (G : GT) (P : PH) (T : TT) (p : Int) (a1 : Int) (h_a1 : (-2147483648) ≤ a1 ∧ a1 ≤ 2147483647) (hB : BdM P) (z0 : MS T p P) (Q : Option PV → PH → Prop) (hQ : ∀ (r : Int) (_ : 0 ≤ r ∧ r ≤ 1) (_ : r = 0 ∨ (P 0 3 = 3 ∧ P 0 6 = a1)) (_ : tK T p = 4 ∨ (r = 1 ∧ tK T p = 3 ∧ tV T p = a1) ∨ (r = 0 ∧ (tK T p ≠ 3 ∨ tV T p ≠ a1))), Q (some (vI r)) P) : Ct WSM G 1 iX12_isSign [vR 0, vI a1] P Q := by
  sorry
/-! What the reference answers: X12_isWord. -/
set_option maxRecDepth 100000 in
set_option maxHeartbeats 4000000 in
theorem f_X12_isWord (G : GT) (P : PH) (T : TT) (p : Int) (a1 : Int) (h_a1 : (-9223372036854775808) ≤ a1 ∧ a1 ≤ 9223372036854775807) (hB : BdM P) (z0 : MS T p P) (Q : Option PV → PH → Prop) (hQ : ∀ (r : Int) (_ : 0 ≤ r ∧ r ≤ 1) (_ : r = 0 ∨ (P 0 3 = 1 ∧ P 0 7 = a1)) (_ : tK T p = 4 ∨ (r = 1 ∧ tK T p = 1 ∧ tW T p = a1) ∨ (r = 0 ∧ (tK T p ≠ 1 ∨ tW T p ≠ a1))), Q (some (vI r)) P) : Ct WSM G 1 iX12_isWord [vR 0, vL a1] P Q := by
  sorry
/-! What the reference answers: X12_keeps. -/
set_option maxRecDepth 100000 in
set_option maxHeartbeats 4000000 in
theorem f_X12_keeps (G : GT) (P : PH) (A : PH) (k : Int) (hB : BdM P) (p_wa : WA k A) (z0 : AM A P) (Q : Option PV → PH → Prop) (hQ : ∀ (P1 : PH) (_ : BdM P1) (_ : FrM ([59, 60], [35, 36, 37, 38, 39, 40]) P P1) (_ : P1 35 0 = P 35 0) (_ : AM (aPush A) P1), Q none P1) : Ct WSM G 2 iX12_keeps [vR 0] P Q := by
  sorry
/-! What the reference answers: X12_kindIs. -/
set_option maxRecDepth 100000 in
set_option maxHeartbeats 4000000 in
theorem f_X12_kindIs (G : GT) (P : PH) (T : TT) (K : PH) (M : PH) (p : Int) (hB : BdM P) (p_lx : (P 0 3 = 0 ∨ P 0 4 + 1 ≤ P 0 5) ∧ P 0 4 ≤ P 0 5) (p_fk : P 0 8 ≤ 0) (p_aw : AW K) (p_k0 : tO T p = 0) (v_KVP : KVP P) (v_KC : KC P) (v_CF : CF P) (v_ZT : ZT P) (v_ZO : ZO P) (v_ZC : ZC P) (v_ZI : ZI P) (v_FP : FP P) (z0 : MT T P) (z1 : MS T p P) (z2 : MK K P) (z3 : MM M P) (z4 : MTl M P) (Q : Option PV → PH → Prop) (hQ : ∀ (P1 : PH) (_ : BdM P1) (_ : FrM ([3, 4, 5, 6, 7, 8, 9, 12], [2, 3, 4, 22]) P P1) (_ : (P1 0 3 = 0 ∨ P1 0 4 + 1 ≤ P1 0 5) ∧ P1 0 4 ≤ P1 0 5) (_ : P 0 4 ≤ P1 0 4) (_ : P 0 8 ≤ 0 ∨ 0 < P1 0 8) (_ : 0 < P1 0 8 ∨ P 0 38 = 0) (_ : P1 0 8 = (sKi T K M p).1 ∧ ((sKi T K M p).1 = 0 ∨ P1 0 9 = (sKi T K M p).2)) (_ : KVP P1) (_ : KC P1) (_ : CF P1) (_ : ZT P1) (_ : ZO P1) (_ : ZC P1) (_ : FP P1) (_ : CP (sKi T K M p).1 (MS T (sKi T K M p).2) P1) (_ : CP (sKi T K M p).1 (MK (kNew K (tV T (tE T p)))) P1) (_ : KB (P 0 37) P P1), Q none P1) : Ct WSM G 4 iX12_kindIs [vR 0] P Q := by
  sorry
/-! What the reference answers: X12_kindNamed. -/
set_option maxRecDepth 100000 in
set_option maxHeartbeats 4000000 in
theorem f_X12_kindNamed (G : GT) (P : PH) (a1 : Int) (h_a1 : (-9223372036854775808) ≤ a1 ∧ a1 ≤ 9223372036854775807) (hB : BdM P) (Q : Option PV → PH → Prop) (hQ : ∀ (r : Int) (_ : (-1) ≤ r ∧ r ≤ 3) (_ : r < P 2 (P 0 37)) (_ : r = fxi (fun i => P 22 (4 * P 0 37 + i)) a1 (P 2 (P 0 37)).toNat), Q (some (vI r)) P) : Ct WSM G 1 iX12_kindNamed [vR 0, vL a1] P Q := by
  sorry
/-! What the reference answers: X12_known. -/
set_option maxRecDepth 100000 in
set_option maxHeartbeats 4000000 in
theorem f_X12_known (G : GT) (P : PH) (T : TT) (K : PH) (p : Int) (a1 : Int) (h_a1 : (-1) ≤ a1 ∧ a1 ≤ 4) (hB : BdM P) (p_lx : (P 0 3 = 0 ∨ P 0 4 + 1 ≤ P 0 5) ∧ P 0 4 ≤ P 0 5) (p_aw : AW K) (p_kw : tK T p = 1 ∧ (tO T p = -1 ∨ tO T p = 7)) (v_FP : FP P) (z0 : MS T p P) (z1 : MK K P) (Q : Option PV → PH → Prop) (hQ : ∀ (r : Int) (_ : 0 ≤ r ∧ r ≤ 4) (P1 : PH) (_ : BdM P1) (_ : FrM ([8, 9], []) P P1) (_ : (P1 0 3 = 0 ∨ P1 0 4 + 1 ≤ P1 0 5) ∧ P1 0 4 ≤ P1 0 5) (_ : P 0 4 ≤ P1 0 4) (_ : P 0 8 ≤ 0 ∨ 0 < P1 0 8) (_ : 0 < P1 0 8 ∨ r = 4 ∨ (r < a1 ∧ 1 ≤ P1 3 (4 * P 0 37 + r) ∧ r < P1 2 (P 0 37))) (_ : (0 < P 0 8 ∧ P1 0 8 = P 0 8 ∧ P1 0 9 = P 0 9) ∨ (P 0 8 ≤ 0 ∧ tO T p = -1 ∧ (kHe T K p = -1 ∨ a1 ≤ kHe T K p ∨ K 2 (kHe T K p) = 0) ∧ P1 0 8 = 3 ∧ P1 0 9 = tA T p) ∨ (P 0 8 ≤ 0 ∧ P1 0 8 = 0 ∧ ((tO T p = 7 ∧ r = 4 ∧ kHe T K p = -1) ∨ (tO T p = -1 ∧ r = kHe T K p ∧ 0 ≤ r ∧ r ≤ 3 ∧ r < a1 ∧ 1 ≤ K 2 (kHe T K p))))) (_ : FP P1), Q (some (vI r)) P1) : Ct WSM G 3 iX12_known [vR 0, vI a1] P Q := by
  sorry
/-! What the reference answers: X12_lays. -/
set_option maxRecDepth 100000 in
set_option maxHeartbeats 4000000 in
theorem f_X12_lays (G : GT) (P : PH) (K : PH) (M : PH) (F : FT) (hB : BdM P) (p_pr : prdU P (P 0 13) (P 11 (P 0 13)).toNat ≤ 20000) (p_aw : AW K) (p_av : AV K M) (v_ZT : ZT P) (v_ZS : ZS P) (v_ZC : ZC P) (v_okC : okC P) (z0 : MKB K P) (z1 : MMB M P) (z2 : MCB K M F P) (Q : Option PV → PH → Prop) (hQ : ∀ (P1 : PH) (_ : BdM P1) (_ : FrM ([52], [29, 30, 31, 32, 33, 34]) P P1) (_ : 1 ≤ P1 0 52) (_ : P1 0 52 = prdU P (P 0 13) (P 11 (P 0 13)).toNat) (_ : LYT K M F P1), Q none P1) : Ct WSM G 4 iX12_lays [vR 0] P Q := by
  sorry
/-! What the reference answers: X12_letter. -/
set_option maxRecDepth 100000 in
set_option maxHeartbeats 4000000 in
theorem f_X12_letter (G : GT) (P : PH) (K : PH) (a1 : Int) (a2 : Int) (a3 : Int) (h_a1 : (-2147483648) ≤ a1 ∧ a1 ≤ 2147483647) (h_a2 : (-2147483648) ≤ a2 ∧ a2 ≤ 2147483647) (h_a3 : (-2147483648) ≤ a3 ∧ a3 ≤ 2147483647) (hB : BdM P) (p_aw : AW K) (z0 : MKB K P) (Q : Option PV → PH → Prop) (hQ : ∀ (r : Int) (_ : (-2147483648) ≤ r ∧ r ≤ 2147483647) (_ : r = ltr K a1 a2 a3), Q (some (vI r)) P) : Ct WSM G 2 iX12_letter [vR 0, vI a1, vI a2, vI a3] P Q := by
  sorry
/-! What the reference answers: X12_lettersOf. -/
set_option maxRecDepth 100000 in
set_option maxHeartbeats 4000000 in
theorem f_X12_lettersOf (G : GT) (P : PH) (g : Nat → Int) (L : Nat) (a1 : Int) (h_a1 : (-9223372036854775808) ≤ a1 ∧ a1 ≤ 9223372036854775807) (hB : BdM P) (p_L : L ≤ 6) (p_g : ∀ i : Nat, i < L → 1 ≤ g i ∧ g i ≤ 26) (p_w : a1 = e56 g L) (Q : Option PV → PH → Prop) (hQ : ∀ (r : Int) (_ : 0 ≤ r ∧ r ≤ 8) (_ : r = (L : Int)), Q (some (vI r)) P) : Ct WSM G 1 iX12_lettersOf [vL a1] P Q := by
  sorry
/-! What the reference answers: X12_lex. -/
set_option maxRecDepth 100000 in
set_option maxHeartbeats 4000000 in
theorem f_X12_lex (G : GT) (P : PH) (T : TT) (p : Int) (hB : BdM P) (v_FP : FP P) (z0 : CP (P 0 8) (MS T p) P) (Q : Option PV → PH → Prop) (hQ : ∀ (P1 : PH) (_ : BdM P1) (_ : FrM ([8, 9], []) P P1) (_ : P 0 8 ≤ 0 ∨ 0 < P1 0 8) (_ : (0 < P 0 8 ∧ P1 0 8 = P 0 8 ∧ P1 0 9 = P 0 9) ∨ (P 0 8 = 0 ∧ tK T p = 4 ∧ P1 0 8 = 1 ∧ P1 0 9 = tS T p) ∨ (P 0 8 = 0 ∧ tK T p ≠ 4 ∧ P1 0 8 = P 0 8 ∧ P1 0 9 = P 0 9)) (_ : FP P1), Q none P1) : Ct WSM G 2 iX12_lex [vR 0] P Q := by
  sorry
/-! What the reference answers: X12_lowest. -/
set_option maxRecDepth 100000 in
set_option maxHeartbeats 4000000 in
theorem f_X12_lowest (G : GT) (P : PH) (a1 : Int) (h_a1 : 0 ≤ a1 ∧ a1 ≤ 4095) (hB : BdM P) (Q : Option PV → PH → Prop) (hQ : ∀ (r : Int) (_ : (-1) ≤ r ∧ r ≤ 11) (_ : (a1 = 0 ∧ r = -1) ∨ (a1 ≠ 0 ∧ 0 ≤ r)) (_ : r = -1 ∨ iand (ishr a1 r) 1 = 1) (_ : r = -1 ∨ tb a1 r = true) (_ : ∀ i : Int, 0 ≤ i → i < r → tb a1 i = false), Q (some (vI r)) P) : Ct WSM G 1 iX12_lowest [vI a1] P Q := by
  sorry
/-! What the reference answers: X12_match. -/
set_option maxRecDepth 100000 in
set_option maxHeartbeats 4000000 in
theorem f_X12_match (G : GT) (P : PH) (T : TT) (K : PH) (M : PH) (A : PH) (F : FT) (hB : BdM P) (p_tx : P 0 1 = T.2 ∧ ∀ i : Int, 0 ≤ i → i < T.2 → P 1 i = T.1 i) (p_aw : AW K) (p_av : AV K M) (v_KVP : KVP P) (v_CF : CF P) (v_ZT : ZT P) (v_ZO : ZO P) (v_ZC : ZC P) (v_ZS : ZS P) (v_okB : okB P) (v_okR : okR P) (z0 : MKB K P) (z1 : MMB M P) (z2 : MH M P) (z3 : AM A P) (z4 : MR M P) (z5 : MCB K M F P) (z6 : LYT K M F P) (Q : Option PV → PH → Prop) (hQ : ∀ (r : Int) (_ : (-2147483648) ≤ r ∧ r ≤ 2147483647) (P1 : PH) (_ : BdM P1) (_ : FrM ([1, 2, 3, 4, 5, 6, 7, 8, 9, 10, 11, 12, 13, 36, 37, 38, 43, 44, 52, 60, 92], [2, 3, 4, 5, 6, 7, 8, 9, 10, 11, 12, 13, 14, 15, 16, 17, 18, 19, 20, 21, 22, 23, 24, 25, 26, 27, 28, 29, 30, 31, 32, 33, 34, 35, 36, 37, 38, 39]) P P1) (_ : P1 0 1 = 0) (_ : (r = -1 ∧ (mlR T).1 ≠ 0) ∨ (r = (mlR T).2.1 ∧ (mlR T).1 = 0)) (_ : P1 0 10 = (mlR T).1 ∧ (((mlR T).1 = 0 ∧ P1 0 11 = -1) ∨ ((mlR T).1 ≠ 0 ∧ P1 0 11 = (mlR T).2.1))) (_ : KVP P1) (_ : CF P1) (_ : ZT P1) (_ : ZO P1) (_ : ZC P1) (_ : ZS P1) (_ : okB P1) (_ : okR P1) (_ : okC P1) (_ : MKB (kmR T K) P1) (_ : MMB (mmR T M) P1) (_ : MH (mmR T M) P1) (_ : MCB (kmR T K) (mmR T M) (fmR T F) P1) (_ : AM (aMat T A) P1) (_ : MR (mmR T M) P1) (_ : LYT (kmR T K) (mmR T M) (fmR T F) P1), Q (some (vI r)) P1) : Ct WSM G 9 iX12_match [vR 0] P Q := by
  sorry
/-! What the reference answers: X12_matchIs. -/
set_option maxRecDepth 100000 in
set_option maxHeartbeats 4000000 in
theorem f_X12_matchIs (G : GT) (P : PH) (T : TT) (K : PH) (M : PH) (p : Int) (hB : BdM P) (p_lx : (P 0 3 = 0 ∨ P 0 4 + 1 ≤ P 0 5) ∧ P 0 4 ≤ P 0 5) (p_fk : P 0 8 ≤ 0) (p_aw : AW K) (p_k0 : tO T p = 2) (v_ZC : ZC P) (v_ZI : ZI P) (v_ZS : ZS P) (v_FP : FP P) (z0 : MT T P) (z1 : MS T p P) (z2 : MK K P) (z3 : MM M P) (z4 : MTl M P) (Q : Option PV → PH → Prop) (hQ : ∀ (P1 : PH) (_ : BdM P1) (_ : FrM ([3, 4, 5, 6, 7, 8, 9, 12, 38], [11, 12]) P P1) (_ : (P1 0 3 = 0 ∨ P1 0 4 + 1 ≤ P1 0 5) ∧ P1 0 4 ≤ P1 0 5) (_ : P 0 4 ≤ P1 0 4) (_ : P 0 8 ≤ 0 ∨ 0 < P1 0 8) (_ : 0 < P1 0 8 ∨ prdU P1 (P 0 37) (P1 11 (P 0 37)).toNat ≤ 20000) (_ : (P1 0 8 = (sMa T K M p).1 ∧ ((sMa T K M p).1 = 0 ∨ P1 0 9 = (sMa T K M p).2.1)) ∨ ((sMa T K M p).1 = 0 ∧ tK T (sMa T K M p).2.1 = 4 ∧ P1 0 8 = 1 ∧ P1 0 9 = tS T (sMa T K M p).2.1)) (_ : ZC P1) (_ : ZI P1) (_ : ZS P1) (_ : FP P1) (_ : CP (P1 0 8) (MS T (sMa T K M p).2.1) P1) (_ : CP (P1 0 8) (MM (sMa T K M p).2.2) P1) (_ : CP (P1 0 8) (MTl (sMa T K M p).2.2) P1) (_ : KB (P 0 37) P P1), Q none P1) : Ct WSM G 4 iX12_matchIs [vR 0] P Q := by
  sorry
/-! What the reference answers: X12_must. -/
set_option maxRecDepth 100000 in
set_option maxHeartbeats 4000000 in
theorem f_X12_must (G : GT) (P : PH) (T : TT) (p : Int) (a1 : Int) (h_a1 : (-2147483648) ≤ a1 ∧ a1 ≤ 2147483647) (hB : BdM P) (p_lx : (P 0 3 = 0 ∨ P 0 4 + 1 ≤ P 0 5) ∧ P 0 4 ≤ P 0 5) (v_FP : FP P) (z0 : MT T P) (z1 : MS T p P) (Q : Option PV → PH → Prop) (hQ : ∀ (P1 : PH) (_ : BdM P1) (_ : FrM ([3, 4, 5, 6, 7, 8, 9, 12], []) P P1) (_ : (P1 0 3 = 0 ∨ P1 0 4 + 1 ≤ P1 0 5) ∧ P1 0 4 ≤ P1 0 5) (_ : P 0 4 ≤ P1 0 4) (_ : P 0 8 ≤ 0 ∨ 0 < P1 0 8) (_ : 0 < P1 0 8 ∨ P 0 4 + 1 ≤ P1 0 4) (_ : (0 < P 0 8 ∧ P1 0 8 = P 0 8 ∧ P1 0 9 = P 0 9) ∨ (P 0 8 ≤ 0 ∧ P1 0 8 = (sgn T a1 p).1 ∧ ((sgn T a1 p).1 = 0 ∨ P1 0 9 = (sgn T a1 p).2))) (_ : FP P1) (_ : CP (P1 0 8) (MS T (sgn T a1 p).2) P1), Q none P1) : Ct WSM G 3 iX12_must [vR 0, vI a1] P Q := by
  sorry
/-! What the reference answers: X12_number. -/
set_option maxRecDepth 100000 in
set_option maxHeartbeats 4000000 in
theorem f_X12_number (G : GT) (P : PH) (T : TT) (p : Int) (a1 : Int) (a2 : Int) (h_a1 : (-2147483648) ≤ a1 ∧ a1 ≤ 2147483647) (h_a2 : (-2147483648) ≤ a2 ∧ a2 ≤ 2147483647) (hB : BdM P) (p_lx : (P 0 3 = 0 ∨ P 0 4 + 1 ≤ P 0 5) ∧ P 0 4 ≤ P 0 5) (p_fk : P 0 8 ≤ 0) (v_FP : FP P) (z0 : MT T P) (z1 : MS T p P) (Q : Option PV → PH → Prop) (hQ : ∀ (r : Int) (_ : (-2147483648) ≤ r ∧ r ≤ 2147483647) (P1 : PH) (_ : BdM P1) (_ : FrM ([3, 4, 5, 6, 7, 8, 9, 12], []) P P1) (_ : (P1 0 3 = 0 ∨ P1 0 4 + 1 ≤ P1 0 5) ∧ P1 0 4 ≤ P1 0 5) (_ : P 0 4 ≤ P1 0 4) (_ : P 0 8 ≤ 0 ∨ 0 < P1 0 8) (_ : 0 < P1 0 8 ∨ (a1 ≤ r ∧ r ≤ a2 ∧ P 0 4 + 1 ≤ P1 0 4)) (_ : P1 0 8 = (num T a1 a2 p).1 ∧ ((num T a1 a2 p).1 = 0 ∨ P1 0 9 = (num T a1 a2 p).2)) (_ : (num T a1 a2 p).1 ≠ 0 ∨ r = tV T p) (_ : FP P1) (_ : CP (num T a1 a2 p).1 (MS T (num T a1 a2 p).2) P1), Q (some (vI r)) P1) : Ct WSM G 3 iX12_number [vR 0, vI a1, vI a2] P Q := by
  sorry
/-! What the reference answers: X12_on. -/
set_option maxRecDepth 100000 in
set_option maxHeartbeats 4000000 in
theorem f_X12_on (G : GT) (P : PH) (T : TT) (A : PH) (M : PH) (hB : BdM P) (z0 : CM T P) (z1 : AM A P) (z2 : MH M P) (z3 : MMB M P) (Q : Option PV → PH → Prop) (hQ : ∀ (r : Int) (_ : 0 ≤ r ∧ r ≤ 1) (P1 : PH) (_ : BdM P1) (_ : FrM ([1, 60], [28, 35, 36, 37, 38, 39, 40]) P P1) (_ : P1 0 1 = 0) (_ : (r = 1 ∧ onOk T M) ∨ (r = 0 ∧ ¬ onOk T M)) (_ : AM (aOn T M A) P1), Q (some (vI r)) P1) : Ct WSM G 3 iX12_on [vR 0] P Q := by
  sorry
/-! What the reference answers: X12_openBy. -/
set_option maxRecDepth 100000 in
set_option maxHeartbeats 4000000 in
theorem f_X12_openBy (G : GT) (P : PH) (K : PH) (M : PH) (F : FT) (n : Int) (f : IF) (a1 : Int) (h_a1 : (-2147483648) ≤ a1 ∧ a1 ≤ 2147483647) (hB : BdM P) (p_on : 0 ≤ a1 ∧ a1 ≤ 255) (p_fb : ∀ p : Int, 0 ≤ p → p < n → 0 ≤ f p ∧ f p < M 0 2) (p_gw : GW M) (p_n12 : 0 ≤ n ∧ n ≤ 12) (z0 : ARG K M F n f P) (Q : Option PV → PH → Prop) (hQ : ∀ (r : Int) (_ : 0 ≤ r ∧ r ≤ 4095) (_ : OPe M f n a1 r), Q (some (vI r)) P) : Ct WSM G 1 iX12_openBy [vR 0, vI a1] P Q := by
  sorry
/-! What the reference answers: X12_pattern. -/
set_option maxRecDepth 100000 in
set_option maxHeartbeats 4000000 in
theorem f_X12_pattern (G : GT) (P : PH) (T : TT) (K : PH) (k : Int) (p : Int) (a1 : Int) (h_a1 : 0 ≤ a1 ∧ a1 ≤ 4) (hB : BdM P) (p_lx : (P 0 3 = 0 ∨ P 0 4 + 1 ≤ P 0 5) ∧ P 0 4 ≤ P 0 5) (p_po : 5 * P 0 36 ≤ 8 * P 0 4) (p_fk : P 0 8 ≤ 0) (p_aw : AW K) (p_k4 : K4 a1 k) (v_CF : CF P) (v_FP : FP P) (z0 : MT T P) (z1 : MS T p P) (z2 : MK K P) (Q : Option PV → PH → Prop) (hQ : ∀ (P1 : PH) (_ : BdM P1) (_ : FrM ([3, 4, 5, 6, 7, 8, 9, 12, 36, 43], [19, 20, 21, 24, 25, 26, 27]) P P1) (_ : (P1 0 3 = 0 ∨ P1 0 4 + 1 ≤ P1 0 5) ∧ P1 0 4 ≤ P1 0 5) (_ : P 0 4 ≤ P1 0 4) (_ : P 0 8 ≤ 0 ∨ 0 < P1 0 8) (_ : LO P P1) (_ : 0 < P1 0 8 ∨ (WF P1 (P 0 37) (2800 * P 0 37 + P 0 36) (2800 * P 0 37 + P1 0 36) ∧ 5 * P1 0 36 ≤ 8 * P1 0 4)) (_ : (P1 0 8 = (pat T K k p).1 ∧ ((pat T K k p).1 = 0 ∨ P1 0 9 = (pat T K k p).2)) ∨ ((pat T K k p).1 = 0 ∧ tK T (pat T K k p).2 = 4 ∧ P1 0 8 = 1 ∧ P1 0 9 = tS T (pat T K k p).2)) (_ : 0 < P1 0 8 ∨ PRn T K k p) (_ : FP P1) (_ : CP (P1 0 8) (MS T (pat T K k p).2) P1) (_ : CP (P1 0 8) (CDe (P 0 36) (cds T K k p)) P1) (_ : KB (P 0 37) P P1), Q none P1) : Ct WSM G 6 iX12_pattern [vR 0, vI a1] P Q := by
  sorry
/-! What the reference answers: X12_placed. -/
set_option maxRecDepth 100000 in
set_option maxHeartbeats 4000000 in
theorem f_X12_placed (G : GT) (P : PH) (n : Int) (f : IF) (a1 : Int) (a2 : Int) (h_a1 : 0 ≤ a1 ∧ a1 ≤ 21) (h_a2 : 0 ≤ a2 ∧ a2 ≤ 4095) (hB : BdM P) (p_pn : P 0 62 = n ∧ n ≤ 12) (p_fb : ∀ p : Int, 0 ≤ p → p < n → 0 ≤ f p ∧ f p ≤ 11) (z0 : ODb a1 n f P) (Q : Option PV → PH → Prop) (hQ : ∀ (r : Int) (_ : 0 ≤ r ∧ r ≤ 4095) (_ : PLs n f a2 r), Q (some (vI r)) P) : Ct WSM G 1 iX12_placed [vR 0, vI a1, vI a2] P Q := by
  sorry
/-! What the reference answers: X12_plants. -/
set_option maxRecDepth 100000 in
set_option maxHeartbeats 4000000 in
theorem f_X12_plants (G : GT) (P : PH) (K : PH) (M : PH) (F : FT) (n : Int) (f : IF) (a1 : Int) (a2 : Int) (h_a1 : 0 ≤ a1 ∧ a1 ≤ 21) (h_a2 : (-2147483648) ≤ a2 ∧ a2 ≤ 2147483647) (hB : BdM P) (p_st : P 0 74 ≤ 199999999) (p_aw : AW K) (p_av : AV K M) (p_fb : ∀ p : Int, 0 ≤ p → p < n → 0 ≤ f p ∧ f p < M 0 2) (p_n12 : 0 ≤ n ∧ n ≤ 12) (v_MVw : MVw P) (v_RE : RE P) (z0 : MMB M P) (z1 : LYT K M F P) (z2 : ODb a1 n f P) (Q : Option PV → PH → Prop) (hQ : ∀ (P1 : PH) (_ : BdM P1) (_ : FrM ([62, 66, 74, 76], [41, 42, 43]) P P1) (_ : P1 0 74 = P 0 74 + 1) (_ : MV P1) (_ : RE P1) (_ : RLt P1) (_ : ARG K M F n f P1), Q none P1) : Ct WSM G 3 iX12_plants [vR 0, vI a1, vI a2] P Q := by
  sorry
/-! What the reference answers: X12_put. -/
set_option maxRecDepth 100000 in
set_option maxHeartbeats 4000000 in
theorem f_X12_put (G : GT) (P : PH) (T : TT) (a1 : Int) (h_a1 : (-2147483648) ≤ a1 ∧ a1 ≤ 2147483647) (hB : BdM P) (p_t : P 0 1 ≤ 1596) (z0 : CM T P) (Q : Option PV → PH → Prop) (hQ : ∀ (P1 : PH) (_ : BdM P1) (_ : FrM ([1], [1]) P P1) (_ : P1 0 1 = P 0 1 + 4) (_ : CM (tput T a1 4) P1), Q none P1) : Ct WSM G 1 iX12_put [vR 0, vI a1] P Q := by
  sorry
/-! What the reference answers: X12_range. -/
set_option maxRecDepth 100000 in
set_option maxHeartbeats 4000000 in
theorem f_X12_range (G : GT) (P : PH) (f : Int) (T : TT) (p : Int) (fb : Int) (s : SK) (k : Int) (hB : BdM P) (p_lx : (P 0 3 = 0 ∨ P 0 4 + 1 ≤ P 0 5) ∧ P 0 4 ≤ P 0 5) (p_po : pot P ≤ 8 * P 0 4) (p_sx : SX f 0 P) (p_fk : P 0 8 ≤ 0) (v_FP : FP P) (z0 : MT T P) (z1 : MS T p P) (z2 : STK fb s k P) (Q : Option PV → PH → Prop) (hQ : ∀ (P1 : PH) (_ : BdM P1) (_ : FrM ([3, 4, 5, 6, 7, 8, 9, 12, 36], [19, 20, 21]) P P1) (_ : (P1 0 3 = 0 ∨ P1 0 4 + 1 ≤ P1 0 5) ∧ P1 0 4 ≤ P1 0 5) (_ : P 0 4 ≤ P1 0 4) (_ : P 0 8 ≤ 0 ∨ 0 < P1 0 8) (_ : LO P P1) (_ : 0 < P1 0 8 ∨ (SX f 1 P1 ∧ pot P1 + 3 ≤ 8 * P1 0 4)) (_ : 0 < P1 0 8 ∨ P 0 4 + 1 ≤ P1 0 4) (_ : (P1 0 8 = (rng T p).1 ∧ ((rng T p).1 = 0 ∨ P1 0 9 = (rng T p).2)) ∨ ((rng T p).1 = 0 ∧ tK T (rng T p).2 = 4 ∧ P1 0 8 = 1 ∧ P1 0 9 = tS T (rng T p).2)) (_ : FP P1) (_ : CP (P1 0 8) (MS T (rng T p).2) P1) (_ : CP (P1 0 8) (STK fb (em s (1, tV T p, hiV T p)) k) P1) (_ : KB (P 0 37) P P1), Q none P1) : Ct WSM G 4 iX12_range [vR 0] P Q := by
  sorry
/-! What the reference answers: X12_row. -/
set_option maxRecDepth 100000 in
set_option maxHeartbeats 4000000 in
theorem f_X12_row (G : GT) (P : PH) (T : TT) (K : PH) (M : PH) (hB : BdM P) (p_aw : AW K) (p_ab : AB K) (p_av : AV K M) (p_az : AZ K M) (p_ar : AR K M) (v_okC : okC P) (v_CF : CF P) (z0 : CM T P) (z1 : MKB K P) (z2 : MMB M P) (z3 : MH M P) (Q : Option PV → PH → Prop) (hQ : ∀ (r : Int) (_ : (-2147483648) ≤ r ∧ r ≤ 2147483647) (P1 : PH) (_ : BdM P1) (_ : FrM ([1, 2, 3, 4, 5, 6, 7, 8, 9, 10, 11, 12, 43], [24, 25, 26, 27, 28]) P P1) (_ : P1 0 1 = 0) (_ : (r = -1 ∧ (rwR T K M).1 ≠ 0) ∨ (r = (rwR T K M).2.2 ∧ 0 ≤ r ∧ (rwR T K M).1 = 0)) (_ : P1 0 10 = (rwR T K M).1 ∧ P1 0 11 = (rwR T K M).2.1), Q (some (vI r)) P1) : Ct WSM G 6 iX12_row [vR 0] P Q := by
  sorry
/-! What the reference answers: X12_ruleIs. -/
set_option maxRecDepth 100000 in
set_option maxHeartbeats 4000000 in
theorem f_X12_ruleIs (G : GT) (P : PH) (T : TT) (K : PH) (M : PH) (p : Int) (hB : BdM P) (p_lx : (P 0 3 = 0 ∨ P 0 4 + 1 ≤ P 0 5) ∧ P 0 4 ≤ P 0 5) (p_fk : P 0 8 ≤ 0) (p_k0 : tO T p = 5) (v_FP : FP P) (z0 : MT T P) (z1 : MS T p P) (z2 : MM M P) (Q : Option PV → PH → Prop) (hQ : ∀ (P1 : PH) (_ : BdM P1) (_ : FrM ([3, 4, 5, 6, 7, 8, 9, 12], [15]) P P1) (_ : (P1 0 3 = 0 ∨ P1 0 4 + 1 ≤ P1 0 5) ∧ P1 0 4 ≤ P1 0 5) (_ : P 0 4 ≤ P1 0 4) (_ : P 0 8 ≤ 0 ∨ 0 < P1 0 8) (_ : P1 0 8 = (num T 0 3 (tE T p)).1 ∧ ((num T 0 3 (tE T p)).1 = 0 ∨ P1 0 9 = (num T 0 3 (tE T p)).2)) (_ : FP P1) (_ : CP (num T 0 3 (tE T p)).1 (MS T (num T 0 3 (tE T p)).2) P1) (_ : CP (num T 0 3 (tE T p)).1 (MM (up M 0 3 (tV T (tE T p)))) P1) (_ : KB (P 0 37) P P1), Q none P1) : Ct WSM G 4 iX12_ruleIs [vR 0] P Q := by
  sorry
/-! What the reference answers: X12_run. -/
set_option maxRecDepth 100000 in
set_option maxHeartbeats 4000000 in
theorem f_X12_run (G : GT) (P : PH) (A : PH) (k : Int) (M : PH) (K : PH) (F : FT) (a1 : Int) (h_a1 : (-2147483648) ≤ a1 ∧ a1 ≤ 2147483647) (hB : BdM P) (p_st : P 0 74 ≤ 199999999) (p_wa : WA k A) (p_aw : AW K) (p_av : AV K M) (p_az : AZ K M) (p_ga : GA M A) (p_gw : GW M) (v_okC : okC P) (v_MVw : MVw P) (v_RE : RE P) (z0 : AM A P) (z1 : MH M P) (z2 : MR M P) (z3 : MKB K P) (z4 : MMB M P) (z5 : LYT K M F P) (Q : Option PV → PH → Prop) (hQ : ∀ (r : Int) (_ : (-2147483648) ≤ r ∧ r ≤ 2147483647) (P1 : PH) (_ : BdM P1) (_ : FrM ([59, 60, 62, 66, 74, 76, 78], [28, 35, 36, 37, 38, 39, 40, 41, 42, 43, 44, 49, 50]) P P1) (_ : P1 0 74 ≤ P 0 74 + 1) (_ : r = tkR K M F A a1) (_ : MVw P1) (_ : RE P1) (_ : AM (aRun A M a1) P1), Q (some (vI r)) P1) : Ct WSM G 6 iX12_run [vR 0, vI a1] P Q := by
  sorry
/-! What the reference answers: X12_runs. -/
set_option maxRecDepth 100000 in
set_option maxHeartbeats 4000000 in
theorem f_X12_runs (G : GT) (P : PH) (A : PH) (K : PH) (M : PH) (F : FT) (a1 : Int) (h_a1 : 0 ≤ a1 ∧ a1 ≤ 2147483647) (hB : BdM P) (p_st : P 0 74 ≤ 199999999) (p_aw : AW K) (p_av : AV K M) (p_az : AZ K M) (p_ga : GA M A) (p_gw : GW M) (v_okC : okC P) (v_MVw : MVw P) (v_RE : RE P) (z0 : AM A P) (z1 : MKB K P) (z2 : MMB M P) (z3 : LYT K M F P) (Q : Option PV → PH → Prop) (hQ : ∀ (r : Int) (_ : (-1) ≤ r ∧ r ≤ 11) (P1 : PH) (_ : BdM P1) (_ : FrM ([62, 66, 74, 76, 78], [39, 40, 41, 42, 43, 44, 49, 50]) P P1) (_ : P1 0 74 = P 0 74 + 1) (_ : r = tak K M F A (A 0 1) a1) (_ : MVw P1) (_ : RE P1) (_ : AM (up A 0 3 (A 0 3 + 1)) P1), Q (some (vI r)) P1) : Ct WSM G 5 iX12_runs [vR 0, vI a1] P Q := by
  sorry
/-! What the reference answers: X12_see. -/
set_option maxRecDepth 100000 in
set_option maxHeartbeats 4000000 in
theorem f_X12_see (G : GT) (P : PH) (T : TT) (A : PH) (M : PH) (hB : BdM P) (z0 : CM T P) (z1 : AM A P) (z2 : MH M P) (z3 : MR M P) (Q : Option PV → PH → Prop) (hQ : ∀ (r : Int) (_ : (-2147483648) ≤ r ∧ r ≤ 2147483647) (P1 : PH) (_ : BdM P1) (_ : FrM ([1, 92], [28, 59, 60]) P P1) (_ : P1 0 1 = 0) (_ : (r = -1 ∧ ¬ seOk T M A) ∨ (r = T.2 / 3 ∧ seOk T M A)) (_ : AM (aSee T M A) P1), Q (some (vI r)) P1) : Ct WSM G 2 iX12_see [vR 0] P Q := by
  sorry
/-! What the reference answers: X12_seed. -/
set_option maxRecDepth 100000 in
set_option maxHeartbeats 4000000 in
theorem f_X12_seed (G : GT) (P : PH) (A : PH) (a1 : Int) (h_a1 : (-2147483648) ≤ a1 ∧ a1 ≤ 2147483647) (hB : BdM P) (z0 : AM A P) (Q : Option PV → PH → Prop) (hQ : ∀ (r : Int) (_ : 0 ≤ r ∧ r ≤ 1) (P1 : PH) (_ : BdM P1) (_ : FrM ([61], [28]) P P1) (_ : (a1 < 0 ∧ r = 0) ∨ (0 ≤ a1 ∧ r = 1)) (_ : AM (aSeed A a1) P1), Q (some (vI r)) P1) : Ct WSM G 2 iX12_seed [vR 0, vI a1] P Q := by
  sorry
/-! What the reference answers: X12_setIn. -/
set_option maxRecDepth 100000 in
set_option maxHeartbeats 4000000 in
theorem f_X12_setIn (G : GT) (P : PH) (a1 : Int) (a2 : Int) (h_a1 : 0 ≤ a1 ∧ a1 ≤ 3) (h_a2 : 0 ≤ a2 ∧ a2 ≤ 2009) (hB : BdM P) (Q : Option PV → PH → Prop) (hQ : ∀ (r : Int) (_ : 0 ≤ r ∧ r ≤ 4095) (_ : r = P 41 (2010 * a1 + P 31 (2010 * a1 + a2))), Q (some (vI r)) P) : Ct WSM G 1 iX12_setIn [vR 0, vI a1, vI a2] P Q := by
  sorry
/-! What the reference answers: X12_slot. -/
set_option maxRecDepth 100000 in
set_option maxHeartbeats 4000000 in
theorem f_X12_slot (G : GT) (P : PH) (a1 : Int) (h_a1 : 0 ≤ a1 ∧ a1 ≤ 20) (hB : BdM P) (Q : Option PV → PH → Prop) (hQ : ∀ (r : Int) (_ : 2 ≤ r ∧ r ≤ 21) (_ : r = 2 + (P 0 59 + a1) % 20), Q (some (vI r)) P) : Ct WSM G 1 iX12_slot [vR 0, vI a1] P Q := by
  sorry
/-! What the reference answers: X12_statement. -/
set_option maxRecDepth 100000 in
set_option maxHeartbeats 4000000 in
theorem f_X12_statement (G : GT) (P : PH) (T : TT) (K : PH) (M : PH) (F : FT) (p : Int) (hB : BdM P) (p_lx : (P 0 3 = 0 ∨ P 0 4 + 1 ≤ P 0 5) ∧ P 0 4 ≤ P 0 5) (p_po : 0 < P 0 8 ∨ 5 * P 0 36 ≤ 8 * P 0 4) (p_pr : 0 < P 0 8 ∨ prdU P (P 0 37) (P 11 (P 0 37)).toNat ≤ 20000) (p_bu : 0 < P 0 8 ∨ (1 ≤ P 16 (P 0 37) ∧ P 16 (P 0 37) ≤ 999)) (p_fk : P 0 8 ≤ 0) (p_aw : AW K) (p_na : NA M) (v_KVP : KVP P) (v_KC : KC P) (v_CF : CF P) (v_ZT : ZT P) (v_ZO : ZO P) (v_ZC : ZC P) (v_ZI : ZI P) (v_ZS : ZS P) (v_FP : FP P) (z0 : MT T P) (z1 : MS T p P) (z2 : MK K P) (z3 : MM M P) (z4 : MTl M P) (z5 : MC K M F P) (Q : Option PV → PH → Prop) (hQ : ∀ (P1 : PH) (_ : BdM P1) (_ : FrM ([3, 4, 5, 6, 7, 8, 9, 12, 36, 38, 43], [2, 3, 4, 5, 6, 7, 8, 9, 10, 11, 12, 13, 14, 15, 16, 17, 18, 19, 20, 21, 22, 23, 24, 25, 26, 27]) P P1) (_ : (P1 0 3 = 0 ∨ P1 0 4 + 1 ≤ P1 0 5) ∧ P1 0 4 ≤ P1 0 5) (_ : P 0 4 ≤ P1 0 4) (_ : P 0 8 ≤ 0 ∨ 0 < P1 0 8) (_ : 0 < P1 0 8 ∨ 5 * P1 0 36 ≤ 8 * P1 0 4) (_ : 0 < P1 0 8 ∨ prdU P1 (P 0 37) (P1 11 (P 0 37)).toNat ≤ 20000) (_ : 0 < P1 0 8 ∨ (1 ≤ P1 16 (P 0 37) ∧ P1 16 (P 0 37) ≤ 999)) (_ : ∀ j : Int, j ≠ P 0 37 → P1 16 j = P 16 j) (_ : (P1 0 8 = (sSt T K M p).1 ∧ ((sSt T K M p).1 = 0 ∨ P1 0 9 = (sSt T K M p).2)) ∨ ((sSt T K M p).1 = 0 ∧ tK T (sSt T K M p).2 = 4 ∧ P1 0 8 = 1 ∧ P1 0 9 = tS T (sSt T K M p).2)) (_ : KVP P1) (_ : KC P1) (_ : CF P1) (_ : ZT P1) (_ : ZO P1) (_ : ZC P1) (_ : ZI P1) (_ : ZS P1) (_ : FP P1) (_ : CP (P1 0 8) (MS T (sSt T K M p).2) P1) (_ : CP (P1 0 8) (MK (kSt T K p)) P1) (_ : CP (P1 0 8) (MM (mSt T K M p)) P1) (_ : CP (P1 0 8) (MTl (mSt T K M p)) P1) (_ : CP (P1 0 8) (MC (kSt T K p) (mSt T K M p) (fSt T K M F p)) P1) (_ : KB (P 0 37) P P1), Q none P1) : Ct WSM G 8 iX12_statement [vR 0] P Q := by
  sorry
/-! What the reference answers: X12_swap. -/
set_option maxRecDepth 100000 in
set_option maxHeartbeats 4000000 in
theorem f_X12_swap (G : GT) (P : PH) (A : PH) (k : Int) (a1 : Int) (a2 : Int) (h_a1 : (-2147483648) ≤ a1 ∧ a1 ≤ 2147483647) (h_a2 : (-2147483648) ≤ a2 ∧ a2 ≤ 2147483647) (hB : BdM P) (p_im : P 0 44 = 1 ∨ A 0 0 ≤ 0) (p_wa : WA k A) (z0 : AM A P) (Q : Option PV → PH → Prop) (hQ : ∀ (r : Int) (_ : 0 ≤ r ∧ r ≤ 1) (P1 : PH) (_ : BdM P1) (_ : FrM ([59, 60], [28, 35, 36, 37, 38, 39, 40]) P P1) (_ : (r = 1 ∧ 0 ≤ a1 ∧ a1 < A 0 0 ∧ 0 ≤ a2 ∧ a2 < A 0 0 ∧ a1 ≠ a2) ∨ (r = 0 ∧ (a1 < 0 ∨ A 0 0 ≤ a1 ∨ a2 < 0 ∨ A 0 0 ≤ a2 ∨ a1 = a2))) (_ : AM (aSwap A a1 a2) P1), Q (some (vI r)) P1) : Ct WSM G 3 iX12_swap [vR 0, vI a1, vI a2] P Q := by
  sorry
/-! What the reference answers: X12_taken. -/
set_option maxRecDepth 100000 in
set_option maxHeartbeats 4000000 in
theorem f_X12_taken (G : GT) (P : PH) (K : PH) (M : PH) (F : FT) (A : PH) (a1 : Int) (h_a1 : (-2147483648) ≤ a1 ∧ a1 ≤ 2147483647) (hB : BdM P) (p_st : P 0 74 ≤ 199999999) (p_aw : AW K) (p_av : AV K M) (p_az : AZ K M) (p_ga : GA M A) (p_gw : GW M) (v_okC : okC P) (v_MVw : MVw P) (v_RE : RE P) (z0 : AM A P) (z1 : MH M P) (z2 : MR M P) (z3 : MKB K P) (z4 : MMB M P) (z5 : LYT K M F P) (Q : Option PV → PH → Prop) (hQ : ∀ (r : Int) (_ : (-2147483648) ≤ r ∧ r ≤ 2147483647) (P1 : PH) (_ : BdM P1) (_ : FrM ([62, 66, 74], [41, 42, 43, 44]) P P1) (_ : P1 0 74 ≤ P 0 74 + 1) (_ : r = tkR K M F A a1) (_ : MVw P1) (_ : RE P1), Q (some (vI r)) P1) : Ct WSM G 5 iX12_taken [vR 0, vI a1] P Q := by
  sorry
/-! What the reference answers: X12_turn. -/
set_option maxRecDepth 100000 in
set_option maxHeartbeats 4000000 in
theorem f_X12_turn (G : GT) (P : PH) (A : PH) (k : Int) (M : PH) (a1 : Int) (h_a1 : (-2147483648) ≤ a1 ∧ a1 ≤ 2147483647) (hB : BdM P) (p_wa : WA k A) (z0 : AM A P) (z1 : MH M P) (Q : Option PV → PH → Prop) (hQ : ∀ (r : Int) (_ : (-2147483648) ≤ r ∧ r ≤ 2147483647) (P1 : PH) (_ : BdM P1) (_ : FrM ([59, 60], [28, 35, 36, 37, 38, 39, 40]) P P1) (_ : (r = -1 ∧ (M 0 0 ≤ 0 ∨ a1 < 0 ∨ 7 < a1)) ∨ (r = iand (ishr (ixor (A 0 1) (ishl 1 a1)) a1) 1 ∧ 0 < M 0 0 ∧ 0 ≤ a1 ∧ a1 ≤ 7)) (_ : AM (aTurn A M a1) P1), Q (some (vI r)) P1) : Ct WSM G 3 iX12_turn [vR 0, vI a1] P Q := by
  sorry
/-! What the reference answers: X12_undo. -/
set_option maxRecDepth 100000 in
set_option maxHeartbeats 4000000 in
theorem f_X12_undo (G : GT) (P : PH) (A : PH) (k : Int) (hB : BdM P) (p_wa : WA k A) (z0 : AM A P) (Q : Option PV → PH → Prop) (hQ : ∀ (r : Int) (_ : 0 ≤ r ∧ r ≤ 1) (P1 : PH) (_ : BdM P1) (_ : FrM ([60], [28, 35, 36, 37, 38, 39, 40]) P P1) (_ : (A 0 4 ≤ 0 ∧ r = 0) ∨ (0 < A 0 4 ∧ r = 1)) (_ : AM (aUndo A) P1), Q (some (vI r)) P1) : Ct WSM G 2 iX12_undo [vR 0] P Q := by
  sorry
/-! What the reference answers: X12_valueRead. -/
set_option maxRecDepth 100000 in
set_option maxHeartbeats 4000000 in
theorem f_X12_valueRead (G : GT) (P : PH) (T : TT) (K : PH) (k : Int) (p : Int) (a1 : Int) (h_a1 : 0 ≤ a1 ∧ a1 ≤ 4) (hB : BdM P) (p_lx : (P 0 3 = 0 ∨ P 0 4 + 1 ≤ P 0 5) ∧ P 0 4 ≤ P 0 5) (p_fk : P 0 8 ≤ 0) (p_aw : AW K) (p_ab : AB K) (p_k4 : K4 a1 k) (p_kb : k < K 0 0) (v_CF : CF P) (v_FP : FP P) (z0 : MT T P) (z1 : MS T p P) (z2 : MKB K P) (Q : Option PV → PH → Prop) (hQ : ∀ (r : Int) (_ : (-2147483648) ≤ r ∧ r ≤ 2147483647) (P1 : PH) (_ : BdM P1) (_ : FrM ([3, 4, 5, 6, 7, 8, 9, 12, 43], [24, 25, 26, 27]) P P1) (_ : (P1 0 3 = 0 ∨ P1 0 4 + 1 ≤ P1 0 5) ∧ P1 0 4 ≤ P1 0 5) (_ : P 0 4 ≤ P1 0 4) (_ : P 0 8 ≤ 0 ∨ 0 < P1 0 8) (_ : (0 < P1 0 8 ∧ val T K k p = (P1 0 8, P1 0 9, 0)) ∨ (P1 0 8 = 0 ∧ 0 ≤ r ∧ r < sz K k ∧ ∃ q : Int, val T K k p = (0, q, r) ∧ MS T q P1)) (_ : FP P1), Q (some (vI r)) P1) : Ct WSM G 5 iX12_valueRead [vR 0, vI a1] P Q := by
  sorry
/-! What the reference answers: X12_values. -/
set_option maxRecDepth 100000 in
set_option maxHeartbeats 4000000 in
theorem f_X12_values (G : GT) (P : PH) (K : PH) (M : PH) (a1 : Int) (h_a1 : (-2147483648) ≤ a1 ∧ a1 ≤ 2147483647) (hB : BdM P) (p_aw : AW K) (z0 : MKB K P) (z1 : MH M P) (Q : Option PV → PH → Prop) (hQ : ∀ (r : Int) (_ : (-1) ≤ r ∧ r ≤ 2006) (_ : r = vls K M a1), Q (some (vI r)) P) : Ct WSM G 2 iX12_values [vR 0, vI a1] P Q := by
  sorry
/-! What the reference answers: X12_valuesIn. -/
set_option maxRecDepth 100000 in
set_option maxHeartbeats 4000000 in
theorem f_X12_valuesIn (G : GT) (P : PH) (K : PH) (M : PH) (a1 : Int) (h_a1 : 0 ≤ a1 ∧ a1 ≤ 2147483647) (hB : BdM P) (p_aw : AW K) (p_av : AV K M) (p_az : AZ K M) (v_okC : okC P) (z0 : MKB K P) (z1 : MMB M P) (Q : Option PV → PH → Prop) (hQ : ∀ (P1 : PH) (_ : BdM P1) (_ : FrM ([], [44]) P P1) (_ : ∀ c : Int, 0 ≤ c → c < P 11 (P 0 13) → 0 ≤ P1 44 c ∧ P1 44 c < vals P (P 0 13) (P 12 (4 * P 0 13 + c))) (_ : ∀ c : Int, 0 ≤ c → c < M 0 0 → P1 44 c = vIn K M a1 c), Q none P1) : Ct WSM G 3 iX12_valuesIn [vR 0, vI a1] P Q := by
  sorry
