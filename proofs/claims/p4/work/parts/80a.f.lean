/-! What the reference answers: X12_blame. -/
set_option maxRecDepth 100000 in
set_option maxHeartbeats 4000000 in
theorem f_X12_blame (G : GT) (P : PH) (a1 : Int) (a2 : Int) (h_a1 : 0 ≤ a1 ∧ a1 ≤ 6) (h_a2 : (-1) ≤ a2 ∧ a2 ≤ 1600) (hB : BdM P) (p_k1 : 1 ≤ a1) (v_FP : FP P) (Q : Option PV → PH → Prop) (hQ : ∀ (P1 : PH) (_ : BdM P1) (_ : FrM ([8, 9], []) P P1) (_ : 0 < P1 0 8 ∨ a1 ≤ 0) (_ : P 0 8 ≤ 0 ∨ 0 < P1 0 8) (_ : (0 < P 0 8 ∧ P1 0 8 = P 0 8 ∧ P1 0 9 = P 0 9) ∨ (P 0 8 ≤ 0 ∧ P1 0 8 = a1 ∧ P1 0 9 = a2)) (_ : FP P1), Q none P1) : Ct WSM G 1 iX12_blame [vR 0, vI a1, vI a2] P Q := by
  sorry
/-! What the reference answers: X12_lex. -/
set_option maxRecDepth 100000 in
set_option maxHeartbeats 4000000 in
theorem f_X12_lex (G : GT) (P : PH) (T : TT) (p : Int) (hB : BdM P) (v_FP : FP P) (z0 : CP (P 0 8) (MS T p) P) (Q : Option PV → PH → Prop) (hQ : ∀ (P1 : PH) (_ : BdM P1) (_ : FrM ([8, 9], []) P P1) (_ : P 0 8 ≤ 0 ∨ 0 < P1 0 8) (_ : (0 < P 0 8 ∧ P1 0 8 = P 0 8 ∧ P1 0 9 = P 0 9) ∨ (P 0 8 = 0 ∧ tK T p = 4 ∧ P1 0 8 = 1 ∧ P1 0 9 = tS T p) ∨ (P 0 8 = 0 ∧ tK T p ≠ 4 ∧ P1 0 8 = P 0 8 ∧ P1 0 9 = P 0 9)) (_ : FP P1), Q none P1) : Ct WSM G 2 iX12_lex [vR 0] P Q := by
  sorry
/-! What the reference answers: X12_isSign. -/
set_option maxRecDepth 100000 in
set_option maxHeartbeats 4000000 in
theorem f_X12_isSign (G : GT) (P : PH) (T : TT) (p : Int) (a1 : Int) (h_a1 : (-2147483648) ≤ a1 ∧ a1 ≤ 2147483647) (hB : BdM P) (z0 : MS T p P) (Q : Option PV → PH → Prop) (hQ : ∀ (r : Int) (_ : 0 ≤ r ∧ r ≤ 1) (_ : r = 0 ∨ (P 0 3 = 3 ∧ P 0 6 = a1)) (_ : tK T p = 4 ∨ (r = 1 ∧ tK T p = 3 ∧ tV T p = a1) ∨ (r = 0 ∧ (tK T p ≠ 3 ∨ tV T p ≠ a1))), Q (some (vI r)) P) : Ct WSM G 1 iX12_isSign [vR 0, vI a1] P Q := by
  sorry
/-! What the reference answers: X12_isWord. -/
set_option maxRecDepth 100000 in
set_option maxHeartbeats 4000000 in
theorem f_X12_isWord (G : GT) (P : PH) (T : TT) (p : Int) (a1 : Int) (h_a1 : (-9223372036854775808) ≤ a1 ∧ a1 ≤ 9223372036854775807) (hB : BdM P) (z0 : MS T p P) (Q : Option PV → PH → Prop) (hQ : ∀ (r : Int) (_ : 0 ≤ r ∧ r ≤ 1) (_ : r = 0 ∨ (P 0 3 = 1 ∧ P 0 7 = a1)) (_ : tK T p = 4 ∨ (r = 1 ∧ tK T p = 1 ∧ tW T p = a1) ∨ (r = 0 ∧ (tK T p ≠ 1 ∨ tW T p ≠ a1))), Q (some (vI r)) P) : Ct WSM G 1 iX12_isWord [vR 0, vL a1] P Q := by
  sorry
/-! What the reference answers: X12_isOwn. -/
set_option maxRecDepth 100000 in
set_option maxHeartbeats 4000000 in
theorem f_X12_isOwn (G : GT) (P : PH) (a1 : Int) (h_a1 : (-9223372036854775808) ≤ a1 ∧ a1 ≤ 9223372036854775807) (hB : BdM P) (Q : Option PV → PH → Prop) (hQ : ∀ (r : Int) (_ : 0 ≤ r ∧ r ≤ 1) (_ : (r = 1 ∧ oWS a1) ∨ (r = 0 ∧ ¬ oWS a1)), Q (some (vI r)) P) : Ct WSM G 1 iX12_isOwn [vR 0, vL a1] P Q := by
  sorry
/-! What the reference answers: X12_isKindHere. -/
set_option maxRecDepth 100000 in
set_option maxHeartbeats 4000000 in
theorem f_X12_isKindHere (G : GT) (P : PH) (T : TT) (p : Int) (hB : BdM P) (z0 : MS T p P) (Q : Option PV → PH → Prop) (hQ : ∀ (r : Int) (_ : 0 ≤ r ∧ r ≤ 1) (_ : r = 0 ∨ P 0 3 = 1) (_ : (r = 1 ∧ tK T p = 1 ∧ (tO T p = -1 ∨ tO T p = 7)) ∨ (r = 0 ∧ (tK T p ≠ 1 ∨ (tO T p ≠ -1 ∧ tO T p ≠ 7)))), Q (some (vI r)) P) : Ct WSM G 2 iX12_isKindHere [vR 0] P Q := by
  sorry
/-! What the reference answers: X12_ahead. -/
set_option maxRecDepth 100000 in
set_option maxHeartbeats 4000000 in
theorem f_X12_ahead (G : GT) (P : PH) (T : TT) (p : Int) (hB : BdM P) (p_pp : P 0 5 = p ∧ 0 ≤ p ∧ p ≤ T.2) (z0 : MT T P) (Q : Option PV → PH → Prop) (hQ : ∀ (P1 : PH) (_ : BdM P1) (_ : FrM ([3, 4, 5, 6, 7, 12], []) P P1) (_ : (P1 0 3 = 0 ∨ P1 0 4 + 1 ≤ P1 0 5) ∧ P1 0 4 ≤ P1 0 5) (_ : P 0 5 ≤ P1 0 4) (_ : MS T p P1), Q none P1) : Ct WSM G 2 iX12_ahead [vR 0] P Q := by
  sorry
/-! What the reference answers: X12_must. -/
set_option maxRecDepth 100000 in
set_option maxHeartbeats 4000000 in
theorem f_X12_must (G : GT) (P : PH) (T : TT) (p : Int) (a1 : Int) (h_a1 : (-2147483648) ≤ a1 ∧ a1 ≤ 2147483647) (hB : BdM P) (p_lx : (P 0 3 = 0 ∨ P 0 4 + 1 ≤ P 0 5) ∧ P 0 4 ≤ P 0 5) (v_FP : FP P) (z0 : MT T P) (z1 : MS T p P) (Q : Option PV → PH → Prop) (hQ : ∀ (P1 : PH) (_ : BdM P1) (_ : FrM ([3, 4, 5, 6, 7, 8, 9, 12], []) P P1) (_ : (P1 0 3 = 0 ∨ P1 0 4 + 1 ≤ P1 0 5) ∧ P1 0 4 ≤ P1 0 5) (_ : P 0 4 ≤ P1 0 4) (_ : P 0 8 ≤ 0 ∨ 0 < P1 0 8) (_ : 0 < P1 0 8 ∨ P 0 4 + 1 ≤ P1 0 4) (_ : (0 < P 0 8 ∧ P1 0 8 = P 0 8 ∧ P1 0 9 = P 0 9) ∨ (P 0 8 ≤ 0 ∧ P1 0 8 = (sgn T a1 p).1 ∧ ((sgn T a1 p).1 = 0 ∨ P1 0 9 = (sgn T a1 p).2))) (_ : FP P1) (_ : CP (P1 0 8) (MS T (sgn T a1 p).2) P1), Q none P1) : Ct WSM G 3 iX12_must [vR 0, vI a1] P Q := by
  sorry
/-! What the reference answers: X12_number. -/
set_option maxRecDepth 100000 in
set_option maxHeartbeats 4000000 in
theorem f_X12_number (G : GT) (P : PH) (T : TT) (p : Int) (a1 : Int) (a2 : Int) (h_a1 : (-2147483648) ≤ a1 ∧ a1 ≤ 2147483647) (h_a2 : (-2147483648) ≤ a2 ∧ a2 ≤ 2147483647) (hB : BdM P) (p_lx : (P 0 3 = 0 ∨ P 0 4 + 1 ≤ P 0 5) ∧ P 0 4 ≤ P 0 5) (p_fk : P 0 8 ≤ 0) (v_FP : FP P) (z0 : MT T P) (z1 : MS T p P) (Q : Option PV → PH → Prop) (hQ : ∀ (r : Int) (_ : (-2147483648) ≤ r ∧ r ≤ 2147483647) (P1 : PH) (_ : BdM P1) (_ : FrM ([3, 4, 5, 6, 7, 8, 9, 12], []) P P1) (_ : (P1 0 3 = 0 ∨ P1 0 4 + 1 ≤ P1 0 5) ∧ P1 0 4 ≤ P1 0 5) (_ : P 0 4 ≤ P1 0 4) (_ : P 0 8 ≤ 0 ∨ 0 < P1 0 8) (_ : 0 < P1 0 8 ∨ (a1 ≤ r ∧ r ≤ a2 ∧ P 0 4 + 1 ≤ P1 0 4)) (_ : P1 0 8 = (num T a1 a2 p).1 ∧ ((num T a1 a2 p).1 = 0 ∨ P1 0 9 = (num T a1 a2 p).2)) (_ : (num T a1 a2 p).1 ≠ 0 ∨ r = tV T p) (_ : FP P1) (_ : CP (num T a1 a2 p).1 (MS T (num T a1 a2 p).2) P1), Q (some (vI r)) P1) : Ct WSM G 3 iX12_number [vR 0, vI a1, vI a2] P Q := by
  sorry
/-! What the reference answers: X12_isCounted. -/
set_option maxRecDepth 100000 in
set_option maxHeartbeats 4000000 in
theorem f_X12_isCounted (G : GT) (P : PH) (T : TT) (p : Int) (a1 : Int) (h_a1 : 0 ≤ a1 ∧ a1 ≤ 1) (hB : BdM P) (p_lx : (P 0 3 = 0 ∨ P 0 4 + 1 ≤ P 0 5) ∧ P 0 4 ≤ P 0 5) (p_k1 : 1 ≤ tK T p ∧ tK T p ≤ 3) (v_FP : FP P) (z0 : MT T P) (z1 : MS T p P) (Q : Option PV → PH → Prop) (hQ : ∀ (r : Int) (_ : 0 ≤ r ∧ r ≤ 1) (P1 : PH) (_ : BdM P1) (_ : FrM ([3, 4, 5, 6, 7, 8, 9, 12], []) P P1) (_ : (P1 0 3 = 0 ∨ P1 0 4 + 1 ≤ P1 0 5) ∧ P1 0 4 ≤ P1 0 5) (_ : P 0 4 ≤ P1 0 4) (_ : P 0 8 ≤ 0 ∨ 0 < P1 0 8) (_ : (r = 1 ∧ P1 0 8 ≤ 0 ∧ a1 = 0) ∨ (r = 0 ∧ 0 < P1 0 8)) (_ : r = 0 ∨ P 0 3 = 0 ∨ P 0 4 + 1 ≤ P1 0 4) (_ : (0 < P 0 8 ∧ P1 0 8 = P 0 8 ∧ P1 0 9 = P 0 9 ∧ r = 0) ∨ (P 0 8 ≤ 0 ∧ a1 = 1 ∧ P1 0 8 = 6 ∧ P1 0 9 = tA T p ∧ r = 0) ∨ (P 0 8 ≤ 0 ∧ a1 = 0 ∧ P1 0 8 = 0 ∧ r = 1)) (_ : FP P1) (_ : CP (P1 0 8) (MS T (tE T p)) P1), Q (some (vI r)) P1) : Ct WSM G 3 iX12_isCounted [vR 0, vI a1] P Q := by
  sorry
/-! What the reference answers: X12_kindNamed. -/
set_option maxRecDepth 100000 in
set_option maxHeartbeats 4000000 in
theorem f_X12_kindNamed (G : GT) (P : PH) (a1 : Int) (h_a1 : (-9223372036854775808) ≤ a1 ∧ a1 ≤ 9223372036854775807) (hB : BdM P) (Q : Option PV → PH → Prop) (hQ : ∀ (r : Int) (_ : (-1) ≤ r ∧ r ≤ 3) (_ : r < P 2 (P 0 37)) (_ : r = fxi (fun i => P 22 (4 * P 0 37 + i)) a1 (P 2 (P 0 37)).toNat), Q (some (vI r)) P) : Ct WSM G 1 iX12_kindNamed [vR 0, vL a1] P Q := by
  sorry
/-! What the reference answers: X12_conNamed. -/
set_option maxRecDepth 100000 in
set_option maxHeartbeats 4000000 in
theorem f_X12_conNamed (G : GT) (P : PH) (a1 : Int) (a2 : Int) (h_a1 : 0 ≤ a1 ∧ a1 ≤ 1) (h_a2 : (-9223372036854775808) ≤ a2 ∧ a2 ≤ 9223372036854775807) (hB : BdM P) (Q : Option PV → PH → Prop) (hQ : ∀ (r : Int) (_ : (-1) ≤ r ∧ r ≤ 23) (_ : r < P 5 a1 ∨ r = -1) (_ : r = fxi (fun i => P 23 (24 * a1 + i)) a2 (P 5 (a1)).toNat), Q (some (vI r)) P) : Ct WSM G 1 iX12_conNamed [vR 0, vI a1, vL a2] P Q := by
  sorry
/-! What the reference answers: X12_fresh. -/
set_option maxRecDepth 100000 in
set_option maxHeartbeats 4000000 in
theorem f_X12_fresh (G : GT) (P : PH) (T : TT) (K : PH) (p : Int) (hB : BdM P) (p_lx : (P 0 3 = 0 ∨ P 0 4 + 1 ≤ P 0 5) ∧ P 0 4 ≤ P 0 5) (p_fk : P 0 8 ≤ 0) (p_aw : AW K) (v_FP : FP P) (z0 : MT T P) (z1 : MS T p P) (z2 : MK K P) (Q : Option PV → PH → Prop) (hQ : ∀ (r : Int) (_ : (-9223372036854775808) ≤ r ∧ r ≤ 9223372036854775807) (P1 : PH) (_ : BdM P1) (_ : FrM ([3, 4, 5, 6, 7, 8, 9, 12], []) P P1) (_ : (P1 0 3 = 0 ∨ P1 0 4 + 1 ≤ P1 0 5) ∧ P1 0 4 ≤ P1 0 5) (_ : P 0 4 ≤ P1 0 4) (_ : P 0 8 ≤ 0 ∨ 0 < P1 0 8) (_ : P1 0 8 = (fre T K p).1 ∧ ((fre T K p).1 = 0 ∨ P1 0 9 = (fre T K p).2)) (_ : (fre T K p).1 ≠ 0 ∨ (r = tW T p ∧ tK T p = 1)) (_ : FP P1) (_ : CP (fre T K p).1 (MS T (fre T K p).2) P1), Q (some (vL r)) P1) : Ct WSM G 3 iX12_fresh [vR 0] P Q := by
  sorry
/-! What the reference answers: X12_known. -/
set_option maxRecDepth 100000 in
set_option maxHeartbeats 4000000 in
theorem f_X12_known (G : GT) (P : PH) (T : TT) (K : PH) (p : Int) (a1 : Int) (h_a1 : (-1) ≤ a1 ∧ a1 ≤ 4) (hB : BdM P) (p_lx : (P 0 3 = 0 ∨ P 0 4 + 1 ≤ P 0 5) ∧ P 0 4 ≤ P 0 5) (p_aw : AW K) (p_kw : tK T p = 1 ∧ (tO T p = -1 ∨ tO T p = 7)) (v_FP : FP P) (z0 : MS T p P) (z1 : MK K P) (Q : Option PV → PH → Prop) (hQ : ∀ (r : Int) (_ : 0 ≤ r ∧ r ≤ 4) (P1 : PH) (_ : BdM P1) (_ : FrM ([8, 9], []) P P1) (_ : (P1 0 3 = 0 ∨ P1 0 4 + 1 ≤ P1 0 5) ∧ P1 0 4 ≤ P1 0 5) (_ : P 0 4 ≤ P1 0 4) (_ : P 0 8 ≤ 0 ∨ 0 < P1 0 8) (_ : 0 < P1 0 8 ∨ r = 4 ∨ (r < a1 ∧ 1 ≤ P1 3 (4 * P 0 37 + r) ∧ r < P1 2 (P 0 37))) (_ : (0 < P 0 8 ∧ P1 0 8 = P 0 8 ∧ P1 0 9 = P 0 9) ∨ (P 0 8 ≤ 0 ∧ tO T p = -1 ∧ (kHe T K p = -1 ∨ a1 ≤ kHe T K p ∨ K 2 (kHe T K p) = 0) ∧ P1 0 8 = 3 ∧ P1 0 9 = tA T p) ∨ (P 0 8 ≤ 0 ∧ P1 0 8 = 0 ∧ ((tO T p = 7 ∧ r = 4 ∧ kHe T K p = -1) ∨ (tO T p = -1 ∧ r = kHe T K p ∧ 0 ≤ r ∧ r ≤ 3 ∧ r < a1 ∧ 1 ≤ K 2 (kHe T K p))))) (_ : FP P1), Q (some (vI r)) P1) : Ct WSM G 3 iX12_known [vR 0, vI a1] P Q := by
  sorry
/-! What the reference answers: X12_kindIs. -/
set_option maxRecDepth 100000 in
set_option maxHeartbeats 4000000 in
theorem f_X12_kindIs (G : GT) (P : PH) (T : TT) (K : PH) (M : PH) (p : Int) (hB : BdM P) (p_lx : (P 0 3 = 0 ∨ P 0 4 + 1 ≤ P 0 5) ∧ P 0 4 ≤ P 0 5) (p_fk : P 0 8 ≤ 0) (p_aw : AW K) (p_k0 : tO T p = 0) (v_KVP : KVP P) (v_KC : KC P) (v_CF : CF P) (v_ZT : ZT P) (v_ZO : ZO P) (v_ZC : ZC P) (v_ZI : ZI P) (v_FP : FP P) (z0 : MT T P) (z1 : MS T p P) (z2 : MK K P) (z3 : MM M P) (z4 : MTl M P) (Q : Option PV → PH → Prop) (hQ : ∀ (P1 : PH) (_ : BdM P1) (_ : FrM ([3, 4, 5, 6, 7, 8, 9, 12], [2, 3, 4, 22]) P P1) (_ : (P1 0 3 = 0 ∨ P1 0 4 + 1 ≤ P1 0 5) ∧ P1 0 4 ≤ P1 0 5) (_ : P 0 4 ≤ P1 0 4) (_ : P 0 8 ≤ 0 ∨ 0 < P1 0 8) (_ : 0 < P1 0 8 ∨ P 0 38 = 0) (_ : P1 0 8 = (sKi T K M p).1 ∧ ((sKi T K M p).1 = 0 ∨ P1 0 9 = (sKi T K M p).2)) (_ : KVP P1) (_ : KC P1) (_ : CF P1) (_ : ZT P1) (_ : ZO P1) (_ : ZC P1) (_ : FP P1) (_ : CP (sKi T K M p).1 (MS T (sKi T K M p).2) P1) (_ : CP (sKi T K M p).1 (MK (kNew K (tV T (tE T p)))) P1) (_ : KB (P 0 37) P P1), Q none P1) : Ct WSM G 4 iX12_kindIs [vR 0] P Q := by
  sorry
/-! What the reference answers: X12_ruleIs. -/
set_option maxRecDepth 100000 in
set_option maxHeartbeats 4000000 in
theorem f_X12_ruleIs (G : GT) (P : PH) (T : TT) (K : PH) (M : PH) (p : Int) (hB : BdM P) (p_lx : (P 0 3 = 0 ∨ P 0 4 + 1 ≤ P 0 5) ∧ P 0 4 ≤ P 0 5) (p_fk : P 0 8 ≤ 0) (p_k0 : tO T p = 5) (v_FP : FP P) (z0 : MT T P) (z1 : MS T p P) (z2 : MM M P) (Q : Option PV → PH → Prop) (hQ : ∀ (P1 : PH) (_ : BdM P1) (_ : FrM ([3, 4, 5, 6, 7, 8, 9, 12], [15]) P P1) (_ : (P1 0 3 = 0 ∨ P1 0 4 + 1 ≤ P1 0 5) ∧ P1 0 4 ≤ P1 0 5) (_ : P 0 4 ≤ P1 0 4) (_ : P 0 8 ≤ 0 ∨ 0 < P1 0 8) (_ : P1 0 8 = (num T 0 3 (tE T p)).1 ∧ ((num T 0 3 (tE T p)).1 = 0 ∨ P1 0 9 = (num T 0 3 (tE T p)).2)) (_ : FP P1) (_ : CP (num T 0 3 (tE T p)).1 (MS T (num T 0 3 (tE T p)).2) P1) (_ : CP (num T 0 3 (tE T p)).1 (MM (up M 0 3 (tV T (tE T p)))) P1) (_ : KB (P 0 37) P P1), Q none P1) : Ct WSM G 4 iX12_ruleIs [vR 0] P Q := by
  sorry
/-! What the reference answers: X12_budgetIs. -/
set_option maxRecDepth 100000 in
set_option maxHeartbeats 4000000 in
theorem f_X12_budgetIs (G : GT) (P : PH) (T : TT) (K : PH) (M : PH) (p : Int) (hB : BdM P) (p_lx : (P 0 3 = 0 ∨ P 0 4 + 1 ≤ P 0 5) ∧ P 0 4 ≤ P 0 5) (p_fk : P 0 8 ≤ 0) (p_k0 : tO T p = 6) (v_FP : FP P) (z0 : MT T P) (z1 : MS T p P) (z2 : MM M P) (Q : Option PV → PH → Prop) (hQ : ∀ (P1 : PH) (_ : BdM P1) (_ : FrM ([3, 4, 5, 6, 7, 8, 9, 12], [16]) P P1) (_ : (P1 0 3 = 0 ∨ P1 0 4 + 1 ≤ P1 0 5) ∧ P1 0 4 ≤ P1 0 5) (_ : P 0 4 ≤ P1 0 4) (_ : P 0 8 ≤ 0 ∨ 0 < P1 0 8) (_ : 0 < P1 0 8 ∨ (1 ≤ P1 16 (P 0 37) ∧ P1 16 (P 0 37) ≤ 999)) (_ : ∀ j : Int, j ≠ P 0 37 → P1 16 j = P 16 j) (_ : P1 0 8 = (num T 1 999 (tE T p)).1 ∧ ((num T 1 999 (tE T p)).1 = 0 ∨ P1 0 9 = (num T 1 999 (tE T p)).2)) (_ : FP P1) (_ : CP (num T 1 999 (tE T p)).1 (MS T (num T 1 999 (tE T p)).2) P1) (_ : CP (num T 1 999 (tE T p)).1 (MM (up M 0 4 (tV T (tE T p)))) P1) (_ : KB (P 0 37) P P1), Q none P1) : Ct WSM G 4 iX12_budgetIs [vR 0] P Q := by
  sorry
