/-! What the reference answers: X12_blame. -/
set_option maxRecDepth 100000 in
set_option maxHeartbeats 4000000 in
theorem f_X12_blame (G : GT) (P : PH) (a1 : Int) (a2 : Int) (h_a1 : 0 ≤ a1 ∧ a1 ≤ 6) (h_a2 : (-1) ≤ a2 ∧ a2 ≤ 1600) (hB : BdM P) (p_k1 : 1 ≤ a1) (v_FP : FP P) (Q : Option PV → PH → Prop) (hQ : ∀ (P1 : PH) (_ : BdM P1) (_ : FrM ([8, 9], []) P P1) (_ : 0 < P1 0 8 ∨ a1 ≤ 0) (_ : P 0 8 ≤ 0 ∨ 0 < P1 0 8) (_ : (0 < P 0 8 ∧ P1 0 8 = P 0 8 ∧ P1 0 9 = P 0 9) ∨ (P 0 8 ≤ 0 ∧ P1 0 8 = a1 ∧ P1 0 9 = a2)) (_ : FP P1), Q none P1) : Ct WSM G 1 iX12_blame [vR 0, vI a1, vI a2] P Q := by
  sorry
/-! What the reference answers: X12_lex. -/
set_option maxRecDepth 100000 in
set_option maxHeartbeats 4000000 in
theorem f_X12_lex (G : GT) (P : PH) (T : TT) (p : Int) (hB : BdM P) (v_FP : FP P) (z0 : CP (P 0 8) (MS T p) P) (Q : Option PV → PH → Prop) (hQ : ∀ (P1 : PH) (_ : BdM P1) (_ : FrM ([8, 9], []) P P1) (_ : P 0 8 ≤ 0 ∨ 0 < P1 0 8) (_ : (0 < P 0 8 ∧ P1 0 8 = P 0 8 ∧ P1 0 9 = P 0 9) ∨ (P 0 8 = 0 ∧ tK T p = 4 ∧ P1 0 8 = 1 ∧ P1 0 9 = tS T p) ∨ (P 0 8 = 0 ∧ tK T p ≠ 4 ∧ P1 0 8 = P 0 8 ∧ P1 0 9 = P 0 9)) (_ : FP P1), Q none P1) : Ct WSM G 2 iX12_lex [vR 0] P Q := by
  sorry
/-! What the reference answers: X12_isSign. -/
set_option maxRecDepth 100000 in
set_option maxHeartbeats 4000000 in
theorem f_X12_isSign (G : GT) (P : PH) (T : TT) (p : Int) (a1 : Int) (h_a1 : (-2147483648) ≤ a1 ∧ a1 ≤ 2147483647) (hB : BdM P) (z0 : MS T p P) (Q : Option PV → PH → Prop) (hQ : ∀ (r : Int) (_ : 0 ≤ r ∧ r ≤ 1) (_ : r = 0 ∨ (P 0 3 = 3 ∧ P 0 6 = a1)) (_ : tK T p = 4 ∨ (r = 1 ∧ tK T p = 3 ∧ tV T p = a1) ∨ (r = 0 ∧ (tK T p ≠ 3 ∨ tV T p ≠ a1))), Q (some (vI r)) P) : Ct WSM G 1 iX12_isSign [vR 0, vI a1] P Q := by
  sorry
/-! What the reference answers: X12_isWord. -/
set_option maxRecDepth 100000 in
set_option maxHeartbeats 4000000 in
theorem f_X12_isWord (G : GT) (P : PH) (T : TT) (p : Int) (a1 : Int) (h_a1 : (-9223372036854775808) ≤ a1 ∧ a1 ≤ 9223372036854775807) (hB : BdM P) (z0 : MS T p P) (Q : Option PV → PH → Prop) (hQ : ∀ (r : Int) (_ : 0 ≤ r ∧ r ≤ 1) (_ : r = 0 ∨ (P 0 3 = 1 ∧ P 0 7 = a1)) (_ : tK T p = 4 ∨ (r = 1 ∧ tK T p = 1 ∧ tW T p = a1) ∨ (r = 0 ∧ (tK T p ≠ 1 ∨ tW T p ≠ a1))), Q (some (vI r)) P) : Ct WSM G 1 iX12_isWord [vR 0, vL a1] P Q := by
  sorry
/-! What the reference answers: X12_isOwn. -/
set_option maxRecDepth 100000 in
set_option maxHeartbeats 4000000 in
theorem f_X12_isOwn (G : GT) (P : PH) (a1 : Int) (h_a1 : (-9223372036854775808) ≤ a1 ∧ a1 ≤ 9223372036854775807) (hB : BdM P) (Q : Option PV → PH → Prop) (hQ : ∀ (r : Int) (_ : 0 ≤ r ∧ r ≤ 1) (_ : (r = 1 ∧ oWS a1) ∨ (r = 0 ∧ ¬ oWS a1)), Q (some (vI r)) P) : Ct WSM G 1 iX12_isOwn [vR 0, vL a1] P Q := by
  sorry
/-! What the reference answers: X12_isKindHere. -/
set_option maxRecDepth 100000 in
set_option maxHeartbeats 4000000 in
theorem f_X12_isKindHere (G : GT) (P : PH) (T : TT) (p : Int) (hB : BdM P) (z0 : MS T p P) (Q : Option PV → PH → Prop) (hQ : ∀ (r : Int) (_ : 0 ≤ r ∧ r ≤ 1) (_ : r = 0 ∨ P 0 3 = 1) (_ : (r = 1 ∧ tK T p = 1 ∧ (tO T p = -1 ∨ tO T p = 7)) ∨ (r = 0 ∧ (tK T p ≠ 1 ∨ (tO T p ≠ -1 ∧ tO T p ≠ 7)))), Q (some (vI r)) P) : Ct WSM G 2 iX12_isKindHere [vR 0] P Q := by
  sorry
/-! What the reference answers: X12_ahead. -/
set_option maxRecDepth 100000 in
set_option maxHeartbeats 4000000 in
theorem f_X12_ahead (G : GT) (P : PH) (T : TT) (p : Int) (hB : BdM P) (p_pp : P 0 5 = p ∧ 0 ≤ p ∧ p ≤ T.2) (z0 : MT T P) (Q : Option PV → PH → Prop) (hQ : ∀ (P1 : PH) (_ : BdM P1) (_ : FrM ([3, 4, 5, 6, 7, 12], []) P P1) (_ : (P1 0 3 = 0 ∨ P1 0 4 + 1 ≤ P1 0 5) ∧ P1 0 4 ≤ P1 0 5) (_ : P 0 5 ≤ P1 0 4) (_ : MS T p P1), Q none P1) : Ct WSM G 2 iX12_ahead [vR 0] P Q := by
  sorry
/-! What the reference answers: X12_must. -/
set_option maxRecDepth 100000 in
set_option maxHeartbeats 4000000 in
theorem f_X12_must (G : GT) (P : PH) (T : TT) (p : Int) (a1 : Int) (h_a1 : (-2147483648) ≤ a1 ∧ a1 ≤ 2147483647) (hB : BdM P) (p_lx : (P 0 3 = 0 ∨ P 0 4 + 1 ≤ P 0 5) ∧ P 0 4 ≤ P 0 5) (v_FP : FP P) (z0 : MT T P) (z1 : MS T p P) (Q : Option PV → PH → Prop) (hQ : ∀ (P1 : PH) (_ : BdM P1) (_ : FrM ([3, 4, 5, 6, 7, 8, 9, 12], []) P P1) (_ : (P1 0 3 = 0 ∨ P1 0 4 + 1 ≤ P1 0 5) ∧ P1 0 4 ≤ P1 0 5) (_ : P 0 4 ≤ P1 0 4) (_ : P 0 8 ≤ 0 ∨ 0 < P1 0 8) (_ : 0 < P1 0 8 ∨ P 0 4 + 1 ≤ P1 0 4) (_ : (0 < P 0 8 ∧ P1 0 8 = P 0 8 ∧ P1 0 9 = P 0 9) ∨ (P 0 8 ≤ 0 ∧ P1 0 8 = (sgn T a1 p).1 ∧ ((sgn T a1 p).1 = 0 ∨ P1 0 9 = (sgn T a1 p).2))) (_ : FP P1) (_ : CP (P1 0 8) (MS T (sgn T a1 p).2) P1), Q none P1) : Ct WSM G 3 iX12_must [vR 0, vI a1] P Q := by
  sorry
/-! What the reference answers: X12_number. -/
set_option maxRecDepth 100000 in
set_option maxHeartbeats 4000000 in
theorem f_X12_number (G : GT) (P : PH) (T : TT) (p : Int) (a1 : Int) (a2 : Int) (h_a1 : (-2147483648) ≤ a1 ∧ a1 ≤ 2147483647) (h_a2 : (-2147483648) ≤ a2 ∧ a2 ≤ 2147483647) (hB : BdM P) (p_lx : (P 0 3 = 0 ∨ P 0 4 + 1 ≤ P 0 5) ∧ P 0 4 ≤ P 0 5) (p_fk : P 0 8 ≤ 0) (v_FP : FP P) (z0 : MT T P) (z1 : MS T p P) (Q : Option PV → PH → Prop) (hQ : ∀ (r : Int) (_ : (-2147483648) ≤ r ∧ r ≤ 2147483647) (P1 : PH) (_ : BdM P1) (_ : FrM ([3, 4, 5, 6, 7, 8, 9, 12], []) P P1) (_ : (P1 0 3 = 0 ∨ P1 0 4 + 1 ≤ P1 0 5) ∧ P1 0 4 ≤ P1 0 5) (_ : P 0 4 ≤ P1 0 4) (_ : P 0 8 ≤ 0 ∨ 0 < P1 0 8) (_ : 0 < P1 0 8 ∨ (a1 ≤ r ∧ r ≤ a2 ∧ P 0 4 + 1 ≤ P1 0 4)) (_ : P1 0 8 = (num T a1 a2 p).1 ∧ ((num T a1 a2 p).1 = 0 ∨ P1 0 9 = (num T a1 a2 p).2)) (_ : (num T a1 a2 p).1 ≠ 0 ∨ r = tV T p) (_ : FP P1) (_ : CP (num T a1 a2 p).1 (MS T (num T a1 a2 p).2) P1), Q (some (vI r)) P1) : Ct WSM G 3 iX12_number [vR 0, vI a1, vI a2] P Q := by
  sorry
/-! What the reference answers: X12_isCounted. -/
set_option maxRecDepth 100000 in
set_option maxHeartbeats 4000000 in
theorem f_X12_isCounted (G : GT) (P : PH) (T : TT) (p : Int) (a1 : Int) (h_a1 : 0 ≤ a1 ∧ a1 ≤ 1) (hB : BdM P) (p_lx : (P 0 3 = 0 ∨ P 0 4 + 1 ≤ P 0 5) ∧ P 0 4 ≤ P 0 5) (p_k1 : 1 ≤ tK T p ∧ tK T p ≤ 3) (v_FP : FP P) (z0 : MT T P) (z1 : MS T p P) (Q : Option PV → PH → Prop) (hQ : ∀ (r : Int) (_ : 0 ≤ r ∧ r ≤ 1) (P1 : PH) (_ : BdM P1) (_ : FrM ([3, 4, 5, 6, 7, 8, 9, 12], []) P P1) (_ : (P1 0 3 = 0 ∨ P1 0 4 + 1 ≤ P1 0 5) ∧ P1 0 4 ≤ P1 0 5) (_ : P 0 4 ≤ P1 0 4) (_ : P 0 8 ≤ 0 ∨ 0 < P1 0 8) (_ : (r = 1 ∧ P1 0 8 ≤ 0 ∧ a1 = 0) ∨ (r = 0 ∧ 0 < P1 0 8)) (_ : r = 0 ∨ P 0 3 = 0 ∨ P 0 4 + 1 ≤ P1 0 4) (_ : (0 < P 0 8 ∧ P1 0 8 = P 0 8 ∧ P1 0 9 = P 0 9 ∧ r = 0) ∨ (P 0 8 ≤ 0 ∧ a1 = 1 ∧ P1 0 8 = 6 ∧ P1 0 9 = tA T p ∧ r = 0) ∨ (P 0 8 ≤ 0 ∧ a1 = 0 ∧ P1 0 8 = 0 ∧ r = 1)) (_ : FP P1) (_ : CP (P1 0 8) (MS T (tE T p)) P1), Q (some (vI r)) P1) : Ct WSM G 3 iX12_isCounted [vR 0, vI a1] P Q := by
  sorry
/-! What the reference answers: X12_kindNamed. -/
set_option maxRecDepth 100000 in
set_option maxHeartbeats 4000000 in
theorem f_X12_kindNamed (G : GT) (P : PH) (a1 : Int) (h_a1 : (-9223372036854775808) ≤ a1 ∧ a1 ≤ 9223372036854775807) (hB : BdM P) (Q : Option PV → PH → Prop) (hQ : ∀ (r : Int) (_ : (-1) ≤ r ∧ r ≤ 3) (_ : r < P 2 (P 0 37)) (_ : r = fxi (fun i => P 22 (4 * P 0 37 + i)) a1 (P 2 (P 0 37)).toNat), Q (some (vI r)) P) : Ct WSM G 1 iX12_kindNamed [vR 0, vL a1] P Q := by
  sorry
/-! What the reference answers: X12_conNamed. -/
set_option maxRecDepth 100000 in
set_option maxHeartbeats 4000000 in
theorem f_X12_conNamed (G : GT) (P : PH) (a1 : Int) (a2 : Int) (h_a1 : 0 ≤ a1 ∧ a1 ≤ 1) (h_a2 : (-9223372036854775808) ≤ a2 ∧ a2 ≤ 9223372036854775807) (hB : BdM P) (Q : Option PV → PH → Prop) (hQ : ∀ (r : Int) (_ : (-1) ≤ r ∧ r ≤ 23) (_ : r < P 5 a1 ∨ r = -1) (_ : r = fxi (fun i => P 23 (24 * a1 + i)) a2 (P 5 (a1)).toNat), Q (some (vI r)) P) : Ct WSM G 1 iX12_conNamed [vR 0, vI a1, vL a2] P Q := by
  sorry
/-! What the reference answers: X12_fresh. -/
set_option maxRecDepth 100000 in
set_option maxHeartbeats 4000000 in
theorem f_X12_fresh (G : GT) (P : PH) (T : TT) (K : PH) (p : Int) (hB : BdM P) (p_lx : (P 0 3 = 0 ∨ P 0 4 + 1 ≤ P 0 5) ∧ P 0 4 ≤ P 0 5) (p_fk : P 0 8 ≤ 0) (p_aw : AW K) (v_FP : FP P) (z0 : MT T P) (z1 : MS T p P) (z2 : MK K P) (Q : Option PV → PH → Prop) (hQ : ∀ (r : Int) (_ : (-9223372036854775808) ≤ r ∧ r ≤ 9223372036854775807) (P1 : PH) (_ : BdM P1) (_ : FrM ([3, 4, 5, 6, 7, 8, 9, 12], []) P P1) (_ : (P1 0 3 = 0 ∨ P1 0 4 + 1 ≤ P1 0 5) ∧ P1 0 4 ≤ P1 0 5) (_ : P 0 4 ≤ P1 0 4) (_ : P 0 8 ≤ 0 ∨ 0 < P1 0 8) (_ : P1 0 8 = (fre T K p).1 ∧ ((fre T K p).1 = 0 ∨ P1 0 9 = (fre T K p).2)) (_ : (fre T K p).1 ≠ 0 ∨ (r = tW T p ∧ tK T p = 1)) (_ : FP P1) (_ : CP (fre T K p).1 (MS T (fre T K p).2) P1), Q (some (vL r)) P1) : Ct WSM G 3 iX12_fresh [vR 0] P Q := by
  sorry
/-! What the reference answers: X12_known. -/
set_option maxRecDepth 100000 in
set_option maxHeartbeats 4000000 in
theorem f_X12_known (G : GT) (P : PH) (T : TT) (K : PH) (p : Int) (a1 : Int) (h_a1 : (-1) ≤ a1 ∧ a1 ≤ 4) (hB : BdM P) (p_lx : (P 0 3 = 0 ∨ P 0 4 + 1 ≤ P 0 5) ∧ P 0 4 ≤ P 0 5) (p_aw : AW K) (p_kw : tK T p = 1 ∧ (tO T p = -1 ∨ tO T p = 7)) (v_FP : FP P) (z0 : MS T p P) (z1 : MK K P) (Q : Option PV → PH → Prop) (hQ : ∀ (r : Int) (_ : 0 ≤ r ∧ r ≤ 4) (P1 : PH) (_ : BdM P1) (_ : FrM ([8, 9], []) P P1) (_ : (P1 0 3 = 0 ∨ P1 0 4 + 1 ≤ P1 0 5) ∧ P1 0 4 ≤ P1 0 5) (_ : P 0 4 ≤ P1 0 4) (_ : P 0 8 ≤ 0 ∨ 0 < P1 0 8) (_ : 0 < P1 0 8 ∨ r = 4 ∨ (r < a1 ∧ 1 ≤ P1 3 (4 * P 0 37 + r) ∧ r < P1 2 (P 0 37))) (_ : (0 < P 0 8 ∧ P1 0 8 = P 0 8 ∧ P1 0 9 = P 0 9) ∨ (P 0 8 ≤ 0 ∧ tO T p = -1 ∧ (kHe T K p = -1 ∨ a1 ≤ kHe T K p ∨ K 2 (kHe T K p) = 0) ∧ P1 0 8 = 3 ∧ P1 0 9 = tA T p) ∨ (P 0 8 ≤ 0 ∧ P1 0 8 = 0 ∧ ((tO T p = 7 ∧ r = 4 ∧ kHe T K p = -1) ∨ (tO T p = -1 ∧ r = kHe T K p ∧ 0 ≤ r ∧ r ≤ 3 ∧ r < a1 ∧ 1 ≤ K 2 (kHe T K p))))) (_ : FP P1), Q (some (vI r)) P1) : Ct WSM G 3 iX12_known [vR 0, vI a1] P Q := by
  sorry
/-! What the reference answers: X12_kindIs. -/
set_option maxRecDepth 100000 in
set_option maxHeartbeats 4000000 in
theorem f_X12_kindIs (G : GT) (P : PH) (T : TT) (K : PH) (M : PH) (p : Int) (hB : BdM P) (p_lx : (P 0 3 = 0 ∨ P 0 4 + 1 ≤ P 0 5) ∧ P 0 4 ≤ P 0 5) (p_fk : P 0 8 ≤ 0) (p_aw : AW K) (p_k0 : tO T p = 0) (v_KVP : KVP P) (v_KC : KC P) (v_CF : CF P) (v_ZT : ZT P) (v_ZO : ZO P) (v_ZC : ZC P) (v_ZI : ZI P) (v_FP : FP P) (z0 : MT T P) (z1 : MS T p P) (z2 : MK K P) (z3 : MM M P) (z4 : MTl M P) (Q : Option PV → PH → Prop) (hQ : ∀ (P1 : PH) (_ : BdM P1) (_ : FrM ([3, 4, 5, 6, 7, 8, 9, 12], [2, 3, 4, 22]) P P1) (_ : (P1 0 3 = 0 ∨ P1 0 4 + 1 ≤ P1 0 5) ∧ P1 0 4 ≤ P1 0 5) (_ : P 0 4 ≤ P1 0 4) (_ : P 0 8 ≤ 0 ∨ 0 < P1 0 8) (_ : 0 < P1 0 8 ∨ P 0 38 = 0) (_ : P1 0 8 = (sKi T K M p).1 ∧ ((sKi T K M p).1 = 0 ∨ P1 0 9 = (sKi T K M p).2)) (_ : KVP P1) (_ : KC P1) (_ : CF P1) (_ : ZT P1) (_ : ZO P1) (_ : ZC P1) (_ : FP P1) (_ : CP (sKi T K M p).1 (MS T (sKi T K M p).2) P1) (_ : CP (sKi T K M p).1 (MK (kNew K (tV T (tE T p)))) P1) (_ : KB (P 0 37) P P1), Q none P1) : Ct WSM G 4 iX12_kindIs [vR 0] P Q := by
  sorry
/-! What the reference answers: X12_ruleIs. -/
set_option maxRecDepth 100000 in
set_option maxHeartbeats 4000000 in
theorem f_X12_ruleIs (G : GT) (P : PH) (T : TT) (K : PH) (M : PH) (p : Int) (hB : BdM P) (p_lx : (P 0 3 = 0 ∨ P 0 4 + 1 ≤ P 0 5) ∧ P 0 4 ≤ P 0 5) (p_fk : P 0 8 ≤ 0) (p_k0 : tO T p = 5) (v_FP : FP P) (z0 : MT T P) (z1 : MS T p P) (z2 : MM M P) (Q : Option PV → PH → Prop) (hQ : ∀ (P1 : PH) (_ : BdM P1) (_ : FrM ([3, 4, 5, 6, 7, 8, 9, 12], [15]) P P1) (_ : (P1 0 3 = 0 ∨ P1 0 4 + 1 ≤ P1 0 5) ∧ P1 0 4 ≤ P1 0 5) (_ : P 0 4 ≤ P1 0 4) (_ : P 0 8 ≤ 0 ∨ 0 < P1 0 8) (_ : P1 0 8 = (num T 0 3 (tE T p)).1 ∧ ((num T 0 3 (tE T p)).1 = 0 ∨ P1 0 9 = (num T 0 3 (tE T p)).2)) (_ : FP P1) (_ : CP (num T 0 3 (tE T p)).1 (MS T (num T 0 3 (tE T p)).2) P1) (_ : CP (num T 0 3 (tE T p)).1 (MM (up M 0 3 (tV T (tE T p)))) P1) (_ : KB (P 0 37) P P1), Q none P1) : Ct WSM G 4 iX12_ruleIs [vR 0] P Q := by
  sorry
/-! What the reference answers: X12_budgetIs. -/
set_option maxRecDepth 100000 in
set_option maxHeartbeats 4000000 in
theorem f_X12_budgetIs (G : GT) (P : PH) (T : TT) (K : PH) (M : PH) (p : Int) (hB : BdM P) (p_lx : (P 0 3 = 0 ∨ P 0 4 + 1 ≤ P 0 5) ∧ P 0 4 ≤ P 0 5) (p_fk : P 0 8 ≤ 0) (p_k0 : tO T p = 6) (v_FP : FP P) (z0 : MT T P) (z1 : MS T p P) (z2 : MM M P) (Q : Option PV → PH → Prop) (hQ : ∀ (P1 : PH) (_ : BdM P1) (_ : FrM ([3, 4, 5, 6, 7, 8, 9, 12], [16]) P P1) (_ : (P1 0 3 = 0 ∨ P1 0 4 + 1 ≤ P1 0 5) ∧ P1 0 4 ≤ P1 0 5) (_ : P 0 4 ≤ P1 0 4) (_ : P 0 8 ≤ 0 ∨ 0 < P1 0 8) (_ : 0 < P1 0 8 ∨ (1 ≤ P1 16 (P 0 37) ∧ P1 16 (P 0 37) ≤ 999)) (_ : ∀ j : Int, j ≠ P 0 37 → P1 16 j = P 16 j) (_ : P1 0 8 = (num T 1 999 (tE T p)).1 ∧ ((num T 1 999 (tE T p)).1 = 0 ∨ P1 0 9 = (num T 1 999 (tE T p)).2)) (_ : FP P1) (_ : CP (num T 1 999 (tE T p)).1 (MS T (num T 1 999 (tE T p)).2) P1) (_ : CP (num T 1 999 (tE T p)).1 (MM (up M 0 4 (tV T (tE T p)))) P1) (_ : KB (P 0 37) P P1), Q none P1) : Ct WSM G 4 iX12_budgetIs [vR 0] P Q := by
  sorry
/-! What the reference answers: X12_conIs. -/
set_option maxRecDepth 100000 in
set_option maxHeartbeats 40000000 in
theorem f_X12_conIs (G : GT) (P : PH) (T : TT) (K : PH) (M : PH) (p : Int) (hB : BdM P) (p_lx : (P 0 3 = 0 ∨ P 0 4 + 1 ≤ P 0 5) ∧ P 0 4 ≤ P 0 5) (p_fk : P 0 8 ≤ 0) (p_aw : AW K) (p_k0 : tO T p = 1) (v_KVP : KVP P) (v_KC : KC P) (v_CF : CF P) (v_ZT : ZT P) (v_ZO : ZO P) (v_ZC : ZC P) (v_ZI : ZI P) (v_ZS : ZS P) (v_FP : FP P) (z0 : MT T P) (z1 : MS T p P) (z2 : MK K P) (z3 : MM M P) (z4 : MTl M P) (Q : Option PV → PH → Prop) (hQ : ∀ (P1 : PH) (_ : BdM P1) (_ : FrM ([3, 4, 5, 6, 7, 8, 9, 12], [3, 4, 5, 6, 7, 8, 9, 10, 23]) P P1) (_ : (P1 0 3 = 0 ∨ P1 0 4 + 1 ≤ P1 0 5) ∧ P1 0 4 ≤ P1 0 5) (_ : P 0 4 ≤ P1 0 4) (_ : P 0 8 ≤ 0 ∨ 0 < P1 0 8) (_ : 0 < P1 0 8 ∨ P 0 38 = 0) (_ : (P1 0 8 = (sCo T K M p).1 ∧ ((sCo T K M p).1 = 0 ∨ P1 0 9 = (sCo T K M p).2)) ∨ ((sCo T K M p).1 = 0 ∧ tK T (sCo T K M p).2 = 4 ∧ P1 0 8 = 1 ∧ P1 0 9 = tS T (sCo T K M p).2)) (_ : KVP P1) (_ : KC P1) (_ : CF P1) (_ : ZT P1) (_ : ZO P1) (_ : ZC P1) (_ : ZS P1) (_ : FP P1) (_ : CP (P1 0 8) (MS T (sCo T K M p).2) P1) (_ : CP (P1 0 8) (MK (kCo T K p)) P1) (_ : KB (P 0 37) P P1), Q none P1) : Ct WSM G 4 iX12_conIs [vR 0] P Q := by
  sorry
/-! What the reference answers: X12_matchIs. -/
set_option maxRecDepth 100000 in
set_option maxHeartbeats 40000000 in
theorem f_X12_matchIs (G : GT) (P : PH) (T : TT) (K : PH) (M : PH) (p : Int) (hB : BdM P) (p_lx : (P 0 3 = 0 ∨ P 0 4 + 1 ≤ P 0 5) ∧ P 0 4 ≤ P 0 5) (p_fk : P 0 8 ≤ 0) (p_aw : AW K) (p_k0 : tO T p = 2) (v_ZC : ZC P) (v_ZI : ZI P) (v_ZS : ZS P) (v_FP : FP P) (z0 : MT T P) (z1 : MS T p P) (z2 : MK K P) (z3 : MM M P) (z4 : MTl M P) (Q : Option PV → PH → Prop) (hQ : ∀ (P1 : PH) (_ : BdM P1) (_ : FrM ([3, 4, 5, 6, 7, 8, 9, 12, 38], [11, 12]) P P1) (_ : (P1 0 3 = 0 ∨ P1 0 4 + 1 ≤ P1 0 5) ∧ P1 0 4 ≤ P1 0 5) (_ : P 0 4 ≤ P1 0 4) (_ : P 0 8 ≤ 0 ∨ 0 < P1 0 8) (_ : 0 < P1 0 8 ∨ prdU P1 (P 0 37) (P1 11 (P 0 37)).toNat ≤ 20000) (_ : (P1 0 8 = (sMa T K M p).1 ∧ ((sMa T K M p).1 = 0 ∨ P1 0 9 = (sMa T K M p).2.1)) ∨ ((sMa T K M p).1 = 0 ∧ tK T (sMa T K M p).2.1 = 4 ∧ P1 0 8 = 1 ∧ P1 0 9 = tS T (sMa T K M p).2.1)) (_ : ZC P1) (_ : ZI P1) (_ : ZS P1) (_ : FP P1) (_ : CP (P1 0 8) (MS T (sMa T K M p).2.1) P1) (_ : CP (P1 0 8) (MM (sMa T K M p).2.2) P1) (_ : CP (P1 0 8) (MTl (sMa T K M p).2.2) P1) (_ : KB (P 0 37) P P1), Q none P1) : Ct WSM G 4 iX12_matchIs [vR 0] P Q := by
  sorry
/-! What the reference answers: X12_emits. -/
set_option maxRecDepth 100000 in
set_option maxHeartbeats 4000000 in
theorem f_X12_emits (G : GT) (P : PH) (a1 : Int) (a2 : Int) (a3 : Int) (h_a1 : 0 ≤ a1 ∧ a1 ≤ 6) (h_a2 : 0 ≤ a2 ∧ a2 ≤ 23) (h_a3 : 0 ≤ a3 ∧ a3 ≤ 19) (hB : BdM P) (p_o : P 0 36 ≤ 2799) (Q : Option PV → PH → Prop) (hQ : ∀ (P1 : PH) (_ : BdM P1) (_ : FrM ([36], [19, 20, 21]) P P1) (_ : P1 0 36 = P 0 36 + 1) (_ : EM a1 a2 a3 P P1) (_ : KB (P 0 37) P P1), Q none P1) : Ct WSM G 1 iX12_emits [vR 0, vI a1, vI a2, vI a3] P Q := by
  sorry
/-! What the reference answers: X12_range. -/
set_option maxRecDepth 100000 in
set_option maxHeartbeats 4000000 in
theorem f_X12_range (G : GT) (P : PH) (f : Int) (T : TT) (p : Int) (hB : BdM P) (p_lx : (P 0 3 = 0 ∨ P 0 4 + 1 ≤ P 0 5) ∧ P 0 4 ≤ P 0 5) (p_po : pot P ≤ 8 * P 0 4) (p_sx : SX f 0 P) (p_fk : P 0 8 ≤ 0) (v_FP : FP P) (z0 : MT T P) (z1 : MS T p P) (Q : Option PV → PH → Prop) (hQ : ∀ (P1 : PH) (_ : BdM P1) (_ : FrM ([3, 4, 5, 6, 7, 8, 9, 12, 36], [19, 20, 21]) P P1) (_ : (P1 0 3 = 0 ∨ P1 0 4 + 1 ≤ P1 0 5) ∧ P1 0 4 ≤ P1 0 5) (_ : P 0 4 ≤ P1 0 4) (_ : P 0 8 ≤ 0 ∨ 0 < P1 0 8) (_ : LO P P1) (_ : 0 < P1 0 8 ∨ (SX f 1 P1 ∧ pot P1 + 3 ≤ 8 * P1 0 4)) (_ : 0 < P1 0 8 ∨ P 0 4 + 1 ≤ P1 0 4) (_ : (P1 0 8 = (rng T p).1 ∧ ((rng T p).1 = 0 ∨ P1 0 9 = (rng T p).2)) ∨ ((rng T p).1 = 0 ∧ tK T (rng T p).2 = 4 ∧ P1 0 8 = 1 ∧ P1 0 9 = tS T (rng T p).2)) (_ : FP P1) (_ : CP (P1 0 8) (MS T (rng T p).2) P1) (_ : KB (P 0 37) P P1), Q none P1) : Ct WSM G 4 iX12_range [vR 0] P Q := by
  sorry
/-! What the reference answers: X12_fieldBegins. -/
set_option maxRecDepth 100000 in
set_option maxHeartbeats 4000000 in
theorem f_X12_fieldBegins (G : GT) (P : PH) (f : Int) (s : SK) (k : Int) (k1 : Int) (a1 : Int) (a2 : Int) (h_a1 : 0 ≤ a1 ∧ a1 ≤ 23) (h_a2 : 0 ≤ a2 ∧ a2 ≤ 1) (hB : BdM P) (p_sx : SX f 1 P) (p_cn : a1 < P 5 (P 0 37)) (p_fl : a2 < P 7 (24 * P 0 37 + a1)) (p_k : P 6 (24 * P 0 37 + a1) + P 0 43 ≤ 4) (p_co : P 0 36 ≤ 2799) (p_fk4 : K4 (P 8 (2 * (24 * P 0 37 + a1) + a2)) k1) (v_CF : CF P) (z0 : STK s k P) (Q : Option PV → PH → Prop) (hQ : ∀ (P1 : PH) (_ : BdM P1) (_ : FrM ([36, 43], [19, 20, 21, 24, 25, 26, 27]) P P1) (_ : LO P P1) (_ : SX f 0 P1) (_ : (a2 = 0 ∧ pot P1 = pot P + 11) ∨ (a2 ≠ 0 ∧ pot P1 = pot P + 7)) (_ : STK ((a1, a2, k) :: s) k1 P1) (_ : KB (P 0 37) P P1), Q none P1) : Ct WSM G 2 iX12_fieldBegins [vR 0, vI a1, vI a2] P Q := by
  sorry
/-! What the reference answers: X12_alternative. -/
set_option maxRecDepth 100000 in
set_option maxHeartbeats 4000000 in
theorem f_X12_alternative (G : GT) (P : PH) (f : Int) (T : TT) (K : PH) (s : SK) (k : Int) (p : Int) (hB : BdM P) (p_lx : (P 0 3 = 0 ∨ P 0 4 + 1 ≤ P 0 5) ∧ P 0 4 ≤ P 0 5) (p_po : pot P ≤ 8 * P 0 4) (p_sx : SX f 0 P) (p_fk : P 0 8 ≤ 0) (p_aw : AW K) (v_CF : CF P) (v_FP : FP P) (z0 : MT T P) (z1 : MS T p P) (z2 : MK K P) (z3 : STK s k P) (Q : Option PV → PH → Prop) (hQ : ∀ (r : Int) (_ : 0 ≤ r ∧ r ≤ 1) (P1 : PH) (_ : BdM P1) (_ : FrM ([3, 4, 5, 6, 7, 8, 9, 12, 36, 43], [19, 20, 21, 24, 25, 26, 27]) P P1) (_ : (P1 0 3 = 0 ∨ P1 0 4 + 1 ≤ P1 0 5) ∧ P1 0 4 ≤ P1 0 5) (_ : P 0 4 ≤ P1 0 4) (_ : P 0 8 ≤ 0 ∨ 0 < P1 0 8) (_ : LO P P1) (_ : 0 < P1 0 8 ∨ P 0 4 + 1 ≤ P1 0 4) (_ : 0 < P1 0 8 ∨ (r = 1 ∧ SX f 1 P1 ∧ pot P1 + 3 ≤ 8 * P1 0 4) ∨ (r = 0 ∧ SX f 0 P1 ∧ pot P1 ≤ 8 * P1 0 4)) (_ : AL T K s k p r P1) (_ : FP P1) (_ : KB (P 0 37) P P1), Q (some (vI r)) P1) : Ct WSM G 5 iX12_alternative [vR 0] P Q := by
  sorry
/-! What the reference answers: X12_goesOn. -/
set_option maxRecDepth 100000 in
set_option maxHeartbeats 4000000 in
theorem f_X12_goesOn (G : GT) (P : PH) (f : Int) (T : TT) (K : PH) (s : SK) (k : Int) (p : Int) (a1 : Int) (h_a1 : 0 ≤ a1 ∧ a1 ≤ 0) (hB : BdM P) (p_lx : (P 0 3 = 0 ∨ P 0 4 + 1 ≤ P 0 5) ∧ P 0 4 ≤ P 0 5) (p_sx : 0 < P 0 8 ∨ (SX f 1 P ∧ pot P + 3 ≤ 8 * P 0 4)) (p_aw : AW K) (p_go : 0 < P 0 8 ∨ (MS T p P ∧ STK s k P)) (v_CF : CF P) (v_FP : FP P) (z0 : MT T P) (z1 : MK K P) (Q : Option PV → PH → Prop) (hQ : ∀ (r : Int) (_ : 0 ≤ r ∧ r ≤ 1) (P1 : PH) (_ : BdM P1) (_ : FrM ([3, 4, 5, 6, 7, 8, 9, 12, 36, 43], [19, 20, 21, 24, 25, 26, 27]) P P1) (_ : (P1 0 3 = 0 ∨ P1 0 4 + 1 ≤ P1 0 5) ∧ P1 0 4 ≤ P1 0 5) (_ : P 0 4 ≤ P1 0 4) (_ : P 0 8 ≤ 0 ∨ 0 < P1 0 8) (_ : LO P P1) (_ : 0 < P1 0 8 ∨ (r = 1 ∧ SX f 0 P1 ∧ pot P1 ≤ 8 * P1 0 4) ∨ (r = 0 ∧ WF P1 (P 0 37) f (2800 * P 0 37 + P1 0 36) ∧ 5 * P1 0 36 ≤ 8 * P1 0 4)) (_ : (0 < P 0 8 ∧ P1 0 8 = P 0 8 ∧ P1 0 9 = P 0 9) ∨ (P 0 8 ≤ 0 ∧ GN T K s k p r P1)) (_ : FP P1) (_ : KB (P 0 37) P P1), Q (some (vI r)) P1) : Ct WSM G 4 iX12_goesOn [vR 0, vI a1] P Q := by
  sorry
/-! What the reference answers: X12_pattern. -/
set_option maxRecDepth 100000 in
set_option maxHeartbeats 4000000 in
theorem f_X12_pattern (G : GT) (P : PH) (T : TT) (K : PH) (k : Int) (p : Int) (a1 : Int) (h_a1 : 0 ≤ a1 ∧ a1 ≤ 4) (hB : BdM P) (p_lx : (P 0 3 = 0 ∨ P 0 4 + 1 ≤ P 0 5) ∧ P 0 4 ≤ P 0 5) (p_po : 5 * P 0 36 ≤ 8 * P 0 4) (p_fk : P 0 8 ≤ 0) (p_aw : AW K) (p_k4 : K4 a1 k) (v_CF : CF P) (v_FP : FP P) (z0 : MT T P) (z1 : MS T p P) (z2 : MK K P) (Q : Option PV → PH → Prop) (hQ : ∀ (P1 : PH) (_ : BdM P1) (_ : FrM ([3, 4, 5, 6, 7, 8, 9, 12, 36, 43], [19, 20, 21, 24, 25, 26, 27]) P P1) (_ : (P1 0 3 = 0 ∨ P1 0 4 + 1 ≤ P1 0 5) ∧ P1 0 4 ≤ P1 0 5) (_ : P 0 4 ≤ P1 0 4) (_ : P 0 8 ≤ 0 ∨ 0 < P1 0 8) (_ : LO P P1) (_ : 0 < P1 0 8 ∨ (WF P1 (P 0 37) (2800 * P 0 37 + P 0 36) (2800 * P 0 37 + P1 0 36) ∧ 5 * P1 0 36 ≤ 8 * P1 0 4)) (_ : (P1 0 8 = (pat T K k p).1 ∧ ((pat T K k p).1 = 0 ∨ P1 0 9 = (pat T K k p).2)) ∨ ((pat T K k p).1 = 0 ∧ tK T (pat T K k p).2 = 4 ∧ P1 0 8 = 1 ∧ P1 0 9 = tS T (pat T K k p).2)) (_ : FP P1) (_ : CP (P1 0 8) (MS T (pat T K k p).2) P1) (_ : KB (P 0 37) P P1), Q none P1) : Ct WSM G 6 iX12_pattern [vR 0, vI a1] P Q := by
  sorry
/-! What the reference answers: X12_armIs. -/
set_option maxRecDepth 100000 in
set_option maxHeartbeats 40000000 in
theorem f_X12_armIs (G : GT) (P : PH) (T : TT) (K : PH) (M : PH) (p : Int) (hB : BdM P) (p_lx : (P 0 3 = 0 ∨ P 0 4 + 1 ≤ P 0 5) ∧ P 0 4 ≤ P 0 5) (p_po : 0 < P 0 8 ∨ 5 * P 0 36 ≤ 8 * P 0 4) (p_fk : P 0 8 ≤ 0) (p_aw : AW K) (p_k0 : tO T p = 3) (v_CF : CF P) (v_ZI : ZI P) (v_ZS : ZS P) (v_FP : FP P) (z0 : MT T P) (z1 : MS T p P) (z2 : MK K P) (z3 : MM M P) (z4 : MTl M P) (Q : Option PV → PH → Prop) (hQ : ∀ (P1 : PH) (_ : BdM P1) (_ : FrM ([3, 4, 5, 6, 7, 8, 9, 12, 36, 43], [13, 14, 17, 18, 19, 20, 21, 24, 25, 26, 27]) P P1) (_ : (P1 0 3 = 0 ∨ P1 0 4 + 1 ≤ P1 0 5) ∧ P1 0 4 ≤ P1 0 5) (_ : P 0 4 ≤ P1 0 4) (_ : P 0 8 ≤ 0 ∨ 0 < P1 0 8) (_ : 0 < P1 0 8 ∨ 5 * P1 0 36 ≤ 8 * P1 0 4) (_ : (P1 0 8 = (sAr T K M p).1 ∧ ((sAr T K M p).1 = 0 ∨ P1 0 9 = (sAr T K M p).2)) ∨ ((sAr T K M p).1 = 0 ∧ tK T (sAr T K M p).2 = 4 ∧ P1 0 8 = 1 ∧ P1 0 9 = tS T (sAr T K M p).2)) (_ : ZI P1) (_ : ZS P1) (_ : FP P1) (_ : CP (P1 0 8) (MS T (sAr T K M p).2) P1) (_ : CP (P1 0 8) (MM (mAr T K M p)) P1) (_ : KB (P 0 37) P P1), Q none P1) : Ct WSM G 7 iX12_armIs [vR 0] P Q := by
  sorry
/-! What the reference answers: X12_statement. -/
set_option maxRecDepth 100000 in
set_option maxHeartbeats 4000000 in
theorem f_X12_statement (G : GT) (P : PH) (T : TT) (K : PH) (M : PH) (p : Int) (hB : BdM P) (p_lx : (P 0 3 = 0 ∨ P 0 4 + 1 ≤ P 0 5) ∧ P 0 4 ≤ P 0 5) (p_po : 0 < P 0 8 ∨ 5 * P 0 36 ≤ 8 * P 0 4) (p_pr : 0 < P 0 8 ∨ prdU P (P 0 37) (P 11 (P 0 37)).toNat ≤ 20000) (p_bu : 0 < P 0 8 ∨ (1 ≤ P 16 (P 0 37) ∧ P 16 (P 0 37) ≤ 999)) (p_fk : P 0 8 ≤ 0) (p_aw : AW K) (v_KVP : KVP P) (v_KC : KC P) (v_CF : CF P) (v_ZT : ZT P) (v_ZO : ZO P) (v_ZC : ZC P) (v_ZI : ZI P) (v_ZS : ZS P) (v_FP : FP P) (z0 : MT T P) (z1 : MS T p P) (z2 : MK K P) (z3 : MM M P) (z4 : MTl M P) (Q : Option PV → PH → Prop) (hQ : ∀ (P1 : PH) (_ : BdM P1) (_ : FrM ([3, 4, 5, 6, 7, 8, 9, 12, 36, 38, 43], [2, 3, 4, 5, 6, 7, 8, 9, 10, 11, 12, 13, 14, 15, 16, 17, 18, 19, 20, 21, 22, 23, 24, 25, 26, 27]) P P1) (_ : (P1 0 3 = 0 ∨ P1 0 4 + 1 ≤ P1 0 5) ∧ P1 0 4 ≤ P1 0 5) (_ : P 0 4 ≤ P1 0 4) (_ : P 0 8 ≤ 0 ∨ 0 < P1 0 8) (_ : 0 < P1 0 8 ∨ 5 * P1 0 36 ≤ 8 * P1 0 4) (_ : 0 < P1 0 8 ∨ prdU P1 (P 0 37) (P1 11 (P 0 37)).toNat ≤ 20000) (_ : 0 < P1 0 8 ∨ (1 ≤ P1 16 (P 0 37) ∧ P1 16 (P 0 37) ≤ 999)) (_ : ∀ j : Int, j ≠ P 0 37 → P1 16 j = P 16 j) (_ : (P1 0 8 = (sSt T K M p).1 ∧ ((sSt T K M p).1 = 0 ∨ P1 0 9 = (sSt T K M p).2)) ∨ ((sSt T K M p).1 = 0 ∧ tK T (sSt T K M p).2 = 4 ∧ P1 0 8 = 1 ∧ P1 0 9 = tS T (sSt T K M p).2)) (_ : KVP P1) (_ : KC P1) (_ : CF P1) (_ : ZT P1) (_ : ZO P1) (_ : ZC P1) (_ : ZI P1) (_ : ZS P1) (_ : FP P1) (_ : CP (P1 0 8) (MS T (sSt T K M p).2) P1) (_ : CP (P1 0 8) (MK (kSt T K p)) P1) (_ : CP (P1 0 8) (MM (mSt T K M p)) P1) (_ : CP (P1 0 8) (MTl (mSt T K M p)) P1) (_ : KB (P 0 37) P P1), Q none P1) : Ct WSM G 8 iX12_statement [vR 0] P Q := by
  sorry
/-! What the reference answers: X12_finishes. -/
set_option maxRecDepth 100000 in
set_option maxHeartbeats 4000000 in
theorem f_X12_finishes (G : GT) (P : PH) (T : TT) (p : Int) (a1 : Int) (h_a1 : 0 ≤ a1 ∧ a1 ≤ 2147483647) (hB : BdM P) (p_lx : (P 0 3 = 0 ∨ P 0 4 + 1 ≤ P 0 5) ∧ P 0 4 ≤ P 0 5) (v_FP : FP P) (z0 : MT T P) (z1 : CP (P 0 8) (MS T p) P) (Q : Option PV → PH → Prop) (hQ : ∀ (P1 : PH) (_ : BdM P1) (_ : FrM ([3, 4, 5, 6, 7, 8, 9, 12], []) P P1) (_ : (P1 0 3 = 0 ∨ P1 0 4 + 1 ≤ P1 0 5) ∧ P1 0 4 ≤ P1 0 5) (_ : P 0 4 ≤ P1 0 4) (_ : P 0 8 ≤ 0 ∨ 0 < P1 0 8) (_ : 0 < P1 0 8 ∨ P 0 4 + 1 ≤ P1 0 4) (_ : (0 < P 0 8 ∧ P1 0 8 = P 0 8 ∧ P1 0 9 = P 0 9) ∨ (P 0 8 ≤ 0 ∧ (sgn T 59 p).1 = 0 ∧ a1 = 60 ∧ tA T (tE T p) < T.2 ∧ P1 0 8 = 6 ∧ P1 0 9 = tA T (tE T p)) ∨ (P 0 8 ≤ 0 ∧ ((sgn T 59 p).1 ≠ 0 ∨ a1 ≠ 60 ∨ T.2 ≤ tA T (tE T p)) ∧ P1 0 8 = (sgn T 59 p).1 ∧ ((sgn T 59 p).1 = 0 ∨ P1 0 9 = (sgn T 59 p).2))) (_ : FP P1) (_ : CP (P1 0 8) (MS T (sgn T 59 p).2) P1), Q none P1) : Ct WSM G 4 iX12_finishes [vR 0, vI a1] P Q := by
  sorry
/-! What the reference answers: X12_match. -/
set_option maxRecDepth 100000 in
set_option maxHeartbeats 4000000 in
theorem f_X12_match (G : GT) (P : PH) (T : TT) (hB : BdM P) (p_tx : P 0 1 = T.2 ∧ ∀ i : Int, 0 ≤ i → i < T.2 → P 1 i = T.1 i) (v_KVP : KVP P) (v_CF : CF P) (v_ZT : ZT P) (v_ZO : ZO P) (v_ZC : ZC P) (v_ZS : ZS P) (v_okB : okB P) (v_okR : okR P) (Q : Option PV → PH → Prop) (hQ : ∀ (r : Int) (_ : (-2147483648) ≤ r ∧ r ≤ 2147483647) (P1 : PH) (_ : BdM P1) (_ : FrM ([1, 2, 3, 4, 5, 6, 7, 8, 9, 10, 11, 12, 13, 36, 37, 38, 43, 44, 52, 60, 92], [2, 3, 4, 5, 6, 7, 8, 9, 10, 11, 12, 13, 14, 15, 16, 17, 18, 19, 20, 21, 22, 23, 24, 25, 26, 27, 28, 29, 30, 31, 32, 33, 34, 35, 36, 37, 38, 39]) P P1) (_ : P1 0 1 = 0) (_ : (r = -1 ∧ (mlR T).1 ≠ 0) ∨ (r = (mlR T).2.1 ∧ (mlR T).1 = 0)) (_ : KVP P1) (_ : CF P1) (_ : ZT P1) (_ : ZO P1) (_ : ZC P1) (_ : ZS P1) (_ : okB P1) (_ : okR P1) (_ : okC P1) (_ : KB (1 - (P 0 13)) P P1), Q (some (vI r)) P1) : Ct WSM G 9 iX12_match [vR 0] P Q := by
  sorry
/-! What the reference answers: X12_put. -/
set_option maxRecDepth 100000 in
set_option maxHeartbeats 4000000 in
theorem f_X12_put (G : GT) (P : PH) (T : TT) (a1 : Int) (h_a1 : (-2147483648) ≤ a1 ∧ a1 ≤ 2147483647) (hB : BdM P) (p_t : P 0 1 ≤ 1596) (z0 : CM T P) (Q : Option PV → PH → Prop) (hQ : ∀ (P1 : PH) (_ : BdM P1) (_ : FrM ([1], [1]) P P1) (_ : P1 0 1 = P 0 1 + 4) (_ : CM (tput T a1 4) P1), Q none P1) : Ct WSM G 1 iX12_put [vR 0, vI a1] P Q := by
  sorry
/-! What the reference answers: X12_feed. -/
set_option maxRecDepth 100000 in
set_option maxHeartbeats 4000000 in
theorem f_X12_feed (G : GT) (P : PH) (T : TT) (a1 : Int) (a2 : Int) (a3 : Int) (a4 : Int) (a5 : Int) (h_a1 : (-2147483648) ≤ a1 ∧ a1 ≤ 2147483647) (h_a2 : (-2147483648) ≤ a2 ∧ a2 ≤ 2147483647) (h_a3 : (-2147483648) ≤ a3 ∧ a3 ≤ 2147483647) (h_a4 : (-2147483648) ≤ a4 ∧ a4 ≤ 2147483647) (h_a5 : (-2147483648) ≤ a5 ∧ a5 ≤ 2147483647) (hB : BdM P) (z0 : CM T P) (Q : Option PV → PH → Prop) (hQ : ∀ (r : Int) (_ : (-2147483648) ≤ r ∧ r ≤ 2147483647) (P1 : PH) (_ : BdM P1) (_ : FrM ([1], [1, 28]) P P1) (_ : (P 0 1 ≤ 1580 ∧ r = P 0 1 + 20 ∧ P1 0 1 = P 0 1 + 20) ∨ (1580 < P 0 1 ∧ r = -1 ∧ P1 0 1 = P 0 1)) (_ : CM (ff T a1 a2 a3 a4 a5) P1), Q (some (vI r)) P1) : Ct WSM G 2 iX12_feed [vR 0, vI a1, vI a2, vI a3, vI a4, vI a5] P Q := by
  sorry
/-! What the reference answers: X12_end. -/
set_option maxRecDepth 100000 in
set_option maxHeartbeats 4000000 in
theorem f_X12_end (G : GT) (P : PH) (T : TT) (a1 : Int) (h_a1 : (-2147483648) ≤ a1 ∧ a1 ≤ 2147483647) (hB : BdM P) (z0 : CM T P) (Q : Option PV → PH → Prop) (hQ : ∀ (r : Int) (_ : 0 ≤ r ∧ r ≤ 1) (P1 : PH) (_ : BdM P1) (_ : FrM ([1], [28]) P P1) (_ : (0 ≤ a1 ∧ a1 ≤ P 0 1 ∧ r = 1 ∧ P1 0 1 = a1) ∨ ((a1 < 0 ∨ P 0 1 < a1) ∧ r = 0 ∧ P1 0 1 = P 0 1)) (_ : CM (fe T a1) P1), Q (some (vI r)) P1) : Ct WSM G 2 iX12_end [vR 0, vI a1] P Q := by
  sorry
