/-! What the class answers: X11_match. -/
set_option maxRecDepth 100000 in
set_option maxHeartbeats 4000000 in
theorem f_X11_match (G : GT) (P : PH) (T : TT) (K : PH) (M : PH) (hB : BdX P) (p_tx : P 1 1 = T.2 ∧ ∀ i : Int, 0 ≤ i → i < T.2 → P 2 i = T.1 i) (p_ts : P 0 10 ≠ P 0 11) (v_OWN : OWN P) (z0 : XTB K M P) (Q : Option PV → PH → Prop) (hQ : ∀ (r : Int) (_ : (-2147483648) ≤ r ∧ r ≤ 2147483647) (P1 : PH) (_ : BdX P1) (_ : FrX ([(0, 10), (0, 11), (1, 1), (5, 2), (8, 3), (11, 3), (14, 1), (14, 2), (14, 3), (16, 5), (16, 7), (22, 2), (28, 6), (28, 7), (28, 8), (28, 9), (28, 10), (29, 9), (29, 10), (45, 2), (45, 3), (45, 4), (46, 1), (46, 2), (46, 3), (46, 4), (46, 5), (46, 6), (46, 7), (46, 8), (51, 13)], [6, 7, 9, 10, 12, 13, 15, 27, 30, 31, 32, 33, 34, 35, 36, 37, 38, 39, 40, 41, 42, 44, 50]) P P1) (_ : P1 1 1 = 0) (_ : (r = -1 ∧ (mlR T).1 ≠ 0) ∨ (r = (mlR T).2.1 ∧ (mlR T).1 = 0)) (_ : (r = -1 ∧ P1 0 10 = P 0 10 ∧ P1 0 11 = P 0 11) ∨ (0 ≤ r ∧ P1 0 10 = P 0 11 ∧ P1 0 11 = P 0 10)) (_ : (r = -1 ∧ P1 110 3 = (mlR T).1 ∧ P1 110 4 = (mlR T).2.1) ∨ (0 ≤ r ∧ P1 110 3 = 0 ∧ P1 110 4 = -1)) (_ : XTB (kmR T K) (mmR T M) P1), Q (some (vI r)) P1) : Ct WSX G 27 iX11_match [vR 0] P Q := by
  refine Ct.of (by decide) (l0 := [(0, vR 0)]) rfl (Nat.le_of_ble_eq_true rfl) ?_
  have kt0 : KT (tbX (P 0 11).toNat) P P := KT.rf
  refine g_aload_n dX11_match_0 rfl ?_
  refine x_g0_12 (n := 110) (⟨by decide, rfl⟩ : kx 0 0) ffX11_83 dX11_match_1 rfl ?_
  refine g_aload_n dX11_match_4 rfl ?_
  refine x_g0_0 (n := 1) (⟨by decide, rfl⟩ : kx 0 0) ffX11_14 dX11_match_5 rfl ?_
  refine g_aload_n dX11_match_8 rfl ?_
  refine x_g0_11 (n := (P 0 11).toNat) (⟨by decide, rfl⟩ : kx 0 0) ffX11_75 dX11_match_9 (br_0_11 hB) ?_
  refine g_vI (av := [vR 1, vR (P 0 11).toNat]) (o := 110) (st := []) (f_X6_readMatch_B16 G P T (P 0 11).toNat (bk_0_11 hB) hB (p_tx) v_OWN _ (fun rc1 hc1 Pc1 hBc1 hFc1 gc1_m vc1_TX ec1_0 ec1_1 ec1_2 => ⟨rc1, rfl, ?_⟩)) cf_X6_readMatch t_683 rfl (show kx 110 45 from (⟨by decide, rfl⟩ : kx 110 45)).1 ((show kx 110 45 from (⟨by decide, rfl⟩ : kx 110 45)).sh rfl) rfl rfl (Nat.le_of_ble_eq_true rfl) (by decide) rfl dX11_match_12
  have kt2 : KT (tbX (P 0 11).toNat) P Pc1 := KT.t kt0 ec1_2
  refine g_istore_n (l1 := [(1, vI rc1), (0, vR 0)]) dX11_match_15 (by decide) rfl ?_
  refine g_aload_n dX11_match_16 rfl ?_
  refine x_g0_0 (n := 1) (⟨by decide, rfl⟩ : kx 0 0) ffX11_14 dX11_match_17 rfl ?_
  refine g_iconst dX11_match_20 ?_
  refine x_p1_1 (⟨by decide, rfl⟩ : kx 1 1) pfX11_100 dX11_match_21 ?_
  have hB3 := by_1_1 (z := 0) hBc1 (⟨by decide, rfl⟩ : kx 1 1) (by decide)
  refine g_iload_n dX11_match_24 rfl ?_
  refine g_iconst dX11_match_25 ?_
  refine g_icmp_ne (tgt := 37) dX11_match_26 (by decide) ⟨by (first | (clear p_tx p_ts gc1_m; omega) | omega), by (first | (clear p_tx p_ts gc1_m; omega) | omega)⟩ (by decide) (fun k4 => ?_) (fun k4 => ?_)
  · first | (revert r_gc1_m; intro r_gc1_m) | have r_gc1_m := (gc1_m.resolve_right (by (clear p_tx p_ts gc1_m k4; omega))) | have r_gc1_m := (gc1_m.resolve_left (by (clear p_tx p_ts gc1_m k4; omega))) | skip
    refine g_aload_n dX11_match_37 rfl ?_
    refine x_g0_10 (n := (P 0 10).toNat) (⟨by decide, rfl⟩ : kx 0 0) ffX11_71 dX11_match_38 ((up_o (kx.ne (⟨by decide, rfl⟩ : kx 0 0) (⟨by decide, rfl⟩ : kx 1 1) rfl)).trans ((FrX.g hFc1 (⟨by decide, rfl⟩ : kx 0 0) rfl).trans (br_0_10 hB))) ?_
    refine g_astore_n (l1 := [(2, vR (P 0 10).toNat), (1, vI rc1), (0, vR 0)]) dX11_match_41 (by decide) rfl ?_
    refine g_aload_n dX11_match_42 rfl ?_
    refine g_aload_n dX11_match_43 rfl ?_
    refine x_g0_11 (n := (P 0 11).toNat) (⟨by decide, rfl⟩ : kx 0 0) ffX11_75 dX11_match_44 ((up_o (kx.ne (⟨by decide, rfl⟩ : kx 0 0) (⟨by decide, rfl⟩ : kx 1 1) rfl)).trans ((FrX.g hFc1 (⟨by decide, rfl⟩ : kx 0 0) rfl).trans (br_0_11 hB))) ?_
    refine x_p0_10 (⟨by decide, rfl⟩ : kx 0 0) pfX11_71 dX11_match_47 ?_
    have hB5 := bw_0_10 (x := (P 0 11).toNat) hB3 (bk_0_11 hB)
    refine g_aload_n dX11_match_50 rfl ?_
    refine g_aload_n dX11_match_51 rfl ?_
    refine x_p0_11 (⟨by decide, rfl⟩ : kx 0 0) pfX11_75 dX11_match_52 ?_
    have hB6 := bw_0_11 (x := (P 0 10).toNat) hB5 (bk_0_10 hB)
    refine g_aload_n dX11_match_55 rfl ?_
    refine g_vV (av := []) (o := 0) (st := []) (m_X11_startMatch G (up (up (up Pc1 1 1 0) 0 10 (((P 0 11).toNat : Nat) : Int)) 0 11 (((P 0 10).toNat : Nat) : Int))  hB6  _ (fun Pc7 hBc7 hFc7 => ⟨rfl, ?_⟩)) cf_X11_startMatch t_861 rfl (show kx 0 0 from (⟨by decide, rfl⟩ : kx 0 0)).1 ((show kx 0 0 from (⟨by decide, rfl⟩ : kx 0 0)).sh rfl) rfl rfl (Nat.le_of_ble_eq_true rfl) (by decide) rfl dX11_match_56
    refine g_iload_n dX11_match_59 rfl ?_
    exact g_retI dX11_match_60 rfl (hQ rc1 ⟨by (first | (clear p_tx p_ts gc1_m k4; omega) | omega), by (first | (clear p_tx p_ts gc1_m k4; omega) | omega)⟩ _ hBc7 (FrX.c (FrX.s (FrX.s (FrX.s (FrX.c FrX.rf hFc1 rfl) (⟨by decide, rfl⟩ : kx 1 1) rfl) (⟨by decide, rfl⟩ : kx 0 0) rfl) (⟨by decide, rfl⟩ : kx 0 0) rfl) hFc7 rfl) (by have q0 := (((FrX.g hFc7 (⟨by decide, rfl⟩ : kx 1 1) rfl).trans ((up_o (kx.ne (⟨by decide, rfl⟩ : kx 1 1) (⟨by decide, rfl⟩ : kx 0 0) rfl)).trans ((up_o (kx.ne (⟨by decide, rfl⟩ : kx 1 1) (⟨by decide, rfl⟩ : kx 0 0) rfl)).trans up_same))) : Pc7 1 1 = 0); (first | (clear p_tx p_ts gc1_m k4; omega) | (clear p_tx p_ts gc1_m; omega) | (clear p_tx p_ts k4; omega) | (clear p_tx gc1_m k4; omega) | (clear p_ts gc1_m k4; omega) | (clear p_tx p_ts; omega) | omega)) (by (first | (clear p_tx p_ts gc1_m k4; omega) | (clear p_tx p_ts gc1_m; omega) | (clear p_tx p_ts k4; omega) | (clear p_tx gc1_m k4; omega) | (clear p_ts gc1_m k4; omega) | (clear p_tx p_ts; omega) | omega)) (by have q0 := (((FrX.g hFc7 (⟨by decide, rfl⟩ : kx 0 0) rfl).trans ((up_k (by decide)).trans up_same)) : Pc7 0 10 = (((P 0 11).toNat : Nat) : Int)); have q1 := (((FrX.g hFc7 (⟨by decide, rfl⟩ : kx 0 0) rfl).trans up_same) : Pc7 0 11 = (((P 0 10).toNat : Nat) : Int)); have q2 := br_0_10 hB; have q3 := br_0_11 hB; (first | (clear p_tx p_ts gc1_m k4; omega) | (clear p_tx p_ts gc1_m; omega) | (clear p_tx p_ts k4; omega) | (clear p_tx gc1_m k4; omega) | (clear p_ts gc1_m k4; omega) | (clear p_tx p_ts; omega) | omega)) (by have q0 := (((FrX.g hFc7 (⟨by decide, rfl⟩ : kx 110 45) rfl).trans ((up_o (kx.ne (⟨by decide, rfl⟩ : kx 110 45) (⟨by decide, rfl⟩ : kx 0 0) rfl)).trans ((up_o (kx.ne (⟨by decide, rfl⟩ : kx 110 45) (⟨by decide, rfl⟩ : kx 0 0) rfl)).trans ((up_o (kx.ne (⟨by decide, rfl⟩ : kx 110 45) (⟨by decide, rfl⟩ : kx 1 1) rfl)).trans rfl)))) : Pc7 110 3 = (Pc1 110 3)); have q1 := (((FrX.g hFc7 (⟨by decide, rfl⟩ : kx 110 45) rfl).trans ((up_o (kx.ne (⟨by decide, rfl⟩ : kx 110 45) (⟨by decide, rfl⟩ : kx 0 0) rfl)).trans ((up_o (kx.ne (⟨by decide, rfl⟩ : kx 110 45) (⟨by decide, rfl⟩ : kx 0 0) rfl)).trans ((up_o (kx.ne (⟨by decide, rfl⟩ : kx 110 45) (⟨by decide, rfl⟩ : kx 1 1) rfl)).trans rfl)))) : Pc7 110 4 = (Pc1 110 4)); (first | (clear p_tx p_ts gc1_m k4; omega) | (clear p_tx p_ts gc1_m; omega) | (clear p_tx p_ts k4; omega) | (clear p_tx gc1_m k4; omega) | (clear p_ts gc1_m k4; omega) | (clear p_tx p_ts; omega) | omega)) (by have h0 : (mlR T).1 = 0 := (by (first | (clear p_tx p_ts gc1_m k4; omega) | (clear p_tx p_ts gc1_m; omega) | (clear p_tx p_ts k4; omega) | (clear p_tx gc1_m k4; omega) | (clear p_ts gc1_m k4; omega) | (clear p_tx p_ts; omega) | omega)); rw [kmR_0 h0, mmR_0 h0]; unfold XTB; rw [show (Pc7 0 10).toNat = (P 0 11).toNat by have q0 := (((FrX.g hFc7 (⟨by decide, rfl⟩ : kx 0 0) rfl).trans ((up_k (by decide)).trans up_same)) : Pc7 0 10 = (((P 0 11).toNat : Nat) : Int)); (first | (clear p_tx p_ts gc1_m k4; omega) | (clear p_tx p_ts gc1_m; omega) | (clear p_tx p_ts k4; omega) | (clear p_tx gc1_m k4; omega) | (clear p_ts gc1_m k4; omega) | (clear p_tx p_ts; omega) | omega)]; exact ⟨((fun h0 => (XK.fr (F := ([(0, 10), (0, 11), (1, 1), (5, 2), (8, 3), (11, 3), (14, 1), (14, 2), (14, 3), (16, 5), (16, 7), (22, 2), (51, 13)], [6, 7, 9, 10, 12, 13, 15])) (ec1_0 h0) (FrX.c (FrX.s (FrX.s (FrX.s FrX.rf (⟨by decide, rfl⟩ : kx 1 1) rfl) (⟨by decide, rfl⟩ : kx 0 0) rfl) (⟨by decide, rfl⟩ : kx 0 0) rfl) hFc7 rfl) rfl)) (by (first | (clear p_tx p_ts gc1_m k4; omega) | (clear p_tx p_ts gc1_m; omega) | (clear p_tx p_ts k4; omega) | (clear p_tx gc1_m k4; omega) | (clear p_ts gc1_m k4; omega) | (clear p_tx p_ts; omega) | omega))), ((fun h0 => (XM.fr (F := ([(0, 10), (0, 11), (1, 1), (5, 2), (8, 3), (11, 3), (14, 1), (14, 2), (14, 3), (16, 5), (16, 7), (22, 2), (51, 13)], [6, 7, 9, 10, 12, 13, 15])) (ec1_1 h0) (FrX.c (FrX.s (FrX.s (FrX.s FrX.rf (⟨by decide, rfl⟩ : kx 1 1) rfl) (⟨by decide, rfl⟩ : kx 0 0) rfl) (⟨by decide, rfl⟩ : kx 0 0) rfl) hFc7 rfl) rfl)) (by (first | (clear p_tx p_ts gc1_m k4; omega) | (clear p_tx p_ts gc1_m; omega) | (clear p_tx p_ts k4; omega) | (clear p_tx gc1_m k4; omega) | (clear p_ts gc1_m k4; omega) | (clear p_tx p_ts; omega) | omega)))⟩))
  · first | (revert r_gc1_m; intro r_gc1_m) | have r_gc1_m := (gc1_m.resolve_right (by (clear p_tx p_ts gc1_m k4; omega))) | have r_gc1_m := (gc1_m.resolve_left (by (clear p_tx p_ts gc1_m k4; omega))) | skip
    refine g_aload_n dX11_match_29 rfl ?_
    refine g_iconst dX11_match_30 ?_
    refine g_vI (av := [vI 1]) (o := 0) (st := []) (m_X11_refuse G (up Pc1 1 1 0) 1 (by decide) hB3  _ (fun rc8 hc8 Pc8 hBc8 hFc8 => ⟨rc8, rfl, ?_⟩)) cf_X11_refuse t_663 rfl (show kx 0 0 from (⟨by decide, rfl⟩ : kx 0 0)).1 ((show kx 0 0 from (⟨by decide, rfl⟩ : kx 0 0)).sh rfl) rfl rfl (Nat.le_of_ble_eq_true rfl) (by decide) rfl dX11_match_31
    refine g_pop dX11_match_34 rfl ?_
    refine g_iconst dX11_match_35 ?_
    exact g_retI dX11_match_36 rfl (hQ (-1) (by decide) _ hBc8 (FrX.c (FrX.s (FrX.c FrX.rf hFc1 rfl) (⟨by decide, rfl⟩ : kx 1 1) rfl) hFc8 rfl) (by have q0 := (((FrX.g hFc8 (⟨by decide, rfl⟩ : kx 1 1) rfl).trans up_same) : Pc8 1 1 = 0); (first | (clear p_tx p_ts gc1_m k4; omega) | (clear p_tx p_ts gc1_m; omega) | (clear p_tx p_ts k4; omega) | (clear p_tx gc1_m k4; omega) | (clear p_ts gc1_m k4; omega) | (clear p_tx p_ts; omega) | omega)) (by (first | (clear p_tx p_ts gc1_m k4; omega) | (clear p_tx p_ts gc1_m; omega) | (clear p_tx p_ts k4; omega) | (clear p_tx gc1_m k4; omega) | (clear p_ts gc1_m k4; omega) | (clear p_tx p_ts; omega) | omega)) (by have q0 := (((FrX.g hFc8 (⟨by decide, rfl⟩ : kx 0 0) rfl).trans ((up_o (kx.ne (⟨by decide, rfl⟩ : kx 0 0) (⟨by decide, rfl⟩ : kx 1 1) rfl)).trans ((FrX.g hFc1 (⟨by decide, rfl⟩ : kx 0 0) rfl).trans rfl))) : Pc8 0 10 = (P 0 10)); have q1 := (((FrX.g hFc8 (⟨by decide, rfl⟩ : kx 0 0) rfl).trans ((up_o (kx.ne (⟨by decide, rfl⟩ : kx 0 0) (⟨by decide, rfl⟩ : kx 1 1) rfl)).trans ((FrX.g hFc1 (⟨by decide, rfl⟩ : kx 0 0) rfl).trans rfl))) : Pc8 0 11 = (P 0 11)); have q2 := br_0_10 hB; have q3 := br_0_11 hB; (first | (clear p_tx p_ts gc1_m k4; omega) | (clear p_tx p_ts gc1_m; omega) | (clear p_tx p_ts k4; omega) | (clear p_tx gc1_m k4; omega) | (clear p_ts gc1_m k4; omega) | (clear p_tx p_ts; omega) | omega)) (by have q0 := (((FrX.g hFc8 (⟨by decide, rfl⟩ : kx 110 45) rfl).trans ((up_o (kx.ne (⟨by decide, rfl⟩ : kx 110 45) (⟨by decide, rfl⟩ : kx 1 1) rfl)).trans rfl)) : Pc8 110 3 = (Pc1 110 3)); have q1 := (((FrX.g hFc8 (⟨by decide, rfl⟩ : kx 110 45) rfl).trans ((up_o (kx.ne (⟨by decide, rfl⟩ : kx 110 45) (⟨by decide, rfl⟩ : kx 1 1) rfl)).trans rfl)) : Pc8 110 4 = (Pc1 110 4)); (first | (clear p_tx p_ts gc1_m k4; omega) | (clear p_tx p_ts gc1_m; omega) | (clear p_tx p_ts k4; omega) | (clear p_tx gc1_m k4; omega) | (clear p_ts gc1_m k4; omega) | (clear p_tx p_ts; omega) | omega)) (by have h1 : (mlR T).1 ≠ 0 := (by (first | (clear p_tx p_ts gc1_m k4; omega) | (clear p_tx p_ts gc1_m; omega) | (clear p_tx p_ts k4; omega) | (clear p_tx gc1_m k4; omega) | (clear p_ts gc1_m k4; omega) | (clear p_tx p_ts; omega) | omega)); rw [kmR_1 h1, mmR_1 h1]; unfold XTB; rw [show Pc8 0 10 = P 0 10 by have q0 := (((FrX.g hFc8 (⟨by decide, rfl⟩ : kx 0 0) rfl).trans ((up_o (kx.ne (⟨by decide, rfl⟩ : kx 0 0) (⟨by decide, rfl⟩ : kx 1 1) rfl)).trans ((FrX.g hFc1 (⟨by decide, rfl⟩ : kx 0 0) rfl).trans rfl))) : Pc8 0 10 = (P 0 10)); have q2 := br_0_10 hB; (first | (clear p_tx p_ts gc1_m k4; omega) | (clear p_tx p_ts gc1_m; omega) | (clear p_tx p_ts k4; omega) | (clear p_tx gc1_m k4; omega) | (clear p_ts gc1_m k4; omega) | (clear p_tx p_ts; omega) | omega)]; have hne : (P 0 10).toNat ≠ tbX (P 0 11).toNat := (by rw [(tb28 (bk_0_11 hB)).1]; have q1 := br_0_10 hB; have q2 := br_0_11 hB; (first | (clear p_tx p_ts gc1_m k4; omega) | (clear p_tx p_ts gc1_m; omega) | (clear p_tx p_ts k4; omega) | (clear p_tx gc1_m k4; omega) | (clear p_ts gc1_m k4; omega) | (clear p_tx p_ts; omega) | omega)); exact ⟨KT.xk (KT.fr (F := ([(1, 1)], [27])) kt2 (FrX.c (FrX.s FrX.rf (⟨by decide, rfl⟩ : kx 1 1) rfl) hFc8 rfl) rfl) (bk_0_10 hB) hne z0.1, KT.xm (KT.fr (F := ([(1, 1)], [27])) kt2 (FrX.c (FrX.s FrX.rf (⟨by decide, rfl⟩ : kx 1 1) rfl) hFc8 rfl) rfl) (bk_0_10 hB) hne z0.2⟩))
/-! What the class answers: X1_add_B16. -/
set_option maxRecDepth 100000 in
set_option maxHeartbeats 4000000 in
theorem f_X1_add_B16 (G : GT) (P : PH) (T : TT) (a1 : Int) (h_a1 : (-2147483648) ≤ a1 ∧ a1 ≤ 2147483647) (hB : BdX P) (p_l9 : P 1 1 ≤ 1599) (z0 : CX T P) (Q : Option PV → PH → Prop) (hQ : ∀ (P1 : PH) (_ : BdX P1) (_ : FrX ([(1, 1)], [2]) P P1) (_ : (P 1 1 ≤ 1599 ∧ P1 1 1 = P 1 1 + 1) ∨ (1600 ≤ P 1 1 ∧ P1 1 1 = P 1 1)) (_ : CX (tadd T (iand a1 255)) P1), Q none P1) : Ct WSX G 1 iX1_add [vR 1, vI a1] P Q := by
  refine Ct.of (by decide) (l0 := [(0, vR 1), (1, vI a1)]) rfl (Nat.le_of_ble_eq_true rfl) ?_
  refine g_aload_n dX1_add_0 rfl ?_
  refine x_g1_1 (z := (P 1 1)) (⟨by decide, rfl⟩ : kx 1 1) ffX1_21 dX1_add_1 rfl ?_
  have f1 := bx_1_1 (o := 1) hB (⟨by decide, rfl⟩ : kx 1 1)
  refine g_if_lt (tgt := 43) dX1_add_4 (by decide) ⟨by have q0 := bx_1_1 (o := 1) hB (⟨by decide, rfl⟩ : kx 1 1); omega, by have q0 := bx_1_1 (o := 1) hB (⟨by decide, rfl⟩ : kx 1 1); omega⟩ (fun k2 => by exfalso; have q0 := bx_1_1 (o := 1) hB (⟨by decide, rfl⟩ : kx 1 1); omega) (fun k2 => ?_)
  refine g_aload_n dX1_add_7 rfl ?_
  refine x_g1_1 (z := (P 1 1)) (⟨by decide, rfl⟩ : kx 1 1) ffX1_21 dX1_add_8 rfl ?_
  refine g_aload_n dX1_add_11 rfl ?_
  refine x_g1_0 (n := 2) (⟨by decide, rfl⟩ : kx 1 1) ffX1_15 dX1_add_12 rfl ?_
  refine x_n2 (⟨by decide, rfl⟩ : kx 2 2) dX1_add_15 ?_
  refine g_icmp_ge (tgt := 43) dX1_add_16 (by decide) ⟨by have q0 := bx_1_1 (o := 1) hB (⟨by decide, rfl⟩ : kx 1 1); (first | (clear k2; omega) | omega), by have q0 := bx_1_1 (o := 1) hB (⟨by decide, rfl⟩ : kx 1 1); (first | (clear k2; omega) | omega)⟩ (by decide) (fun k3 => ?_) (fun k3 => ?_)
  · exact g_retV dX1_add_43 rfl (hQ _ hB FrX.rf (by have q0 := bx_1_1 (o := 1) hB (⟨by decide, rfl⟩ : kx 1 1); (first | (clear k2 k3; omega) | (clear k2; omega) | (clear k3; omega) | omega)) (by first | (rw [← hw]; exact CX.add z0 rfl rfl (fun j hj => rfl)) | (exfalso; have q := bx_1_1 (o := 1) hB ⟨by decide, rfl⟩; (first | (clear k2 k3; omega) | (clear k2; omega) | (clear k3; omega) | omega))))
  · refine g_aload_n dX1_add_19 rfl ?_
    refine x_g1_0 (n := 2) (⟨by decide, rfl⟩ : kx 1 1) ffX1_15 dX1_add_20 rfl ?_
    refine g_aload_n dX1_add_23 rfl ?_
    refine x_g1_1 (z := (P 1 1)) (⟨by decide, rfl⟩ : kx 1 1) ffX1_21 dX1_add_24 rfl ?_
    refine g_iload_n dX1_add_27 rfl ?_
    refine g_sipush dX1_add_28 (by decide) ?_
    refine g_iand dX1_add_31 ?_
    refine g_nm (fun b4 e_b4 => ?_)
    have h_b4 := iand_r (x := a1) (y := 255) ⟨by (first | (clear k2 k3; omega) | omega), by (first | (clear k2 k3; omega) | omega)⟩
    rw [← e_b4] at h_b4
    have hw := e_b4
    refine x_s2 (⟨by decide, rfl⟩ : kx 2 2) dX1_add_32 ⟨by have q0 := bx_1_1 (o := 1) hB (⟨by decide, rfl⟩ : kx 1 1); (first | (clear k2 k3; omega) | omega), by have q0 := bx_1_1 (o := 1) hB (⟨by decide, rfl⟩ : kx 1 1); (first | (clear k2 k3; omega) | omega)⟩ ?_
    have hB5 := by_2 (z := b4) (k := (P 1 1)) hB (⟨by decide, rfl⟩ : kx 2 2) ⟨by (first | (clear k2 k3; omega) | omega), by (first | (clear k2 k3; omega) | omega)⟩
    refine g_aload_n dX1_add_33 rfl ?_
    refine g_dup dX1_add_34 rfl ?_
    refine x_g1_1 (z := (P 1 1)) (⟨by decide, rfl⟩ : kx 1 1) ffX1_21 dX1_add_35 ((up_o (kx.ne (⟨by decide, rfl⟩ : kx 1 1) (⟨by decide, rfl⟩ : kx 2 2) rfl)).trans rfl) ?_
    refine g_iconst dX1_add_38 ?_
    refine g_iadd dX1_add_39 ?_
    refine x_p1_1 (⟨by decide, rfl⟩ : kx 1 1) pfX1_21 dX1_add_40 ?_
    have hB6 := by_1_1 (z := ((P 1 1) + 1)) hB5 (⟨by decide, rfl⟩ : kx 1 1) ⟨by have q0 := bx_1_1 (o := 1) hB (⟨by decide, rfl⟩ : kx 1 1); (first | (clear k2 k3; omega) | omega), by have q0 := bx_1_1 (o := 1) hB (⟨by decide, rfl⟩ : kx 1 1); (first | (clear k2 k3; omega) | omega)⟩
    exact g_retV dX1_add_43 rfl (hQ _ hB6 (FrX.s (FrX.s FrX.rf (⟨by decide, rfl⟩ : kx 2 2) rfl) (⟨by decide, rfl⟩ : kx 1 1) rfl) (by have q0 := (up_same : (up (up P 2 (P 1 1) b4) 1 1 ((P 1 1) + 1)) 1 1 = ((P 1 1) + 1)); have q1 := bx_1_1 (o := 1) hB (⟨by decide, rfl⟩ : kx 1 1); (first | (clear k2 k3; omega) | (clear k2; omega) | (clear k3; omega) | omega)) (by first | (rw [← hw]; exact CX.add z0 up_same ((up_o (kx.ne (⟨by decide, rfl⟩ : kx 2 2) (⟨by decide, rfl⟩ : kx 1 1) rfl)).trans up_same) (fun j hj => ((up_o (kx.ne (⟨by decide, rfl⟩ : kx 2 2) (⟨by decide, rfl⟩ : kx 1 1) rfl)).trans ((up_k hj).trans rfl)))) | (exfalso; have q := bx_1_1 (o := 1) hB ⟨by decide, rfl⟩; (first | (clear k2 k3; omega) | (clear k2; omega) | (clear k3; omega) | omega))))
/-! What the class answers: X1_addFour_B16. -/
set_option maxRecDepth 100000 in
set_option maxHeartbeats 4000000 in
theorem f_X1_addFour_B16 (G : GT) (P : PH) (T : TT) (a1 : Int) (h_a1 : (-2147483648) ≤ a1 ∧ a1 ≤ 2147483647) (hB : BdX P) (p_l4 : P 1 1 ≤ 1596) (z0 : CX T P) (Q : Option PV → PH → Prop) (hQ : ∀ (P1 : PH) (_ : BdX P1) (_ : FrX ([(1, 1)], [2]) P P1) (_ : 1596 < P 1 1 ∨ P1 1 1 = P 1 1 + 4) (_ : CX (tput T a1 4) P1), Q none P1) : Ct WSX G 2 iX1_addFour [vR 1, vI a1] P Q := by
  refine Ct.of (by decide) (l0 := [(0, vR 1), (1, vI a1)]) rfl (Nat.le_of_ble_eq_true rfl) ?_
  refine g_aload_n dX1_addFour_0 rfl ?_
  refine g_iload_n dX1_addFour_1 rfl ?_
  refine g_bipush dX1_addFour_2 (by decide) ?_
  refine g_ishr dX1_addFour_4 ?_
  refine g_nm (fun b1 e_b1 => ?_)
  have h_b1 : (ishr a1 24) = a1 / 16777216 := ishr_c 24 (by decide) (x := a1) ⟨by omega, by omega⟩
  rw [← e_b1] at h_b1
  have ex0 := e_b1
  refine g_vV (av := [vI b1]) (o := 1) (st := []) (f_X1_add_B16 G P T b1 ⟨by omega, by omega⟩ hB (by have q0 := bx_1_1 (o := 1) hB (⟨by decide, rfl⟩ : kx 1 1); omega) (z0) _ (fun Pc2 hBc2 hFc2 gc2_t ec2_0 => ⟨rfl, ?_⟩)) cf_X1_add t_671 rfl (show kx 1 1 from (⟨by decide, rfl⟩ : kx 1 1)).1 ((show kx 1 1 from (⟨by decide, rfl⟩ : kx 1 1)).sh rfl) rfl rfl (Nat.le_of_ble_eq_true rfl) (by decide) rfl dX1_addFour_5
  have iv3 : CX (tadd T (iand (ishr a1 24) 255)) Pc2 := by rw [← ex0]; exact ec2_0
  refine g_aload_n dX1_addFour_8 rfl ?_
  refine g_iload_n dX1_addFour_9 rfl ?_
  refine g_bipush dX1_addFour_10 (by decide) ?_
  refine g_ishr dX1_addFour_12 ?_
  refine g_nm (fun b4 e_b4 => ?_)
  have h_b4 : (ishr a1 16) = a1 / 65536 := ishr_c 16 (by decide) (x := a1) ⟨by (first | (clear gc2_t; omega) | omega), by (first | (clear gc2_t; omega) | omega)⟩
  rw [← e_b4] at h_b4
  have ex1 := e_b4
  refine g_vV (av := [vI b4]) (o := 1) (st := []) (f_X1_add_B16 G Pc2 (tadd T (iand (ishr a1 24) 255)) b4 ⟨by (first | (clear gc2_t; omega) | omega), by (first | (clear gc2_t; omega) | omega)⟩ hBc2 (by have q0 := bx_1_1 (o := 1) hBc2 (⟨by decide, rfl⟩ : kx 1 1); (first | (clear gc2_t; omega) | omega)) (iv3) _ (fun Pc5 hBc5 hFc5 gc5_t ec5_0 => ⟨rfl, ?_⟩)) cf_X1_add t_671 rfl (show kx 1 1 from (⟨by decide, rfl⟩ : kx 1 1)).1 ((show kx 1 1 from (⟨by decide, rfl⟩ : kx 1 1)).sh rfl) rfl rfl (Nat.le_of_ble_eq_true rfl) (by decide) rfl dX1_addFour_13
  have iv6 : CX (tadd (tadd T (iand (ishr a1 24) 255)) (iand (ishr a1 16) 255)) Pc5 := by rw [← ex1]; exact ec5_0
  refine g_aload_n dX1_addFour_16 rfl ?_
  refine g_iload_n dX1_addFour_17 rfl ?_
  refine g_bipush dX1_addFour_18 (by decide) ?_
  refine g_ishr dX1_addFour_20 ?_
  refine g_nm (fun b7 e_b7 => ?_)
  have h_b7 : (ishr a1 8) = a1 / 256 := ishr_c 8 (by decide) (x := a1) ⟨by (first | (clear gc2_t gc5_t; omega) | omega), by (first | (clear gc2_t gc5_t; omega) | omega)⟩
  rw [← e_b7] at h_b7
  have ex2 := e_b7
  refine g_vV (av := [vI b7]) (o := 1) (st := []) (f_X1_add_B16 G Pc5 (tadd (tadd T (iand (ishr a1 24) 255)) (iand (ishr a1 16) 255)) b7 ⟨by (first | (clear gc2_t gc5_t; omega) | omega), by (first | (clear gc2_t gc5_t; omega) | omega)⟩ hBc5 (by have q0 := bx_1_1 (o := 1) hBc5 (⟨by decide, rfl⟩ : kx 1 1); (first | (clear gc2_t gc5_t; omega) | (clear gc2_t; omega) | (clear gc5_t; omega) | omega)) (iv6) _ (fun Pc8 hBc8 hFc8 gc8_t ec8_0 => ⟨rfl, ?_⟩)) cf_X1_add t_671 rfl (show kx 1 1 from (⟨by decide, rfl⟩ : kx 1 1)).1 ((show kx 1 1 from (⟨by decide, rfl⟩ : kx 1 1)).sh rfl) rfl rfl (Nat.le_of_ble_eq_true rfl) (by decide) rfl dX1_addFour_21
  have iv9 : CX (tadd (tadd (tadd T (iand (ishr a1 24) 255)) (iand (ishr a1 16) 255)) (iand (ishr a1 8) 255)) Pc8 := by rw [← ex2]; exact ec8_0
  refine g_aload_n dX1_addFour_24 rfl ?_
  refine g_iload_n dX1_addFour_25 rfl ?_
  refine g_vV (av := [vI a1]) (o := 1) (st := []) (f_X1_add_B16 G Pc8 (tadd (tadd (tadd T (iand (ishr a1 24) 255)) (iand (ishr a1 16) 255)) (iand (ishr a1 8) 255)) a1 ⟨by (first | (clear gc2_t gc5_t gc8_t; omega) | omega), by (first | (clear gc2_t gc5_t gc8_t; omega) | omega)⟩ hBc8 (by have q0 := bx_1_1 (o := 1) hBc8 (⟨by decide, rfl⟩ : kx 1 1); (first | (clear gc2_t gc5_t gc8_t; omega) | (clear gc2_t gc5_t; omega) | (clear gc2_t gc8_t; omega) | (clear gc5_t gc8_t; omega) | (clear gc2_t; omega) | omega)) (iv9) _ (fun Pc10 hBc10 hFc10 gc10_t ec10_0 => ⟨rfl, ?_⟩)) cf_X1_add t_671 rfl (show kx 1 1 from (⟨by decide, rfl⟩ : kx 1 1)).1 ((show kx 1 1 from (⟨by decide, rfl⟩ : kx 1 1)).sh rfl) rfl rfl (Nat.le_of_ble_eq_true rfl) (by decide) rfl dX1_addFour_26
  exact g_retV dX1_addFour_29 rfl (hQ _ hBc10 (FrX.c (FrX.c (FrX.c (FrX.c FrX.rf hFc2 rfl) hFc5 rfl) hFc8 rfl) hFc10 rfl) (by have q0 := bx_1_1 (o := 1) hBc10 (⟨by decide, rfl⟩ : kx 1 1); (first | (clear gc2_t gc5_t gc8_t gc10_t; omega) | (clear gc2_t gc5_t gc8_t; omega) | (clear gc2_t gc5_t gc10_t; omega) | (clear gc2_t gc8_t gc10_t; omega) | (clear gc5_t gc8_t gc10_t; omega) | (clear gc2_t gc5_t; omega) | omega)) (by rw [tput_4 h_a1]; exact ec10_0))
/-! What the class answers: X11_feed. -/
set_option maxRecDepth 100000 in
set_option maxHeartbeats 4000000 in
theorem f_X11_feed (G : GT) (P : PH) (T : TT) (a1 : Int) (a2 : Int) (a3 : Int) (a4 : Int) (a5 : Int) (h_a1 : (-2147483648) ≤ a1 ∧ a1 ≤ 2147483647) (h_a2 : (-2147483648) ≤ a2 ∧ a2 ≤ 2147483647) (h_a3 : (-2147483648) ≤ a3 ∧ a3 ≤ 2147483647) (h_a4 : (-2147483648) ≤ a4 ∧ a4 ≤ 2147483647) (h_a5 : (-2147483648) ≤ a5 ∧ a5 ≤ 2147483647) (hB : BdX P) (z0 : CX T P) (Q : Option PV → PH → Prop) (hQ : ∀ (r : Int) (_ : (-2147483648) ≤ r ∧ r ≤ 2147483647) (P1 : PH) (_ : BdX P1) (_ : FrX ([(1, 1)], [2, 27]) P P1) (_ : (P 1 1 ≤ 1580 ∧ r = P 1 1 + 20 ∧ P1 1 1 = P 1 1 + 20) ∨ (1580 < P 1 1 ∧ r = -1 ∧ P1 1 1 = P 1 1)) (_ : CX (ff T a1 a2 a3 a4 a5) P1), Q (some (vI r)) P1) : Ct WSX G 3 iX11_feed [vR 0, vI a1, vI a2, vI a3, vI a4, vI a5] P Q := by
  refine Ct.of (by decide) (l0 := [(0, vR 0), (1, vI a1), (2, vI a2), (3, vI a3), (4, vI a4), (5, vI a5)]) rfl (Nat.le_of_ble_eq_true rfl) ?_
  have ht := z0.1
  refine g_aload_n dX11_feed_0 rfl ?_
  refine x_g0_0 (n := 1) (⟨by decide, rfl⟩ : kx 0 0) ffX11_14 dX11_feed_1 rfl ?_
  refine x_g1_1 (z := (P 1 1)) (⟨by decide, rfl⟩ : kx 1 1) ffX11_100 dX11_feed_4 rfl ?_
  refine g_bipush dX11_feed_7 (by decide) ?_
  refine g_iadd dX11_feed_9 ?_
  refine g_sipush dX11_feed_10 (by decide) ?_
  have f1 := bx_1_1 (o := 1) hB (⟨by decide, rfl⟩ : kx 1 1)
  refine g_icmp_le (tgt := 24) dX11_feed_13 (by decide) ⟨by have q0 := bx_1_1 (o := 1) hB (⟨by decide, rfl⟩ : kx 1 1); omega, by have q0 := bx_1_1 (o := 1) hB (⟨by decide, rfl⟩ : kx 1 1); omega⟩ (by decide) (fun k2 => ?_) (fun k2 => ?_)
  · refine g_aload_n dX11_feed_24 rfl ?_
    refine x_g0_0 (n := 1) (⟨by decide, rfl⟩ : kx 0 0) ffX11_14 dX11_feed_25 rfl ?_
    refine g_iload_n dX11_feed_28 rfl ?_
    refine g_vV (av := [vI a1]) (o := 1) (st := []) (f_X1_addFour_B16 G P T a1 ⟨by (first | (clear k2; omega) | omega), by (first | (clear k2; omega) | omega)⟩ hB (by have q0 := bx_1_1 (o := 1) hB (⟨by decide, rfl⟩ : kx 1 1); (first | (clear k2; omega) | omega)) (z0) _ (fun Pc3 hBc3 hFc3 gc3_t ec3_0 => ⟨rfl, ?_⟩)) cf_X1_addFour t_667 rfl (show kx 1 1 from (⟨by decide, rfl⟩ : kx 1 1)).1 ((show kx 1 1 from (⟨by decide, rfl⟩ : kx 1 1)).sh rfl) rfl rfl (Nat.le_of_ble_eq_true rfl) (by decide) rfl dX11_feed_29
    refine g_aload_n dX11_feed_32 rfl ?_
    refine x_g0_0 (n := 1) (⟨by decide, rfl⟩ : kx 0 0) ffX11_14 dX11_feed_33 rfl ?_
    refine g_iload_n dX11_feed_36 rfl ?_
    refine g_vV (av := [vI a2]) (o := 1) (st := []) (f_X1_addFour_B16 G Pc3 (tput T a1 4) a2 ⟨by (first | (clear k2 gc3_t; omega) | omega), by (first | (clear k2 gc3_t; omega) | omega)⟩ hBc3 (by have q0 := bx_1_1 (o := 1) hBc3 (⟨by decide, rfl⟩ : kx 1 1); (first | (clear k2 gc3_t; omega) | (clear k2; omega) | (clear gc3_t; omega) | omega)) (ec3_0) _ (fun Pc4 hBc4 hFc4 gc4_t ec4_0 => ⟨rfl, ?_⟩)) cf_X1_addFour t_667 rfl (show kx 1 1 from (⟨by decide, rfl⟩ : kx 1 1)).1 ((show kx 1 1 from (⟨by decide, rfl⟩ : kx 1 1)).sh rfl) rfl rfl (Nat.le_of_ble_eq_true rfl) (by decide) rfl dX11_feed_37
    refine g_aload_n dX11_feed_40 rfl ?_
    refine x_g0_0 (n := 1) (⟨by decide, rfl⟩ : kx 0 0) ffX11_14 dX11_feed_41 rfl ?_
    refine g_iload_n dX11_feed_44 rfl ?_
    refine g_vV (av := [vI a3]) (o := 1) (st := []) (f_X1_addFour_B16 G Pc4 (tput (tput T a1 4) a2 4) a3 ⟨by (first | (clear k2 gc3_t gc4_t; omega) | omega), by (first | (clear k2 gc3_t gc4_t; omega) | omega)⟩ hBc4 (by have q0 := bx_1_1 (o := 1) hBc4 (⟨by decide, rfl⟩ : kx 1 1); (first | (clear k2 gc3_t gc4_t; omega) | (clear k2 gc3_t; omega) | (clear k2 gc4_t; omega) | (clear gc3_t gc4_t; omega) | (clear k2; omega) | omega)) (ec4_0) _ (fun Pc5 hBc5 hFc5 gc5_t ec5_0 => ⟨rfl, ?_⟩)) cf_X1_addFour t_667 rfl (show kx 1 1 from (⟨by decide, rfl⟩ : kx 1 1)).1 ((show kx 1 1 from (⟨by decide, rfl⟩ : kx 1 1)).sh rfl) rfl rfl (Nat.le_of_ble_eq_true rfl) (by decide) rfl dX11_feed_45
    refine g_aload_n dX11_feed_48 rfl ?_
    refine x_g0_0 (n := 1) (⟨by decide, rfl⟩ : kx 0 0) ffX11_14 dX11_feed_49 rfl ?_
    refine g_iload dX11_feed_52 rfl ?_
    refine g_vV (av := [vI a4]) (o := 1) (st := []) (f_X1_addFour_B16 G Pc5 (tput (tput (tput T a1 4) a2 4) a3 4) a4 ⟨by (first | (clear k2 gc3_t gc4_t gc5_t; omega) | omega), by (first | (clear k2 gc3_t gc4_t gc5_t; omega) | omega)⟩ hBc5 (by have q0 := bx_1_1 (o := 1) hBc5 (⟨by decide, rfl⟩ : kx 1 1); (first | (clear k2 gc3_t gc4_t gc5_t; omega) | (clear k2 gc3_t gc4_t; omega) | (clear k2 gc3_t gc5_t; omega) | (clear k2 gc4_t gc5_t; omega) | (clear gc3_t gc4_t gc5_t; omega) | (clear k2 gc3_t; omega) | omega)) (ec5_0) _ (fun Pc6 hBc6 hFc6 gc6_t ec6_0 => ⟨rfl, ?_⟩)) cf_X1_addFour t_667 rfl (show kx 1 1 from (⟨by decide, rfl⟩ : kx 1 1)).1 ((show kx 1 1 from (⟨by decide, rfl⟩ : kx 1 1)).sh rfl) rfl rfl (Nat.le_of_ble_eq_true rfl) (by decide) rfl dX11_feed_54
    refine g_aload_n dX11_feed_57 rfl ?_
    refine x_g0_0 (n := 1) (⟨by decide, rfl⟩ : kx 0 0) ffX11_14 dX11_feed_58 rfl ?_
    refine g_iload dX11_feed_61 rfl ?_
    refine g_vV (av := [vI a5]) (o := 1) (st := []) (f_X1_addFour_B16 G Pc6 (tput (tput (tput (tput T a1 4) a2 4) a3 4) a4 4) a5 ⟨by (first | (clear k2 gc3_t gc4_t gc5_t gc6_t; omega) | omega), by (first | (clear k2 gc3_t gc4_t gc5_t gc6_t; omega) | omega)⟩ hBc6 (by have q0 := bx_1_1 (o := 1) hBc6 (⟨by decide, rfl⟩ : kx 1 1); (first | (clear k2 gc3_t gc4_t gc5_t gc6_t; omega) | (clear k2 gc3_t gc4_t gc5_t; omega) | (clear k2 gc3_t gc4_t gc6_t; omega) | (clear k2 gc3_t gc5_t gc6_t; omega) | (clear k2 gc4_t gc5_t gc6_t; omega) | (clear gc3_t gc4_t gc5_t gc6_t; omega) | (clear k2 gc3_t gc4_t; omega) | (clear k2; omega) | omega)) (ec6_0) _ (fun Pc7 hBc7 hFc7 gc7_t ec7_0 => ⟨rfl, ?_⟩)) cf_X1_addFour t_667 rfl (show kx 1 1 from (⟨by decide, rfl⟩ : kx 1 1)).1 ((show kx 1 1 from (⟨by decide, rfl⟩ : kx 1 1)).sh rfl) rfl rfl (Nat.le_of_ble_eq_true rfl) (by decide) rfl dX11_feed_63
    refine g_aload_n dX11_feed_66 rfl ?_
    refine x_g0_0 (n := 1) (⟨by decide, rfl⟩ : kx 0 0) ffX11_14 dX11_feed_67 rfl ?_
    refine x_g1_1 (z := (Pc7 1 1)) (⟨by decide, rfl⟩ : kx 1 1) ffX11_100 dX11_feed_70 rfl ?_
    exact g_retI dX11_feed_73 rfl (hQ (Pc7 1 1) ⟨by have q0 := bx_1_1 (o := 1) hBc7 (⟨by decide, rfl⟩ : kx 1 1); (first | (clear k2 gc3_t gc4_t gc5_t gc6_t gc7_t; omega) | omega), by have q0 := bx_1_1 (o := 1) hBc7 (⟨by decide, rfl⟩ : kx 1 1); (first | (clear k2 gc3_t gc4_t gc5_t gc6_t gc7_t; omega) | omega)⟩ _ hBc7 (FrX.c (FrX.c (FrX.c (FrX.c (FrX.c FrX.rf hFc3 rfl) hFc4 rfl) hFc5 rfl) hFc6 rfl) hFc7 rfl) (by have q0 := bx_1_1 (o := 1) hBc7 (⟨by decide, rfl⟩ : kx 1 1); (first | (clear k2 gc3_t gc4_t gc5_t gc6_t gc7_t; omega) | (clear k2 gc3_t gc4_t gc5_t gc6_t; omega) | (clear k2 gc3_t gc4_t gc5_t gc7_t; omega) | (clear k2 gc3_t gc4_t gc6_t gc7_t; omega) | (clear k2 gc3_t gc5_t gc6_t gc7_t; omega) | (clear k2 gc4_t gc5_t gc6_t gc7_t; omega) | (clear gc3_t gc4_t gc5_t gc6_t gc7_t; omega) | (clear k2 gc3_t gc4_t gc5_t; omega) | (clear gc3_t k2; omega) | omega)) (by unfold ff; first | (rw [if_pos (by (first | (clear k2 gc3_t gc4_t gc5_t gc6_t gc7_t; omega) | (clear k2 gc3_t gc4_t gc5_t gc6_t; omega) | (clear k2 gc3_t gc4_t gc5_t gc7_t; omega) | (clear k2 gc3_t gc4_t gc6_t gc7_t; omega) | (clear k2 gc3_t gc5_t gc6_t gc7_t; omega) | (clear k2 gc4_t gc5_t gc6_t gc7_t; omega) | (clear gc3_t gc4_t gc5_t gc6_t gc7_t; omega) | (clear k2 gc3_t gc4_t gc5_t; omega) | (clear gc3_t k2; omega) | omega))]; exact (by first | (rw [show T = (tput (tput (tput (tput (tput T a1 4) a2 4) a3 4) a4 4) a5 4) by (first | (clear k2 gc3_t gc4_t gc5_t gc6_t gc7_t; omega) | (clear k2 gc3_t gc4_t gc5_t gc6_t; omega) | (clear k2 gc3_t gc4_t gc5_t gc7_t; omega) | (clear k2 gc3_t gc4_t gc6_t gc7_t; omega) | (clear k2 gc3_t gc5_t gc6_t gc7_t; omega) | (clear k2 gc4_t gc5_t gc6_t gc7_t; omega) | (clear gc3_t gc4_t gc5_t gc6_t gc7_t; omega) | (clear k2 gc3_t gc4_t gc5_t; omega) | (clear gc3_t k2; omega) | omega)]; exact ec7_0))) | (rw [if_neg (by (first | (clear k2 gc3_t gc4_t gc5_t gc6_t gc7_t; omega) | (clear k2 gc3_t gc4_t gc5_t gc6_t; omega) | (clear k2 gc3_t gc4_t gc5_t gc7_t; omega) | (clear k2 gc3_t gc4_t gc6_t gc7_t; omega) | (clear k2 gc3_t gc5_t gc6_t gc7_t; omega) | (clear k2 gc4_t gc5_t gc6_t gc7_t; omega) | (clear gc3_t gc4_t gc5_t gc6_t gc7_t; omega) | (clear k2 gc3_t gc4_t gc5_t; omega) | (clear gc3_t k2; omega) | omega))]; exact ec7_0)))
  · refine g_aload_n dX11_feed_16 rfl ?_
    refine g_iconst dX11_feed_17 ?_
    refine g_vI (av := [vI 0]) (o := 0) (st := []) (m_X11_refuse G P 0 (by decide) hB  _ (fun rc8 hc8 Pc8 hBc8 hFc8 => ⟨rc8, rfl, ?_⟩)) cf_X11_refuse t_663 rfl (show kx 0 0 from (⟨by decide, rfl⟩ : kx 0 0)).1 ((show kx 0 0 from (⟨by decide, rfl⟩ : kx 0 0)).sh rfl) rfl rfl (Nat.le_of_ble_eq_true rfl) (by decide) rfl dX11_feed_18
    refine g_pop dX11_feed_21 rfl ?_
    refine g_iconst dX11_feed_22 ?_
    exact g_retI dX11_feed_23 rfl (hQ (-1) (by decide) _ hBc8 (FrX.c FrX.rf hFc8 rfl) (by have q0 := (((FrX.g hFc8 (⟨by decide, rfl⟩ : kx 1 1) rfl).trans rfl) : Pc8 1 1 = (P 1 1)); have q1 := bx_1_1 (o := 1) hB (⟨by decide, rfl⟩ : kx 1 1); (first | (clear k2; omega) | omega)) (by unfold ff; first | (rw [if_pos (by (first | (clear k2; omega) | omega))]; exact (CX.fr (F := ([], [27])) z0 (FrX.c FrX.rf hFc8 rfl) rfl)) | (rw [if_neg (by (first | (clear k2; omega) | omega))]; exact (by first | (rw [show (tput (tput (tput (tput (tput T a1 4) a2 4) a3 4) a4 4) a5 4) = T by (first | (clear k2; omega) | omega)]; exact (CX.fr (F := ([], [27])) z0 (FrX.c FrX.rf hFc8 rfl) rfl))))))
/-! What the class answers: X11_end. -/
set_option maxRecDepth 100000 in
set_option maxHeartbeats 4000000 in
theorem f_X11_end (G : GT) (P : PH) (T : TT) (a1 : Int) (h_a1 : (-2147483648) ≤ a1 ∧ a1 ≤ 2147483647) (hB : BdX P) (z0 : CX T P) (Q : Option PV → PH → Prop) (hQ : ∀ (r : Int) (_ : 0 ≤ r ∧ r ≤ 1) (P1 : PH) (_ : BdX P1) (_ : FrX ([(1, 1)], [27]) P P1) (_ : (0 ≤ a1 ∧ a1 ≤ P 1 1 ∧ r = 1 ∧ P1 1 1 = a1) ∨ ((a1 < 0 ∨ P 1 1 < a1) ∧ r = 0 ∧ P1 1 1 = P 1 1)) (_ : CX (fe T a1) P1), Q (some (vI r)) P1) : Ct WSX G 2 iX11_end [vR 0, vI a1] P Q := by
  refine Ct.of (by decide) (l0 := [(0, vR 0), (1, vI a1)]) rfl (Nat.le_of_ble_eq_true rfl) ?_
  have ht := z0.1
  refine g_iload_n dX11_end_0 rfl ?_
  refine g_if_lt (tgt := 15) dX11_end_1 (by decide) ⟨by omega, by omega⟩ (fun k1 => ?_) (fun k1 => ?_)
  · refine g_aload_n dX11_end_15 rfl ?_
    refine g_iconst dX11_end_16 ?_
    refine g_vI (av := [vI 0]) (o := 0) (st := []) (m_X11_refuse G P 0 (by decide) hB  _ (fun rc2 hc2 Pc2 hBc2 hFc2 => ⟨rc2, rfl, ?_⟩)) cf_X11_refuse t_663 rfl (show kx 0 0 from (⟨by decide, rfl⟩ : kx 0 0)).1 ((show kx 0 0 from (⟨by decide, rfl⟩ : kx 0 0)).sh rfl) rfl rfl (Nat.le_of_ble_eq_true rfl) (by decide) rfl dX11_end_17
    exact g_retZ dX11_end_20 rfl (by (first | (clear k1; omega) | omega)) (hQ rc2 ⟨by (first | (clear k1; omega) | omega), by (first | (clear k1; omega) | omega)⟩ _ hBc2 (FrX.c FrX.rf hFc2 rfl) (by have q0 := (((FrX.g hFc2 (⟨by decide, rfl⟩ : kx 1 1) rfl).trans rfl) : Pc2 1 1 = (P 1 1)); have q1 := bx_1_1 (o := 1) hB (⟨by decide, rfl⟩ : kx 1 1); (first | (clear k1; omega) | omega)) (by unfold fe; first | (rw [if_neg (by (first | (clear k1; omega) | omega))]; exact (CX.fr (F := ([], [27])) z0 (FrX.c FrX.rf hFc2 rfl) rfl)) | (rw [if_pos (by (first | (clear k1; omega) | omega))]; exact z0.cut (by (first | (clear k1; omega) | omega)) ((FrX.g hFc2 (⟨by decide, rfl⟩ : kx 1 1) rfl).trans rfl) (fun j => ((FrX.g hFc2 (⟨by decide, rfl⟩ : kx 2 2) rfl).trans rfl)))))
  · refine g_iload_n dX11_end_4 rfl ?_
    refine g_aload_n dX11_end_5 rfl ?_
    refine x_g0_0 (n := 1) (⟨by decide, rfl⟩ : kx 0 0) ffX11_14 dX11_end_6 rfl ?_
    refine x_g1_1 (z := (P 1 1)) (⟨by decide, rfl⟩ : kx 1 1) ffX11_100 dX11_end_9 rfl ?_
    have f3 := bx_1_1 (o := 1) hB (⟨by decide, rfl⟩ : kx 1 1)
    refine g_icmp_le (tgt := 21) dX11_end_12 (by decide) ⟨by (first | (clear k1; omega) | omega), by (first | (clear k1; omega) | omega)⟩ ⟨by have q0 := bx_1_1 (o := 1) hB (⟨by decide, rfl⟩ : kx 1 1); (first | (clear k1; omega) | omega), by have q0 := bx_1_1 (o := 1) hB (⟨by decide, rfl⟩ : kx 1 1); (first | (clear k1; omega) | omega)⟩ (fun k4 => ?_) (fun k4 => ?_)
    · refine g_aload_n dX11_end_21 rfl ?_
      refine x_g0_0 (n := 1) (⟨by decide, rfl⟩ : kx 0 0) ffX11_14 dX11_end_22 rfl ?_
      refine g_iload_n dX11_end_25 rfl ?_
      refine x_p1_1 (⟨by decide, rfl⟩ : kx 1 1) pfX11_100 dX11_end_26 ?_
      have hB5 := by_1_1 (z := a1) hB (⟨by decide, rfl⟩ : kx 1 1) ⟨by (first | (clear k1 k4; omega) | omega), by (first | (clear k1 k4; omega) | omega)⟩
      refine g_iconst dX11_end_29 ?_
      exact g_retZ dX11_end_30 rfl (by decide) (hQ 1 (by decide) _ hB5 (FrX.s FrX.rf (⟨by decide, rfl⟩ : kx 1 1) rfl) (by have q0 := (up_same : (up P 1 1 a1) 1 1 = a1); (first | (clear k1 k4; omega) | (clear k1; omega) | (clear k4; omega) | omega)) (by unfold fe; first | (rw [if_neg (by (first | (clear k1 k4; omega) | (clear k1; omega) | (clear k4; omega) | omega))]; exact hNONE) | (rw [if_pos (by (first | (clear k1 k4; omega) | (clear k1; omega) | (clear k4; omega) | omega))]; exact z0.cut (by (first | (clear k1 k4; omega) | (clear k1; omega) | (clear k4; omega) | omega)) up_same (fun j => ((up_o (kx.ne (⟨by decide, rfl⟩ : kx 2 2) (⟨by decide, rfl⟩ : kx 1 1) rfl)).trans rfl)))))
    · refine g_aload_n dX11_end_15 rfl ?_
      refine g_iconst dX11_end_16 ?_
      refine g_vI (av := [vI 0]) (o := 0) (st := []) (m_X11_refuse G P 0 (by decide) hB  _ (fun rc6 hc6 Pc6 hBc6 hFc6 => ⟨rc6, rfl, ?_⟩)) cf_X11_refuse t_663 rfl (show kx 0 0 from (⟨by decide, rfl⟩ : kx 0 0)).1 ((show kx 0 0 from (⟨by decide, rfl⟩ : kx 0 0)).sh rfl) rfl rfl (Nat.le_of_ble_eq_true rfl) (by decide) rfl dX11_end_17
      exact g_retZ dX11_end_20 rfl (by (first | (clear k1 k4; omega) | (clear k1; omega) | (clear k4; omega) | omega)) (hQ rc6 ⟨by (first | (clear k1 k4; omega) | omega), by (first | (clear k1 k4; omega) | omega)⟩ _ hBc6 (FrX.c FrX.rf hFc6 rfl) (by have q0 := (((FrX.g hFc6 (⟨by decide, rfl⟩ : kx 1 1) rfl).trans rfl) : Pc6 1 1 = (P 1 1)); have q1 := bx_1_1 (o := 1) hB (⟨by decide, rfl⟩ : kx 1 1); (first | (clear k1 k4; omega) | (clear k1; omega) | (clear k4; omega) | omega)) (by unfold fe; first | (rw [if_neg (by (first | (clear k1 k4; omega) | (clear k1; omega) | (clear k4; omega) | omega))]; exact (CX.fr (F := ([], [27])) z0 (FrX.c FrX.rf hFc6 rfl) rfl)) | (rw [if_pos (by (first | (clear k1 k4; omega) | (clear k1; omega) | (clear k4; omega) | omega))]; exact z0.cut (by (first | (clear k1 k4; omega) | (clear k1; omega) | (clear k4; omega) | omega)) ((FrX.g hFc6 (⟨by decide, rfl⟩ : kx 1 1) rfl).trans rfl) (fun j => ((FrX.g hFc6 (⟨by decide, rfl⟩ : kx 2 2) rfl).trans rfl)))))
