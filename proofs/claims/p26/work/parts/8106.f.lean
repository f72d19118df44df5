/-! What the class answers: X11_match. -/
set_option maxRecDepth 100000 in
set_option maxHeartbeats 4000000 in
theorem f_X11_match (G : GT) (P : PH) (T : TT) (K : PH) (M : PH) (A : PH) (F : FT) (hB : BdX P) (p_tx : P 1 1 = T.2 ∧ ∀ i : Int, 0 ≤ i → i < T.2 → P 2 i = T.1 i) (p_ts : P 0 10 ≠ P 0 11) (v_OWN : OWN P) (z0 : XTB K M P) (z1 : AX A P) (z2 : XZT K M P) (z3 : XFT K M F P) (Q : Option PV → PH → Prop) (hQ : ∀ (r : Int) (_ : (-2147483648) ≤ r ∧ r ≤ 2147483647) (P1 : PH) (_ : BdX P1) (_ : FrX ([(0, 10), (0, 11), (1, 1), (5, 2), (8, 3), (11, 3), (14, 1), (14, 2), (14, 3), (16, 5), (16, 7), (22, 2), (28, 6), (28, 7), (28, 8), (28, 9), (28, 10), (29, 9), (29, 10), (45, 2), (45, 3), (45, 4), (46, 1), (46, 2), (46, 3), (46, 4), (46, 5), (46, 6), (46, 7), (46, 8), (51, 13)], [6, 7, 9, 10, 12, 13, 15, 27, 30, 31, 32, 33, 34, 35, 36, 37, 38, 39, 40, 41, 42, 44, 50]) P P1) (_ : P1 1 1 = 0) (_ : (r = -1 ∧ (mlR T).1 ≠ 0) ∨ (r = (mlR T).2.1 ∧ (mlR T).1 = 0)) (_ : (r = -1 ∧ P1 0 10 = P 0 10 ∧ P1 0 11 = P 0 11) ∨ (0 ≤ r ∧ P1 0 10 = P 0 11 ∧ P1 0 11 = P 0 10)) (_ : (r = -1 ∧ P1 110 3 = (mlR T).1 ∧ P1 110 4 = (mlR T).2.1) ∨ (0 ≤ r ∧ P1 110 3 = 0 ∧ P1 110 4 = -1)) (_ : XTB (kmR T K) (mmR T M) P1) (_ : AX (aMat T A) P1) (_ : XZT (kmR T K) (mmR T M) P1) (_ : XFT (kmR T K) (mmR T M) (fmR T F) P1), Q (some (vI r)) P1) : Ct WSX G 27 iX11_match [vR 0] P Q := by
  refine Ct.of (by decide) (l0 := [(0, vR 0)]) rfl (Nat.le_of_ble_eq_true rfl) ?_
  have kt0 : KT (tbX (P 0 11).toNat) P P := KT.rf
  refine g_aload_n dX11_match_0 rfl ?_
  refine x_g0_12 (n := 110) (⟨by decide, rfl⟩ : kx 0 0) ffX11_83 dX11_match_1 rfl ?_
  refine g_aload_n dX11_match_4 rfl ?_
  refine x_g0_0 (n := 1) (⟨by decide, rfl⟩ : kx 0 0) ffX11_14 dX11_match_5 rfl ?_
  refine g_aload_n dX11_match_8 rfl ?_
  refine x_g0_11 (n := (P 0 11).toNat) (⟨by decide, rfl⟩ : kx 0 0) ffX11_75 dX11_match_9 (br_0_11 hB) ?_
  refine g_vI (av := [vR 1, vR (P 0 11).toNat]) (o := 110) (st := []) (f_X6_readMatch_B16 G P T (P 0 11).toNat (bk_0_11 hB) hB (p_tx) v_OWN _ (fun rc1 hc1 Pc1 hBc1 hFc1 gc1_m vc1_TX ec1_0 ec1_1 ec1_2 ec1_3 ec1_4 => ⟨rc1, rfl, ?_⟩)) cf_X6_readMatch t_683 rfl (show kx 110 45 from (⟨by decide, rfl⟩ : kx 110 45)).1 ((show kx 110 45 from (⟨by decide, rfl⟩ : kx 110 45)).sh rfl) rfl rfl (Nat.le_of_ble_eq_true rfl) (by decide) rfl dX11_match_12
  have kt2 : KT (tbX (P 0 11).toNat) P Pc1 := KT.t kt0 ec1_2
  refine g_istore_n (l1 := [(1, vI rc1), (0, vR 0)]) dX11_match_15 (by decide) rfl ?_
  refine g_aload_n dX11_match_16 rfl ?_
  refine x_g0_0 (n := 1) (⟨by decide, rfl⟩ : kx 0 0) ffX11_14 dX11_match_17 rfl ?_
  refine g_iconst dX11_match_20 ?_
  refine x_p1_1 (⟨by decide, rfl⟩ : kx 1 1) pfX11_100 dX11_match_21 ?_
  have hB3 := by_1_1 (z := 0) hBc1 (⟨by decide, rfl⟩ : kx 1 1) (by decide)
  refine g_iload_n dX11_match_24 rfl ?_
  refine g_iconst dX11_match_25 ?_
  refine g_icmp_ne (tgt := 37) dX11_match_26 (by decide) ⟨by (first | (clear p_tx p_ts gc1_m; omega) | omega), by (first | (clear p_tx p_ts gc1_m; omega) | omega)⟩ (by decide) (fun k4 => ?_) (fun k4 => ?_)
  · first | (revert r_gc1_m; intro r_gc1_m) | have r_gc1_m := (gc1_m.resolve_right (by (clear p_tx p_ts gc1_m k4; omega))) | have r_gc1_m := (gc1_m.resolve_left (by (clear p_tx p_ts gc1_m k4; omega))) | skip
    refine g_aload_n dX11_match_37 rfl ?_
    refine x_g0_10 (n := (P 0 10).toNat) (⟨by decide, rfl⟩ : kx 0 0) ffX11_71 dX11_match_38 ((up_o (kx.ne (⟨by decide, rfl⟩ : kx 0 0) (⟨by decide, rfl⟩ : kx 1 1) rfl)).trans ((FrX.g hFc1 (⟨by decide, rfl⟩ : kx 0 0) rfl).trans (br_0_10 hB))) ?_
    refine g_astore_n (l1 := [(2, vR (P 0 10).toNat), (1, vI rc1), (0, vR 0)]) dX11_match_41 (by decide) rfl ?_
    refine g_aload_n dX11_match_42 rfl ?_
    refine g_aload_n dX11_match_43 rfl ?_
    refine x_g0_11 (n := (P 0 11).toNat) (⟨by decide, rfl⟩ : kx 0 0) ffX11_75 dX11_match_44 ((up_o (kx.ne (⟨by decide, rfl⟩ : kx 0 0) (⟨by decide, rfl⟩ : kx 1 1) rfl)).trans ((FrX.g hFc1 (⟨by decide, rfl⟩ : kx 0 0) rfl).trans (br_0_11 hB))) ?_
    refine x_p0_10 (⟨by decide, rfl⟩ : kx 0 0) pfX11_71 dX11_match_47 ?_
    have hB5 := bw_0_10 (x := (P 0 11).toNat) hB3 (bk_0_11 hB)
    refine g_aload_n dX11_match_50 rfl ?_
    refine g_aload_n dX11_match_51 rfl ?_
    refine x_p0_11 (⟨by decide, rfl⟩ : kx 0 0) pfX11_75 dX11_match_52 ?_
    have hB6 := bw_0_11 (x := (P 0 10).toNat) hB5 (bk_0_10 hB)
    have iv7 : XTB (mlR T).2.2.1 (mlR T).2.2.2 (up (up (up Pc1 1 1 0) 0 10 (((P 0 11).toNat : Nat) : Int)) 0 11 (((P 0 10).toNat : Nat) : Int)) := by unfold XTB; rw [show ((up (up (up Pc1 1 1 0) 0 10 (((P 0 11).toNat : Nat) : Int)) 0 11 (((P 0 10).toNat : Nat) : Int)) 0 10).toNat = (P 0 11).toNat by have q0 := (((up_k (by decide)).trans up_same) : (up (up (up Pc1 1 1 0) 0 10 (((P 0 11).toNat : Nat) : Int)) 0 11 (((P 0 10).toNat : Nat) : Int)) 0 10 = (((P 0 11).toNat : Nat) : Int)); (first | (clear p_tx p_ts gc1_m k4; omega) | (clear p_tx p_ts gc1_m; omega) | (clear p_tx p_ts k4; omega) | (clear p_tx gc1_m k4; omega) | (clear p_ts gc1_m k4; omega) | (clear p_tx p_ts; omega) | omega)]; exact ⟨((fun h0 => (XK.fr (F := ([(0, 10), (0, 11), (1, 1)], [])) (ec1_0 h0) (FrX.s (FrX.s (FrX.s FrX.rf (⟨by decide, rfl⟩ : kx 1 1) rfl) (⟨by decide, rfl⟩ : kx 0 0) rfl) (⟨by decide, rfl⟩ : kx 0 0) rfl) rfl)) (by (first | (clear p_tx p_ts gc1_m k4; omega) | (clear p_tx p_ts gc1_m; omega) | (clear p_tx p_ts k4; omega) | (clear p_tx gc1_m k4; omega) | (clear p_ts gc1_m k4; omega) | (clear p_tx p_ts; omega) | omega))), ((fun h0 => (XM.fr (F := ([(0, 10), (0, 11), (1, 1)], [])) (ec1_1 h0) (FrX.s (FrX.s (FrX.s FrX.rf (⟨by decide, rfl⟩ : kx 1 1) rfl) (⟨by decide, rfl⟩ : kx 0 0) rfl) (⟨by decide, rfl⟩ : kx 0 0) rfl) rfl)) (by (first | (clear p_tx p_ts gc1_m k4; omega) | (clear p_tx p_ts gc1_m; omega) | (clear p_tx p_ts k4; omega) | (clear p_tx gc1_m k4; omega) | (clear p_ts gc1_m k4; omega) | (clear p_tx p_ts; omega) | omega)))⟩
    refine g_aload_n dX11_match_55 rfl ?_
    refine g_vV (av := []) (o := 0) (st := []) (f_X11_startMatch G (up (up (up Pc1 1 1 0) 0 10 (((P 0 11).toNat : Nat) : Int)) 0 11 (((P 0 10).toNat : Nat) : Int)) A (mlR T).2.2.1 (mlR T).2.2.2  hB6 (by have q := (mlR_w (T := T) (by (first | (clear p_tx p_ts gc1_m k4; omega) | (clear p_tx p_ts gc1_m; omega) | (clear p_tx p_ts k4; omega) | (clear p_tx gc1_m k4; omega) | (clear p_ts gc1_m k4; omega) | (clear p_tx p_ts; omega) | omega))).2.1; exact ⟨q.2.2.1, q.2.2.2.1⟩) ((AX.fr (F := ([(0, 10), (0, 11), (1, 1), (28, 6), (28, 7), (28, 8), (28, 9), (28, 10), (29, 9), (29, 10), (45, 2), (45, 3), (45, 4), (46, 1), (46, 2), (46, 3), (46, 4), (46, 5), (46, 6), (46, 7), (46, 8)], [30, 31, 32, 33, 34, 35, 36, 37, 38, 39, 40, 41, 42, 44, 50])) z1 (FrX.s (FrX.s (FrX.s (FrX.c FrX.rf hFc1 rfl) (⟨by decide, rfl⟩ : kx 1 1) rfl) (⟨by decide, rfl⟩ : kx 0 0) rfl) (⟨by decide, rfl⟩ : kx 0 0) rfl) rfl)) (iv7) _ (fun Pc8 hBc8 hFc8 ec8_0 => ⟨rfl, ?_⟩)) cf_X11_startMatch t_861 rfl (show kx 0 0 from (⟨by decide, rfl⟩ : kx 0 0)).1 ((show kx 0 0 from (⟨by decide, rfl⟩ : kx 0 0)).sh rfl) rfl rfl (Nat.le_of_ble_eq_true rfl) (by decide) rfl dX11_match_56
    refine g_iload_n dX11_match_59 rfl ?_
    exact g_retI dX11_match_60 rfl (hQ rc1 ⟨by (first | (clear p_tx p_ts gc1_m k4; omega) | omega), by (first | (clear p_tx p_ts gc1_m k4; omega) | omega)⟩ _ hBc8 (FrX.c (FrX.s (FrX.s (FrX.s (FrX.c FrX.rf hFc1 rfl) (⟨by decide, rfl⟩ : kx 1 1) rfl) (⟨by decide, rfl⟩ : kx 0 0) rfl) (⟨by decide, rfl⟩ : kx 0 0) rfl) hFc8 rfl) (by have q0 := (((FrX.g hFc8 (⟨by decide, rfl⟩ : kx 1 1) rfl).trans ((up_o (kx.ne (⟨by decide, rfl⟩ : kx 1 1) (⟨by decide, rfl⟩ : kx 0 0) rfl)).trans ((up_o (kx.ne (⟨by decide, rfl⟩ : kx 1 1) (⟨by decide, rfl⟩ : kx 0 0) rfl)).trans up_same))) : Pc8 1 1 = 0); (first | (clear p_tx p_ts gc1_m k4; omega) | (clear p_tx p_ts gc1_m; omega) | (clear p_tx p_ts k4; omega) | (clear p_tx gc1_m k4; omega) | (clear p_ts gc1_m k4; omega) | (clear p_tx p_ts; omega) | omega)) (by (first | (clear p_tx p_ts gc1_m k4; omega) | (clear p_tx p_ts gc1_m; omega) | (clear p_tx p_ts k4; omega) | (clear p_tx gc1_m k4; omega) | (clear p_ts gc1_m k4; omega) | (clear p_tx p_ts; omega) | omega)) (by have q0 := (((FrX.g hFc8 (⟨by decide, rfl⟩ : kx 0 0) rfl).trans ((up_k (by decide)).trans up_same)) : Pc8 0 10 = (((P 0 11).toNat : Nat) : Int)); have q1 := (((FrX.g hFc8 (⟨by decide, rfl⟩ : kx 0 0) rfl).trans up_same) : Pc8 0 11 = (((P 0 10).toNat : Nat) : Int)); have q2 := br_0_10 hB; have q3 := br_0_11 hB; (first | (clear p_tx p_ts gc1_m k4; omega) | (clear p_tx p_ts gc1_m; omega) | (clear p_tx p_ts k4; omega) | (clear p_tx gc1_m k4; omega) | (clear p_ts gc1_m k4; omega) | (clear p_tx p_ts; omega) | omega)) (by have q0 := (((FrX.g hFc8 (⟨by decide, rfl⟩ : kx 110 45) rfl).trans ((up_o (kx.ne (⟨by decide, rfl⟩ : kx 110 45) (⟨by decide, rfl⟩ : kx 0 0) rfl)).trans ((up_o (kx.ne (⟨by decide, rfl⟩ : kx 110 45) (⟨by decide, rfl⟩ : kx 0 0) rfl)).trans ((up_o (kx.ne (⟨by decide, rfl⟩ : kx 110 45) (⟨by decide, rfl⟩ : kx 1 1) rfl)).trans rfl)))) : Pc8 110 3 = (Pc1 110 3)); have q1 := (((FrX.g hFc8 (⟨by decide, rfl⟩ : kx 110 45) rfl).trans ((up_o (kx.ne (⟨by decide, rfl⟩ : kx 110 45) (⟨by decide, rfl⟩ : kx 0 0) rfl)).trans ((up_o (kx.ne (⟨by decide, rfl⟩ : kx 110 45) (⟨by decide, rfl⟩ : kx 0 0) rfl)).trans ((up_o (kx.ne (⟨by decide, rfl⟩ : kx 110 45) (⟨by decide, rfl⟩ : kx 1 1) rfl)).trans rfl)))) : Pc8 110 4 = (Pc1 110 4)); (first | (clear p_tx p_ts gc1_m k4; omega) | (clear p_tx p_ts gc1_m; omega) | (clear p_tx p_ts k4; omega) | (clear p_tx gc1_m k4; omega) | (clear p_ts gc1_m k4; omega) | (clear p_tx p_ts; omega) | omega)) (by have h0 : (mlR T).1 = 0 := (by (first | (clear p_tx p_ts gc1_m k4; omega) | (clear p_tx p_ts gc1_m; omega) | (clear p_tx p_ts k4; omega) | (clear p_tx gc1_m k4; omega) | (clear p_ts gc1_m k4; omega) | (clear p_tx p_ts; omega) | omega)); rw [kmR_0 h0, mmR_0 h0]; unfold XTB; rw [show (Pc8 0 10).toNat = (P 0 11).toNat by have q0 := (((FrX.g hFc8 (⟨by decide, rfl⟩ : kx 0 0) rfl).trans ((up_k (by decide)).trans up_same)) : Pc8 0 10 = (((P 0 11).toNat : Nat) : Int)); (first | (clear p_tx p_ts gc1_m k4; omega) | (clear p_tx p_ts gc1_m; omega) | (clear p_tx p_ts k4; omega) | (clear p_tx gc1_m k4; omega) | (clear p_ts gc1_m k4; omega) | (clear p_tx p_ts; omega) | omega)]; exact ⟨((fun h0 => (XK.fr (F := ([(0, 10), (0, 11), (1, 1), (5, 2), (8, 3), (11, 3), (14, 1), (14, 2), (14, 3), (16, 5), (16, 7), (22, 2), (51, 13)], [6, 7, 9, 10, 12, 13, 15])) (ec1_0 h0) (FrX.c (FrX.s (FrX.s (FrX.s FrX.rf (⟨by decide, rfl⟩ : kx 1 1) rfl) (⟨by decide, rfl⟩ : kx 0 0) rfl) (⟨by decide, rfl⟩ : kx 0 0) rfl) hFc8 rfl) rfl)) (by (first | (clear p_tx p_ts gc1_m k4; omega) | (clear p_tx p_ts gc1_m; omega) | (clear p_tx p_ts k4; omega) | (clear p_tx gc1_m k4; omega) | (clear p_ts gc1_m k4; omega) | (clear p_tx p_ts; omega) | omega))), ((fun h0 => (XM.fr (F := ([(0, 10), (0, 11), (1, 1), (5, 2), (8, 3), (11, 3), (14, 1), (14, 2), (14, 3), (16, 5), (16, 7), (22, 2), (51, 13)], [6, 7, 9, 10, 12, 13, 15])) (ec1_1 h0) (FrX.c (FrX.s (FrX.s (FrX.s FrX.rf (⟨by decide, rfl⟩ : kx 1 1) rfl) (⟨by decide, rfl⟩ : kx 0 0) rfl) (⟨by decide, rfl⟩ : kx 0 0) rfl) hFc8 rfl) rfl)) (by (first | (clear p_tx p_ts gc1_m k4; omega) | (clear p_tx p_ts gc1_m; omega) | (clear p_tx p_ts k4; omega) | (clear p_tx gc1_m k4; omega) | (clear p_ts gc1_m k4; omega) | (clear p_tx p_ts; omega) | omega)))⟩) (by rw [aMat_0 (by (first | (clear p_tx p_ts gc1_m k4; omega) | (clear p_tx p_ts gc1_m; omega) | (clear p_tx p_ts k4; omega) | (clear p_tx gc1_m k4; omega) | (clear p_ts gc1_m k4; omega) | (clear p_tx p_ts; omega) | omega))]; exact ec8_0) (by have h0 : (mlR T).1 = 0 := (by (first | (clear p_tx p_ts gc1_m k4; omega) | (clear p_tx p_ts gc1_m; omega) | (clear p_tx p_ts k4; omega) | (clear p_tx gc1_m k4; omega) | (clear p_ts gc1_m k4; omega) | (clear p_tx p_ts; omega) | omega)); rw [kmR_0 h0, mmR_0 h0]; unfold XZT; rw [show (Pc8 0 10).toNat = (P 0 11).toNat by have q0 := (((FrX.g hFc8 (⟨by decide, rfl⟩ : kx 0 0) rfl).trans ((up_k (by decide)).trans up_same)) : Pc8 0 10 = (((P 0 11).toNat : Nat) : Int)); (first | (clear p_tx p_ts gc1_m k4; omega) | (clear p_tx p_ts gc1_m; omega) | (clear p_tx p_ts k4; omega) | (clear p_tx gc1_m k4; omega) | (clear p_ts gc1_m k4; omega) | (clear p_tx p_ts; omega) | omega)]; exact ((fun h0 => (XZ.fr (F := ([(0, 10), (0, 11), (1, 1), (5, 2), (8, 3), (11, 3), (14, 1), (14, 2), (14, 3), (16, 5), (16, 7), (22, 2), (51, 13)], [6, 7, 9, 10, 12, 13, 15])) (ec1_3 h0) (FrX.c (FrX.s (FrX.s (FrX.s FrX.rf (⟨by decide, rfl⟩ : kx 1 1) rfl) (⟨by decide, rfl⟩ : kx 0 0) rfl) (⟨by decide, rfl⟩ : kx 0 0) rfl) hFc8 rfl) rfl)) (by (first | (clear p_tx p_ts gc1_m k4; omega) | (clear p_tx p_ts gc1_m; omega) | (clear p_tx p_ts k4; omega) | (clear p_tx gc1_m k4; omega) | (clear p_ts gc1_m k4; omega) | (clear p_tx p_ts; omega) | omega)))) (by have h0 : (mlR T).1 = 0 := (by (first | (clear p_tx p_ts gc1_m k4; omega) | (clear p_tx p_ts gc1_m; omega) | (clear p_tx p_ts k4; omega) | (clear p_tx gc1_m k4; omega) | (clear p_ts gc1_m k4; omega) | (clear p_tx p_ts; omega) | omega)); rw [kmR_0 h0, mmR_0 h0, fmR_0 h0]; unfold XFT; rw [show (Pc8 0 10).toNat = (P 0 11).toNat by have q0 := (((FrX.g hFc8 (⟨by decide, rfl⟩ : kx 0 0) rfl).trans ((up_k (by decide)).trans up_same)) : Pc8 0 10 = (((P 0 11).toNat : Nat) : Int)); (first | (clear p_tx p_ts gc1_m k4; omega) | (clear p_tx p_ts gc1_m; omega) | (clear p_tx p_ts k4; omega) | (clear p_tx gc1_m k4; omega) | (clear p_ts gc1_m k4; omega) | (clear p_tx p_ts; omega) | omega)]; exact ((fun h0 => (XFb.fr (ec1_4 h0) (show FrX ([(0, 10), (0, 11), (1, 1), (5, 2), (8, 3), (11, 3), (14, 1), (14, 2), (14, 3), (16, 5), (16, 7), (22, 2), (51, 13)], [6, 7, 9, 10, 12, 13, 15]) _ _ from (FrX.c (FrX.s (FrX.s (FrX.s FrX.rf (⟨by decide, rfl⟩ : kx 1 1) rfl) (⟨by decide, rfl⟩ : kx 0 0) rfl) (⟨by decide, rfl⟩ : kx 0 0) rfl) hFc8 rfl)) rfl)) (by (first | (clear p_tx p_ts gc1_m k4; omega) | (clear p_tx p_ts gc1_m; omega) | (clear p_tx p_ts k4; omega) | (clear p_tx gc1_m k4; omega) | (clear p_ts gc1_m k4; omega) | (clear p_tx p_ts; omega) | omega)))))
  · first | (revert r_gc1_m; intro r_gc1_m) | have r_gc1_m := (gc1_m.resolve_right (by (clear p_tx p_ts gc1_m k4; omega))) | have r_gc1_m := (gc1_m.resolve_left (by (clear p_tx p_ts gc1_m k4; omega))) | skip
    refine g_aload_n dX11_match_29 rfl ?_
    refine g_iconst dX11_match_30 ?_
    refine g_vI (av := [vI 1]) (o := 0) (st := []) (m_X11_refuse G (up Pc1 1 1 0) 1 (by decide) hB3  _ (fun rc9 hc9 Pc9 hBc9 hFc9 => ⟨rc9, rfl, ?_⟩)) cf_X11_refuse t_663 rfl (show kx 0 0 from (⟨by decide, rfl⟩ : kx 0 0)).1 ((show kx 0 0 from (⟨by decide, rfl⟩ : kx 0 0)).sh rfl) rfl rfl (Nat.le_of_ble_eq_true rfl) (by decide) rfl dX11_match_31
    refine g_pop dX11_match_34 rfl ?_
    refine g_iconst dX11_match_35 ?_
    exact g_retI dX11_match_36 rfl (hQ (-1) (by decide) _ hBc9 (FrX.c (FrX.s (FrX.c FrX.rf hFc1 rfl) (⟨by decide, rfl⟩ : kx 1 1) rfl) hFc9 rfl) (by have q0 := (((FrX.g hFc9 (⟨by decide, rfl⟩ : kx 1 1) rfl).trans up_same) : Pc9 1 1 = 0); (first | (clear p_tx p_ts gc1_m k4; omega) | (clear p_tx p_ts gc1_m; omega) | (clear p_tx p_ts k4; omega) | (clear p_tx gc1_m k4; omega) | (clear p_ts gc1_m k4; omega) | (clear p_tx p_ts; omega) | omega)) (by (first | (clear p_tx p_ts gc1_m k4; omega) | (clear p_tx p_ts gc1_m; omega) | (clear p_tx p_ts k4; omega) | (clear p_tx gc1_m k4; omega) | (clear p_ts gc1_m k4; omega) | (clear p_tx p_ts; omega) | omega)) (by have q0 := (((FrX.g hFc9 (⟨by decide, rfl⟩ : kx 0 0) rfl).trans ((up_o (kx.ne (⟨by decide, rfl⟩ : kx 0 0) (⟨by decide, rfl⟩ : kx 1 1) rfl)).trans ((FrX.g hFc1 (⟨by decide, rfl⟩ : kx 0 0) rfl).trans rfl))) : Pc9 0 10 = (P 0 10)); have q1 := (((FrX.g hFc9 (⟨by decide, rfl⟩ : kx 0 0) rfl).trans ((up_o (kx.ne (⟨by decide, rfl⟩ : kx 0 0) (⟨by decide, rfl⟩ : kx 1 1) rfl)).trans ((FrX.g hFc1 (⟨by decide, rfl⟩ : kx 0 0) rfl).trans rfl))) : Pc9 0 11 = (P 0 11)); have q2 := br_0_10 hB; have q3 := br_0_11 hB; (first | (clear p_tx p_ts gc1_m k4; omega) | (clear p_tx p_ts gc1_m; omega) | (clear p_tx p_ts k4; omega) | (clear p_tx gc1_m k4; omega) | (clear p_ts gc1_m k4; omega) | (clear p_tx p_ts; omega) | omega)) (by have q0 := (((FrX.g hFc9 (⟨by decide, rfl⟩ : kx 110 45) rfl).trans ((up_o (kx.ne (⟨by decide, rfl⟩ : kx 110 45) (⟨by decide, rfl⟩ : kx 1 1) rfl)).trans rfl)) : Pc9 110 3 = (Pc1 110 3)); have q1 := (((FrX.g hFc9 (⟨by decide, rfl⟩ : kx 110 45) rfl).trans ((up_o (kx.ne (⟨by decide, rfl⟩ : kx 110 45) (⟨by decide, rfl⟩ : kx 1 1) rfl)).trans rfl)) : Pc9 110 4 = (Pc1 110 4)); (first | (clear p_tx p_ts gc1_m k4; omega) | (clear p_tx p_ts gc1_m; omega) | (clear p_tx p_ts k4; omega) | (clear p_tx gc1_m k4; omega) | (clear p_ts gc1_m k4; omega) | (clear p_tx p_ts; omega) | omega)) (by have h1 : (mlR T).1 ≠ 0 := (by (first | (clear p_tx p_ts gc1_m k4; omega) | (clear p_tx p_ts gc1_m; omega) | (clear p_tx p_ts k4; omega) | (clear p_tx gc1_m k4; omega) | (clear p_ts gc1_m k4; omega) | (clear p_tx p_ts; omega) | omega)); rw [kmR_1 h1, mmR_1 h1]; unfold XTB; rw [show Pc9 0 10 = P 0 10 by have q0 := (((FrX.g hFc9 (⟨by decide, rfl⟩ : kx 0 0) rfl).trans ((up_o (kx.ne (⟨by decide, rfl⟩ : kx 0 0) (⟨by decide, rfl⟩ : kx 1 1) rfl)).trans ((FrX.g hFc1 (⟨by decide, rfl⟩ : kx 0 0) rfl).trans rfl))) : Pc9 0 10 = (P 0 10)); have q2 := br_0_10 hB; (first | (clear p_tx p_ts gc1_m k4; omega) | (clear p_tx p_ts gc1_m; omega) | (clear p_tx p_ts k4; omega) | (clear p_tx gc1_m k4; omega) | (clear p_ts gc1_m k4; omega) | (clear p_tx p_ts; omega) | omega)]; have hne : (P 0 10).toNat ≠ tbX (P 0 11).toNat := (by rw [(tb28 (bk_0_11 hB)).1]; have q1 := br_0_10 hB; have q2 := br_0_11 hB; (first | (clear p_tx p_ts gc1_m k4; omega) | (clear p_tx p_ts gc1_m; omega) | (clear p_tx p_ts k4; omega) | (clear p_tx gc1_m k4; omega) | (clear p_ts gc1_m k4; omega) | (clear p_tx p_ts; omega) | omega)); exact ⟨KT.xk (KT.fr (F := ([(1, 1)], [27])) kt2 (FrX.c (FrX.s FrX.rf (⟨by decide, rfl⟩ : kx 1 1) rfl) hFc9 rfl) rfl) (bk_0_10 hB) hne z0.1, KT.xm (KT.fr (F := ([(1, 1)], [27])) kt2 (FrX.c (FrX.s FrX.rf (⟨by decide, rfl⟩ : kx 1 1) rfl) hFc9 rfl) rfl) (bk_0_10 hB) hne z0.2⟩) (by rw [aMat_1 (by (first | (clear p_tx p_ts gc1_m k4; omega) | (clear p_tx p_ts gc1_m; omega) | (clear p_tx p_ts k4; omega) | (clear p_tx gc1_m k4; omega) | (clear p_ts gc1_m k4; omega) | (clear p_tx p_ts; omega) | omega))]; exact (AX.fr (F := ([(1, 1), (28, 6), (28, 7), (28, 8), (28, 9), (28, 10), (29, 9), (29, 10), (45, 2), (45, 3), (45, 4), (46, 1), (46, 2), (46, 3), (46, 4), (46, 5), (46, 6), (46, 7), (46, 8)], [27, 30, 31, 32, 33, 34, 35, 36, 37, 38, 39, 40, 41, 42, 44, 50])) z1 (FrX.c (FrX.s (FrX.c FrX.rf hFc1 rfl) (⟨by decide, rfl⟩ : kx 1 1) rfl) hFc9 rfl) rfl)) (by have h1 : (mlR T).1 ≠ 0 := (by (first | (clear p_tx p_ts gc1_m k4; omega) | (clear p_tx p_ts gc1_m; omega) | (clear p_tx p_ts k4; omega) | (clear p_tx gc1_m k4; omega) | (clear p_ts gc1_m k4; omega) | (clear p_tx p_ts; omega) | omega)); rw [kmR_1 h1, mmR_1 h1]; unfold XZT; rw [show Pc9 0 10 = P 0 10 by have q0 := (((FrX.g hFc9 (⟨by decide, rfl⟩ : kx 0 0) rfl).trans ((up_o (kx.ne (⟨by decide, rfl⟩ : kx 0 0) (⟨by decide, rfl⟩ : kx 1 1) rfl)).trans ((FrX.g hFc1 (⟨by decide, rfl⟩ : kx 0 0) rfl).trans rfl))) : Pc9 0 10 = (P 0 10)); have q2 := br_0_10 hB; (first | (clear p_tx p_ts gc1_m k4; omega) | (clear p_tx p_ts gc1_m; omega) | (clear p_tx p_ts k4; omega) | (clear p_tx gc1_m k4; omega) | (clear p_ts gc1_m k4; omega) | (clear p_tx p_ts; omega) | omega)]; have hne : (P 0 10).toNat ≠ tbX (P 0 11).toNat := (by rw [(tb28 (bk_0_11 hB)).1]; have q1 := br_0_10 hB; have q2 := br_0_11 hB; (first | (clear p_tx p_ts gc1_m k4; omega) | (clear p_tx p_ts gc1_m; omega) | (clear p_tx p_ts k4; omega) | (clear p_tx gc1_m k4; omega) | (clear p_ts gc1_m k4; omega) | (clear p_tx p_ts; omega) | omega)); exact KT.xz (KT.fr (F := ([(1, 1)], [27])) kt2 (FrX.c (FrX.s FrX.rf (⟨by decide, rfl⟩ : kx 1 1) rfl) hFc9 rfl) rfl) (bk_0_10 hB) hne z2) (by have h1 : (mlR T).1 ≠ 0 := (by (first | (clear p_tx p_ts gc1_m k4; omega) | (clear p_tx p_ts gc1_m; omega) | (clear p_tx p_ts k4; omega) | (clear p_tx gc1_m k4; omega) | (clear p_ts gc1_m k4; omega) | (clear p_tx p_ts; omega) | omega)); rw [kmR_1 h1, mmR_1 h1, fmR_1 h1]; unfold XFT; rw [show Pc9 0 10 = P 0 10 by have q0 := (((FrX.g hFc9 (⟨by decide, rfl⟩ : kx 0 0) rfl).trans ((up_o (kx.ne (⟨by decide, rfl⟩ : kx 0 0) (⟨by decide, rfl⟩ : kx 1 1) rfl)).trans ((FrX.g hFc1 (⟨by decide, rfl⟩ : kx 0 0) rfl).trans rfl))) : Pc9 0 10 = (P 0 10)); have q2 := br_0_10 hB; (first | (clear p_tx p_ts gc1_m k4; omega) | (clear p_tx p_ts gc1_m; omega) | (clear p_tx p_ts k4; omega) | (clear p_tx gc1_m k4; omega) | (clear p_ts gc1_m k4; omega) | (clear p_tx p_ts; omega) | omega)]; have hne : (P 0 10).toNat ≠ tbX (P 0 11).toNat := (by rw [(tb28 (bk_0_11 hB)).1]; have q1 := br_0_10 hB; have q2 := br_0_11 hB; (first | (clear p_tx p_ts gc1_m k4; omega) | (clear p_tx p_ts gc1_m; omega) | (clear p_tx p_ts k4; omega) | (clear p_tx gc1_m k4; omega) | (clear p_ts gc1_m k4; omega) | (clear p_tx p_ts; omega) | omega)); exact ⟨z3.1, KT.xf (KT.fr (F := ([(1, 1)], [27])) kt2 (FrX.c (FrX.s FrX.rf (⟨by decide, rfl⟩ : kx 1 1) rfl) hFc9 rfl) rfl) (bk_0_10 hB) hne z3.1 z3.2⟩))
/-! What the class answers: X1_add_B16. -/
set_option maxRecDepth 100000 in
set_option maxHeartbeats 4000000 in
theorem f_X1_add_B16 (G : GT) (P : PH) (T : TT) (a1 : Int) (h_a1 : (-2147483648) ≤ a1 ∧ a1 ≤ 2147483647) (hB : BdX P) (p_l9 : P 1 1 ≤ 1599) (z0 : CX T P) (Q : Option PV → PH → Prop) (hQ : ∀ (P1 : PH) (_ : BdX P1) (_ : FrX ([(1, 1)], [2]) P P1) (_ : (P 1 1 ≤ 1599 ∧ P1 1 1 = P 1 1 + 1) ∨ (1600 ≤ P 1 1 ∧ P1 1 1 = P 1 1)) (_ : CX (tadd T (iand a1 255)) P1), Q none P1) : Ct WSX G 1 iX1_add [vR 1, vI a1] P Q := by
  refine Ct.of (by decide) (l0 := [(0, vR 1), (1, vI a1)]) rfl (Nat.le_of_ble_eq_true rfl) ?_
  refine g_aload_n dX1_add_0 rfl ?_
  refine x_g1_1 (z := (P 1 1)) (⟨by decide, rfl⟩ : kx 1 1) ffX1_21 dX1_add_1 rfl ?_
  have f1 := bx_1_1 (o := 1) hB (⟨by decide, rfl⟩ : kx 1 1)
  refine g_if_lt (tgt := 43) dX1_add_4 (by decide) ⟨by have q0 := bx_1_1 (o := 1) hB (⟨by decide, rfl⟩ : kx 1 1); omega, by have q0 := bx_1_1 (o := 1) hB (⟨by decide, rfl⟩ : kx 1 1); omega⟩ (fun k2 => by exfalso; have q0 := bx_1_1 (o := 1) hB (⟨by decide, rfl⟩ : kx 1 1); omega) (fun k2 => ?_)
  refine g_aload_n dX1_add_7 rfl ?_
  refine x_g1_1 (z := (P 1 1)) (⟨by decide, rfl⟩ : kx 1 1) ffX1_21 dX1_add_8 rfl ?_
  refine g_aload_n dX1_add_11 rfl ?_
  refine x_g1_0 (n := 2) (⟨by decide, rfl⟩ : kx 1 1) ffX1_15 dX1_add_12 rfl ?_
  refine x_n2 (⟨by decide, rfl⟩ : kx 2 2) dX1_add_15 ?_
  refine g_icmp_ge (tgt := 43) dX1_add_16 (by decide) ⟨by have q0 := bx_1_1 (o := 1) hB (⟨by decide, rfl⟩ : kx 1 1); (first | (clear k2; omega) | omega), by have q0 := bx_1_1 (o := 1) hB (⟨by decide, rfl⟩ : kx 1 1); (first | (clear k2; omega) | omega)⟩ (by decide) (fun k3 => ?_) (fun k3 => ?_)
  · exact g_retV dX1_add_43 rfl (hQ _ hB FrX.rf (by have q0 := bx_1_1 (o := 1) hB (⟨by decide, rfl⟩ : kx 1 1); (first | (clear k2 k3; omega) | (clear k2; omega) | (clear k3; omega) | omega)) (by first | (rw [← hw]; exact CX.add z0 rfl rfl (fun j hj => rfl)) | (exfalso; have q := bx_1_1 (o := 1) hB ⟨by decide, rfl⟩; (first | (clear k2 k3; omega) | (clear k2; omega) | (clear k3; omega) | omega))))
  · refine g_aload_n dX1_add_19 rfl ?_
    refine x_g1_0 (n := 2) (⟨by decide, rfl⟩ : kx 1 1) ffX1_15 dX1_add_20 rfl ?_
    refine g_aload_n dX1_add_23 rfl ?_
    refine x_g1_1 (z := (P 1 1)) (⟨by decide, rfl⟩ : kx 1 1) ffX1_21 dX1_add_24 rfl ?_
    refine g_iload_n dX1_add_27 rfl ?_
    refine g_sipush dX1_add_28 (by decide) ?_
    refine g_iand dX1_add_31 ?_
    refine g_nm (fun b4 e_b4 => ?_)
    have h_b4 := iand_r (x := a1) (y := 255) ⟨by (first | (clear k2 k3; omega) | omega), by (first | (clear k2 k3; omega) | omega)⟩
    rw [← e_b4] at h_b4
    have hw := e_b4
    refine x_s2 (⟨by decide, rfl⟩ : kx 2 2) dX1_add_32 ⟨by have q0 := bx_1_1 (o := 1) hB (⟨by decide, rfl⟩ : kx 1 1); (first | (clear k2 k3; omega) | omega), by have q0 := bx_1_1 (o := 1) hB (⟨by decide, rfl⟩ : kx 1 1); (first | (clear k2 k3; omega) | omega)⟩ ?_
    have hB5 := by_2 (z := b4) (k := (P 1 1)) hB (⟨by decide, rfl⟩ : kx 2 2) ⟨by (first | (clear k2 k3; omega) | omega), by (first | (clear k2 k3; omega) | omega)⟩
    refine g_aload_n dX1_add_33 rfl ?_
    refine g_dup dX1_add_34 rfl ?_
    refine x_g1_1 (z := (P 1 1)) (⟨by decide, rfl⟩ : kx 1 1) ffX1_21 dX1_add_35 ((up_o (kx.ne (⟨by decide, rfl⟩ : kx 1 1) (⟨by decide, rfl⟩ : kx 2 2) rfl)).trans rfl) ?_
    refine g_iconst dX1_add_38 ?_
    refine g_iadd dX1_add_39 ?_
    refine x_p1_1 (⟨by decide, rfl⟩ : kx 1 1) pfX1_21 dX1_add_40 ?_
    have hB6 := by_1_1 (z := ((P 1 1) + 1)) hB5 (⟨by decide, rfl⟩ : kx 1 1) ⟨by have q0 := bx_1_1 (o := 1) hB (⟨by decide, rfl⟩ : kx 1 1); (first | (clear k2 k3; omega) | omega), by have q0 := bx_1_1 (o := 1) hB (⟨by decide, rfl⟩ : kx 1 1); (first | (clear k2 k3; omega) | omega)⟩
    exact g_retV dX1_add_43 rfl (hQ _ hB6 (FrX.s (FrX.s FrX.rf (⟨by decide, rfl⟩ : kx 2 2) rfl) (⟨by decide, rfl⟩ : kx 1 1) rfl) (by have q0 := (up_same : (up (up P 2 (P 1 1) b4) 1 1 ((P 1 1) + 1)) 1 1 = ((P 1 1) + 1)); have q1 := bx_1_1 (o := 1) hB (⟨by decide, rfl⟩ : kx 1 1); (first | (clear k2 k3; omega) | (clear k2; omega) | (clear k3; omega) | omega)) (by first | (rw [← hw]; exact CX.add z0 up_same ((up_o (kx.ne (⟨by decide, rfl⟩ : kx 2 2) (⟨by decide, rfl⟩ : kx 1 1) rfl)).trans up_same) (fun j hj => ((up_o (kx.ne (⟨by decide, rfl⟩ : kx 2 2) (⟨by decide, rfl⟩ : kx 1 1) rfl)).trans ((up_k hj).trans rfl)))) | (exfalso; have q := bx_1_1 (o := 1) hB ⟨by decide, rfl⟩; (first | (clear k2 k3; omega) | (clear k2; omega) | (clear k3; omega) | omega))))
/-! What the class answers: X1_addFour_B16. -/
set_option maxRecDepth 100000 in
set_option maxHeartbeats 4000000 in
theorem f_X1_addFour_B16 (G : GT) (P : PH) (T : TT) (a1 : Int) (h_a1 : (-2147483648) ≤ a1 ∧ a1 ≤ 2147483647) (hB : BdX P) (p_l4 : P 1 1 ≤ 1596) (z0 : CX T P) (Q : Option PV → PH → Prop) (hQ : ∀ (P1 : PH) (_ : BdX P1) (_ : FrX ([(1, 1)], [2]) P P1) (_ : 1596 < P 1 1 ∨ P1 1 1 = P 1 1 + 4) (_ : CX (tput T a1 4) P1), Q none P1) : Ct WSX G 2 iX1_addFour [vR 1, vI a1] P Q := by
  refine Ct.of (by decide) (l0 := [(0, vR 1), (1, vI a1)]) rfl (Nat.le_of_ble_eq_true rfl) ?_
  refine g_aload_n dX1_addFour_0 rfl ?_
  refine g_iload_n dX1_addFour_1 rfl ?_
  refine g_bipush dX1_addFour_2 (by decide) ?_
  refine g_ishr dX1_addFour_4 ?_
  refine g_nm (fun b1 e_b1 => ?_)
  have h_b1 : (ishr a1 24) = a1 / 16777216 := ishr_c 24 (by decide) (x := a1) ⟨by omega, by omega⟩
  rw [← e_b1] at h_b1
  have ex0 := e_b1
  refine g_vV (av := [vI b1]) (o := 1) (st := []) (f_X1_add_B16 G P T b1 ⟨by omega, by omega⟩ hB (by have q0 := bx_1_1 (o := 1) hB (⟨by decide, rfl⟩ : kx 1 1); omega) (z0) _ (fun Pc2 hBc2 hFc2 gc2_t ec2_0 => ⟨rfl, ?_⟩)) cf_X1_add t_671 rfl (show kx 1 1 from (⟨by decide, rfl⟩ : kx 1 1)).1 ((show kx 1 1 from (⟨by decide, rfl⟩ : kx 1 1)).sh rfl) rfl rfl (Nat.le_of_ble_eq_true rfl) (by decide) rfl dX1_addFour_5
  have iv3 : CX (tadd T (iand (ishr a1 24) 255)) Pc2 := by rw [← ex0]; exact ec2_0
  refine g_aload_n dX1_addFour_8 rfl ?_
  refine g_iload_n dX1_addFour_9 rfl ?_
  refine g_bipush dX1_addFour_10 (by decide) ?_
  refine g_ishr dX1_addFour_12 ?_
  refine g_nm (fun b4 e_b4 => ?_)
  have h_b4 : (ishr a1 16) = a1 / 65536 := ishr_c 16 (by decide) (x := a1) ⟨by (first | (clear gc2_t; omega) | omega), by (first | (clear gc2_t; omega) | omega)⟩
  rw [← e_b4] at h_b4
  have ex1 := e_b4
  refine g_vV (av := [vI b4]) (o := 1) (st := []) (f_X1_add_B16 G Pc2 (tadd T (iand (ishr a1 24) 255)) b4 ⟨by (first | (clear gc2_t; omega) | omega), by (first | (clear gc2_t; omega) | omega)⟩ hBc2 (by have q0 := bx_1_1 (o := 1) hBc2 (⟨by decide, rfl⟩ : kx 1 1); (first | (clear gc2_t; omega) | omega)) (iv3) _ (fun Pc5 hBc5 hFc5 gc5_t ec5_0 => ⟨rfl, ?_⟩)) cf_X1_add t_671 rfl (show kx 1 1 from (⟨by decide, rfl⟩ : kx 1 1)).1 ((show kx 1 1 from (⟨by decide, rfl⟩ : kx 1 1)).sh rfl) rfl rfl (Nat.le_of_ble_eq_true rfl) (by decide) rfl dX1_addFour_13
  have iv6 : CX (tadd (tadd T (iand (ishr a1 24) 255)) (iand (ishr a1 16) 255)) Pc5 := by rw [← ex1]; exact ec5_0
  refine g_aload_n dX1_addFour_16 rfl ?_
  refine g_iload_n dX1_addFour_17 rfl ?_
  refine g_bipush dX1_addFour_18 (by decide) ?_
  refine g_ishr dX1_addFour_20 ?_
  refine g_nm (fun b7 e_b7 => ?_)
  have h_b7 : (ishr a1 8) = a1 / 256 := ishr_c 8 (by decide) (x := a1) ⟨by (first | (clear gc2_t gc5_t; omega) | omega), by (first | (clear gc2_t gc5_t; omega) | omega)⟩
  rw [← e_b7] at h_b7
  have ex2 := e_b7
  refine g_vV (av := [vI b7]) (o := 1) (st := []) (f_X1_add_B16 G Pc5 (tadd (tadd T (iand (ishr a1 24) 255)) (iand (ishr a1 16) 255)) b7 ⟨by (first | (clear gc2_t gc5_t; omega) | omega), by (first | (clear gc2_t gc5_t; omega) | omega)⟩ hBc5 (by have q0 := bx_1_1 (o := 1) hBc5 (⟨by decide, rfl⟩ : kx 1 1); (first | (clear gc2_t gc5_t; omega) | (clear gc2_t; omega) | (clear gc5_t; omega) | omega)) (iv6) _ (fun Pc8 hBc8 hFc8 gc8_t ec8_0 => ⟨rfl, ?_⟩)) cf_X1_add t_671 rfl (show kx 1 1 from (⟨by decide, rfl⟩ : kx 1 1)).1 ((show kx 1 1 from (⟨by decide, rfl⟩ : kx 1 1)).sh rfl) rfl rfl (Nat.le_of_ble_eq_true rfl) (by decide) rfl dX1_addFour_21
  have iv9 : CX (tadd (tadd (tadd T (iand (ishr a1 24) 255)) (iand (ishr a1 16) 255)) (iand (ishr a1 8) 255)) Pc8 := by rw [← ex2]; exact ec8_0
  refine g_aload_n dX1_addFour_24 rfl ?_
  refine g_iload_n dX1_addFour_25 rfl ?_
  refine g_vV (av := [vI a1]) (o := 1) (st := []) (f_X1_add_B16 G Pc8 (tadd (tadd (tadd T (iand (ishr a1 24) 255)) (iand (ishr a1 16) 255)) (iand (ishr a1 8) 255)) a1 ⟨by (first | (clear gc2_t gc5_t gc8_t; omega) | omega), by (first | (clear gc2_t gc5_t gc8_t; omega) | omega)⟩ hBc8 (by have q0 := bx_1_1 (o := 1) hBc8 (⟨by decide, rfl⟩ : kx 1 1); (first | (clear gc2_t gc5_t gc8_t; omega) | (clear gc2_t gc5_t; omega) | (clear gc2_t gc8_t; omega) | (clear gc5_t gc8_t; omega) | (clear gc2_t; omega) | omega)) (iv9) _ (fun Pc10 hBc10 hFc10 gc10_t ec10_0 => ⟨rfl, ?_⟩)) cf_X1_add t_671 rfl (show kx 1 1 from (⟨by decide, rfl⟩ : kx 1 1)).1 ((show kx 1 1 from (⟨by decide, rfl⟩ : kx 1 1)).sh rfl) rfl rfl (Nat.le_of_ble_eq_true rfl) (by decide) rfl dX1_addFour_26
  exact g_retV dX1_addFour_29 rfl (hQ _ hBc10 (FrX.c (FrX.c (FrX.c (FrX.c FrX.rf hFc2 rfl) hFc5 rfl) hFc8 rfl) hFc10 rfl) (by have q0 := bx_1_1 (o := 1) hBc10 (⟨by decide, rfl⟩ : kx 1 1); (first | (clear gc2_t gc5_t gc8_t gc10_t; omega) | (clear gc2_t gc5_t gc8_t; omega) | (clear gc2_t gc5_t gc10_t; omega) | (clear gc2_t gc8_t gc10_t; omega) | (clear gc5_t gc8_t gc10_t; omega) | (clear gc2_t gc5_t; omega) | omega)) (by rw [tput_4 h_a1]; exact ec10_0))
/-! What the class answers: X11_feed. -/
set_option maxRecDepth 100000 in
set_option maxHeartbeats 4000000 in
theorem f_X11_feed (G : GT) (P : PH) (T : TT) (a1 : Int) (a2 : Int) (a3 : Int) (a4 : Int) (a5 : Int) (h_a1 : (-2147483648) ≤ a1 ∧ a1 ≤ 2147483647) (h_a2 : (-2147483648) ≤ a2 ∧ a2 ≤ 2147483647) (h_a3 : (-2147483648) ≤ a3 ∧ a3 ≤ 2147483647) (h_a4 : (-2147483648) ≤ a4 ∧ a4 ≤ 2147483647) (h_a5 : (-2147483648) ≤ a5 ∧ a5 ≤ 2147483647) (hB : BdX P) (z0 : CX T P) (Q : Option PV → PH → Prop) (hQ : ∀ (r : Int) (_ : (-2147483648) ≤ r ∧ r ≤ 2147483647) (P1 : PH) (_ : BdX P1) (_ : FrX ([(1, 1)], [2, 27]) P P1) (_ : (P 1 1 ≤ 1580 ∧ r = P 1 1 + 20 ∧ P1 1 1 = P 1 1 + 20) ∨ (1580 < P 1 1 ∧ r = -1 ∧ P1 1 1 = P 1 1)) (_ : CX (ff T a1 a2 a3 a4 a5) P1), Q (some (vI r)) P1) : Ct WSX G 3 iX11_feed [vR 0, vI a1, vI a2, vI a3, vI a4, vI a5] P Q := by
  refine Ct.of (by decide) (l0 := [(0, vR 0), (1, vI a1), (2, vI a2), (3, vI a3), (4, vI a4), (5, vI a5)]) rfl (Nat.le_of_ble_eq_true rfl) ?_
  have ht := z0.1
  refine g_aload_n dX11_feed_0 rfl ?_
  refine x_g0_0 (n := 1) (⟨by decide, rfl⟩ : kx 0 0) ffX11_14 dX11_feed_1 rfl ?_
  refine x_g1_1 (z := (P 1 1)) (⟨by decide, rfl⟩ : kx 1 1) ffX11_100 dX11_feed_4 rfl ?_
  refine g_bipush dX11_feed_7 (by decide) ?_
  refine g_iadd dX11_feed_9 ?_
  refine g_sipush dX11_feed_10 (by decide) ?_
  have f1 := bx_1_1 (o := 1) hB (⟨by decide, rfl⟩ : kx 1 1)
  refine g_icmp_le (tgt := 24) dX11_feed_13 (by decide) ⟨by have q0 := bx_1_1 (o := 1) hB (⟨by decide, rfl⟩ : kx 1 1); omega, by have q0 := bx_1_1 (o := 1) hB (⟨by decide, rfl⟩ : kx 1 1); omega⟩ (by decide) (fun k2 => ?_) (fun k2 => ?_)
  · refine g_aload_n dX11_feed_24 rfl ?_
    refine x_g0_0 (n := 1) (⟨by decide, rfl⟩ : kx 0 0) ffX11_14 dX11_feed_25 rfl ?_
    refine g_iload_n dX11_feed_28 rfl ?_
    refine g_vV (av := [vI a1]) (o := 1) (st := []) (f_X1_addFour_B16 G P T a1 ⟨by (first | (clear k2; omega) | omega), by (first | (clear k2; omega) | omega)⟩ hB (by have q0 := bx_1_1 (o := 1) hB (⟨by decide, rfl⟩ : kx 1 1); (first | (clear k2; omega) | omega)) (z0) _ (fun Pc3 hBc3 hFc3 gc3_t ec3_0 => ⟨rfl, ?_⟩)) cf_X1_addFour t_667 rfl (show kx 1 1 from (⟨by decide, rfl⟩ : kx 1 1)).1 ((show kx 1 1 from (⟨by decide, rfl⟩ : kx 1 1)).sh rfl) rfl rfl (Nat.le_of_ble_eq_true rfl) (by decide) rfl dX11_feed_29
    refine g_aload_n dX11_feed_32 rfl ?_
    refine x_g0_0 (n := 1) (⟨by decide, rfl⟩ : kx 0 0) ffX11_14 dX11_feed_33 rfl ?_
    refine g_iload_n dX11_feed_36 rfl ?_
    refine g_vV (av := [vI a2]) (o := 1) (st := []) (f_X1_addFour_B16 G Pc3 (tput T a1 4) a2 ⟨by (first | (clear k2 gc3_t; omega) | omega), by (first | (clear k2 gc3_t; omega) | omega)⟩ hBc3 (by have q0 := bx_1_1 (o := 1) hBc3 (⟨by decide, rfl⟩ : kx 1 1); (first | (clear k2 gc3_t; omega) | (clear k2; omega) | (clear gc3_t; omega) | omega)) (ec3_0) _ (fun Pc4 hBc4 hFc4 gc4_t ec4_0 => ⟨rfl, ?_⟩)) cf_X1_addFour t_667 rfl (show kx 1 1 from (⟨by decide, rfl⟩ : kx 1 1)).1 ((show kx 1 1 from (⟨by decide, rfl⟩ : kx 1 1)).sh rfl) rfl rfl (Nat.le_of_ble_eq_true rfl) (by decide) rfl dX11_feed_37
    refine g_aload_n dX11_feed_40 rfl ?_
    refine x_g0_0 (n := 1) (⟨by decide, rfl⟩ : kx 0 0) ffX11_14 dX11_feed_41 rfl ?_
    refine g_iload_n dX11_feed_44 rfl ?_
    refine g_vV (av := [vI a3]) (o := 1) (st := []) (f_X1_addFour_B16 G Pc4 (tput (tput T a1 4) a2 4) a3 ⟨by (first | (clear k2 gc3_t gc4_t; omega) | omega), by (first | (clear k2 gc3_t gc4_t; omega) | omega)⟩ hBc4 (by have q0 := bx_1_1 (o := 1) hBc4 (⟨by decide, rfl⟩ : kx 1 1); (first | (clear k2 gc3_t gc4_t; omega) | (clear k2 gc3_t; omega) | (clear k2 gc4_t; omega) | (clear gc3_t gc4_t; omega) | (clear k2; omega) | omega)) (ec4_0) _ (fun Pc5 hBc5 hFc5 gc5_t ec5_0 => ⟨rfl, ?_⟩)) cf_X1_addFour t_667 rfl (show kx 1 1 from (⟨by decide, rfl⟩ : kx 1 1)).1 ((show kx 1 1 from (⟨by decide, rfl⟩ : kx 1 1)).sh rfl) rfl rfl (Nat.le_of_ble_eq_true rfl) (by decide) rfl dX11_feed_45
    refine g_aload_n dX11_feed_48 rfl ?_
    refine x_g0_0 (n := 1) (⟨by decide, rfl⟩ : kx 0 0) ffX11_14 dX11_feed_49 rfl ?_
    refine g_iload dX11_feed_52 rfl ?_
    refine g_vV (av := [vI a4]) (o := 1) (st := []) (f_X1_addFour_B16 G Pc5 (tput (tput (tput T a1 4) a2 4) a3 4) a4 ⟨by (first | (clear k2 gc3_t gc4_t gc5_t; omega) | omega), by (first | (clear k2 gc3_t gc4_t gc5_t; omega) | omega)⟩ hBc5 (by have q0 := bx_1_1 (o := 1) hBc5 (⟨by decide, rfl⟩ : kx 1 1); (first | (clear k2 gc3_t gc4_t gc5_t; omega) | (clear k2 gc3_t gc4_t; omega) | (clear k2 gc3_t gc5_t; omega) | (clear k2 gc4_t gc5_t; omega) | (clear gc3_t gc4_t gc5_t; omega) | (clear k2 gc3_t; omega) | omega)) (ec5_0) _ (fun Pc6 hBc6 hFc6 gc6_t ec6_0 => ⟨rfl, ?_⟩)) cf_X1_addFour t_667 rfl (show kx 1 1 from (⟨by decide, rfl⟩ : kx 1 1)).1 ((show kx 1 1 from (⟨by decide, rfl⟩ : kx 1 1)).sh rfl) rfl rfl (Nat.le_of_ble_eq_true rfl) (by decide) rfl dX11_feed_54
    refine g_aload_n dX11_feed_57 rfl ?_
    refine x_g0_0 (n := 1) (⟨by decide, rfl⟩ : kx 0 0) ffX11_14 dX11_feed_58 rfl ?_
    refine g_iload dX11_feed_61 rfl ?_
    refine g_vV (av := [vI a5]) (o := 1) (st := []) (f_X1_addFour_B16 G Pc6 (tput (tput (tput (tput T a1 4) a2 4) a3 4) a4 4) a5 ⟨by (first | (clear k2 gc3_t gc4_t gc5_t gc6_t; omega) | omega), by (first | (clear k2 gc3_t gc4_t gc5_t gc6_t; omega) | omega)⟩ hBc6 (by have q0 := bx_1_1 (o := 1) hBc6 (⟨by decide, rfl⟩ : kx 1 1); (first | (clear k2 gc3_t gc4_t gc5_t gc6_t; omega) | (clear k2 gc3_t gc4_t gc5_t; omega) | (clear k2 gc3_t gc4_t gc6_t; omega) | (clear k2 gc3_t gc5_t gc6_t; omega) | (clear k2 gc4_t gc5_t gc6_t; omega) | (clear gc3_t gc4_t gc5_t gc6_t; omega) | (clear k2 gc3_t gc4_t; omega) | (clear k2; omega) | omega)) (ec6_0) _ (fun Pc7 hBc7 hFc7 gc7_t ec7_0 => ⟨rfl, ?_⟩)) cf_X1_addFour t_667 rfl (show kx 1 1 from (⟨by decide, rfl⟩ : kx 1 1)).1 ((show kx 1 1 from (⟨by decide, rfl⟩ : kx 1 1)).sh rfl) rfl rfl (Nat.le_of_ble_eq_true rfl) (by decide) rfl dX11_feed_63
    refine g_aload_n dX11_feed_66 rfl ?_
    refine x_g0_0 (n := 1) (⟨by decide, rfl⟩ : kx 0 0) ffX11_14 dX11_feed_67 rfl ?_
    refine x_g1_1 (z := (Pc7 1 1)) (⟨by decide, rfl⟩ : kx 1 1) ffX11_100 dX11_feed_70 rfl ?_
    exact g_retI dX11_feed_73 rfl (hQ (Pc7 1 1) ⟨by have q0 := bx_1_1 (o := 1) hBc7 (⟨by decide, rfl⟩ : kx 1 1); (first | (clear k2 gc3_t gc4_t gc5_t gc6_t gc7_t; omega) | omega), by have q0 := bx_1_1 (o := 1) hBc7 (⟨by decide, rfl⟩ : kx 1 1); (first | (clear k2 gc3_t gc4_t gc5_t gc6_t gc7_t; omega) | omega)⟩ _ hBc7 (FrX.c (FrX.c (FrX.c (FrX.c (FrX.c FrX.rf hFc3 rfl) hFc4 rfl) hFc5 rfl) hFc6 rfl) hFc7 rfl) (by have q0 := bx_1_1 (o := 1) hBc7 (⟨by decide, rfl⟩ : kx 1 1); (first | (clear k2 gc3_t gc4_t gc5_t gc6_t gc7_t; omega) | (clear k2 gc3_t gc4_t gc5_t gc6_t; omega) | (clear k2 gc3_t gc4_t gc5_t gc7_t; omega) | (clear k2 gc3_t gc4_t gc6_t gc7_t; omega) | (clear k2 gc3_t gc5_t gc6_t gc7_t; omega) | (clear k2 gc4_t gc5_t gc6_t gc7_t; omega) | (clear gc3_t gc4_t gc5_t gc6_t gc7_t; omega) | (clear k2 gc3_t gc4_t gc5_t; omega) | (clear gc3_t k2; omega) | omega)) (by unfold ff; first | (rw [if_pos (by (first | (clear k2 gc3_t gc4_t gc5_t gc6_t gc7_t; omega) | (clear k2 gc3_t gc4_t gc5_t gc6_t; omega) | (clear k2 gc3_t gc4_t gc5_t gc7_t; omega) | (clear k2 gc3_t gc4_t gc6_t gc7_t; omega) | (clear k2 gc3_t gc5_t gc6_t gc7_t; omega) | (clear k2 gc4_t gc5_t gc6_t gc7_t; omega) | (clear gc3_t gc4_t gc5_t gc6_t gc7_t; omega) | (clear k2 gc3_t gc4_t gc5_t; omega) | (clear gc3_t k2; omega) | omega))]; exact (by first | (rw [show T = (tput (tput (tput (tput (tput T a1 4) a2 4) a3 4) a4 4) a5 4) by (first | (clear k2 gc3_t gc4_t gc5_t gc6_t gc7_t; omega) | (clear k2 gc3_t gc4_t gc5_t gc6_t; omega) | (clear k2 gc3_t gc4_t gc5_t gc7_t; omega) | (clear k2 gc3_t gc4_t gc6_t gc7_t; omega) | (clear k2 gc3_t gc5_t gc6_t gc7_t; omega) | (clear k2 gc4_t gc5_t gc6_t gc7_t; omega) | (clear gc3_t gc4_t gc5_t gc6_t gc7_t; omega) | (clear k2 gc3_t gc4_t gc5_t; omega) | (clear gc3_t k2; omega) | omega)]; exact ec7_0))) | (rw [if_neg (by (first | (clear k2 gc3_t gc4_t gc5_t gc6_t gc7_t; omega) | (clear k2 gc3_t gc4_t gc5_t gc6_t; omega) | (clear k2 gc3_t gc4_t gc5_t gc7_t; omega) | (clear k2 gc3_t gc4_t gc6_t gc7_t; omega) | (clear k2 gc3_t gc5_t gc6_t gc7_t; omega) | (clear k2 gc4_t gc5_t gc6_t gc7_t; omega) | (clear gc3_t gc4_t gc5_t gc6_t gc7_t; omega) | (clear k2 gc3_t gc4_t gc5_t; omega) | (clear gc3_t k2; omega) | omega))]; exact ec7_0)))
  · refine g_aload_n dX11_feed_16 rfl ?_
    refine g_iconst dX11_feed_17 ?_
    refine g_vI (av := [vI 0]) (o := 0) (st := []) (m_X11_refuse G P 0 (by decide) hB  _ (fun rc8 hc8 Pc8 hBc8 hFc8 => ⟨rc8, rfl, ?_⟩)) cf_X11_refuse t_663 rfl (show kx 0 0 from (⟨by decide, rfl⟩ : kx 0 0)).1 ((show kx 0 0 from (⟨by decide, rfl⟩ : kx 0 0)).sh rfl) rfl rfl (Nat.le_of_ble_eq_true rfl) (by decide) rfl dX11_feed_18
    refine g_pop dX11_feed_21 rfl ?_
    refine g_iconst dX11_feed_22 ?_
    exact g_retI dX11_feed_23 rfl (hQ (-1) (by decide) _ hBc8 (FrX.c FrX.rf hFc8 rfl) (by have q0 := (((FrX.g hFc8 (⟨by decide, rfl⟩ : kx 1 1) rfl).trans rfl) : Pc8 1 1 = (P 1 1)); have q1 := bx_1_1 (o := 1) hB (⟨by decide, rfl⟩ : kx 1 1); (first | (clear k2; omega) | omega)) (by unfold ff; first | (rw [if_pos (by (first | (clear k2; omega) | omega))]; exact (CX.fr (F := ([], [27])) z0 (FrX.c FrX.rf hFc8 rfl) rfl)) | (rw [if_neg (by (first | (clear k2; omega) | omega))]; exact (by first | (rw [show (tput (tput (tput (tput (tput T a1 4) a2 4) a3 4) a4 4) a5 4) = T by (first | (clear k2; omega) | omega)]; exact (CX.fr (F := ([], [27])) z0 (FrX.c FrX.rf hFc8 rfl) rfl))))))
/-! What the class answers: X11_end. -/
set_option maxRecDepth 100000 in
set_option maxHeartbeats 4000000 in
theorem f_X11_end (G : GT) (P : PH) (T : TT) (a1 : Int) (h_a1 : (-2147483648) ≤ a1 ∧ a1 ≤ 2147483647) (hB : BdX P) (z0 : CX T P) (Q : Option PV → PH → Prop) (hQ : ∀ (r : Int) (_ : 0 ≤ r ∧ r ≤ 1) (P1 : PH) (_ : BdX P1) (_ : FrX ([(1, 1)], [27]) P P1) (_ : (0 ≤ a1 ∧ a1 ≤ P 1 1 ∧ r = 1 ∧ P1 1 1 = a1) ∨ ((a1 < 0 ∨ P 1 1 < a1) ∧ r = 0 ∧ P1 1 1 = P 1 1)) (_ : CX (fe T a1) P1), Q (some (vI r)) P1) : Ct WSX G 2 iX11_end [vR 0, vI a1] P Q := by
  refine Ct.of (by decide) (l0 := [(0, vR 0), (1, vI a1)]) rfl (Nat.le_of_ble_eq_true rfl) ?_
  have ht := z0.1
  refine g_iload_n dX11_end_0 rfl ?_
  refine g_if_lt (tgt := 15) dX11_end_1 (by decide) ⟨by omega, by omega⟩ (fun k1 => ?_) (fun k1 => ?_)
  · refine g_aload_n dX11_end_15 rfl ?_
    refine g_iconst dX11_end_16 ?_
    refine g_vI (av := [vI 0]) (o := 0) (st := []) (m_X11_refuse G P 0 (by decide) hB  _ (fun rc2 hc2 Pc2 hBc2 hFc2 => ⟨rc2, rfl, ?_⟩)) cf_X11_refuse t_663 rfl (show kx 0 0 from (⟨by decide, rfl⟩ : kx 0 0)).1 ((show kx 0 0 from (⟨by decide, rfl⟩ : kx 0 0)).sh rfl) rfl rfl (Nat.le_of_ble_eq_true rfl) (by decide) rfl dX11_end_17
    exact g_retZ dX11_end_20 rfl (by (first | (clear k1; omega) | omega)) (hQ rc2 ⟨by (first | (clear k1; omega) | omega), by (first | (clear k1; omega) | omega)⟩ _ hBc2 (FrX.c FrX.rf hFc2 rfl) (by have q0 := (((FrX.g hFc2 (⟨by decide, rfl⟩ : kx 1 1) rfl).trans rfl) : Pc2 1 1 = (P 1 1)); have q1 := bx_1_1 (o := 1) hB (⟨by decide, rfl⟩ : kx 1 1); (first | (clear k1; omega) | omega)) (by unfold fe; first | (rw [if_neg (by (first | (clear k1; omega) | omega))]; exact (CX.fr (F := ([], [27])) z0 (FrX.c FrX.rf hFc2 rfl) rfl)) | (rw [if_pos (by (first | (clear k1; omega) | omega))]; exact z0.cut (by (first | (clear k1; omega) | omega)) ((FrX.g hFc2 (⟨by decide, rfl⟩ : kx 1 1) rfl).trans rfl) (fun j => ((FrX.g hFc2 (⟨by decide, rfl⟩ : kx 2 2) rfl).trans rfl)))))
  · refine g_iload_n dX11_end_4 rfl ?_
    refine g_aload_n dX11_end_5 rfl ?_
    refine x_g0_0 (n := 1) (⟨by decide, rfl⟩ : kx 0 0) ffX11_14 dX11_end_6 rfl ?_
    refine x_g1_1 (z := (P 1 1)) (⟨by decide, rfl⟩ : kx 1 1) ffX11_100 dX11_end_9 rfl ?_
    have f3 := bx_1_1 (o := 1) hB (⟨by decide, rfl⟩ : kx 1 1)
    refine g_icmp_le (tgt := 21) dX11_end_12 (by decide) ⟨by (first | (clear k1; omega) | omega), by (first | (clear k1; omega) | omega)⟩ ⟨by have q0 := bx_1_1 (o := 1) hB (⟨by decide, rfl⟩ : kx 1 1); (first | (clear k1; omega) | omega), by have q0 := bx_1_1 (o := 1) hB (⟨by decide, rfl⟩ : kx 1 1); (first | (clear k1; omega) | omega)⟩ (fun k4 => ?_) (fun k4 => ?_)
    · refine g_aload_n dX11_end_21 rfl ?_
      refine x_g0_0 (n := 1) (⟨by decide, rfl⟩ : kx 0 0) ffX11_14 dX11_end_22 rfl ?_
      refine g_iload_n dX11_end_25 rfl ?_
      refine x_p1_1 (⟨by decide, rfl⟩ : kx 1 1) pfX11_100 dX11_end_26 ?_
      have hB5 := by_1_1 (z := a1) hB (⟨by decide, rfl⟩ : kx 1 1) ⟨by (first | (clear k1 k4; omega) | omega), by (first | (clear k1 k4; omega) | omega)⟩
      refine g_iconst dX11_end_29 ?_
      exact g_retZ dX11_end_30 rfl (by decide) (hQ 1 (by decide) _ hB5 (FrX.s FrX.rf (⟨by decide, rfl⟩ : kx 1 1) rfl) (by have q0 := (up_same : (up P 1 1 a1) 1 1 = a1); (first | (clear k1 k4; omega) | (clear k1; omega) | (clear k4; omega) | omega)) (by unfold fe; first | (rw [if_neg (by (first | (clear k1 k4; omega) | (clear k1; omega) | (clear k4; omega) | omega))]; exact hNONE) | (rw [if_pos (by (first | (clear k1 k4; omega) | (clear k1; omega) | (clear k4; omega) | omega))]; exact z0.cut (by (first | (clear k1 k4; omega) | (clear k1; omega) | (clear k4; omega) | omega)) up_same (fun j => ((up_o (kx.ne (⟨by decide, rfl⟩ : kx 2 2) (⟨by decide, rfl⟩ : kx 1 1) rfl)).trans rfl)))))
    · refine g_aload_n dX11_end_15 rfl ?_
      refine g_iconst dX11_end_16 ?_
      refine g_vI (av := [vI 0]) (o := 0) (st := []) (m_X11_refuse G P 0 (by decide) hB  _ (fun rc6 hc6 Pc6 hBc6 hFc6 => ⟨rc6, rfl, ?_⟩)) cf_X11_refuse t_663 rfl (show kx 0 0 from (⟨by decide, rfl⟩ : kx 0 0)).1 ((show kx 0 0 from (⟨by decide, rfl⟩ : kx 0 0)).sh rfl) rfl rfl (Nat.le_of_ble_eq_true rfl) (by decide) rfl dX11_end_17
      exact g_retZ dX11_end_20 rfl (by (first | (clear k1 k4; omega) | (clear k1; omega) | (clear k4; omega) | omega)) (hQ rc6 ⟨by (first | (clear k1 k4; omega) | omega), by (first | (clear k1 k4; omega) | omega)⟩ _ hBc6 (FrX.c FrX.rf hFc6 rfl) (by have q0 := (((FrX.g hFc6 (⟨by decide, rfl⟩ : kx 1 1) rfl).trans rfl) : Pc6 1 1 = (P 1 1)); have q1 := bx_1_1 (o := 1) hB (⟨by decide, rfl⟩ : kx 1 1); (first | (clear k1 k4; omega) | (clear k1; omega) | (clear k4; omega) | omega)) (by unfold fe; first | (rw [if_neg (by (first | (clear k1 k4; omega) | (clear k1; omega) | (clear k4; omega) | omega))]; exact (CX.fr (F := ([], [27])) z0 (FrX.c FrX.rf hFc6 rfl) rfl)) | (rw [if_pos (by (first | (clear k1 k4; omega) | (clear k1; omega) | (clear k4; omega) | omega))]; exact z0.cut (by (first | (clear k1 k4; omega) | (clear k1; omega) | (clear k4; omega) | omega)) ((FrX.g hFc6 (⟨by decide, rfl⟩ : kx 1 1) rfl).trans rfl) (fun j => ((FrX.g hFc6 (⟨by decide, rfl⟩ : kx 2 2) rfl).trans rfl)))))
/-! What the class answers: X6_readValue. -/
def st_f_X6_readValue (G : GT) (n : Nat) : Prop := ∀ (P : PH) (T : TT) (K : PH) (p : Int) (o : Nat) (k_o : kx o 28) (a1 : Int) (a2 : Int) (h_a1 : (-2147483648) ≤ a1 ∧ a1 ≤ 2147483647) (h_a2 : (-2147483648) ≤ a2 ∧ a2 ≤ 2147483647) (hB : BdX P) (p_dp : 0 ≤ a2) (p_aw : AW K) (p_ab : AB K) (p_kd : -1 ≤ a1 ∧ a1 < K 0 0 ∧ a1 + a2 ≤ 3) (v_TX : TX P) (v_OWN : OWN P) (z0 : XT T P) (z1 : XS T p P) (z2 : XK K (crX o 0) P) (z3 : RT o P) (hm : (6 - a2 : Int).toNat < n) (Q : Option PV → PH → Prop) (hQ : ∀ (r : Int) (_ : (-2147483648) ≤ r ∧ r ≤ 2147483647) (P1 : PH) (_ : BdX P1) (_ : FrX ([(45, 3), (45, 4), (46, 3), (46, 4), (46, 5), (46, 6), (46, 7), (46, 8)], []) P P1) (_ : VC T K a1 p r P P1), Q (some (vI r)) P1), Ct WSX G (4 + 1 * n) iX6_readValue [vR 110, vI a1, vI a2] P Q
set_option maxRecDepth 100000 in
set_option maxHeartbeats 4000000 in
theorem mr_f_X6_readValue (G : GT) (n : Nat) : st_f_X6_readValue G n := by
  induction n with
  | zero => intro P T K p o k_o a1 a2     h_a1 h_a2 hB p_dp p_aw p_ab p_kd v_TX v_OWN z0 z1 z2 z3 hm; exact absurd hm (Nat.not_lt_zero _)
  | succ n ih =>
    intro P T K p o k_o a1 a2     h_a1 h_a2 hB p_dp p_aw p_ab p_kd v_TX v_OWN z0 z1 z2 z3 hm Q hQ
    refine Ct.of (by decide) (l0 := [(0, vR 110), (1, vI a1), (2, vI a2)]) rfl (Nat.le_of_ble_eq_true rfl) ?_
    have hb := z1.b
    have hk0 := p_aw.1
    have hsz := sz_s K a1
    refine g_iload_n dX6_readValue_0 rfl ?_
    refine g_iconst dX6_readValue_1 ?_
    refine g_icmp_ne (tgt := 13) dX6_readValue_2 (by decide) ⟨by (clear hb hsz; omega), by (clear hb hsz; omega)⟩ (by decide) (fun k1 => ?_) (fun k1 => ?_)
    · skip
      refine g_iload_n dX6_readValue_13 rfl ?_
      refine g_iconst dX6_readValue_14 ?_
      refine g_icmp_le (tgt := 22) dX6_readValue_15 (by decide) ⟨by (clear hb hsz k1; omega), by (clear hb hsz k1; omega)⟩ (by decide) (fun k2 => ?_) (fun k2 => ?_)
      · skip
        refine g_aload_n dX6_readValue_22 rfl ?_
        refine g_iload_n dX6_readValue_23 rfl ?_
        refine g_vI (av := [vI a1]) (o := 110) (st := []) (f_X6_readConName G P T K p o k_o a1 ⟨by (clear hb hsz k1 k2; omega), by (clear hb hsz k1 k2; omega)⟩ hB p_aw (by (clear hb hsz k2; omega)) v_TX v_OWN (z0) (z1) (z2) (z3) _ (fun rc3 hc3 Pc3 hBc3 hFc3 gc3_n ec3_0 => ⟨rc3, rfl, ?_⟩)) cf_X6_readConName t_823 rfl (show kx 110 45 from (⟨by decide, rfl⟩ : kx 110 45)).1 ((show kx 110 45 from (⟨by decide, rfl⟩ : kx 110 45)).sh rfl) rfl rfl (Nat.le_of_ble_eq_true rfl) (by (clear hb hsz k1 k2; omega)) rfl dX6_readValue_24
        refine g_istore_n (l1 := [(3, vI rc3), (0, vR 110), (1, vI a1), (2, vI a2)]) dX6_readValue_27 (by decide) rfl ?_
        refine g_iload_n dX6_readValue_28 rfl ?_
        refine g_iconst dX6_readValue_29 ?_
        refine g_icmp_ne (tgt := 35) dX6_readValue_30 (by decide) ⟨by (clear hb hsz k1 k2 gc3_n; omega), by (clear hb hsz k1 k2 gc3_n; omega)⟩ (by decide) (fun k4 => ?_) (fun k4 => ?_)
        · have k4n : 0 ≤ rc3 := by (clear hb hsz k1 k2 gc3_n; omega)
          clear k4
          have r_gc3_n := (gc3_n.resolve_right (by (clear hb hsz k1 k2 gc3_n; omega)))
          skip
          have hc1 : (cas T K a1 p).1 = 0 ∧ rc3 = cNm K (tV T p) ∧ 0 ≤ rc3 ∧ rc3 < K 0 1 := by (clear hb hsz k1 k2 gc3_n; omega)
          have hcc := z2.c (c := rc3) hc1.2.2.1 hc1.2.2.2
          have hcas := cas_s T K a1 p
          have hw5 := p_aw.2.2.1 rc3 hc1.2.2.1 hc1.2.2.2
          have h65 : K 6 (cNm K (tV T p)) = K 6 rc3 := by rw [hc1.2.1]
          have h55 : K 5 rc3 = a1 := by rw [hc1.2.1]; (clear hb hsz k1 k2 gc3_n hcc; omega)
          have h2e : K 2 (K 5 rc3) = K 2 a1 := by rw [h55]
          have hk9 : a1 ≠ -1 := by (clear hb hsz k1 k2 gc3_n hcc hcas; omega)
          refine g_aload_n dX6_readValue_35 rfl ?_
          refine x_g45_2 (n := o) (⟨by decide, rfl⟩ : kx 110 45) ffX6_27 dX6_readValue_36 (RT.fr (F := ([(45, 3), (45, 4), (46, 3), (46, 4), (46, 5), (46, 6), (46, 7), (46, 8)], [])) z3 (FrX.c FrX.rf hFc3 rfl) rfl) ?_
          refine x_g28_0 (n := (crX o 0)) k_o ffX6_108 dX6_readValue_39 rfl ?_
          refine g_astore (l1 := [(4, vR (crX o 0)), (3, vI rc3), (0, vR 110), (1, vI a1), (2, vI a2)]) dX6_readValue_42 (by decide) rfl ?_
          refine g_aload dX6_readValue_44 rfl ?_
          refine x_g29_6 (n := (crX (crX o 0) 6)) (ck_28_0 k_o) ffX6_187 dX6_readValue_46 rfl ?_
          refine g_iload_n dX6_readValue_49 rfl ?_
          refine x_l36 (z := (P (crX (crX o 0) 6) rc3)) (ck_29_6 (ck_28_0 k_o)) dX6_readValue_50 ⟨by (clear hb hsz k1 k2 gc3_n hcc hcas hk9; omega), by (clear hb hsz k1 k2 gc3_n hcc hcas hk9; omega)⟩ ((FrX.g hFc3 (ck_29_6 (ck_28_0 k_o)) rfl).trans rfl) ?_
          have f5 := bx_36 (o := (crX (crX o 0) 6)) (k := rc3) hB (ck_29_6 (ck_28_0 k_o))
          refine g_if_ne (tgt := 62) dX6_readValue_51 (by decide) ⟨by have q0 := bx_36 (o := (crX (crX o 0) 6)) (k := rc3) hB (ck_29_6 (ck_28_0 k_o)); (clear hb hsz k1 k2 gc3_n hcc hcas hk9; omega), by have q0 := bx_36 (o := (crX (crX o 0) 6)) (k := rc3) hB (ck_29_6 (ck_28_0 k_o)); (clear hb hsz k1 k2 gc3_n hcc hcas hk9; omega)⟩ (fun k6 => ?_) (fun k6 => ?_)
          · have r_hcas := (hcas.resolve_right (by (clear hb hsz k1 k2 gc3_n hcc hcas hk9 k6; omega)))
            skip
            have r_hsz := (hsz.resolve_left (by (clear hb hsz k1 k2 gc3_n hcc hcas hk9 k6; omega)))
            have hsg40 := sgn_s T 40 (tE T p)
            refine g_aload_n dX6_readValue_62 rfl ?_
            refine g_bipush dX6_readValue_63 (by decide) ?_
            refine g_vI (av := [vI 40]) (o := 110) (st := []) (f_X6_readSign G Pc3 T (tE T p) 40 (by decide) hBc3 (TX.fr (F := ([(45, 3), (45, 4), (46, 3), (46, 4), (46, 5), (46, 6), (46, 7), (46, 8)], [])) v_TX (FrX.c FrX.rf hFc3 rfl) rfl) (OWN.fr (F := ([(45, 3), (45, 4), (46, 3), (46, 4), (46, 5), (46, 6), (46, 7), (46, 8)], [])) v_OWN (FrX.c FrX.rf hFc3 rfl) rfl) ((XT.fr (F := ([(45, 3), (45, 4), (46, 3), (46, 4), (46, 5), (46, 6), (46, 7), (46, 8)], [])) z0 (FrX.c FrX.rf hFc3 rfl) rfl)) ((ec3_0 (by (clear hb hsz k1 k2 gc3_n hcc hcas hk9 k6 hsg40; omega)))) _ (fun rc7 hc7 Pc7 hBc7 hFc7 gc7_n ec7_0 => ⟨rc7, rfl, ?_⟩)) cf_X6_readSign t_797 rfl (show kx 110 45 from (⟨by decide, rfl⟩ : kx 110 45)).1 ((show kx 110 45 from (⟨by decide, rfl⟩ : kx 110 45)).sh rfl) rfl rfl (Nat.le_of_ble_eq_true rfl) (by (clear hb hsz k1 k2 gc3_n hcc hcas hk9 k6 hsg40; omega)) rfl dX6_readValue_65
            refine g_if_eq (tgt := 88) dX6_readValue_68 (by decide) ⟨by (clear hb hsz k1 k2 gc3_n hcc hcas hk9 k6 hsg40 gc7_n; omega), by (clear hb hsz k1 k2 gc3_n hcc hcas hk9 k6 hsg40 gc7_n; omega)⟩ (fun k8 => ?_) (fun k8 => ?_)
            · skip
              skip
              skip
              skip
              skip
              refine g_iconst dX6_readValue_88 ?_
              refine g_istore (l1 := [(5, vI (-1)), (4, vR (crX o 0)), (3, vI rc3), (0, vR 110), (1, vI a1), (2, vI a2)]) dX6_readValue_89 (by decide) rfl ?_
              refine g_iload dX6_readValue_91 rfl ?_
              refine g_iconst dX6_readValue_93 ?_
              refine g_icmp_ne (tgt := 99) dX6_readValue_94 (by decide) (by decide) (by decide) (fun k9 => by exfalso; (clear hb hsz k1 k2 gc3_n hcc hcas hk9 k6 hsg40 gc7_n k8; omega)) (fun k9 => ?_)
              skip
              skip
              skip
              skip
              skip
              refine g_iconst dX6_readValue_97 ?_
              exact g_retI dX6_readValue_98 rfl (hQ (-1) (by decide) _ hBc7 (FrX.c (FrX.c FrX.rf hFc3 rfl) hFc7 rfl) (by first | exact VC.intoF hk9 hc1.1 (by (omega)) (by (clear k6 hk9 hcas hcc gc3_n k2 k1 hsz hb; omega)) (by have q := (rfl : Pc7 110 3 = (Pc7 110 3)); (clear k6 hk9 hcas hcc gc3_n k2 k1 hsz hb; omega)) (by have q := (rfl : Pc7 110 4 = (Pc7 110 4)); (clear k6 hk9 hcas hcc gc3_n k2 k1 hsz hb; omega)) | (have h := hvc.resolve_left (fun h => by (first | (clear hb hsz k1 k2 gc3_n hcc hcas hk9 k6 hsg40 gc7_n k8 k9; omega) | (clear hb hsz k1 k2 gc3_n hcc hcas hk9 k6 hsg40 gc7_n k8; omega) | (clear hb hsz k1 k2 gc3_n hcc hcas hk9 k6 hsg40 gc7_n k9; omega) | (clear hb hsz k1 k2 gc3_n hcc hcas hk9 k6 hsg40 k8 k9; omega) | (clear hb hsz k1 k2 gc3_n hcc hcas hk9 k6 gc7_n k8 k9; omega) | (clear hb hsz k1 k2 gc3_n hcc hcas hk9 hsg40 gc7_n k8 k9; omega) | (clear hb hsz k1 k2 gc3_n hcc hcas k6 hsg40 gc7_n k8 k9; omega) | (clear hb hsz k1 k2 gc3_n hcc hk9 k6 hsg40 gc7_n k8 k9; omega) | (clear hb hsz k1 k2 gc3_n hcas hk9 k6 hsg40 gc7_n k8 k9; omega) | (clear hb hsz k1 k2 gc3_n hcc hcas hk9 k6 hsg40 gc7_n; omega) | (clear k6 hk9 hcas hcc gc3_n k2 k1 hsz hb; omega) | omega)); rw [hc1.2.1] at h; exact VC.inF (c := cNm K (tV T p)) (f := 0) (a := 0) (fun s x hx => VRs.into hk9 hc1.1 (by (first | (clear hb hsz k1 k2 gc3_n hcc hcas hk9 k6 hsg40 gc7_n k8 k9; omega) | (clear hb hsz k1 k2 gc3_n hcc hcas hk9 k6 hsg40 gc7_n k8; omega) | (clear hb hsz k1 k2 gc3_n hcc hcas hk9 k6 hsg40 gc7_n k9; omega) | (clear hb hsz k1 k2 gc3_n hcc hcas hk9 k6 hsg40 k8 k9; omega) | (clear hb hsz k1 k2 gc3_n hcc hcas hk9 k6 gc7_n k8 k9; omega) | (clear hb hsz k1 k2 gc3_n hcc hcas hk9 hsg40 gc7_n k8 k9; omega) | (clear hb hsz k1 k2 gc3_n hcc hcas k6 hsg40 gc7_n k8 k9; omega) | (clear hb hsz k1 k2 gc3_n hcc hk9 k6 hsg40 gc7_n k8 k9; omega) | (clear hb hsz k1 k2 gc3_n hcas hk9 k6 hsg40 gc7_n k8 k9; omega) | (clear hb hsz k1 k2 gc3_n hcc hcas hk9 k6 hsg40 gc7_n; omega) | (clear k6 hk9 hcas hcc gc3_n k2 k1 hsz hb; omega) | omega)) (by (first | (clear hb hsz k1 k2 gc3_n hcc hcas hk9 k6 hsg40 gc7_n k8 k9; omega) | (clear hb hsz k1 k2 gc3_n hcc hcas hk9 k6 hsg40 gc7_n k8; omega) | (clear hb hsz k1 k2 gc3_n hcc hcas hk9 k6 hsg40 gc7_n k9; omega) | (clear hb hsz k1 k2 gc3_n hcc hcas hk9 k6 hsg40 k8 k9; omega) | (clear hb hsz k1 k2 gc3_n hcc hcas hk9 k6 gc7_n k8 k9; omega) | (clear hb hsz k1 k2 gc3_n hcc hcas hk9 hsg40 gc7_n k8 k9; omega) | (clear hb hsz k1 k2 gc3_n hcc hcas k6 hsg40 gc7_n k8 k9; omega) | (clear hb hsz k1 k2 gc3_n hcc hk9 k6 hsg40 gc7_n k8 k9; omega) | (clear hb hsz k1 k2 gc3_n hcas hk9 k6 hsg40 gc7_n k8 k9; omega) | (clear hb hsz k1 k2 gc3_n hcc hcas hk9 k6 hsg40 gc7_n; omega) | (clear k6 hk9 hcas hcc gc3_n k2 k1 hsz hb; omega) | omega)) hx) h.2.1 h.2.2)))
            · have k8n : 1 ≤ rc7 := by (clear hb hsz k1 k2 gc3_n hcc hcas hk9 k6 hsg40 gc7_n; omega)
              clear k8
              have r_gc7_n := (gc7_n.resolve_right (by (clear hb hsz k1 k2 gc3_n hcc hcas hk9 k6 hsg40 gc7_n; omega)))
              have r_hsg40 := (hsg40.resolve_right (by (clear hb hsz k1 k2 gc3_n hcc hcas hk9 k6 hsg40 gc7_n; omega)))
              skip
              skip
              skip
              refine g_aload_n dX6_readValue_71 rfl ?_
              refine g_aload dX6_readValue_72 rfl ?_
              refine x_g29_7 (n := (crX (crX o 0) 7)) (ck_28_0 k_o) ffX6_193 dX6_readValue_74 rfl ?_
              refine g_iload_n dX6_readValue_77 rfl ?_
              refine x_l37 (z := (P (crX (crX o 0) 7) rc3)) (ck_29_7 (ck_28_0 k_o)) dX6_readValue_78 ⟨by (clear hb hsz k1 k2 gc3_n hcc hcas hk9 k6 hsg40 gc7_n; omega), by (clear hb hsz k1 k2 gc3_n hcc hcas hk9 k6 hsg40 gc7_n; omega)⟩ ((FrX.g hFc7 (ck_29_7 (ck_28_0 k_o)) rfl).trans ((FrX.g hFc3 (ck_29_7 (ck_28_0 k_o)) rfl).trans rfl)) ?_
              refine g_iload_n dX6_readValue_79 rfl ?_
              refine g_iconst dX6_readValue_80 ?_
              refine g_iadd dX6_readValue_81 ?_
              have f10 := bx_37 (o := (crX (crX o 0) 7)) (k := rc3) hB (ck_29_7 (ck_28_0 k_o))
              refine g_sI (av := [vR 110, vI (P (crX (crX o 0) 7) rc3), vI (a2 + 1)]) (st := []) (ih Pc7 T K (tE T (tE T p)) o k_o (P (crX (crX o 0) 7) rc3) (a2 + 1) ⟨by have q0 := bx_37 (o := (crX (crX o 0) 7)) (k := rc3) hB (ck_29_7 (ck_28_0 k_o)); (clear hb hsz k1 k2 gc3_n hcc hcas hk9 k6 hsg40 gc7_n; omega), by have q0 := bx_37 (o := (crX (crX o 0) 7)) (k := rc3) hB (ck_29_7 (ck_28_0 k_o)); (clear hb hsz k1 k2 gc3_n hcc hcas hk9 k6 hsg40 gc7_n; omega)⟩ ⟨by (clear hb hsz k1 k2 gc3_n hcc hcas hk9 k6 hsg40 gc7_n; omega), by (clear hb hsz k1 k2 gc3_n hcc hcas hk9 k6 hsg40 gc7_n; omega)⟩ hBc7 (by have q0 := bx_37 (o := (crX (crX o 0) 7)) (k := rc3) hB (ck_29_7 (ck_28_0 k_o)); (clear hb hsz k1 k2 gc3_n hcc hcas hk9 k6 hsg40 gc7_n; omega)) p_aw (p_ab) (⟨by (clear hb hsz k1 k2 gc3_n hcas hk9 k6 hsg40 gc7_n; omega), by (clear hb hsz k1 k2 gc3_n hcas hk9 k6 hsg40 gc7_n; omega), by (clear hb hsz k1 k2 gc3_n hcas hk9 k6 hsg40 gc7_n; omega)⟩) (TX.fr (F := ([(45, 3), (45, 4), (46, 3), (46, 4), (46, 5), (46, 6), (46, 7), (46, 8)], [])) v_TX (FrX.c (FrX.c FrX.rf hFc3 rfl) hFc7 rfl) rfl) (OWN.fr (F := ([(45, 3), (45, 4), (46, 3), (46, 4), (46, 5), (46, 6), (46, 7), (46, 8)], [])) v_OWN (FrX.c (FrX.c FrX.rf hFc3 rfl) hFc7 rfl) rfl) ((XT.fr (F := ([(45, 3), (45, 4), (46, 3), (46, 4), (46, 5), (46, 6), (46, 7), (46, 8)], [])) z0 (FrX.c (FrX.c FrX.rf hFc3 rfl) hFc7 rfl) rfl)) (by rw [show tE T (tE T p) = (sgn T 40 (tE T p)).2 by (clear hb hsz k1 k2 gc3_n hcc hcas hk9 k6 hsg40 gc7_n; omega)]; exact (ec7_0 (by (clear hb hsz k1 k2 gc3_n hcc hcas hk9 k6 hsg40 gc7_n; omega)))) ((XK.fr (F := ([(45, 3), (45, 4), (46, 3), (46, 4), (46, 5), (46, 6), (46, 7), (46, 8)], [])) z2 (FrX.c (FrX.c FrX.rf hFc3 rfl) hFc7 rfl) rfl)) ((RT.fr (F := ([(45, 3), (45, 4), (46, 3), (46, 4), (46, 5), (46, 6), (46, 7), (46, 8)], [])) z3 (FrX.c (FrX.c FrX.rf hFc3 rfl) hFc7 rfl) rfl)) (by (clear hb hsz k1 k2 gc3_n hcc hcas hk9 k6 hsg40 gc7_n; omega)) _ (fun rc11 hc11 Pc11 hBc11 hFc11 gc11_vc => ⟨rc11, rfl, ?_⟩)) cf_X6_readValue t_1026 rfl (Nat.le_of_ble_eq_true rfl) (by (clear hb hsz k1 k2 gc3_n hcc hcas hk9 k6 hsg40 gc7_n; omega)) rfl dX6_readValue_82
              have hvc : VC T K (K 7 rc3) (tE T (tE T p)) rc11 P Pc11 := by have q := gc11_vc; rw [hcc.2.2.2.1] at q; exact VC.tr q (by have q3 := (rfl : Pc7 110 3 = (Pc7 110 3)); (clear hb hsz k1 k2 gc3_n hcc hcas hk9 k6 hsg40 gc7_n; omega)) (by have q4 := (rfl : Pc7 110 4 = (Pc7 110 4)); (clear hb hsz k1 k2 gc3_n hcc hcas hk9 k6 hsg40 gc7_n; omega))
              refine g_goto (tgt := 89) dX6_readValue_85 (by decide) ?_
              refine g_istore (l1 := [(5, vI rc11), (4, vR (crX o 0)), (3, vI rc3), (0, vR 110), (1, vI a1), (2, vI a2)]) dX6_readValue_89 (by decide) rfl ?_
              refine g_iload dX6_readValue_91 rfl ?_
              refine g_iconst dX6_readValue_93 ?_
              refine g_icmp_ne (tgt := 99) dX6_readValue_94 (by decide) ⟨by (clear hb hsz k1 k2 gc3_n hcc hcas hk9 k6 hsg40 gc7_n; omega), by (clear hb hsz k1 k2 gc3_n hcc hcas hk9 k6 hsg40 gc7_n; omega)⟩ (by decide) (fun k12 => ?_) (fun k12 => ?_)
              · skip
                skip
                skip
                skip
                skip
                obtain ⟨hv0, hv1, hv3, hv4, q3, hS3, hR3⟩ := hvc.resolve_right (fun h => by (clear hb hsz k1 k2 gc3_n hcc hcas hk9 k6 hsg40 gc7_n; omega))
                have hC1 : ∀ (s : SV) (x : Int × Int × Int), VRs T K 1 ((rc3, 0, 0) :: s) 0 q3 rc11 x → VRs T K 0 s a1 p 0 x := fun s x hx => by
                  have hy := hR3 _ x hx
                  rw [hc1.2.1] at hy
                  exact VRs.into hk9 hc1.1 (by (omega)) (by (clear hb hsz k1 k2 gc3_n hcc hcas hk9 k6 hsg40 gc7_n k12; omega)) hy
                have hsg44 := sgn_s T 44 q3
                have hs7 := sz_le p_aw (k := K 7 rc3) ⟨by (clear hb hsz k1 k2 gc3_n hcc hcas hk9 k6 hsg40 gc7_n k12 hsg44; omega), by (clear hb hsz k1 k2 gc3_n hcc hcas hk9 k6 hsg40 gc7_n k12 hsg44; omega)⟩
                have hs8 := sz_le p_aw (k := K 8 rc3) ⟨by (clear hb hsz k1 k2 gc3_n hcc hcas hk9 k6 hsg40 gc7_n k12 hsg44; omega), by (clear hb hsz k1 k2 gc3_n hcc hcas hk9 k6 hsg40 gc7_n k12 hsg44; omega)⟩
                have iv13 : XS T q3 Pc11 := hS3
                refine g_iconst dX6_readValue_99 ?_
                refine g_istore (l1 := [(6, vI 0), (5, vI rc11), (4, vR (crX o 0)), (3, vI rc3), (0, vR 110), (1, vI a1), (2, vI a2)]) dX6_readValue_100 (by decide) rfl ?_
                refine g_aload dX6_readValue_102 rfl ?_
                refine x_g29_6 (n := (crX (crX o 0) 6)) (ck_28_0 k_o) ffX6_187 dX6_readValue_104 rfl ?_
                refine g_iload_n dX6_readValue_107 rfl ?_
                refine x_l36 (z := (P (crX (crX o 0) 6) rc3)) (ck_29_6 (ck_28_0 k_o)) dX6_readValue_108 ⟨by (clear hb hsz k1 k2 gc3_n hcc hcas hk9 k6 hsg40 gc7_n k12 hsg44; omega), by (clear hb hsz k1 k2 gc3_n hcc hcas hk9 k6 hsg40 gc7_n k12 hsg44; omega)⟩ ((FrX.g hFc11 (ck_29_6 (ck_28_0 k_o)) rfl).trans ((FrX.g hFc7 (ck_29_6 (ck_28_0 k_o)) rfl).trans ((FrX.g hFc3 (ck_29_6 (ck_28_0 k_o)) rfl).trans rfl))) ?_
                refine g_iconst dX6_readValue_109 ?_
                refine g_icmp_ne (tgt := 142) dX6_readValue_110 (by decide) ⟨by have q0 := bx_36 (o := (crX (crX o 0) 6)) (k := rc3) hB (ck_29_6 (ck_28_0 k_o)); (clear hb hsz k1 k2 gc3_n hcc hcas hk9 k6 hsg40 gc7_n k12 hsg44; omega), by have q0 := bx_36 (o := (crX (crX o 0) 6)) (k := rc3) hB (ck_29_6 (ck_28_0 k_o)); (clear hb hsz k1 k2 gc3_n hcc hcas hk9 k6 hsg40 gc7_n k12 hsg44; omega)⟩ (by decide) (fun k14 => ?_) (fun k14 => ?_)
                · skip
                  skip
                  skip
                  skip
                  skip
                  skip
                  refine g_iload dX6_readValue_142 rfl ?_
                  refine g_iconst dX6_readValue_144 ?_
                  refine g_icmp_eq (tgt := 157) dX6_readValue_145 (by decide) (by decide) (by decide) (fun k15 => by exfalso; (clear hb hsz k1 k2 gc3_n hcc hcas hk9 k6 hsg40 gc7_n k12 hsg44 k14; omega)) (fun k15 => ?_)
                  skip
                  skip
                  skip
                  skip
                  skip
                  skip
                  obtain ⟨f9, a9, v9, w9, q9, hS9, hf9, hC9, hW9, hV9⟩ : ∃ f a v w q : Int, XS T q Pc11 ∧ ¬ f + 1 < K 6 rc3 ∧ (∀ (s : SV) (x : Int × Int × Int), VRs T K 1 ((rc3, f, a) :: s) 0 q v x → VRs T K 0 s a1 p 0 x) ∧ (w = K 10 rc3 + (a * sz K (fK K rc3 f) + v) ∧ 0 ≤ w ∧ w < K 2 (K 5 rc3)) ∧ ((K 6 rc3 = 2 ∧ w = K 10 rc3 + rc11 * sz K (K 8 rc3) + 0) ∨ (K 6 rc3 ≠ 2 ∧ w = K 10 rc3 + rc11 ∧ 0 = 0)) := by
                    first
                    | (obtain ⟨hw0, hw1, hw3, hw4, q5, hS5, hR5⟩ := hvc2.resolve_right (fun h => by (first | (clear hb hsz k1 k2 gc3_n hcc hcas hk9 k6 hsg40 gc7_n k12 hsg44 k14 k15 hV9; omega) | (clear hb hsz k1 k2 gc3_n hcc hcas hk9 k6 hsg40 gc7_n k12 hsg44 k14 k15; omega) | (clear hb hsz k1 k2 gc3_n hcc hcas hk9 k6 hsg40 gc7_n k12 hsg44 k14 hV9; omega) | (clear hb hsz k1 k2 gc3_n hcc hcas hk9 k6 hsg40 gc7_n k12 hsg44 k15 hV9; omega) | (clear hb hsz k1 k2 gc3_n hcc hcas hk9 k6 hsg40 gc7_n k12 k14 k15 hV9; omega) | (clear hb hsz k1 k2 gc3_n hcc hcas hk9 k6 hsg40 gc7_n hsg44 k14 k15 hV9; omega) | (clear hb hsz k1 k2 gc3_n hcc hcas hk9 k6 hsg40 k12 hsg44 k14 k15 hV9; omega) | (clear hb hsz k1 k2 gc3_n hcc hcas hk9 k6 gc7_n k12 hsg44 k14 k15 hV9; omega) | (clear hb hsz k1 k2 gc3_n hcc hcas hk9 hsg40 gc7_n k12 hsg44 k14 k15 hV9; omega) | (clear hb hsz k1 k2 gc3_n hcc hcas hk9 k6 hsg40 gc7_n k12 hsg44 k14; omega) | (clear k12 gc7_n hsg40 k6 hk9 hcas hcc gc3_n k2 k1 hsz hb; omega) | omega)); exact ⟨1, 0 * sz K (fK K rc3 0) + rc11, 0, _, q5, hS5, by (first | (clear hb hsz k1 k2 gc3_n hcc hcas hk9 k6 hsg40 gc7_n k12 hsg44 k14 k15 hV9; omega) | (clear hb hsz k1 k2 gc3_n hcc hcas hk9 k6 hsg40 gc7_n k12 hsg44 k14 k15; omega) | (clear hb hsz k1 k2 gc3_n hcc hcas hk9 k6 hsg40 gc7_n k12 hsg44 k14 hV9; omega) | (clear hb hsz k1 k2 gc3_n hcc hcas hk9 k6 hsg40 gc7_n k12 hsg44 k15 hV9; omega) | (clear hb hsz k1 k2 gc3_n hcc hcas hk9 k6 hsg40 gc7_n k12 k14 k15 hV9; omega) | (clear hb hsz k1 k2 gc3_n hcc hcas hk9 k6 hsg40 gc7_n hsg44 k14 k15 hV9; omega) | (clear hb hsz k1 k2 gc3_n hcc hcas hk9 k6 hsg40 k12 hsg44 k14 k15 hV9; omega) | (clear hb hsz k1 k2 gc3_n hcc hcas hk9 k6 gc7_n k12 hsg44 k14 k15 hV9; omega) | (clear hb hsz k1 k2 gc3_n hcc hcas hk9 hsg40 gc7_n k12 hsg44 k14 k15 hV9; omega) | (clear hb hsz k1 k2 gc3_n hcc hcas hk9 k6 hsg40 gc7_n k12 hsg44 k14; omega) | (clear k12 gc7_n hsg40 k6 hk9 hcas hcc gc3_n k2 k1 hsz hb; omega) | omega), fun s x hx => hC1 s x (VRs.comma (by (first | (clear hb hsz k1 k2 gc3_n hcc hcas hk9 k6 hsg40 gc7_n k12 hsg44 k14 k15 hV9; omega) | (clear hb hsz k1 k2 gc3_n hcc hcas hk9 k6 hsg40 gc7_n k12 hsg44 k14 k15; omega) | (clear hb hsz k1 k2 gc3_n hcc hcas hk9 k6 hsg40 gc7_n k12 hsg44 k14 hV9; omega) | (clear hb hsz k1 k2 gc3_n hcc hcas hk9 k6 hsg40 gc7_n k12 hsg44 k15 hV9; omega) | (clear hb hsz k1 k2 gc3_n hcc hcas hk9 k6 hsg40 gc7_n k12 k14 k15 hV9; omega) | (clear hb hsz k1 k2 gc3_n hcc hcas hk9 k6 hsg40 gc7_n hsg44 k14 k15 hV9; omega) | (clear hb hsz k1 k2 gc3_n hcc hcas hk9 k6 hsg40 k12 hsg44 k14 k15 hV9; omega) | (clear hb hsz k1 k2 gc3_n hcc hcas hk9 k6 gc7_n k12 hsg44 k14 k15 hV9; omega) | (clear hb hsz k1 k2 gc3_n hcc hcas hk9 hsg40 gc7_n k12 hsg44 k14 k15 hV9; omega) | (clear hb hsz k1 k2 gc3_n hcc hcas hk9 k6 hsg40 gc7_n k12 hsg44 k14; omega) | (clear k12 gc7_n hsg40 k6 hk9 hcas hcc gc3_n k2 k1 hsz hb; omega) | omega)) (by (first | (clear hb hsz k1 k2 gc3_n hcc hcas hk9 k6 hsg40 gc7_n k12 hsg44 k14 k15 hV9; omega) | (clear hb hsz k1 k2 gc3_n hcc hcas hk9 k6 hsg40 gc7_n k12 hsg44 k14 k15; omega) | (clear hb hsz k1 k2 gc3_n hcc hcas hk9 k6 hsg40 gc7_n k12 hsg44 k14 hV9; omega) | (clear hb hsz k1 k2 gc3_n hcc hcas hk9 k6 hsg40 gc7_n k12 hsg44 k15 hV9; omega) | (clear hb hsz k1 k2 gc3_n hcc hcas hk9 k6 hsg40 gc7_n k12 k14 k15 hV9; omega) | (clear hb hsz k1 k2 gc3_n hcc hcas hk9 k6 hsg40 gc7_n hsg44 k14 k15 hV9; omega) | (clear hb hsz k1 k2 gc3_n hcc hcas hk9 k6 hsg40 k12 hsg44 k14 k15 hV9; omega) | (clear hb hsz k1 k2 gc3_n hcc hcas hk9 k6 gc7_n k12 hsg44 k14 k15 hV9; omega) | (clear hb hsz k1 k2 gc3_n hcc hcas hk9 hsg40 gc7_n k12 hsg44 k14 k15 hV9; omega) | (clear hb hsz k1 k2 gc3_n hcc hcas hk9 k6 hsg40 gc7_n k12 hsg44 k14; omega) | (clear k12 gc7_n hsg40 k6 hk9 hcas hcc gc3_n k2 k1 hsz hb; omega) | omega)) (hR5 _ x hx)), val_2 p_ab ⟨hc1.2.2.1, hc1.2.2.2⟩ (by (first | (clear hb hsz k1 k2 gc3_n hcc hcas hk9 k6 hsg40 gc7_n k12 hsg44 k14 k15 hV9; omega) | (clear hb hsz k1 k2 gc3_n hcc hcas hk9 k6 hsg40 gc7_n k12 hsg44 k14 k15; omega) | (clear hb hsz k1 k2 gc3_n hcc hcas hk9 k6 hsg40 gc7_n k12 hsg44 k14 hV9; omega) | (clear hb hsz k1 k2 gc3_n hcc hcas hk9 k6 hsg40 gc7_n k12 hsg44 k15 hV9; omega) | (clear hb hsz k1 k2 gc3_n hcc hcas hk9 k6 hsg40 gc7_n k12 k14 k15 hV9; omega) | (clear hb hsz k1 k2 gc3_n hcc hcas hk9 k6 hsg40 gc7_n hsg44 k14 k15 hV9; omega) | (clear hb hsz k1 k2 gc3_n hcc hcas hk9 k6 hsg40 k12 hsg44 k14 k15 hV9; omega) | (clear hb hsz k1 k2 gc3_n hcc hcas hk9 k6 gc7_n k12 hsg44 k14 k15 hV9; omega) | (clear hb hsz k1 k2 gc3_n hcc hcas hk9 hsg40 gc7_n k12 hsg44 k14 k15 hV9; omega) | (clear hb hsz k1 k2 gc3_n hcc hcas hk9 k6 hsg40 gc7_n k12 hsg44 k14; omega) | (clear k12 gc7_n hsg40 k6 hk9 hcas hcc gc3_n k2 k1 hsz hb; omega) | omega)) ⟨hv0, hv1⟩ ⟨hw0, hw1⟩, Or.inl ⟨by (first | (clear hb hsz k1 k2 gc3_n hcc hcas hk9 k6 hsg40 gc7_n k12 hsg44 k14 k15 hV9; omega) | (clear hb hsz k1 k2 gc3_n hcc hcas hk9 k6 hsg40 gc7_n k12 hsg44 k14 k15; omega) | (clear hb hsz k1 k2 gc3_n hcc hcas hk9 k6 hsg40 gc7_n k12 hsg44 k14 hV9; omega) | (clear hb hsz k1 k2 gc3_n hcc hcas hk9 k6 hsg40 gc7_n k12 hsg44 k15 hV9; omega) | (clear hb hsz k1 k2 gc3_n hcc hcas hk9 k6 hsg40 gc7_n k12 k14 k15 hV9; omega) | (clear hb hsz k1 k2 gc3_n hcc hcas hk9 k6 hsg40 gc7_n hsg44 k14 k15 hV9; omega) | (clear hb hsz k1 k2 gc3_n hcc hcas hk9 k6 hsg40 k12 hsg44 k14 k15 hV9; omega) | (clear hb hsz k1 k2 gc3_n hcc hcas hk9 k6 gc7_n k12 hsg44 k14 k15 hV9; omega) | (clear hb hsz k1 k2 gc3_n hcc hcas hk9 hsg40 gc7_n k12 hsg44 k14 k15 hV9; omega) | (clear hb hsz k1 k2 gc3_n hcc hcas hk9 k6 hsg40 gc7_n k12 hsg44 k14; omega) | (clear k12 gc7_n hsg40 k6 hk9 hcas hcc gc3_n k2 k1 hsz hb; omega) | omega), rfl⟩⟩)
                    | exact ⟨0, 0, rc11, _, q3, iv13, by (omega), hC1, val_1 p_ab ⟨hc1.2.2.1, hc1.2.2.2⟩ (by (omega)) ⟨hv0, hv1⟩, Or.inr ⟨by (omega), rfl, rfl⟩⟩
                  have hu34 : Pc11 110 3 = P 110 3 ∧ Pc11 110 4 = P 110 4 := by first | (obtain ⟨hw0, hw1, hw3, hw4, q5, hS5, hR5⟩ := hvc2.resolve_right (fun h => by (first | (clear hb hsz k1 k2 gc3_n hcc hcas hk9 k6 hsg40 gc7_n k12 hsg44 k14 k15 hV9; omega) | (clear hb hsz k1 k2 gc3_n hcc hcas hk9 k6 hsg40 gc7_n k12 hsg44 k14 k15; omega) | (clear hb hsz k1 k2 gc3_n hcc hcas hk9 k6 hsg40 gc7_n k12 hsg44 k14 hV9; omega) | (clear hb hsz k1 k2 gc3_n hcc hcas hk9 k6 hsg40 gc7_n k12 hsg44 k15 hV9; omega) | (clear hb hsz k1 k2 gc3_n hcc hcas hk9 k6 hsg40 gc7_n k12 k14 k15 hV9; omega) | (clear hb hsz k1 k2 gc3_n hcc hcas hk9 k6 hsg40 gc7_n hsg44 k14 k15 hV9; omega) | (clear hb hsz k1 k2 gc3_n hcc hcas hk9 k6 hsg40 k12 hsg44 k14 k15 hV9; omega) | (clear hb hsz k1 k2 gc3_n hcc hcas hk9 k6 gc7_n k12 hsg44 k14 k15 hV9; omega) | (clear hb hsz k1 k2 gc3_n hcc hcas hk9 hsg40 gc7_n k12 hsg44 k14 k15 hV9; omega) | (clear hb hsz k1 k2 gc3_n hcc hcas hk9 k6 hsg40 gc7_n k12 hsg44 k14; omega) | (clear k12 gc7_n hsg40 k6 hk9 hcas hcc gc3_n k2 k1 hsz hb; omega) | omega)); exact ⟨hw3, hw4⟩) | exact ⟨by have q := (rfl : Pc11 110 3 = (Pc11 110 3)); (clear hb hsz k1 k2 gc3_n hcc hcas hk9 k6 hsg40 gc7_n k12 hsg44 k14 k15 hV9; omega), by have q := (rfl : Pc11 110 4 = (Pc11 110 4)); (clear hb hsz k1 k2 gc3_n hcc hcas hk9 k6 hsg40 gc7_n k12 hsg44 k14 k15 hV9; omega)⟩
                  have hsg41 := sgn_s T 41 q9
                  have iv16 : XS T q9 Pc11 := hS9
                  refine g_aload_n dX6_readValue_148 rfl ?_
                  refine g_bipush dX6_readValue_149 (by decide) ?_
                  refine g_vI (av := [vI 41]) (o := 110) (st := []) (f_X6_readSign G Pc11 T q9 41 (by decide) hBc11 (TX.fr (F := ([(45, 3), (45, 4), (46, 3), (46, 4), (46, 5), (46, 6), (46, 7), (46, 8)], [])) v_TX (FrX.c (FrX.c (FrX.c FrX.rf hFc3 rfl) hFc7 rfl) hFc11 rfl) rfl) (OWN.fr (F := ([(45, 3), (45, 4), (46, 3), (46, 4), (46, 5), (46, 6), (46, 7), (46, 8)], [])) v_OWN (FrX.c (FrX.c (FrX.c FrX.rf hFc3 rfl) hFc7 rfl) hFc11 rfl) rfl) ((XT.fr (F := ([(45, 3), (45, 4), (46, 3), (46, 4), (46, 5), (46, 6), (46, 7), (46, 8)], [])) z0 (FrX.c (FrX.c (FrX.c FrX.rf hFc3 rfl) hFc7 rfl) hFc11 rfl) rfl)) (iv16) _ (fun rc17 hc17 Pc17 hBc17 hFc17 gc17_n ec17_0 => ⟨rc17, rfl, ?_⟩)) cf_X6_readSign t_797 rfl (show kx 110 45 from (⟨by decide, rfl⟩ : kx 110 45)).1 ((show kx 110 45 from (⟨by decide, rfl⟩ : kx 110 45)).sh rfl) rfl rfl (Nat.le_of_ble_eq_true rfl) (by (clear hb hsz k1 k2 gc3_n hcc hcas hk9 k6 hsg40 gc7_n k12 hsg44 k14 k15 hV9 hsg41; omega)) rfl dX6_readValue_151
                  have hcl3 := (rfl : Pc11 110 3 = (Pc11 110 3))
                  have hcl4 := (rfl : Pc11 110 4 = (Pc11 110 4))
                  refine g_if_ne (tgt := 159) dX6_readValue_154 (by decide) ⟨by (clear hb hsz k1 k2 gc3_n hcc hcas hk9 k6 hsg40 gc7_n k12 hsg44 k14 k15 hV9 hsg41 gc17_n; omega), by (clear hb hsz k1 k2 gc3_n hcc hcas hk9 k6 hsg40 gc7_n k12 hsg44 k14 k15 hV9 hsg41 gc17_n; omega)⟩ (fun k18 => ?_) (fun k18 => ?_)
                  · have k18n : 1 ≤ rc17 := by (clear hb hsz k1 k2 gc3_n hcc hcas hk9 k6 hsg40 gc7_n k12 hsg44 k14 k15 hV9 hsg41 gc17_n; omega)
                    clear k18
                    have r_gc17_n := (gc17_n.resolve_right (by (clear hb hsz k1 k2 gc3_n hcc hcas hk9 k6 hsg40 gc7_n k12 hsg44 k14 k15 hV9 hsg41 gc17_n; omega)))
                    have r_hsg41 := (hsg41.resolve_right (by (clear hb hsz k1 k2 gc3_n hcc hcas hk9 k6 hsg40 gc7_n k12 hsg44 k14 k15 hV9 hsg41 gc17_n; omega)))
                    skip
                    skip
                    skip
                    skip
                    skip
                    skip
                    have hb5 := hcc.2.1
                    refine g_aload dX6_readValue_159 rfl ?_
                    refine x_g29_5 (n := (crX (crX o 0) 5)) (ck_28_0 k_o) ffX6_190 dX6_readValue_161 rfl ?_
                    refine g_iload_n dX6_readValue_164 rfl ?_
                    refine x_l35 (z := (P (crX (crX o 0) 5) rc3)) (ck_29_5 (ck_28_0 k_o)) dX6_readValue_165 ⟨by (clear hb hsz k1 k2 gc3_n hcc hcas hk9 k6 hsg40 gc7_n k12 hsg44 k14 k15 hV9 hsg41 gc17_n; omega), by (clear hb hsz k1 k2 gc3_n hcc hcas hk9 k6 hsg40 gc7_n k12 hsg44 k14 k15 hV9 hsg41 gc17_n; omega)⟩ ((FrX.g hFc17 (ck_29_5 (ck_28_0 k_o)) rfl).trans ((FrX.g hFc11 (ck_29_5 (ck_28_0 k_o)) rfl).trans ((FrX.g hFc7 (ck_29_5 (ck_28_0 k_o)) rfl).trans ((FrX.g hFc3 (ck_29_5 (ck_28_0 k_o)) rfl).trans rfl)))) ?_
                    refine g_iload dX6_readValue_166 rfl ?_
                    refine g_aload dX6_readValue_168 rfl ?_
                    refine g_iload_n dX6_readValue_170 rfl ?_
                    refine g_vI (av := [vI rc3]) (o := (crX o 0)) (st := [vI rc11, vI (P (crX (crX o 0) 5) rc3)]) (f_X3_secondSize G Pc17 K (crX o 0) rc3 (ck_28_0 k_o) ⟨by (clear hb hsz k1 k2 gc3_n hcc hcas hk9 k6 hsg40 gc7_n k12 hsg44 k14 k15 hV9 hsg41 gc17_n; omega), by (clear hb hsz k1 k2 gc3_n hcc hcas hk9 k6 hsg40 gc7_n k12 hsg44 k14 k15 hV9 hsg41 gc17_n; omega)⟩ hBc17 p_aw (by (clear hb hsz k1 k2 gc3_n hcc hcas hk9 k6 hsg40 gc7_n k12 hsg44 k14 k15 hV9 hsg41 gc17_n; omega)) ((XK.fr (F := ([(45, 3), (45, 4), (46, 3), (46, 4), (46, 5), (46, 6), (46, 7), (46, 8)], [])) z2 (FrX.c (FrX.c (FrX.c (FrX.c FrX.rf hFc3 rfl) hFc7 rfl) hFc11 rfl) hFc17 rfl) rfl)) _ (fun rc19 hc19 gc19_s => ⟨rc19, rfl, ?_⟩)) cf_X3_secondSize t_836 rfl (show kx (crX o 0) 29 from (ck_28_0 k_o)).1 ((show kx (crX o 0) 29 from (ck_28_0 k_o)).sh rfl) rfl rfl (Nat.le_of_ble_eq_true rfl) (by (clear hb hsz k1 k2 gc3_n hcc hcas hk9 k6 hsg40 gc7_n k12 hsg44 k14 k15 hV9 hsg41 gc17_n; omega)) rfl dX6_readValue_171
                    have hss := gc19_s
                    refine g_imul dX6_readValue_174 ?_
                    refine g_nm (fun w20 e_w20 => ?_)
                    have h_w20 : 0 ≤ w20 ∧ w20 ≤ 4024036 := by rw [e_w20]; exact mul_n (A := 2006) (B := 2006) ⟨by (clear hb hsz k1 k2 gc3_n hcc hcas hk9 k6 hsg40 gc7_n k12 hsg44 k14 k15 hV9 hsg41 gc17_n gc19_s hss; omega), by (clear hb hsz k1 k2 gc3_n hcc hcas hk9 k6 hsg40 gc7_n k12 hsg44 k14 k15 hV9 hsg41 gc17_n gc19_s hss; omega)⟩ ⟨by (clear hb hsz k1 k2 gc3_n hcc hcas hk9 k6 hsg40 gc7_n k12 hsg44 k14 k15 hV9 hsg41 gc17_n gc19_s; omega), by (clear hb hsz k1 k2 gc3_n hcc hcas hk9 k6 hsg40 gc7_n k12 hsg44 k14 k15 hV9 hsg41 gc17_n gc19_s; omega)⟩
                    have hx9 : (K 6 rc3 = 2 ∧ w20 = rc11 * sz K (K 8 rc3)) ∨ (K 6 rc3 ≠ 2 ∧ w20 = rc11) := by rcases hss with ⟨h1, h2⟩ | ⟨h1, h2⟩; exact Or.inl ⟨h1, by rw [e_w20, h2]⟩; exact Or.inr ⟨h1, by rw [e_w20, h2, Int.mul_one]⟩
                    have hb2 : K 2 (K 5 rc3) ≤ 2006 := by have q := p_aw.2.1 (K 5 rc3) (by (clear hb hsz k1 k2 gc3_n hcc hcas hk9 k6 hsg40 gc7_n k12 hsg44 k14 k15 hV9 hsg41 gc17_n gc19_s hss hx9; omega)) (by (clear hb hsz k1 k2 gc3_n hcc hcas hk9 k6 hsg40 gc7_n k12 hsg44 k14 k15 hV9 hsg41 gc17_n gc19_s hss hx9; omega)); (clear hb hsz k1 k2 gc3_n hcc hcas hk9 k6 hsg40 gc7_n k12 hsg44 k14 k15 hV9 hsg41 gc17_n gc19_s hss hx9; omega)
                    refine g_iadd dX6_readValue_175 ?_
                    refine g_iload dX6_readValue_176 rfl ?_
                    refine g_iadd dX6_readValue_178 ?_
                    exact g_retI dX6_readValue_179 rfl (hQ (((P (crX (crX o 0) 5) rc3) + w20) + 0) ⟨by have q0 := bx_35 (o := (crX (crX o 0) 5)) (k := rc3) hB (ck_29_5 (ck_28_0 k_o)); (clear hb hsz k1 k2 gc3_n hcc hcas hk9 k6 hsg40 gc7_n k12 hsg44 k14 k15 hV9 hsg41 gc17_n gc19_s hss hx9; omega), by have q0 := bx_35 (o := (crX (crX o 0) 5)) (k := rc3) hB (ck_29_5 (ck_28_0 k_o)); (omega)⟩ _ hBc17 (FrX.c (FrX.c (FrX.c (FrX.c FrX.rf hFc3 rfl) hFc7 rfl) hFc11 rfl) hFc17 rfl) (VC.close hC9 hf9 (by (clear hb hsz k1 k2 gc3_n hcc hcas hk9 k6 hsg40 gc7_n k12 hsg44 k14 k15 hV9 hsg41 gc17_n gc19_s hss hx9; omega)) (by (omega)) ⟨by (omega), by (omega)⟩ (by have q := (rfl : Pc17 110 3 = (Pc17 110 3)); (clear hb hsz k1 k2 gc3_n hcc hcas hk9 k6 hsg40 gc7_n k12 hsg44 k14 k15 hV9 hsg41 gc17_n gc19_s hss hx9; omega)) (by have q := (rfl : Pc17 110 4 = (Pc17 110 4)); (clear hb hsz k1 k2 gc3_n hcc hcas hk9 k6 hsg40 gc7_n k12 hsg44 k14 k15 hV9 hsg41 gc17_n gc19_s hss hx9; omega)) (ec17_0 (by (clear hb hsz k1 k2 gc3_n hcc hcas hk9 k6 hsg40 gc7_n k12 hsg44 k14 k15 hV9 hsg41 gc17_n gc19_s hss hx9; omega)))))
                  · skip
                    skip
                    skip
                    skip
                    skip
                    skip
                    skip
                    skip
                    refine g_iconst dX6_readValue_157 ?_
                    exact g_retI dX6_readValue_158 rfl (hQ (-1) (by decide) _ hBc17 (FrX.c (FrX.c (FrX.c (FrX.c FrX.rf hFc3 rfl) hFc7 rfl) hFc11 rfl) hFc17 rfl) (by first | exact VC.commaF hC1 (by (first | (clear hb hsz k1 k2 gc3_n hcc hcas hk9 k6 hsg40 gc7_n k12 hsg44 k14 k15 hV9 hsg41 gc17_n k18; omega) | (clear hb hsz k1 k2 gc3_n hcc hcas hk9 k6 hsg40 gc7_n k12 hsg44 k14 k15 hV9 hsg41 gc17_n; omega) | (clear hb hsz k1 k2 gc3_n hcc hcas hk9 k6 hsg40 gc7_n k12 hsg44 k14 k15 hV9 hsg41 k18; omega) | (clear hb hsz k1 k2 gc3_n hcc hcas hk9 k6 hsg40 gc7_n k12 hsg44 k14 k15 hV9 gc17_n k18; omega) | (clear hb hsz k1 k2 gc3_n hcc hcas hk9 k6 hsg40 gc7_n k12 hsg44 k14 k15 hsg41 gc17_n k18; omega) | (clear hb hsz k1 k2 gc3_n hcc hcas hk9 k6 hsg40 gc7_n k12 hsg44 k14 hV9 hsg41 gc17_n k18; omega) | (clear hb hsz k1 k2 gc3_n hcc hcas hk9 k6 hsg40 gc7_n k12 hsg44 k15 hV9 hsg41 gc17_n k18; omega) | (clear hb hsz k1 k2 gc3_n hcc hcas hk9 k6 hsg40 gc7_n k12 k14 k15 hV9 hsg41 gc17_n k18; omega) | (clear hb hsz k1 k2 gc3_n hcc hcas hk9 k6 hsg40 gc7_n hsg44 k14 k15 hV9 hsg41 gc17_n k18; omega) | (clear hb hsz k1 k2 gc3_n hcc hcas hk9 k6 hsg40 gc7_n k12 hsg44 k14 k15 hV9 hsg41; omega) | (clear k15 k14 hsg44 k12 gc7_n hsg40 k6 hk9 hcas hcc gc3_n k2 k1 hsz hb; omega) | omega)) (by (first | (clear hb hsz k1 k2 gc3_n hcc hcas hk9 k6 hsg40 gc7_n k12 hsg44 k14 k15 hV9 hsg41 gc17_n k18; omega) | (clear hb hsz k1 k2 gc3_n hcc hcas hk9 k6 hsg40 gc7_n k12 hsg44 k14 k15 hV9 hsg41 gc17_n; omega) | (clear hb hsz k1 k2 gc3_n hcc hcas hk9 k6 hsg40 gc7_n k12 hsg44 k14 k15 hV9 hsg41 k18; omega) | (clear hb hsz k1 k2 gc3_n hcc hcas hk9 k6 hsg40 gc7_n k12 hsg44 k14 k15 hV9 gc17_n k18; omega) | (clear hb hsz k1 k2 gc3_n hcc hcas hk9 k6 hsg40 gc7_n k12 hsg44 k14 k15 hsg41 gc17_n k18; omega) | (clear hb hsz k1 k2 gc3_n hcc hcas hk9 k6 hsg40 gc7_n k12 hsg44 k14 hV9 hsg41 gc17_n k18; omega) | (clear hb hsz k1 k2 gc3_n hcc hcas hk9 k6 hsg40 gc7_n k12 hsg44 k15 hV9 hsg41 gc17_n k18; omega) | (clear hb hsz k1 k2 gc3_n hcc hcas hk9 k6 hsg40 gc7_n k12 k14 k15 hV9 hsg41 gc17_n k18; omega) | (clear hb hsz k1 k2 gc3_n hcc hcas hk9 k6 hsg40 gc7_n hsg44 k14 k15 hV9 hsg41 gc17_n k18; omega) | (clear hb hsz k1 k2 gc3_n hcc hcas hk9 k6 hsg40 gc7_n k12 hsg44 k14 k15 hV9 hsg41; omega) | (clear k15 k14 hsg44 k12 gc7_n hsg40 k6 hk9 hcas hcc gc3_n k2 k1 hsz hb; omega) | omega)) (by have q := (rfl : Pc17 110 3 = (Pc17 110 3)); (first | (clear hb hsz k1 k2 gc3_n hcc hcas hk9 k6 hsg40 gc7_n k12 hsg44 k14 k15 hV9 hsg41 gc17_n k18; omega) | (clear hb hsz k1 k2 gc3_n hcc hcas hk9 k6 hsg40 gc7_n k12 hsg44 k14 k15 hV9 hsg41 gc17_n; omega) | (clear hb hsz k1 k2 gc3_n hcc hcas hk9 k6 hsg40 gc7_n k12 hsg44 k14 k15 hV9 hsg41 k18; omega) | (clear hb hsz k1 k2 gc3_n hcc hcas hk9 k6 hsg40 gc7_n k12 hsg44 k14 k15 hV9 gc17_n k18; omega) | (clear hb hsz k1 k2 gc3_n hcc hcas hk9 k6 hsg40 gc7_n k12 hsg44 k14 k15 hsg41 gc17_n k18; omega) | (clear hb hsz k1 k2 gc3_n hcc hcas hk9 k6 hsg40 gc7_n k12 hsg44 k14 hV9 hsg41 gc17_n k18; omega) | (clear hb hsz k1 k2 gc3_n hcc hcas hk9 k6 hsg40 gc7_n k12 hsg44 k15 hV9 hsg41 gc17_n k18; omega) | (clear hb hsz k1 k2 gc3_n hcc hcas hk9 k6 hsg40 gc7_n k12 k14 k15 hV9 hsg41 gc17_n k18; omega) | (clear hb hsz k1 k2 gc3_n hcc hcas hk9 k6 hsg40 gc7_n hsg44 k14 k15 hV9 hsg41 gc17_n k18; omega) | (clear hb hsz k1 k2 gc3_n hcc hcas hk9 k6 hsg40 gc7_n k12 hsg44 k14 k15 hV9 hsg41; omega) | (clear k15 k14 hsg44 k12 gc7_n hsg40 k6 hk9 hcas hcc gc3_n k2 k1 hsz hb; omega) | omega)) (by have q := (rfl : Pc17 110 4 = (Pc17 110 4)); (first | (clear hb hsz k1 k2 gc3_n hcc hcas hk9 k6 hsg40 gc7_n k12 hsg44 k14 k15 hV9 hsg41 gc17_n k18; omega) | (clear hb hsz k1 k2 gc3_n hcc hcas hk9 k6 hsg40 gc7_n k12 hsg44 k14 k15 hV9 hsg41 gc17_n; omega) | (clear hb hsz k1 k2 gc3_n hcc hcas hk9 k6 hsg40 gc7_n k12 hsg44 k14 k15 hV9 hsg41 k18; omega) | (clear hb hsz k1 k2 gc3_n hcc hcas hk9 k6 hsg40 gc7_n k12 hsg44 k14 k15 hV9 gc17_n k18; omega) | (clear hb hsz k1 k2 gc3_n hcc hcas hk9 k6 hsg40 gc7_n k12 hsg44 k14 k15 hsg41 gc17_n k18; omega) | (clear hb hsz k1 k2 gc3_n hcc hcas hk9 k6 hsg40 gc7_n k12 hsg44 k14 hV9 hsg41 gc17_n k18; omega) | (clear hb hsz k1 k2 gc3_n hcc hcas hk9 k6 hsg40 gc7_n k12 hsg44 k15 hV9 hsg41 gc17_n k18; omega) | (clear hb hsz k1 k2 gc3_n hcc hcas hk9 k6 hsg40 gc7_n k12 k14 k15 hV9 hsg41 gc17_n k18; omega) | (clear hb hsz k1 k2 gc3_n hcc hcas hk9 k6 hsg40 gc7_n hsg44 k14 k15 hV9 hsg41 gc17_n k18; omega) | (clear hb hsz k1 k2 gc3_n hcc hcas hk9 k6 hsg40 gc7_n k12 hsg44 k14 k15 hV9 hsg41; omega) | (clear k15 k14 hsg44 k12 gc7_n hsg40 k6 hk9 hcas hcc gc3_n k2 k1 hsz hb; omega) | omega)) | (have h := hvc2.resolve_left (fun h => by (first | (clear hb hsz k1 k2 gc3_n hcc hcas hk9 k6 hsg40 gc7_n k12 hsg44 k14 k15 hV9 hsg41 gc17_n k18; omega) | (clear hb hsz k1 k2 gc3_n hcc hcas hk9 k6 hsg40 gc7_n k12 hsg44 k14 k15 hV9 hsg41 gc17_n; omega) | (clear hb hsz k1 k2 gc3_n hcc hcas hk9 k6 hsg40 gc7_n k12 hsg44 k14 k15 hV9 hsg41 k18; omega) | (clear hb hsz k1 k2 gc3_n hcc hcas hk9 k6 hsg40 gc7_n k12 hsg44 k14 k15 hV9 gc17_n k18; omega) | (clear hb hsz k1 k2 gc3_n hcc hcas hk9 k6 hsg40 gc7_n k12 hsg44 k14 k15 hsg41 gc17_n k18; omega) | (clear hb hsz k1 k2 gc3_n hcc hcas hk9 k6 hsg40 gc7_n k12 hsg44 k14 hV9 hsg41 gc17_n k18; omega) | (clear hb hsz k1 k2 gc3_n hcc hcas hk9 k6 hsg40 gc7_n k12 hsg44 k15 hV9 hsg41 gc17_n k18; omega) | (clear hb hsz k1 k2 gc3_n hcc hcas hk9 k6 hsg40 gc7_n k12 k14 k15 hV9 hsg41 gc17_n k18; omega) | (clear hb hsz k1 k2 gc3_n hcc hcas hk9 k6 hsg40 gc7_n hsg44 k14 k15 hV9 hsg41 gc17_n k18; omega) | (clear hb hsz k1 k2 gc3_n hcc hcas hk9 k6 hsg40 gc7_n k12 hsg44 k14 k15 hV9 hsg41; omega) | (clear k15 k14 hsg44 k12 gc7_n hsg40 k6 hk9 hcas hcc gc3_n k2 k1 hsz hb; omega) | omega)); exact VC.inF (c := rc3) (f := 0 + 1) (a := 0 * sz K (fK K rc3 0) + rc11) (fun s x hx => hC1 s x (VRs.comma (by (first | (clear hb hsz k1 k2 gc3_n hcc hcas hk9 k6 hsg40 gc7_n k12 hsg44 k14 k15 hV9 hsg41 gc17_n k18; omega) | (clear hb hsz k1 k2 gc3_n hcc hcas hk9 k6 hsg40 gc7_n k12 hsg44 k14 k15 hV9 hsg41 gc17_n; omega) | (clear hb hsz k1 k2 gc3_n hcc hcas hk9 k6 hsg40 gc7_n k12 hsg44 k14 k15 hV9 hsg41 k18; omega) | (clear hb hsz k1 k2 gc3_n hcc hcas hk9 k6 hsg40 gc7_n k12 hsg44 k14 k15 hV9 gc17_n k18; omega) | (clear hb hsz k1 k2 gc3_n hcc hcas hk9 k6 hsg40 gc7_n k12 hsg44 k14 k15 hsg41 gc17_n k18; omega) | (clear hb hsz k1 k2 gc3_n hcc hcas hk9 k6 hsg40 gc7_n k12 hsg44 k14 hV9 hsg41 gc17_n k18; omega) | (clear hb hsz k1 k2 gc3_n hcc hcas hk9 k6 hsg40 gc7_n k12 hsg44 k15 hV9 hsg41 gc17_n k18; omega) | (clear hb hsz k1 k2 gc3_n hcc hcas hk9 k6 hsg40 gc7_n k12 k14 k15 hV9 hsg41 gc17_n k18; omega) | (clear hb hsz k1 k2 gc3_n hcc hcas hk9 k6 hsg40 gc7_n hsg44 k14 k15 hV9 hsg41 gc17_n k18; omega) | (clear hb hsz k1 k2 gc3_n hcc hcas hk9 k6 hsg40 gc7_n k12 hsg44 k14 k15 hV9 hsg41; omega) | (clear k15 k14 hsg44 k12 gc7_n hsg40 k6 hk9 hcas hcc gc3_n k2 k1 hsz hb; omega) | omega)) (by (first | (clear hb hsz k1 k2 gc3_n hcc hcas hk9 k6 hsg40 gc7_n k12 hsg44 k14 k15 hV9 hsg41 gc17_n k18; omega) | (clear hb hsz k1 k2 gc3_n hcc hcas hk9 k6 hsg40 gc7_n k12 hsg44 k14 k15 hV9 hsg41 gc17_n; omega) | (clear hb hsz k1 k2 gc3_n hcc hcas hk9 k6 hsg40 gc7_n k12 hsg44 k14 k15 hV9 hsg41 k18; omega) | (clear hb hsz k1 k2 gc3_n hcc hcas hk9 k6 hsg40 gc7_n k12 hsg44 k14 k15 hV9 gc17_n k18; omega) | (clear hb hsz k1 k2 gc3_n hcc hcas hk9 k6 hsg40 gc7_n k12 hsg44 k14 k15 hsg41 gc17_n k18; omega) | (clear hb hsz k1 k2 gc3_n hcc hcas hk9 k6 hsg40 gc7_n k12 hsg44 k14 hV9 hsg41 gc17_n k18; omega) | (clear hb hsz k1 k2 gc3_n hcc hcas hk9 k6 hsg40 gc7_n k12 hsg44 k15 hV9 hsg41 gc17_n k18; omega) | (clear hb hsz k1 k2 gc3_n hcc hcas hk9 k6 hsg40 gc7_n k12 k14 k15 hV9 hsg41 gc17_n k18; omega) | (clear hb hsz k1 k2 gc3_n hcc hcas hk9 k6 hsg40 gc7_n hsg44 k14 k15 hV9 hsg41 gc17_n k18; omega) | (clear hb hsz k1 k2 gc3_n hcc hcas hk9 k6 hsg40 gc7_n k12 hsg44 k14 k15 hV9 hsg41; omega) | (clear k15 k14 hsg44 k12 gc7_n hsg40 k6 hk9 hcas hcc gc3_n k2 k1 hsz hb; omega) | omega)) hx)) h.2.1 h.2.2) | exact VC.closeF hC9 hf9 (by (clear hb hsz k1 k2 gc3_n hcc hcas hk9 k6 hsg40 gc7_n k12 hsg44 k14 k15 hV9 hsg41; omega)) (by have q := (rfl : Pc17 110 3 = (Pc17 110 3)); (clear hb hsz k1 k2 gc3_n hcc hcas hk9 k6 hsg40 gc7_n k12 hsg44 k14 k15 hV9 hsg41; omega)) (by have q := (rfl : Pc17 110 4 = (Pc17 110 4)); (clear hb hsz k1 k2 gc3_n hcc hcas hk9 k6 hsg40 gc7_n k12 hsg44 k14 k15 hV9 hsg41; omega))))
                · skip
                  skip
                  skip
                  skip
                  skip
                  skip
                  refine g_aload_n dX6_readValue_113 rfl ?_
                  refine g_bipush dX6_readValue_114 (by decide) ?_
                  refine g_vI (av := [vI 44]) (o := 110) (st := []) (f_X6_readSign G Pc11 T q3 44 (by decide) hBc11 (TX.fr (F := ([(45, 3), (45, 4), (46, 3), (46, 4), (46, 5), (46, 6), (46, 7), (46, 8)], [])) v_TX (FrX.c (FrX.c (FrX.c FrX.rf hFc3 rfl) hFc7 rfl) hFc11 rfl) rfl) (OWN.fr (F := ([(45, 3), (45, 4), (46, 3), (46, 4), (46, 5), (46, 6), (46, 7), (46, 8)], [])) v_OWN (FrX.c (FrX.c (FrX.c FrX.rf hFc3 rfl) hFc7 rfl) hFc11 rfl) rfl) ((XT.fr (F := ([(45, 3), (45, 4), (46, 3), (46, 4), (46, 5), (46, 6), (46, 7), (46, 8)], [])) z0 (FrX.c (FrX.c (FrX.c FrX.rf hFc3 rfl) hFc7 rfl) hFc11 rfl) rfl)) (iv13) _ (fun rc21 hc21 Pc21 hBc21 hFc21 gc21_n ec21_0 => ⟨rc21, rfl, ?_⟩)) cf_X6_readSign t_797 rfl (show kx 110 45 from (⟨by decide, rfl⟩ : kx 110 45)).1 ((show kx 110 45 from (⟨by decide, rfl⟩ : kx 110 45)).sh rfl) rfl rfl (Nat.le_of_ble_eq_true rfl) (by (clear hb hsz k1 k2 gc3_n hcc hcas hk9 k6 hsg40 gc7_n k12 hsg44 k14; omega)) rfl dX6_readValue_116
                  refine g_if_eq (tgt := 139) dX6_readValue_119 (by decide) ⟨by (clear hb hsz k1 k2 gc3_n hcc hcas hk9 k6 hsg40 gc7_n k12 hsg44 k14 gc21_n; omega), by (clear hb hsz k1 k2 gc3_n hcc hcas hk9 k6 hsg40 gc7_n k12 hsg44 k14 gc21_n; omega)⟩ (fun k22 => ?_) (fun k22 => ?_)
                  · have r_gc21_n := (gc21_n.resolve_left (by (clear hb hsz k1 k2 gc3_n hcc hcas hk9 k6 hsg40 gc7_n k12 hsg44 k14 gc21_n; omega)))
                    have r_hsg44 := (hsg44.resolve_left (by (clear hb hsz k1 k2 gc3_n hcc hcas hk9 k6 hsg40 gc7_n k12 hsg44 k14 gc21_n; omega)))
                    skip
                    skip
                    skip
                    skip
                    skip
                    refine g_iconst dX6_readValue_139 ?_
                    refine g_istore (l1 := [(6, vI (-1)), (5, vI rc11), (4, vR (crX o 0)), (3, vI rc3), (0, vR 110), (1, vI a1), (2, vI a2)]) dX6_readValue_140 (by decide) rfl ?_
                    refine g_iload dX6_readValue_142 rfl ?_
                    refine g_iconst dX6_readValue_144 ?_
                    refine g_icmp_eq (tgt := 157) dX6_readValue_145 (by decide) (by decide) (by decide) (fun k23 => ?_) (fun k23 => by exfalso; (clear hb hsz k1 k2 gc3_n hcc hcas hk9 k6 hsg40 gc7_n k12 hsg44 k14 gc21_n; omega))
                    skip
                    skip
                    skip
                    skip
                    skip
                    skip
                    skip
                    refine g_iconst dX6_readValue_157 ?_
                    exact g_retI dX6_readValue_158 rfl (hQ (-1) (by decide) _ hBc21 (FrX.c (FrX.c (FrX.c (FrX.c FrX.rf hFc3 rfl) hFc7 rfl) hFc11 rfl) hFc21 rfl) (by first | exact VC.commaF hC1 (by (omega)) (by (clear hb hsz k1 k2 gc3_n hcc hcas hk9 k6 hsg40 gc7_n k12 hsg44 k14 gc21_n k23; omega)) (by have q := (rfl : Pc21 110 3 = (Pc21 110 3)); (clear hb hsz k1 k2 gc3_n hcc hcas hk9 k6 hsg40 gc7_n k12 hsg44 k14 gc21_n k23; omega)) (by have q := (rfl : Pc21 110 4 = (Pc21 110 4)); (clear hb hsz k1 k2 gc3_n hcc hcas hk9 k6 hsg40 gc7_n k12 hsg44 k14 gc21_n k23; omega)) | (have h := hvc2.resolve_left (fun h => by (first | (clear hb hsz k1 k2 gc3_n hcc hcas hk9 k6 hsg40 gc7_n k12 hsg44 k14 gc21_n k23; omega) | (clear hb hsz k1 k2 gc3_n hcc hcas hk9 k6 hsg40 gc7_n k12 hsg44 k14 gc21_n; omega) | (clear hb hsz k1 k2 gc3_n hcc hcas hk9 k6 hsg40 gc7_n k12 hsg44 k14 k23; omega) | (clear hb hsz k1 k2 gc3_n hcc hcas hk9 k6 hsg40 gc7_n k12 hsg44 gc21_n k23; omega) | (clear hb hsz k1 k2 gc3_n hcc hcas hk9 k6 hsg40 gc7_n k12 k14 gc21_n k23; omega) | (clear hb hsz k1 k2 gc3_n hcc hcas hk9 k6 hsg40 gc7_n hsg44 k14 gc21_n k23; omega) | (clear hb hsz k1 k2 gc3_n hcc hcas hk9 k6 hsg40 k12 hsg44 k14 gc21_n k23; omega) | (clear hb hsz k1 k2 gc3_n hcc hcas hk9 k6 gc7_n k12 hsg44 k14 gc21_n k23; omega) | (clear hb hsz k1 k2 gc3_n hcc hcas hk9 hsg40 gc7_n k12 hsg44 k14 gc21_n k23; omega) | (clear hb hsz k1 k2 gc3_n hcc hcas hk9 k6 hsg40 gc7_n k12 hsg44 k14; omega) | (clear k12 gc7_n hsg40 k6 hk9 hcas hcc gc3_n k2 k1 hsz hb; omega) | omega)); exact VC.inF (c := rc3) (f := 0 + 1) (a := 0 * sz K (fK K rc3 0) + rc11) (fun s x hx => hC1 s x (VRs.comma (by (first | (clear hb hsz k1 k2 gc3_n hcc hcas hk9 k6 hsg40 gc7_n k12 hsg44 k14 gc21_n k23; omega) | (clear hb hsz k1 k2 gc3_n hcc hcas hk9 k6 hsg40 gc7_n k12 hsg44 k14 gc21_n; omega) | (clear hb hsz k1 k2 gc3_n hcc hcas hk9 k6 hsg40 gc7_n k12 hsg44 k14 k23; omega) | (clear hb hsz k1 k2 gc3_n hcc hcas hk9 k6 hsg40 gc7_n k12 hsg44 gc21_n k23; omega) | (clear hb hsz k1 k2 gc3_n hcc hcas hk9 k6 hsg40 gc7_n k12 k14 gc21_n k23; omega) | (clear hb hsz k1 k2 gc3_n hcc hcas hk9 k6 hsg40 gc7_n hsg44 k14 gc21_n k23; omega) | (clear hb hsz k1 k2 gc3_n hcc hcas hk9 k6 hsg40 k12 hsg44 k14 gc21_n k23; omega) | (clear hb hsz k1 k2 gc3_n hcc hcas hk9 k6 gc7_n k12 hsg44 k14 gc21_n k23; omega) | (clear hb hsz k1 k2 gc3_n hcc hcas hk9 hsg40 gc7_n k12 hsg44 k14 gc21_n k23; omega) | (clear hb hsz k1 k2 gc3_n hcc hcas hk9 k6 hsg40 gc7_n k12 hsg44 k14; omega) | (clear k12 gc7_n hsg40 k6 hk9 hcas hcc gc3_n k2 k1 hsz hb; omega) | omega)) (by (first | (clear hb hsz k1 k2 gc3_n hcc hcas hk9 k6 hsg40 gc7_n k12 hsg44 k14 gc21_n k23; omega) | (clear hb hsz k1 k2 gc3_n hcc hcas hk9 k6 hsg40 gc7_n k12 hsg44 k14 gc21_n; omega) | (clear hb hsz k1 k2 gc3_n hcc hcas hk9 k6 hsg40 gc7_n k12 hsg44 k14 k23; omega) | (clear hb hsz k1 k2 gc3_n hcc hcas hk9 k6 hsg40 gc7_n k12 hsg44 gc21_n k23; omega) | (clear hb hsz k1 k2 gc3_n hcc hcas hk9 k6 hsg40 gc7_n k12 k14 gc21_n k23; omega) | (clear hb hsz k1 k2 gc3_n hcc hcas hk9 k6 hsg40 gc7_n hsg44 k14 gc21_n k23; omega) | (clear hb hsz k1 k2 gc3_n hcc hcas hk9 k6 hsg40 k12 hsg44 k14 gc21_n k23; omega) | (clear hb hsz k1 k2 gc3_n hcc hcas hk9 k6 gc7_n k12 hsg44 k14 gc21_n k23; omega) | (clear hb hsz k1 k2 gc3_n hcc hcas hk9 hsg40 gc7_n k12 hsg44 k14 gc21_n k23; omega) | (clear hb hsz k1 k2 gc3_n hcc hcas hk9 k6 hsg40 gc7_n k12 hsg44 k14; omega) | (clear k12 gc7_n hsg40 k6 hk9 hcas hcc gc3_n k2 k1 hsz hb; omega) | omega)) hx)) h.2.1 h.2.2) | exact VC.closeF hC9 hf9 (by (first | (clear hb hsz k1 k2 gc3_n hcc hcas hk9 k6 hsg40 gc7_n k12 hsg44 k14 gc21_n k23; omega) | (clear hb hsz k1 k2 gc3_n hcc hcas hk9 k6 hsg40 gc7_n k12 hsg44 k14 gc21_n; omega) | (clear hb hsz k1 k2 gc3_n hcc hcas hk9 k6 hsg40 gc7_n k12 hsg44 k14 k23; omega) | (clear hb hsz k1 k2 gc3_n hcc hcas hk9 k6 hsg40 gc7_n k12 hsg44 gc21_n k23; omega) | (clear hb hsz k1 k2 gc3_n hcc hcas hk9 k6 hsg40 gc7_n k12 k14 gc21_n k23; omega) | (clear hb hsz k1 k2 gc3_n hcc hcas hk9 k6 hsg40 gc7_n hsg44 k14 gc21_n k23; omega) | (clear hb hsz k1 k2 gc3_n hcc hcas hk9 k6 hsg40 k12 hsg44 k14 gc21_n k23; omega) | (clear hb hsz k1 k2 gc3_n hcc hcas hk9 k6 gc7_n k12 hsg44 k14 gc21_n k23; omega) | (clear hb hsz k1 k2 gc3_n hcc hcas hk9 hsg40 gc7_n k12 hsg44 k14 gc21_n k23; omega) | (clear hb hsz k1 k2 gc3_n hcc hcas hk9 k6 hsg40 gc7_n k12 hsg44 k14; omega) | (clear k12 gc7_n hsg40 k6 hk9 hcas hcc gc3_n k2 k1 hsz hb; omega) | omega)) (by have q := (rfl : Pc21 110 3 = (Pc21 110 3)); (first | (clear hb hsz k1 k2 gc3_n hcc hcas hk9 k6 hsg40 gc7_n k12 hsg44 k14 gc21_n k23; omega) | (clear hb hsz k1 k2 gc3_n hcc hcas hk9 k6 hsg40 gc7_n k12 hsg44 k14 gc21_n; omega) | (clear hb hsz k1 k2 gc3_n hcc hcas hk9 k6 hsg40 gc7_n k12 hsg44 k14 k23; omega) | (clear hb hsz k1 k2 gc3_n hcc hcas hk9 k6 hsg40 gc7_n k12 hsg44 gc21_n k23; omega) | (clear hb hsz k1 k2 gc3_n hcc hcas hk9 k6 hsg40 gc7_n k12 k14 gc21_n k23; omega) | (clear hb hsz k1 k2 gc3_n hcc hcas hk9 k6 hsg40 gc7_n hsg44 k14 gc21_n k23; omega) | (clear hb hsz k1 k2 gc3_n hcc hcas hk9 k6 hsg40 k12 hsg44 k14 gc21_n k23; omega) | (clear hb hsz k1 k2 gc3_n hcc hcas hk9 k6 gc7_n k12 hsg44 k14 gc21_n k23; omega) | (clear hb hsz k1 k2 gc3_n hcc hcas hk9 hsg40 gc7_n k12 hsg44 k14 gc21_n k23; omega) | (clear hb hsz k1 k2 gc3_n hcc hcas hk9 k6 hsg40 gc7_n k12 hsg44 k14; omega) | (clear k12 gc7_n hsg40 k6 hk9 hcas hcc gc3_n k2 k1 hsz hb; omega) | omega)) (by have q := (rfl : Pc21 110 4 = (Pc21 110 4)); (first | (clear hb hsz k1 k2 gc3_n hcc hcas hk9 k6 hsg40 gc7_n k12 hsg44 k14 gc21_n k23; omega) | (clear hb hsz k1 k2 gc3_n hcc hcas hk9 k6 hsg40 gc7_n k12 hsg44 k14 gc21_n; omega) | (clear hb hsz k1 k2 gc3_n hcc hcas hk9 k6 hsg40 gc7_n k12 hsg44 k14 k23; omega) | (clear hb hsz k1 k2 gc3_n hcc hcas hk9 k6 hsg40 gc7_n k12 hsg44 gc21_n k23; omega) | (clear hb hsz k1 k2 gc3_n hcc hcas hk9 k6 hsg40 gc7_n k12 k14 gc21_n k23; omega) | (clear hb hsz k1 k2 gc3_n hcc hcas hk9 k6 hsg40 gc7_n hsg44 k14 gc21_n k23; omega) | (clear hb hsz k1 k2 gc3_n hcc hcas hk9 k6 hsg40 k12 hsg44 k14 gc21_n k23; omega) | (clear hb hsz k1 k2 gc3_n hcc hcas hk9 k6 gc7_n k12 hsg44 k14 gc21_n k23; omega) | (clear hb hsz k1 k2 gc3_n hcc hcas hk9 hsg40 gc7_n k12 hsg44 k14 gc21_n k23; omega) | (clear hb hsz k1 k2 gc3_n hcc hcas hk9 k6 hsg40 gc7_n k12 hsg44 k14; omega) | (clear k12 gc7_n hsg40 k6 hk9 hcas hcc gc3_n k2 k1 hsz hb; omega) | omega))))
                  · have k22n : 1 ≤ rc21 := by (clear hb hsz k1 k2 gc3_n hcc hcas hk9 k6 hsg40 gc7_n k12 hsg44 k14 gc21_n; omega)
                    clear k22
                    have r_gc21_n := (gc21_n.resolve_right (by (clear hb hsz k1 k2 gc3_n hcc hcas hk9 k6 hsg40 gc7_n k12 hsg44 k14 gc21_n; omega)))
                    have r_hsg44 := (hsg44.resolve_right (by (clear hb hsz k1 k2 gc3_n hcc hcas hk9 k6 hsg40 gc7_n k12 hsg44 k14 gc21_n; omega)))
                    skip
                    skip
                    skip
                    skip
                    skip
                    refine g_aload_n dX6_readValue_122 rfl ?_
                    refine g_aload dX6_readValue_123 rfl ?_
                    refine x_g29_8 (n := (crX (crX o 0) 8)) (ck_28_0 k_o) ffX6_196 dX6_readValue_125 rfl ?_
                    refine g_iload_n dX6_readValue_128 rfl ?_
                    refine x_l38 (z := (P (crX (crX o 0) 8) rc3)) (ck_29_8 (ck_28_0 k_o)) dX6_readValue_129 ⟨by (clear hb hsz k1 k2 gc3_n hcc hcas hk9 k6 hsg40 gc7_n k12 hsg44 k14 gc21_n; omega), by (clear hb hsz k1 k2 gc3_n hcc hcas hk9 k6 hsg40 gc7_n k12 hsg44 k14 gc21_n; omega)⟩ ((FrX.g hFc21 (ck_29_8 (ck_28_0 k_o)) rfl).trans ((FrX.g hFc11 (ck_29_8 (ck_28_0 k_o)) rfl).trans ((FrX.g hFc7 (ck_29_8 (ck_28_0 k_o)) rfl).trans ((FrX.g hFc3 (ck_29_8 (ck_28_0 k_o)) rfl).trans rfl)))) ?_
                    refine g_iload_n dX6_readValue_130 rfl ?_
                    refine g_iconst dX6_readValue_131 ?_
                    refine g_iadd dX6_readValue_132 ?_
                    have f24 := bx_38 (o := (crX (crX o 0) 8)) (k := rc3) hB (ck_29_8 (ck_28_0 k_o))
                    refine g_sI (av := [vR 110, vI (P (crX (crX o 0) 8) rc3), vI (a2 + 1)]) (st := []) (ih Pc21 T K (tE T q3) o k_o (P (crX (crX o 0) 8) rc3) (a2 + 1) ⟨by have q0 := bx_38 (o := (crX (crX o 0) 8)) (k := rc3) hB (ck_29_8 (ck_28_0 k_o)); (clear hb hsz k1 k2 gc3_n hcc hcas hk9 k6 hsg40 gc7_n k12 hsg44 k14 gc21_n; omega), by have q0 := bx_38 (o := (crX (crX o 0) 8)) (k := rc3) hB (ck_29_8 (ck_28_0 k_o)); (clear hb hsz k1 k2 gc3_n hcc hcas hk9 k6 hsg40 gc7_n k12 hsg44 k14 gc21_n; omega)⟩ ⟨by (clear hb hsz k1 k2 gc3_n hcc hcas hk9 k6 hsg40 gc7_n k12 hsg44 k14 gc21_n; omega), by (clear hb hsz k1 k2 gc3_n hcc hcas hk9 k6 hsg40 gc7_n k12 hsg44 k14 gc21_n; omega)⟩ hBc21 (by have q0 := bx_38 (o := (crX (crX o 0) 8)) (k := rc3) hB (ck_29_8 (ck_28_0 k_o)); (clear hb hsz k1 k2 gc3_n hcc hcas hk9 k6 hsg40 gc7_n k12 hsg44 k14 gc21_n; omega)) p_aw (p_ab) (⟨by (omega), by (omega), by (omega)⟩) (TX.fr (F := ([(45, 3), (45, 4), (46, 3), (46, 4), (46, 5), (46, 6), (46, 7), (46, 8)], [])) v_TX (FrX.c (FrX.c (FrX.c (FrX.c FrX.rf hFc3 rfl) hFc7 rfl) hFc11 rfl) hFc21 rfl) rfl) (OWN.fr (F := ([(45, 3), (45, 4), (46, 3), (46, 4), (46, 5), (46, 6), (46, 7), (46, 8)], [])) v_OWN (FrX.c (FrX.c (FrX.c (FrX.c FrX.rf hFc3 rfl) hFc7 rfl) hFc11 rfl) hFc21 rfl) rfl) ((XT.fr (F := ([(45, 3), (45, 4), (46, 3), (46, 4), (46, 5), (46, 6), (46, 7), (46, 8)], [])) z0 (FrX.c (FrX.c (FrX.c (FrX.c FrX.rf hFc3 rfl) hFc7 rfl) hFc11 rfl) hFc21 rfl) rfl)) (by rw [show tE T q3 = (sgn T 44 q3).2 by (clear hb hsz k1 k2 gc3_n hcc hcas hk9 k6 hsg40 gc7_n k12 hsg44 k14 gc21_n; omega)]; exact (ec21_0 (by (clear hb hsz k1 k2 gc3_n hcc hcas hk9 k6 hsg40 gc7_n k12 hsg44 k14 gc21_n; omega)))) ((XK.fr (F := ([(45, 3), (45, 4), (46, 3), (46, 4), (46, 5), (46, 6), (46, 7), (46, 8)], [])) z2 (FrX.c (FrX.c (FrX.c (FrX.c FrX.rf hFc3 rfl) hFc7 rfl) hFc11 rfl) hFc21 rfl) rfl)) ((RT.fr (F := ([(45, 3), (45, 4), (46, 3), (46, 4), (46, 5), (46, 6), (46, 7), (46, 8)], [])) z3 (FrX.c (FrX.c (FrX.c (FrX.c FrX.rf hFc3 rfl) hFc7 rfl) hFc11 rfl) hFc21 rfl) rfl)) (by (clear hb hsz k1 k2 gc3_n hcc hcas hk9 k6 hsg40 gc7_n k12 hsg44 k14 gc21_n; omega)) _ (fun rc25 hc25 Pc25 hBc25 hFc25 gc25_vc => ⟨rc25, rfl, ?_⟩)) cf_X6_readValue t_1026 rfl (Nat.le_of_ble_eq_true rfl) (by (clear hb hsz k1 k2 gc3_n hcc hcas hk9 k6 hsg40 gc7_n k12 hsg44 k14 gc21_n; omega)) rfl dX6_readValue_133
                    have hvc2 : VC T K (K 8 rc3) (tE T q3) rc25 P Pc25 := by have q := gc25_vc; rw [hcc.2.2.2.2] at q; exact VC.tr q (by have q3 := (rfl : Pc21 110 3 = (Pc21 110 3)); (clear hb hsz k1 k2 gc3_n hcc hcas hk9 k6 hsg40 gc7_n k12 hsg44 k14 gc21_n; omega)) (by have q4 := (rfl : Pc21 110 4 = (Pc21 110 4)); (clear hb hsz k1 k2 gc3_n hcc hcas hk9 k6 hsg40 gc7_n k12 hsg44 k14 gc21_n; omega))
                    refine g_goto (tgt := 140) dX6_readValue_136 (by decide) ?_
                    refine g_istore (l1 := [(6, vI rc25), (5, vI rc11), (4, vR (crX o 0)), (3, vI rc3), (0, vR 110), (1, vI a1), (2, vI a2)]) dX6_readValue_140 (by decide) rfl ?_
                    refine g_iload dX6_readValue_142 rfl ?_
                    refine g_iconst dX6_readValue_144 ?_
                    refine g_icmp_eq (tgt := 157) dX6_readValue_145 (by decide) ⟨by (clear hb hsz k1 k2 gc3_n hcc hcas hk9 k6 hsg40 gc7_n k12 hsg44 k14 gc21_n; omega), by (clear hb hsz k1 k2 gc3_n hcc hcas hk9 k6 hsg40 gc7_n k12 hsg44 k14 gc21_n; omega)⟩ (by decide) (fun k26 => ?_) (fun k26 => ?_)
                    · skip
                      skip
                      skip
                      skip
                      skip
                      skip
                      skip
                      refine g_iconst dX6_readValue_157 ?_
                      exact g_retI dX6_readValue_158 rfl (hQ (-1) (by decide) _ hBc25 (FrX.c (FrX.c (FrX.c (FrX.c (FrX.c FrX.rf hFc3 rfl) hFc7 rfl) hFc11 rfl) hFc21 rfl) hFc25 rfl) (by first | exact VC.commaF hC1 (by (omega)) (by (first | (clear hb hsz k1 k2 gc3_n hcc hcas hk9 k6 hsg40 gc7_n k12 hsg44 k14 gc21_n k26; omega) | (clear hb hsz k1 k2 gc3_n hcc hcas hk9 k6 hsg40 gc7_n k12 hsg44 k14 gc21_n; omega) | (clear hb hsz k1 k2 gc3_n hcc hcas hk9 k6 hsg40 gc7_n k12 hsg44 k14 k26; omega) | (clear hb hsz k1 k2 gc3_n hcc hcas hk9 k6 hsg40 gc7_n k12 hsg44 gc21_n k26; omega) | (clear hb hsz k1 k2 gc3_n hcc hcas hk9 k6 hsg40 gc7_n k12 k14 gc21_n k26; omega) | (clear hb hsz k1 k2 gc3_n hcc hcas hk9 k6 hsg40 gc7_n hsg44 k14 gc21_n k26; omega) | (clear hb hsz k1 k2 gc3_n hcc hcas hk9 k6 hsg40 k12 hsg44 k14 gc21_n k26; omega) | (clear hb hsz k1 k2 gc3_n hcc hcas hk9 k6 gc7_n k12 hsg44 k14 gc21_n k26; omega) | (clear hb hsz k1 k2 gc3_n hcc hcas hk9 hsg40 gc7_n k12 hsg44 k14 gc21_n k26; omega) | (clear hb hsz k1 k2 gc3_n hcc hcas hk9 k6 hsg40 gc7_n k12 hsg44 k14; omega) | (clear k12 gc7_n hsg40 k6 hk9 hcas hcc gc3_n k2 k1 hsz hb; omega) | omega)) (by have q := (rfl : Pc25 110 3 = (Pc25 110 3)); (first | (clear hb hsz k1 k2 gc3_n hcc hcas hk9 k6 hsg40 gc7_n k12 hsg44 k14 gc21_n k26; omega) | (clear hb hsz k1 k2 gc3_n hcc hcas hk9 k6 hsg40 gc7_n k12 hsg44 k14 gc21_n; omega) | (clear hb hsz k1 k2 gc3_n hcc hcas hk9 k6 hsg40 gc7_n k12 hsg44 k14 k26; omega) | (clear hb hsz k1 k2 gc3_n hcc hcas hk9 k6 hsg40 gc7_n k12 hsg44 gc21_n k26; omega) | (clear hb hsz k1 k2 gc3_n hcc hcas hk9 k6 hsg40 gc7_n k12 k14 gc21_n k26; omega) | (clear hb hsz k1 k2 gc3_n hcc hcas hk9 k6 hsg40 gc7_n hsg44 k14 gc21_n k26; omega) | (clear hb hsz k1 k2 gc3_n hcc hcas hk9 k6 hsg40 k12 hsg44 k14 gc21_n k26; omega) | (clear hb hsz k1 k2 gc3_n hcc hcas hk9 k6 gc7_n k12 hsg44 k14 gc21_n k26; omega) | (clear hb hsz k1 k2 gc3_n hcc hcas hk9 hsg40 gc7_n k12 hsg44 k14 gc21_n k26; omega) | (clear hb hsz k1 k2 gc3_n hcc hcas hk9 k6 hsg40 gc7_n k12 hsg44 k14; omega) | (clear k12 gc7_n hsg40 k6 hk9 hcas hcc gc3_n k2 k1 hsz hb; omega) | omega)) (by have q := (rfl : Pc25 110 4 = (Pc25 110 4)); (first | (clear hb hsz k1 k2 gc3_n hcc hcas hk9 k6 hsg40 gc7_n k12 hsg44 k14 gc21_n k26; omega) | (clear hb hsz k1 k2 gc3_n hcc hcas hk9 k6 hsg40 gc7_n k12 hsg44 k14 gc21_n; omega) | (clear hb hsz k1 k2 gc3_n hcc hcas hk9 k6 hsg40 gc7_n k12 hsg44 k14 k26; omega) | (clear hb hsz k1 k2 gc3_n hcc hcas hk9 k6 hsg40 gc7_n k12 hsg44 gc21_n k26; omega) | (clear hb hsz k1 k2 gc3_n hcc hcas hk9 k6 hsg40 gc7_n k12 k14 gc21_n k26; omega) | (clear hb hsz k1 k2 gc3_n hcc hcas hk9 k6 hsg40 gc7_n hsg44 k14 gc21_n k26; omega) | (clear hb hsz k1 k2 gc3_n hcc hcas hk9 k6 hsg40 k12 hsg44 k14 gc21_n k26; omega) | (clear hb hsz k1 k2 gc3_n hcc hcas hk9 k6 gc7_n k12 hsg44 k14 gc21_n k26; omega) | (clear hb hsz k1 k2 gc3_n hcc hcas hk9 hsg40 gc7_n k12 hsg44 k14 gc21_n k26; omega) | (clear hb hsz k1 k2 gc3_n hcc hcas hk9 k6 hsg40 gc7_n k12 hsg44 k14; omega) | (clear k12 gc7_n hsg40 k6 hk9 hcas hcc gc3_n k2 k1 hsz hb; omega) | omega)) | (have h := hvc2.resolve_left (fun h => by (clear hb hsz k1 k2 gc3_n hcc hcas hk9 k6 hsg40 gc7_n k12 hsg44 k14 gc21_n; omega)); exact VC.inF (c := rc3) (f := 0 + 1) (a := 0 * sz K (fK K rc3 0) + rc11) (fun s x hx => hC1 s x (VRs.comma (by (omega)) (by (clear hb hsz k1 k2 gc3_n hcc hcas hk9 k6 hsg40 gc7_n k12 hsg44 k14 gc21_n k26; omega)) hx)) h.2.1 h.2.2) | exact VC.closeF hC9 hf9 (by (first | (clear hb hsz k1 k2 gc3_n hcc hcas hk9 k6 hsg40 gc7_n k12 hsg44 k14 gc21_n k26; omega) | (clear hb hsz k1 k2 gc3_n hcc hcas hk9 k6 hsg40 gc7_n k12 hsg44 k14 gc21_n; omega) | (clear hb hsz k1 k2 gc3_n hcc hcas hk9 k6 hsg40 gc7_n k12 hsg44 k14 k26; omega) | (clear hb hsz k1 k2 gc3_n hcc hcas hk9 k6 hsg40 gc7_n k12 hsg44 gc21_n k26; omega) | (clear hb hsz k1 k2 gc3_n hcc hcas hk9 k6 hsg40 gc7_n k12 k14 gc21_n k26; omega) | (clear hb hsz k1 k2 gc3_n hcc hcas hk9 k6 hsg40 gc7_n hsg44 k14 gc21_n k26; omega) | (clear hb hsz k1 k2 gc3_n hcc hcas hk9 k6 hsg40 k12 hsg44 k14 gc21_n k26; omega) | (clear hb hsz k1 k2 gc3_n hcc hcas hk9 k6 gc7_n k12 hsg44 k14 gc21_n k26; omega) | (clear hb hsz k1 k2 gc3_n hcc hcas hk9 hsg40 gc7_n k12 hsg44 k14 gc21_n k26; omega) | (clear hb hsz k1 k2 gc3_n hcc hcas hk9 k6 hsg40 gc7_n k12 hsg44 k14; omega) | (clear k12 gc7_n hsg40 k6 hk9 hcas hcc gc3_n k2 k1 hsz hb; omega) | omega)) (by have q := (rfl : Pc25 110 3 = (Pc25 110 3)); (first | (clear hb hsz k1 k2 gc3_n hcc hcas hk9 k6 hsg40 gc7_n k12 hsg44 k14 gc21_n k26; omega) | (clear hb hsz k1 k2 gc3_n hcc hcas hk9 k6 hsg40 gc7_n k12 hsg44 k14 gc21_n; omega) | (clear hb hsz k1 k2 gc3_n hcc hcas hk9 k6 hsg40 gc7_n k12 hsg44 k14 k26; omega) | (clear hb hsz k1 k2 gc3_n hcc hcas hk9 k6 hsg40 gc7_n k12 hsg44 gc21_n k26; omega) | (clear hb hsz k1 k2 gc3_n hcc hcas hk9 k6 hsg40 gc7_n k12 k14 gc21_n k26; omega) | (clear hb hsz k1 k2 gc3_n hcc hcas hk9 k6 hsg40 gc7_n hsg44 k14 gc21_n k26; omega) | (clear hb hsz k1 k2 gc3_n hcc hcas hk9 k6 hsg40 k12 hsg44 k14 gc21_n k26; omega) | (clear hb hsz k1 k2 gc3_n hcc hcas hk9 k6 gc7_n k12 hsg44 k14 gc21_n k26; omega) | (clear hb hsz k1 k2 gc3_n hcc hcas hk9 hsg40 gc7_n k12 hsg44 k14 gc21_n k26; omega) | (clear hb hsz k1 k2 gc3_n hcc hcas hk9 k6 hsg40 gc7_n k12 hsg44 k14; omega) | (clear k12 gc7_n hsg40 k6 hk9 hcas hcc gc3_n k2 k1 hsz hb; omega) | omega)) (by have q := (rfl : Pc25 110 4 = (Pc25 110 4)); (first | (clear hb hsz k1 k2 gc3_n hcc hcas hk9 k6 hsg40 gc7_n k12 hsg44 k14 gc21_n k26; omega) | (clear hb hsz k1 k2 gc3_n hcc hcas hk9 k6 hsg40 gc7_n k12 hsg44 k14 gc21_n; omega) | (clear hb hsz k1 k2 gc3_n hcc hcas hk9 k6 hsg40 gc7_n k12 hsg44 k14 k26; omega) | (clear hb hsz k1 k2 gc3_n hcc hcas hk9 k6 hsg40 gc7_n k12 hsg44 gc21_n k26; omega) | (clear hb hsz k1 k2 gc3_n hcc hcas hk9 k6 hsg40 gc7_n k12 k14 gc21_n k26; omega) | (clear hb hsz k1 k2 gc3_n hcc hcas hk9 k6 hsg40 gc7_n hsg44 k14 gc21_n k26; omega) | (clear hb hsz k1 k2 gc3_n hcc hcas hk9 k6 hsg40 k12 hsg44 k14 gc21_n k26; omega) | (clear hb hsz k1 k2 gc3_n hcc hcas hk9 k6 gc7_n k12 hsg44 k14 gc21_n k26; omega) | (clear hb hsz k1 k2 gc3_n hcc hcas hk9 hsg40 gc7_n k12 hsg44 k14 gc21_n k26; omega) | (clear hb hsz k1 k2 gc3_n hcc hcas hk9 k6 hsg40 gc7_n k12 hsg44 k14; omega) | (clear k12 gc7_n hsg40 k6 hk9 hcas hcc gc3_n k2 k1 hsz hb; omega) | omega))))
                    · skip
                      skip
                      skip
                      skip
                      skip
                      skip
                      skip
                      obtain ⟨f9, a9, v9, w9, q9, hS9, hf9, hC9, hW9, hV9⟩ : ∃ f a v w q : Int, XS T q Pc25 ∧ ¬ f + 1 < K 6 rc3 ∧ (∀ (s : SV) (x : Int × Int × Int), VRs T K 1 ((rc3, f, a) :: s) 0 q v x → VRs T K 0 s a1 p 0 x) ∧ (w = K 10 rc3 + (a * sz K (fK K rc3 f) + v) ∧ 0 ≤ w ∧ w < K 2 (K 5 rc3)) ∧ ((K 6 rc3 = 2 ∧ w = K 10 rc3 + rc11 * sz K (K 8 rc3) + rc25) ∨ (K 6 rc3 ≠ 2 ∧ w = K 10 rc3 + rc11 ∧ rc25 = 0)) := by
                        first
                        | (obtain ⟨hw0, hw1, hw3, hw4, q5, hS5, hR5⟩ := hvc2.resolve_right (fun h => by (clear hb hsz k1 k2 gc3_n hcc hcas hk9 k6 hsg40 gc7_n k12 hsg44 k14 gc21_n; omega)); exact ⟨1, 0 * sz K (fK K rc3 0) + rc11, rc25, _, q5, hS5, by (clear hb hsz k1 k2 gc3_n hcc hcas hk9 k6 hsg40 gc7_n k12 hsg44 k14 gc21_n k26; omega), fun s x hx => hC1 s x (VRs.comma (by (omega)) (by (clear hb hsz k1 k2 gc3_n hcc hcas hk9 k6 hsg40 gc7_n k12 hsg44 k14 gc21_n k26; omega)) (hR5 _ x hx)), val_2 p_ab ⟨hc1.2.2.1, hc1.2.2.2⟩ (by (omega)) ⟨hv0, hv1⟩ ⟨hw0, hw1⟩, Or.inl ⟨by (omega), rfl⟩⟩)
                        | exact ⟨0, 0, rc11, _, q3, hNONE, by (first | (clear hb hsz k1 k2 gc3_n hcc hcas hk9 k6 hsg40 gc7_n k12 hsg44 k14 gc21_n k26 hV9; omega) | (clear hb hsz k1 k2 gc3_n hcc hcas hk9 k6 hsg40 gc7_n k12 hsg44 k14 gc21_n k26; omega) | (clear hb hsz k1 k2 gc3_n hcc hcas hk9 k6 hsg40 gc7_n k12 hsg44 k14 gc21_n hV9; omega) | (clear hb hsz k1 k2 gc3_n hcc hcas hk9 k6 hsg40 gc7_n k12 hsg44 k14 k26 hV9; omega) | (clear hb hsz k1 k2 gc3_n hcc hcas hk9 k6 hsg40 gc7_n k12 hsg44 gc21_n k26 hV9; omega) | (clear hb hsz k1 k2 gc3_n hcc hcas hk9 k6 hsg40 gc7_n k12 k14 gc21_n k26 hV9; omega) | (clear hb hsz k1 k2 gc3_n hcc hcas hk9 k6 hsg40 gc7_n hsg44 k14 gc21_n k26 hV9; omega) | (clear hb hsz k1 k2 gc3_n hcc hcas hk9 k6 hsg40 k12 hsg44 k14 gc21_n k26 hV9; omega) | (clear hb hsz k1 k2 gc3_n hcc hcas hk9 k6 gc7_n k12 hsg44 k14 gc21_n k26 hV9; omega) | (clear hb hsz k1 k2 gc3_n hcc hcas hk9 k6 hsg40 gc7_n k12 hsg44 k14 gc21_n; omega) | (clear hsg44 k12 gc7_n hsg40 k6 hk9 hcas hcc gc3_n k2 k1 hsz hb; omega) | omega), hC1, val_1 p_ab ⟨hc1.2.2.1, hc1.2.2.2⟩ (by (first | (clear hb hsz k1 k2 gc3_n hcc hcas hk9 k6 hsg40 gc7_n k12 hsg44 k14 gc21_n k26 hV9; omega) | (clear hb hsz k1 k2 gc3_n hcc hcas hk9 k6 hsg40 gc7_n k12 hsg44 k14 gc21_n k26; omega) | (clear hb hsz k1 k2 gc3_n hcc hcas hk9 k6 hsg40 gc7_n k12 hsg44 k14 gc21_n hV9; omega) | (clear hb hsz k1 k2 gc3_n hcc hcas hk9 k6 hsg40 gc7_n k12 hsg44 k14 k26 hV9; omega) | (clear hb hsz k1 k2 gc3_n hcc hcas hk9 k6 hsg40 gc7_n k12 hsg44 gc21_n k26 hV9; omega) | (clear hb hsz k1 k2 gc3_n hcc hcas hk9 k6 hsg40 gc7_n k12 k14 gc21_n k26 hV9; omega) | (clear hb hsz k1 k2 gc3_n hcc hcas hk9 k6 hsg40 gc7_n hsg44 k14 gc21_n k26 hV9; omega) | (clear hb hsz k1 k2 gc3_n hcc hcas hk9 k6 hsg40 k12 hsg44 k14 gc21_n k26 hV9; omega) | (clear hb hsz k1 k2 gc3_n hcc hcas hk9 k6 gc7_n k12 hsg44 k14 gc21_n k26 hV9; omega) | (clear hb hsz k1 k2 gc3_n hcc hcas hk9 k6 hsg40 gc7_n k12 hsg44 k14 gc21_n; omega) | (clear hsg44 k12 gc7_n hsg40 k6 hk9 hcas hcc gc3_n k2 k1 hsz hb; omega) | omega)) ⟨hv0, hv1⟩, Or.inr ⟨by (first | (clear hb hsz k1 k2 gc3_n hcc hcas hk9 k6 hsg40 gc7_n k12 hsg44 k14 gc21_n k26 hV9; omega) | (clear hb hsz k1 k2 gc3_n hcc hcas hk9 k6 hsg40 gc7_n k12 hsg44 k14 gc21_n k26; omega) | (clear hb hsz k1 k2 gc3_n hcc hcas hk9 k6 hsg40 gc7_n k12 hsg44 k14 gc21_n hV9; omega) | (clear hb hsz k1 k2 gc3_n hcc hcas hk9 k6 hsg40 gc7_n k12 hsg44 k14 k26 hV9; omega) | (clear hb hsz k1 k2 gc3_n hcc hcas hk9 k6 hsg40 gc7_n k12 hsg44 gc21_n k26 hV9; omega) | (clear hb hsz k1 k2 gc3_n hcc hcas hk9 k6 hsg40 gc7_n k12 k14 gc21_n k26 hV9; omega) | (clear hb hsz k1 k2 gc3_n hcc hcas hk9 k6 hsg40 gc7_n hsg44 k14 gc21_n k26 hV9; omega) | (clear hb hsz k1 k2 gc3_n hcc hcas hk9 k6 hsg40 k12 hsg44 k14 gc21_n k26 hV9; omega) | (clear hb hsz k1 k2 gc3_n hcc hcas hk9 k6 gc7_n k12 hsg44 k14 gc21_n k26 hV9; omega) | (clear hb hsz k1 k2 gc3_n hcc hcas hk9 k6 hsg40 gc7_n k12 hsg44 k14 gc21_n; omega) | (clear hsg44 k12 gc7_n hsg40 k6 hk9 hcas hcc gc3_n k2 k1 hsz hb; omega) | omega), rfl, rfl⟩⟩
                      have hu34 : Pc25 110 3 = P 110 3 ∧ Pc25 110 4 = P 110 4 := by first | (obtain ⟨hw0, hw1, hw3, hw4, q5, hS5, hR5⟩ := hvc2.resolve_right (fun h => by (clear hb hsz k1 k2 gc3_n hcc hcas hk9 k6 hsg40 gc7_n k12 hsg44 k14 gc21_n hV9; omega)); exact ⟨hw3, hw4⟩) | exact ⟨by have q := (rfl : Pc25 110 3 = (Pc25 110 3)); (first | (clear hb hsz k1 k2 gc3_n hcc hcas hk9 k6 hsg40 gc7_n k12 hsg44 k14 gc21_n k26 hV9; omega) | (clear hb hsz k1 k2 gc3_n hcc hcas hk9 k6 hsg40 gc7_n k12 hsg44 k14 gc21_n k26; omega) | (clear hb hsz k1 k2 gc3_n hcc hcas hk9 k6 hsg40 gc7_n k12 hsg44 k14 gc21_n hV9; omega) | (clear hb hsz k1 k2 gc3_n hcc hcas hk9 k6 hsg40 gc7_n k12 hsg44 k14 k26 hV9; omega) | (clear hb hsz k1 k2 gc3_n hcc hcas hk9 k6 hsg40 gc7_n k12 hsg44 gc21_n k26 hV9; omega) | (clear hb hsz k1 k2 gc3_n hcc hcas hk9 k6 hsg40 gc7_n k12 k14 gc21_n k26 hV9; omega) | (clear hb hsz k1 k2 gc3_n hcc hcas hk9 k6 hsg40 gc7_n hsg44 k14 gc21_n k26 hV9; omega) | (clear hb hsz k1 k2 gc3_n hcc hcas hk9 k6 hsg40 k12 hsg44 k14 gc21_n k26 hV9; omega) | (clear hb hsz k1 k2 gc3_n hcc hcas hk9 k6 gc7_n k12 hsg44 k14 gc21_n k26 hV9; omega) | (clear hb hsz k1 k2 gc3_n hcc hcas hk9 k6 hsg40 gc7_n k12 hsg44 k14 gc21_n; omega) | (clear hsg44 k12 gc7_n hsg40 k6 hk9 hcas hcc gc3_n k2 k1 hsz hb; omega) | omega), by have q := (rfl : Pc25 110 4 = (Pc25 110 4)); (first | (clear hb hsz k1 k2 gc3_n hcc hcas hk9 k6 hsg40 gc7_n k12 hsg44 k14 gc21_n k26 hV9; omega) | (clear hb hsz k1 k2 gc3_n hcc hcas hk9 k6 hsg40 gc7_n k12 hsg44 k14 gc21_n k26; omega) | (clear hb hsz k1 k2 gc3_n hcc hcas hk9 k6 hsg40 gc7_n k12 hsg44 k14 gc21_n hV9; omega) | (clear hb hsz k1 k2 gc3_n hcc hcas hk9 k6 hsg40 gc7_n k12 hsg44 k14 k26 hV9; omega) | (clear hb hsz k1 k2 gc3_n hcc hcas hk9 k6 hsg40 gc7_n k12 hsg44 gc21_n k26 hV9; omega) | (clear hb hsz k1 k2 gc3_n hcc hcas hk9 k6 hsg40 gc7_n k12 k14 gc21_n k26 hV9; omega) | (clear hb hsz k1 k2 gc3_n hcc hcas hk9 k6 hsg40 gc7_n hsg44 k14 gc21_n k26 hV9; omega) | (clear hb hsz k1 k2 gc3_n hcc hcas hk9 k6 hsg40 k12 hsg44 k14 gc21_n k26 hV9; omega) | (clear hb hsz k1 k2 gc3_n hcc hcas hk9 k6 gc7_n k12 hsg44 k14 gc21_n k26 hV9; omega) | (clear hb hsz k1 k2 gc3_n hcc hcas hk9 k6 hsg40 gc7_n k12 hsg44 k14 gc21_n; omega) | (clear hsg44 k12 gc7_n hsg40 k6 hk9 hcas hcc gc3_n k2 k1 hsz hb; omega) | omega)⟩
                      have hsg41 := sgn_s T 41 q9
                      have iv27 : XS T q9 Pc25 := hS9
                      refine g_aload_n dX6_readValue_148 rfl ?_
                      refine g_bipush dX6_readValue_149 (by decide) ?_
                      refine g_vI (av := [vI 41]) (o := 110) (st := []) (f_X6_readSign G Pc25 T q9 41 (by decide) hBc25 (TX.fr (F := ([(45, 3), (45, 4), (46, 3), (46, 4), (46, 5), (46, 6), (46, 7), (46, 8)], [])) v_TX (FrX.c (FrX.c (FrX.c (FrX.c (FrX.c FrX.rf hFc3 rfl) hFc7 rfl) hFc11 rfl) hFc21 rfl) hFc25 rfl) rfl) (OWN.fr (F := ([(45, 3), (45, 4), (46, 3), (46, 4), (46, 5), (46, 6), (46, 7), (46, 8)], [])) v_OWN (FrX.c (FrX.c (FrX.c (FrX.c (FrX.c FrX.rf hFc3 rfl) hFc7 rfl) hFc11 rfl) hFc21 rfl) hFc25 rfl) rfl) ((XT.fr (F := ([(45, 3), (45, 4), (46, 3), (46, 4), (46, 5), (46, 6), (46, 7), (46, 8)], [])) z0 (FrX.c (FrX.c (FrX.c (FrX.c (FrX.c FrX.rf hFc3 rfl) hFc7 rfl) hFc11 rfl) hFc21 rfl) hFc25 rfl) rfl)) (iv27) _ (fun rc28 hc28 Pc28 hBc28 hFc28 gc28_n ec28_0 => ⟨rc28, rfl, ?_⟩)) cf_X6_readSign t_797 rfl (show kx 110 45 from (⟨by decide, rfl⟩ : kx 110 45)).1 ((show kx 110 45 from (⟨by decide, rfl⟩ : kx 110 45)).sh rfl) rfl rfl (Nat.le_of_ble_eq_true rfl) (by (clear hb hsz k1 k2 gc3_n hcc hcas hk9 k6 hsg40 gc7_n k12 hsg44 k14 gc21_n k26 hV9 hsg41; omega)) rfl dX6_readValue_151
                      have hcl3 := (rfl : Pc25 110 3 = (Pc25 110 3))
                      have hcl4 := (rfl : Pc25 110 4 = (Pc25 110 4))
                      refine g_if_ne (tgt := 159) dX6_readValue_154 (by decide) ⟨by (clear hb hsz k1 k2 gc3_n hcc hcas hk9 k6 hsg40 gc7_n k12 hsg44 k14 gc21_n k26 hV9 hsg41 gc28_n; omega), by (clear hb hsz k1 k2 gc3_n hcc hcas hk9 k6 hsg40 gc7_n k12 hsg44 k14 gc21_n k26 hV9 hsg41 gc28_n; omega)⟩ (fun k29 => ?_) (fun k29 => ?_)
                      · have k29n : 1 ≤ rc28 := by (clear hb hsz k1 k2 gc3_n hcc hcas hk9 k6 hsg40 gc7_n k12 hsg44 k14 gc21_n k26 hV9 hsg41 gc28_n; omega)
                        clear k29
                        have r_gc28_n := (gc28_n.resolve_right (by (clear hb hsz k1 k2 gc3_n hcc hcas hk9 k6 hsg40 gc7_n k12 hsg44 k14 gc21_n k26 hV9 hsg41 gc28_n; omega)))
                        have r_hsg41 := (hsg41.resolve_right (by (clear hb hsz k1 k2 gc3_n hcc hcas hk9 k6 hsg40 gc7_n k12 hsg44 k14 gc21_n k26 hV9 hsg41 gc28_n; omega)))
                        skip
                        skip
                        skip
                        skip
                        skip
                        skip
                        have hb5 := hcc.2.1
                        refine g_aload dX6_readValue_159 rfl ?_
                        refine x_g29_5 (n := (crX (crX o 0) 5)) (ck_28_0 k_o) ffX6_190 dX6_readValue_161 rfl ?_
                        refine g_iload_n dX6_readValue_164 rfl ?_
                        refine x_l35 (z := (P (crX (crX o 0) 5) rc3)) (ck_29_5 (ck_28_0 k_o)) dX6_readValue_165 ⟨by (clear hb hsz k1 k2 gc3_n hcc hcas hk9 k6 hsg40 gc7_n k12 hsg44 k14 gc21_n k26 hV9 hsg41 gc28_n; omega), by (clear hb hsz k1 k2 gc3_n hcc hcas hk9 k6 hsg40 gc7_n k12 hsg44 k14 gc21_n k26 hV9 hsg41 gc28_n; omega)⟩ ((FrX.g hFc28 (ck_29_5 (ck_28_0 k_o)) rfl).trans ((FrX.g hFc25 (ck_29_5 (ck_28_0 k_o)) rfl).trans ((FrX.g hFc21 (ck_29_5 (ck_28_0 k_o)) rfl).trans ((FrX.g hFc11 (ck_29_5 (ck_28_0 k_o)) rfl).trans ((FrX.g hFc7 (ck_29_5 (ck_28_0 k_o)) rfl).trans ((FrX.g hFc3 (ck_29_5 (ck_28_0 k_o)) rfl).trans rfl)))))) ?_
                        refine g_iload dX6_readValue_166 rfl ?_
                        refine g_aload dX6_readValue_168 rfl ?_
                        refine g_iload_n dX6_readValue_170 rfl ?_
                        refine g_vI (av := [vI rc3]) (o := (crX o 0)) (st := [vI rc11, vI (P (crX (crX o 0) 5) rc3)]) (f_X3_secondSize G Pc28 K (crX o 0) rc3 (ck_28_0 k_o) ⟨by (clear hb hsz k1 k2 gc3_n hcc hcas hk9 k6 hsg40 gc7_n k12 hsg44 k14 gc21_n k26 hV9 hsg41 gc28_n; omega), by (clear hb hsz k1 k2 gc3_n hcc hcas hk9 k6 hsg40 gc7_n k12 hsg44 k14 gc21_n k26 hV9 hsg41 gc28_n; omega)⟩ hBc28 p_aw (by (clear hb hsz k1 k2 gc3_n hcc hcas hk9 k6 hsg40 gc7_n k12 hsg44 k14 gc21_n k26 hV9 hsg41 gc28_n; omega)) ((XK.fr (F := ([(45, 3), (45, 4), (46, 3), (46, 4), (46, 5), (46, 6), (46, 7), (46, 8)], [])) z2 (FrX.c (FrX.c (FrX.c (FrX.c (FrX.c (FrX.c FrX.rf hFc3 rfl) hFc7 rfl) hFc11 rfl) hFc21 rfl) hFc25 rfl) hFc28 rfl) rfl)) _ (fun rc30 hc30 gc30_s => ⟨rc30, rfl, ?_⟩)) cf_X3_secondSize t_836 rfl (show kx (crX o 0) 29 from (ck_28_0 k_o)).1 ((show kx (crX o 0) 29 from (ck_28_0 k_o)).sh rfl) rfl rfl (Nat.le_of_ble_eq_true rfl) (by (clear hb hsz k1 k2 gc3_n hcc hcas hk9 k6 hsg40 gc7_n k12 hsg44 k14 gc21_n k26 hV9 hsg41 gc28_n; omega)) rfl dX6_readValue_171
                        have hss := gc30_s
                        refine g_imul dX6_readValue_174 ?_
                        refine g_nm (fun w31 e_w31 => ?_)
                        have h_w31 : 0 ≤ w31 ∧ w31 ≤ 4024036 := by rw [e_w31]; exact mul_n (A := 2006) (B := 2006) ⟨by (clear hb hsz k1 k2 gc3_n hcc hcas hk9 k6 hsg40 gc7_n k12 hsg44 k14 gc21_n k26 hV9 hsg41 gc28_n gc30_s hss; omega), by (clear hb hsz k1 k2 gc3_n hcc hcas hk9 k6 hsg40 gc7_n k12 hsg44 k14 gc21_n k26 hV9 hsg41 gc28_n gc30_s hss; omega)⟩ ⟨by (clear hb hsz k1 k2 gc3_n hcc hcas hk9 k6 hsg40 gc7_n k12 hsg44 k14 gc21_n k26 hV9 hsg41 gc28_n gc30_s; omega), by (clear hb hsz k1 k2 gc3_n hcc hcas hk9 k6 hsg40 gc7_n k12 hsg44 k14 gc21_n k26 hV9 hsg41 gc28_n gc30_s; omega)⟩
                        have hx9 : (K 6 rc3 = 2 ∧ w31 = rc11 * sz K (K 8 rc3)) ∨ (K 6 rc3 ≠ 2 ∧ w31 = rc11) := by rcases hss with ⟨h1, h2⟩ | ⟨h1, h2⟩; exact Or.inl ⟨h1, by rw [e_w31, h2]⟩; exact Or.inr ⟨h1, by rw [e_w31, h2, Int.mul_one]⟩
                        have hb2 : K 2 (K 5 rc3) ≤ 2006 := by have q := p_aw.2.1 (K 5 rc3) (by (clear hb hsz k1 k2 gc3_n hcc hcas hk9 k6 hsg40 gc7_n k12 hsg44 k14 gc21_n k26 hV9 hsg41 gc28_n gc30_s hss hx9; omega)) (by (clear hb hsz k1 k2 gc3_n hcc hcas hk9 k6 hsg40 gc7_n k12 hsg44 k14 gc21_n k26 hV9 hsg41 gc28_n gc30_s hss hx9; omega)); (clear hb hsz k1 k2 gc3_n hcc hcas hk9 k6 hsg40 gc7_n k12 hsg44 k14 gc21_n k26 hV9 hsg41 gc28_n gc30_s hss hx9; omega)
                        refine g_iadd dX6_readValue_175 ?_
                        refine g_iload dX6_readValue_176 rfl ?_
                        refine g_iadd dX6_readValue_178 ?_
                        exact g_retI dX6_readValue_179 rfl (hQ (((P (crX (crX o 0) 5) rc3) + w31) + rc25) ⟨by have q0 := bx_35 (o := (crX (crX o 0) 5)) (k := rc3) hB (ck_29_5 (ck_28_0 k_o)); (omega), by have q0 := bx_35 (o := (crX (crX o 0) 5)) (k := rc3) hB (ck_29_5 (ck_28_0 k_o)); (omega)⟩ _ hBc28 (FrX.c (FrX.c (FrX.c (FrX.c (FrX.c (FrX.c FrX.rf hFc3 rfl) hFc7 rfl) hFc11 rfl) hFc21 rfl) hFc25 rfl) hFc28 rfl) (VC.close hC9 hf9 (by (clear hb hsz k1 k2 gc3_n hcc hcas hk9 k6 hsg40 gc7_n k12 hsg44 k14 gc21_n k26 hV9 hsg41 gc28_n gc30_s hss hx9; omega)) (by (omega)) ⟨by (omega), by (omega)⟩ (by have q := (rfl : Pc28 110 3 = (Pc28 110 3)); (clear hb hsz k1 k2 gc3_n hcc hcas hk9 k6 hsg40 gc7_n k12 hsg44 k14 gc21_n k26 hV9 hsg41 gc28_n gc30_s hss hx9; omega)) (by have q := (rfl : Pc28 110 4 = (Pc28 110 4)); (clear hb hsz k1 k2 gc3_n hcc hcas hk9 k6 hsg40 gc7_n k12 hsg44 k14 gc21_n k26 hV9 hsg41 gc28_n gc30_s hss hx9; omega)) (ec28_0 (by (clear hb hsz k1 k2 gc3_n hcc hcas hk9 k6 hsg40 gc7_n k12 hsg44 k14 gc21_n k26 hV9 hsg41 gc28_n gc30_s hss hx9; omega)))))
                      · skip
                        skip
                        skip
                        skip
                        skip
                        skip
                        skip
                        skip
                        refine g_iconst dX6_readValue_157 ?_
                        exact g_retI dX6_readValue_158 rfl (hQ (-1) (by decide) _ hBc28 (FrX.c (FrX.c (FrX.c (FrX.c (FrX.c (FrX.c FrX.rf hFc3 rfl) hFc7 rfl) hFc11 rfl) hFc21 rfl) hFc25 rfl) hFc28 rfl) (by first | exact VC.commaF hC1 (by (omega)) (by (first | (clear hb hsz k1 k2 gc3_n hcc hcas hk9 k6 hsg40 gc7_n k12 hsg44 k14 gc21_n k26 hV9 hsg41 gc28_n k29; omega) | (clear hb hsz k1 k2 gc3_n hcc hcas hk9 k6 hsg40 gc7_n k12 hsg44 k14 gc21_n k26 hV9 hsg41 gc28_n; omega) | (clear hb hsz k1 k2 gc3_n hcc hcas hk9 k6 hsg40 gc7_n k12 hsg44 k14 gc21_n k26 hV9 hsg41 k29; omega) | (clear hb hsz k1 k2 gc3_n hcc hcas hk9 k6 hsg40 gc7_n k12 hsg44 k14 gc21_n k26 hV9 gc28_n k29; omega) | (clear hb hsz k1 k2 gc3_n hcc hcas hk9 k6 hsg40 gc7_n k12 hsg44 k14 gc21_n k26 hsg41 gc28_n k29; omega) | (clear hb hsz k1 k2 gc3_n hcc hcas hk9 k6 hsg40 gc7_n k12 hsg44 k14 gc21_n hV9 hsg41 gc28_n k29; omega) | (clear hb hsz k1 k2 gc3_n hcc hcas hk9 k6 hsg40 gc7_n k12 hsg44 k14 k26 hV9 hsg41 gc28_n k29; omega) | (clear hb hsz k1 k2 gc3_n hcc hcas hk9 k6 hsg40 gc7_n k12 hsg44 gc21_n k26 hV9 hsg41 gc28_n k29; omega) | (clear hb hsz k1 k2 gc3_n hcc hcas hk9 k6 hsg40 gc7_n k12 k14 gc21_n k26 hV9 hsg41 gc28_n k29; omega) | (clear hb hsz k1 k2 gc3_n hcc hcas hk9 k6 hsg40 gc7_n k12 hsg44 k14 gc21_n k26 hV9 hsg41; omega) | (clear k26 gc21_n k14 hsg44 k12 gc7_n hsg40 k6 hk9 hcas hcc gc3_n k2 k1 hsz hb; omega) | omega)) (by have q := (rfl : Pc28 110 3 = (Pc28 110 3)); (first | (clear hb hsz k1 k2 gc3_n hcc hcas hk9 k6 hsg40 gc7_n k12 hsg44 k14 gc21_n k26 hV9 hsg41 gc28_n k29; omega) | (clear hb hsz k1 k2 gc3_n hcc hcas hk9 k6 hsg40 gc7_n k12 hsg44 k14 gc21_n k26 hV9 hsg41 gc28_n; omega) | (clear hb hsz k1 k2 gc3_n hcc hcas hk9 k6 hsg40 gc7_n k12 hsg44 k14 gc21_n k26 hV9 hsg41 k29; omega) | (clear hb hsz k1 k2 gc3_n hcc hcas hk9 k6 hsg40 gc7_n k12 hsg44 k14 gc21_n k26 hV9 gc28_n k29; omega) | (clear hb hsz k1 k2 gc3_n hcc hcas hk9 k6 hsg40 gc7_n k12 hsg44 k14 gc21_n k26 hsg41 gc28_n k29; omega) | (clear hb hsz k1 k2 gc3_n hcc hcas hk9 k6 hsg40 gc7_n k12 hsg44 k14 gc21_n hV9 hsg41 gc28_n k29; omega) | (clear hb hsz k1 k2 gc3_n hcc hcas hk9 k6 hsg40 gc7_n k12 hsg44 k14 k26 hV9 hsg41 gc28_n k29; omega) | (clear hb hsz k1 k2 gc3_n hcc hcas hk9 k6 hsg40 gc7_n k12 hsg44 gc21_n k26 hV9 hsg41 gc28_n k29; omega) | (clear hb hsz k1 k2 gc3_n hcc hcas hk9 k6 hsg40 gc7_n k12 k14 gc21_n k26 hV9 hsg41 gc28_n k29; omega) | (clear hb hsz k1 k2 gc3_n hcc hcas hk9 k6 hsg40 gc7_n k12 hsg44 k14 gc21_n k26 hV9 hsg41; omega) | (clear k26 gc21_n k14 hsg44 k12 gc7_n hsg40 k6 hk9 hcas hcc gc3_n k2 k1 hsz hb; omega) | omega)) (by have q := (rfl : Pc28 110 4 = (Pc28 110 4)); (first | (clear hb hsz k1 k2 gc3_n hcc hcas hk9 k6 hsg40 gc7_n k12 hsg44 k14 gc21_n k26 hV9 hsg41 gc28_n k29; omega) | (clear hb hsz k1 k2 gc3_n hcc hcas hk9 k6 hsg40 gc7_n k12 hsg44 k14 gc21_n k26 hV9 hsg41 gc28_n; omega) | (clear hb hsz k1 k2 gc3_n hcc hcas hk9 k6 hsg40 gc7_n k12 hsg44 k14 gc21_n k26 hV9 hsg41 k29; omega) | (clear hb hsz k1 k2 gc3_n hcc hcas hk9 k6 hsg40 gc7_n k12 hsg44 k14 gc21_n k26 hV9 gc28_n k29; omega) | (clear hb hsz k1 k2 gc3_n hcc hcas hk9 k6 hsg40 gc7_n k12 hsg44 k14 gc21_n k26 hsg41 gc28_n k29; omega) | (clear hb hsz k1 k2 gc3_n hcc hcas hk9 k6 hsg40 gc7_n k12 hsg44 k14 gc21_n hV9 hsg41 gc28_n k29; omega) | (clear hb hsz k1 k2 gc3_n hcc hcas hk9 k6 hsg40 gc7_n k12 hsg44 k14 k26 hV9 hsg41 gc28_n k29; omega) | (clear hb hsz k1 k2 gc3_n hcc hcas hk9 k6 hsg40 gc7_n k12 hsg44 gc21_n k26 hV9 hsg41 gc28_n k29; omega) | (clear hb hsz k1 k2 gc3_n hcc hcas hk9 k6 hsg40 gc7_n k12 k14 gc21_n k26 hV9 hsg41 gc28_n k29; omega) | (clear hb hsz k1 k2 gc3_n hcc hcas hk9 k6 hsg40 gc7_n k12 hsg44 k14 gc21_n k26 hV9 hsg41; omega) | (clear k26 gc21_n k14 hsg44 k12 gc7_n hsg40 k6 hk9 hcas hcc gc3_n k2 k1 hsz hb; omega) | omega)) | (have h := hvc2.resolve_left (fun h => by (first | (clear hb hsz k1 k2 gc3_n hcc hcas hk9 k6 hsg40 gc7_n k12 hsg44 k14 gc21_n k26 hV9 hsg41 gc28_n k29; omega) | (clear hb hsz k1 k2 gc3_n hcc hcas hk9 k6 hsg40 gc7_n k12 hsg44 k14 gc21_n k26 hV9 hsg41 gc28_n; omega) | (clear hb hsz k1 k2 gc3_n hcc hcas hk9 k6 hsg40 gc7_n k12 hsg44 k14 gc21_n k26 hV9 hsg41 k29; omega) | (clear hb hsz k1 k2 gc3_n hcc hcas hk9 k6 hsg40 gc7_n k12 hsg44 k14 gc21_n k26 hV9 gc28_n k29; omega) | (clear hb hsz k1 k2 gc3_n hcc hcas hk9 k6 hsg40 gc7_n k12 hsg44 k14 gc21_n k26 hsg41 gc28_n k29; omega) | (clear hb hsz k1 k2 gc3_n hcc hcas hk9 k6 hsg40 gc7_n k12 hsg44 k14 gc21_n hV9 hsg41 gc28_n k29; omega) | (clear hb hsz k1 k2 gc3_n hcc hcas hk9 k6 hsg40 gc7_n k12 hsg44 k14 k26 hV9 hsg41 gc28_n k29; omega) | (clear hb hsz k1 k2 gc3_n hcc hcas hk9 k6 hsg40 gc7_n k12 hsg44 gc21_n k26 hV9 hsg41 gc28_n k29; omega) | (clear hb hsz k1 k2 gc3_n hcc hcas hk9 k6 hsg40 gc7_n k12 k14 gc21_n k26 hV9 hsg41 gc28_n k29; omega) | (clear hb hsz k1 k2 gc3_n hcc hcas hk9 k6 hsg40 gc7_n k12 hsg44 k14 gc21_n k26 hV9 hsg41; omega) | (clear k26 gc21_n k14 hsg44 k12 gc7_n hsg40 k6 hk9 hcas hcc gc3_n k2 k1 hsz hb; omega) | omega)); exact VC.inF (c := rc3) (f := 0 + 1) (a := 0 * sz K (fK K rc3 0) + rc11) (fun s x hx => hC1 s x (VRs.comma (by (first | (clear hb hsz k1 k2 gc3_n hcc hcas hk9 k6 hsg40 gc7_n k12 hsg44 k14 gc21_n k26 hV9 hsg41 gc28_n k29; omega) | (clear hb hsz k1 k2 gc3_n hcc hcas hk9 k6 hsg40 gc7_n k12 hsg44 k14 gc21_n k26 hV9 hsg41 gc28_n; omega) | (clear hb hsz k1 k2 gc3_n hcc hcas hk9 k6 hsg40 gc7_n k12 hsg44 k14 gc21_n k26 hV9 hsg41 k29; omega) | (clear hb hsz k1 k2 gc3_n hcc hcas hk9 k6 hsg40 gc7_n k12 hsg44 k14 gc21_n k26 hV9 gc28_n k29; omega) | (clear hb hsz k1 k2 gc3_n hcc hcas hk9 k6 hsg40 gc7_n k12 hsg44 k14 gc21_n k26 hsg41 gc28_n k29; omega) | (clear hb hsz k1 k2 gc3_n hcc hcas hk9 k6 hsg40 gc7_n k12 hsg44 k14 gc21_n hV9 hsg41 gc28_n k29; omega) | (clear hb hsz k1 k2 gc3_n hcc hcas hk9 k6 hsg40 gc7_n k12 hsg44 k14 k26 hV9 hsg41 gc28_n k29; omega) | (clear hb hsz k1 k2 gc3_n hcc hcas hk9 k6 hsg40 gc7_n k12 hsg44 gc21_n k26 hV9 hsg41 gc28_n k29; omega) | (clear hb hsz k1 k2 gc3_n hcc hcas hk9 k6 hsg40 gc7_n k12 k14 gc21_n k26 hV9 hsg41 gc28_n k29; omega) | (clear hb hsz k1 k2 gc3_n hcc hcas hk9 k6 hsg40 gc7_n k12 hsg44 k14 gc21_n k26 hV9 hsg41; omega) | (clear k26 gc21_n k14 hsg44 k12 gc7_n hsg40 k6 hk9 hcas hcc gc3_n k2 k1 hsz hb; omega) | omega)) (by (first | (clear hb hsz k1 k2 gc3_n hcc hcas hk9 k6 hsg40 gc7_n k12 hsg44 k14 gc21_n k26 hV9 hsg41 gc28_n k29; omega) | (clear hb hsz k1 k2 gc3_n hcc hcas hk9 k6 hsg40 gc7_n k12 hsg44 k14 gc21_n k26 hV9 hsg41 gc28_n; omega) | (clear hb hsz k1 k2 gc3_n hcc hcas hk9 k6 hsg40 gc7_n k12 hsg44 k14 gc21_n k26 hV9 hsg41 k29; omega) | (clear hb hsz k1 k2 gc3_n hcc hcas hk9 k6 hsg40 gc7_n k12 hsg44 k14 gc21_n k26 hV9 gc28_n k29; omega) | (clear hb hsz k1 k2 gc3_n hcc hcas hk9 k6 hsg40 gc7_n k12 hsg44 k14 gc21_n k26 hsg41 gc28_n k29; omega) | (clear hb hsz k1 k2 gc3_n hcc hcas hk9 k6 hsg40 gc7_n k12 hsg44 k14 gc21_n hV9 hsg41 gc28_n k29; omega) | (clear hb hsz k1 k2 gc3_n hcc hcas hk9 k6 hsg40 gc7_n k12 hsg44 k14 k26 hV9 hsg41 gc28_n k29; omega) | (clear hb hsz k1 k2 gc3_n hcc hcas hk9 k6 hsg40 gc7_n k12 hsg44 gc21_n k26 hV9 hsg41 gc28_n k29; omega) | (clear hb hsz k1 k2 gc3_n hcc hcas hk9 k6 hsg40 gc7_n k12 k14 gc21_n k26 hV9 hsg41 gc28_n k29; omega) | (clear hb hsz k1 k2 gc3_n hcc hcas hk9 k6 hsg40 gc7_n k12 hsg44 k14 gc21_n k26 hV9 hsg41; omega) | (clear k26 gc21_n k14 hsg44 k12 gc7_n hsg40 k6 hk9 hcas hcc gc3_n k2 k1 hsz hb; omega) | omega)) hx)) h.2.1 h.2.2) | exact VC.closeF hC9 hf9 (by (clear hb hsz k1 k2 gc3_n hcc hcas hk9 k6 hsg40 gc7_n k12 hsg44 k14 gc21_n k26 hV9 hsg41; omega)) (by have q := (rfl : Pc28 110 3 = (Pc28 110 3)); (clear hb hsz k1 k2 gc3_n hcc hcas hk9 k6 hsg40 gc7_n k12 hsg44 k14 gc21_n k26 hV9 hsg41; omega)) (by have q := (rfl : Pc28 110 4 = (Pc28 110 4)); (clear hb hsz k1 k2 gc3_n hcc hcas hk9 k6 hsg40 gc7_n k12 hsg44 k14 gc21_n k26 hV9 hsg41; omega))))
              · skip
                skip
                skip
                skip
                skip
                refine g_iconst dX6_readValue_97 ?_
                exact g_retI dX6_readValue_98 rfl (hQ (-1) (by decide) _ hBc11 (FrX.c (FrX.c (FrX.c FrX.rf hFc3 rfl) hFc7 rfl) hFc11 rfl) (by first | exact VC.intoF hk9 hc1.1 (by (omega)) (by (first | (clear hb hsz k1 k2 gc3_n hcc hcas hk9 k6 hsg40 gc7_n k12; omega) | (clear hb hsz k1 k2 gc3_n hcc hcas hk9 k6 hsg40 gc7_n; omega) | (clear hb hsz k1 k2 gc3_n hcc hcas hk9 k6 hsg40 k12; omega) | (clear hb hsz k1 k2 gc3_n hcc hcas hk9 k6 gc7_n k12; omega) | (clear hb hsz k1 k2 gc3_n hcc hcas hk9 hsg40 gc7_n k12; omega) | (clear hb hsz k1 k2 gc3_n hcc hcas k6 hsg40 gc7_n k12; omega) | (clear hb hsz k1 k2 gc3_n hcc hk9 k6 hsg40 gc7_n k12; omega) | (clear hb hsz k1 k2 gc3_n hcas hk9 k6 hsg40 gc7_n k12; omega) | (clear hb hsz k1 k2 hcc hcas hk9 k6 hsg40 gc7_n k12; omega) | (clear hb hsz k1 k2 gc3_n hcc hcas hk9 k6 hsg40; omega) | (clear hk9 hcas hcc gc3_n k2 k1 hsz hb; omega) | omega)) (by have q := (rfl : Pc11 110 3 = (Pc11 110 3)); (first | (clear hb hsz k1 k2 gc3_n hcc hcas hk9 k6 hsg40 gc7_n k12; omega) | (clear hb hsz k1 k2 gc3_n hcc hcas hk9 k6 hsg40 gc7_n; omega) | (clear hb hsz k1 k2 gc3_n hcc hcas hk9 k6 hsg40 k12; omega) | (clear hb hsz k1 k2 gc3_n hcc hcas hk9 k6 gc7_n k12; omega) | (clear hb hsz k1 k2 gc3_n hcc hcas hk9 hsg40 gc7_n k12; omega) | (clear hb hsz k1 k2 gc3_n hcc hcas k6 hsg40 gc7_n k12; omega) | (clear hb hsz k1 k2 gc3_n hcc hk9 k6 hsg40 gc7_n k12; omega) | (clear hb hsz k1 k2 gc3_n hcas hk9 k6 hsg40 gc7_n k12; omega) | (clear hb hsz k1 k2 hcc hcas hk9 k6 hsg40 gc7_n k12; omega) | (clear hb hsz k1 k2 gc3_n hcc hcas hk9 k6 hsg40; omega) | (clear hk9 hcas hcc gc3_n k2 k1 hsz hb; omega) | omega)) (by have q := (rfl : Pc11 110 4 = (Pc11 110 4)); (first | (clear hb hsz k1 k2 gc3_n hcc hcas hk9 k6 hsg40 gc7_n k12; omega) | (clear hb hsz k1 k2 gc3_n hcc hcas hk9 k6 hsg40 gc7_n; omega) | (clear hb hsz k1 k2 gc3_n hcc hcas hk9 k6 hsg40 k12; omega) | (clear hb hsz k1 k2 gc3_n hcc hcas hk9 k6 gc7_n k12; omega) | (clear hb hsz k1 k2 gc3_n hcc hcas hk9 hsg40 gc7_n k12; omega) | (clear hb hsz k1 k2 gc3_n hcc hcas k6 hsg40 gc7_n k12; omega) | (clear hb hsz k1 k2 gc3_n hcc hk9 k6 hsg40 gc7_n k12; omega) | (clear hb hsz k1 k2 gc3_n hcas hk9 k6 hsg40 gc7_n k12; omega) | (clear hb hsz k1 k2 hcc hcas hk9 k6 hsg40 gc7_n k12; omega) | (clear hb hsz k1 k2 gc3_n hcc hcas hk9 k6 hsg40; omega) | (clear hk9 hcas hcc gc3_n k2 k1 hsz hb; omega) | omega)) | (have h := hvc.resolve_left (fun h => by (clear hb hsz k1 k2 gc3_n hcc hcas hk9 k6 hsg40 gc7_n; omega)); rw [hc1.2.1] at h; exact VC.inF (c := cNm K (tV T p)) (f := 0) (a := 0) (fun s x hx => VRs.into hk9 hc1.1 (by (omega)) (by (clear hb hsz k1 k2 gc3_n hcc hcas hk9 k6 hsg40 gc7_n k12; omega)) hx) h.2.1 h.2.2)))
          · have r_hcas := (hcas.resolve_right (by (clear hb hsz k1 k2 gc3_n hcc hcas hk9 k6; omega)))
            skip
            have r_hsz := (hsz.resolve_left (by (clear hb hsz k1 k2 gc3_n hcc hcas hk9 k6; omega)))
            refine g_aload dX6_readValue_54 rfl ?_
            refine x_g29_5 (n := (crX (crX o 0) 5)) (ck_28_0 k_o) ffX6_190 dX6_readValue_56 rfl ?_
            refine g_iload_n dX6_readValue_59 rfl ?_
            refine x_l35 (z := (P (crX (crX o 0) 5) rc3)) (ck_29_5 (ck_28_0 k_o)) dX6_readValue_60 ⟨by (clear hb hsz k1 k2 gc3_n hcc hcas hk9 k6; omega), by (clear hb hsz k1 k2 gc3_n hcc hcas hk9 k6; omega)⟩ ((FrX.g hFc3 (ck_29_5 (ck_28_0 k_o)) rfl).trans rfl) ?_
            exact g_retI dX6_readValue_61 rfl (hQ (P (crX (crX o 0) 5) rc3) ⟨by have q0 := bx_35 (o := (crX (crX o 0) 5)) (k := rc3) hB (ck_29_5 (ck_28_0 k_o)); (clear hb hsz k1 k2 gc3_n hcc hcas hk9 k6; omega), by have q0 := bx_35 (o := (crX (crX o 0) 5)) (k := rc3) hB (ck_29_5 (ck_28_0 k_o)); (clear hb hsz k1 k2 gc3_n hcc hcas hk9 k6; omega)⟩ _ hBc3 (FrX.c FrX.rf hFc3 rfl) (VC.case0 p_ab hk9 hc1.1 hc1.2.1 ⟨hc1.2.2.1, hc1.2.2.2⟩ h55 (by (clear gc3_n k2 k1 hsz hb; omega)) (by first | exact hcc.2.1 | (first | (clear hb hsz k1 k2 gc3_n hcc hcas hk9 k6; omega) | (clear hb hsz k1 k2 gc3_n hcc hcas hk9; omega) | (clear hb hsz k1 k2 gc3_n hcc hcas k6; omega) | (clear hb hsz k1 k2 gc3_n hcc hk9 k6; omega) | (clear hb hsz k1 k2 gc3_n hcas hk9 k6; omega) | (clear hb hsz k1 k2 hcc hcas hk9 k6; omega) | (clear hb hsz k1 gc3_n hcc hcas hk9 k6; omega) | (clear hb hsz k2 gc3_n hcc hcas hk9 k6; omega) | (clear hb k1 k2 gc3_n hcc hcas hk9 k6; omega) | (clear hb hsz k1 k2 gc3_n hcc hcas; omega) | (clear gc3_n k2 k1 hsz hb; omega) | omega)) (by have q := (rfl : Pc3 110 3 = (Pc3 110 3)); (clear hb hsz k1 k2 gc3_n hcc hcas hk9 k6; omega)) (by have q := (rfl : Pc3 110 4 = (Pc3 110 4)); (clear hb hsz k1 k2 gc3_n hcc hcas hk9 k6; omega)) (ec3_0 (by (clear hb hsz k1 k2 gc3_n hcc hcas hk9 k6; omega)))))
        · skip
          skip
          refine g_iconst dX6_readValue_33 ?_
          exact g_retI dX6_readValue_34 rfl (hQ (-1) (by decide) _ hBc3 (FrX.c FrX.rf hFc3 rfl) (VC.caseF (by (clear hb hsz k2 gc3_n k4; omega)) (by (clear hb hsz k1 k2; omega)) (by have q := (rfl : Pc3 110 3 = (Pc3 110 3)); (clear hb hsz k1 k2; omega)) (by have q := (rfl : Pc3 110 4 = (Pc3 110 4)); (clear hb hsz k1 k2; omega))))
      · skip
        exfalso; (clear hb hsz k1; omega)
    · skip
      refine g_aload_n dX6_readValue_5 rfl ?_
      refine g_iconst dX6_readValue_6 ?_
      refine g_bipush dX6_readValue_7 (by decide) ?_
      refine g_vI (av := [vI 0, vI 19]) (o := 110) (st := []) (f_X6_readNumber G P T p 0 19 (by decide) (by decide) hB (by (clear hb hsz k1; omega)) v_TX v_OWN (z0) (z1) _ (fun rc32 hc32 Pc32 hBc32 hFc32 gc32_n ec32_0 => ⟨rc32, rfl, ?_⟩)) cf_X6_readNumber t_816 rfl (show kx 110 45 from (⟨by decide, rfl⟩ : kx 110 45)).1 ((show kx 110 45 from (⟨by decide, rfl⟩ : kx 110 45)).sh rfl) rfl rfl (Nat.le_of_ble_eq_true rfl) (by (clear hb hsz k1; omega)) rfl dX6_readValue_9
      have hnm := gc32_n
      have hns := ec32_0
      exact g_retI dX6_readValue_12 rfl (hQ rc32 ⟨by (clear hb hsz k1 gc32_n hnm; omega), by (clear hb hsz k1 gc32_n hnm; omega)⟩ _ hBc32 (FrX.c FrX.rf hFc32 rfl) (VC.nu0 (by (clear hb hsz gc32_n hnm; omega)) hnm hns))
theorem f_X6_readValue (G : GT) (P : PH) (T : TT) (K : PH) (p : Int) (o : Nat) (k_o : kx o 28) (a1 : Int) (a2 : Int) (h_a1 : (-2147483648) ≤ a1 ∧ a1 ≤ 2147483647) (h_a2 : (-2147483648) ≤ a2 ∧ a2 ≤ 2147483647) (hB : BdX P) (p_dp : 0 ≤ a2) (p_aw : AW K) (p_ab : AB K) (p_kd : -1 ≤ a1 ∧ a1 < K 0 0 ∧ a1 + a2 ≤ 3) (v_TX : TX P) (v_OWN : OWN P) (z0 : XT T P) (z1 : XS T p P) (z2 : XK K (crX o 0) P) (z3 : RT o P) (hm : (6 - a2 : Int).toNat < 7) (Q : Option PV → PH → Prop) (hQ : ∀ (r : Int) (_ : (-2147483648) ≤ r ∧ r ≤ 2147483647) (P1 : PH) (_ : BdX P1) (_ : FrX ([(45, 3), (45, 4), (46, 3), (46, 4), (46, 5), (46, 6), (46, 7), (46, 8)], []) P P1) (_ : VC T K a1 p r P P1), Q (some (vI r)) P1) : Ct WSX G 11 iX6_readValue [vR 110, vI a1, vI a2] P Q := mr_f_X6_readValue G 7 P T K p o k_o a1 a2     h_a1 h_a2 hB p_dp p_aw p_ab p_kd v_TX v_OWN z0 z1 z2 z3 hm Q hQ
/-! What the class answers: X6_readRow_B16. -/
set_option maxRecDepth 100000 in
set_option maxHeartbeats 4000000 in
theorem f_X6_readRow_B16 (G : GT) (P : PH) (T : TT) (K : PH) (M : PH) (o1 : Nat) (k_o1 : kx o1 28) (hB : BdX P) (p_tx : P 1 1 = T.2 ∧ ∀ i : Int, 0 ≤ i → i < T.2 → P 2 i = T.1 i) (p_aw : AW K) (p_ab : AB K) (p_av : AV K M) (p_az : AZ K M) (p_ar : AR K M) (v_OWN : OWN P) (z0 : XK K (crX o1 0) P) (z1 : XM M o1 P) (z2 : XZ K M o1 P) (Q : Option PV → PH → Prop) (hQ : ∀ (r : Int) (_ : (-2147483648) ≤ r ∧ r ≤ 2147483647) (P1 : PH) (_ : BdX P1) (_ : FrX ([(45, 2), (45, 3), (45, 4), (46, 1), (46, 2), (46, 3), (46, 4), (46, 5), (46, 6), (46, 7), (46, 8)], []) P P1) (_ : (r = -1 ∧ (rwR T K M).1 ≠ 0 ∧ P1 110 3 = (rwR T K M).1 ∧ P1 110 4 = (rwR T K M).2.1) ∨ (r = (rwR T K M).2.2 ∧ 0 ≤ r ∧ (rwR T K M).1 = 0 ∧ P1 110 3 = (rwR T K M).1 ∧ P1 110 4 = (rwR T K M).2.1)) (_ : TX P1), Q (some (vI r)) P1) : Ct WSX G 12 iX6_readRow [vR 110, vR 1, vR o1] P Q := by
  refine Ct.of (by decide) (l0 := [(0, vR 110), (1, vR 1), (2, vR o1)]) rfl (Nat.le_of_ble_eq_true rfl) ?_
  have hmb := z1.b
  have hav := p_av.1
  have hk0 := p_aw.1
  refine g_aload_n dX6_readRow_0 rfl ?_
  refine g_aload_n dX6_readRow_1 rfl ?_
  refine x_p45_2 (⟨by decide, rfl⟩ : kx 110 45) pfX6_27 dX6_readRow_2 ?_
  have hB1 := bw_110_2 (x := o1) hB k_o1
  have iv2 : RT o1 (up P 110 2 ((o1 : Nat) : Int)) := up_same
  refine g_aload_n dX6_readRow_5 rfl ?_
  refine g_aload_n dX6_readRow_6 rfl ?_
  refine g_vV (av := [vR 1]) (o := 110) (st := []) (f_X6_begin_B16 G (up P 110 2 ((o1 : Nat) : Int)) T  hB1 (⟨by have q := (((up_o (kx.ne (⟨by decide, rfl⟩ : kx 1 1) (⟨by decide, rfl⟩ : kx 110 45) rfl)).trans rfl) : (up P 110 2 ((o1 : Nat) : Int)) 1 1 = (P 1 1)); have q1 := p_tx.1; (clear p_tx hmb; omega), fun i h0 h1 => (((up_o (kx.ne (⟨by decide, rfl⟩ : kx 2 2) (⟨by decide, rfl⟩ : kx 110 45) rfl)).trans rfl)).trans (p_tx.2 i h0 h1)⟩) (OWN.fr (F := ([(45, 2)], [])) v_OWN (FrX.s FrX.rf (⟨by decide, rfl⟩ : kx 110 45) rfl) rfl) _ (fun Pc3 hBc3 hFc3 gc3_f vc3_TX ec3_0 ec3_1 => ⟨rfl, ?_⟩)) cf_X6_begin t_695 rfl (show kx 110 45 from (⟨by decide, rfl⟩ : kx 110 45)).1 ((show kx 110 45 from (⟨by decide, rfl⟩ : kx 110 45)).sh rfl) rfl rfl (Nat.le_of_ble_eq_true rfl) (by decide) rfl dX6_readRow_7
  refine g_aload_n dX6_readRow_10 rfl ?_
  refine x_g45_2 (n := o1) (⟨by decide, rfl⟩ : kx 110 45) ffX6_27 dX6_readRow_11 ((FrX.g hFc3 (⟨by decide, rfl⟩ : kx 110 45) rfl).trans up_same) ?_
  refine x_g28_6 (z := (P o1 6)) k_o1 ffX6_79 dX6_readRow_14 ((FrX.g hFc3 k_o1 rfl).trans ((up_o (kx.ne k_o1 (⟨by decide, rfl⟩ : kx 110 45) rfl)).trans rfl)) ?_
  have f4 := bx_28_6 (o := o1) hB k_o1
  refine g_if_ne (tgt := 29) dX6_readRow_17 (by decide) ⟨by have q0 := bx_28_6 (o := o1) hB k_o1; (clear p_tx hmb; omega), by have q0 := bx_28_6 (o := o1) hB k_o1; (clear p_tx hmb; omega)⟩ (fun k5 => ?_) (fun k5 => ?_)
  · have k5n : 1 ≤ (P o1 6) := by have q0 := bx_28_6 (o := o1) hB k_o1; (clear p_tx hmb; omega)
    clear k5
    refine g_iconst dX6_readRow_29 ?_
    refine g_istore_n (l1 := [(3, vI 0), (0, vR 110), (1, vR 1), (2, vR o1)]) dX6_readRow_30 (by decide) rfl ?_
    refine g_iconst dX6_readRow_31 ?_
    refine g_istore (l1 := [(4, vI 0), (3, vI 0), (0, vR 110), (1, vR 1), (2, vR o1)]) dX6_readRow_32 (by decide) rfl ?_
    have L34_5 : ∀ (n34_5 : Nat) (x34_4_5 : Int) (h_x34_4_5 : 0 ≤ x34_4_5 ∧ x34_4_5 ≤ 4) (x34_3_5 : Int) (h_x34_3_5 : 0 ≤ x34_3_5 ∧ x34_3_5 ≤ 20000) (H34_5 : PH) (hB34_5 : BdX H34_5) (hE34_5 : FrX ([(45, 3), (45, 4), (46, 3), (46, 4), (46, 5), (46, 6), (46, 7), (46, 8)], []) Pc3 H34_5) (i34_0_5 : ∃ q : Int, XS T q H34_5 ∧ H34_5 110 3 = 0 ∧ H34_5 110 4 = -1 ∧ RWL T K M x34_4_5 q x34_3_5) (hm34_5 : ((5 - x34_4_5) : Int).toNat < n34_5), Go WSX G 12 iX6_readRow 34 [(0, vR 110), (3, vI x34_3_5), (4, vI x34_4_5)] [] H34_5 Q := by
      intro n34_5
      induction n34_5 with
      | zero => intro x34_4_5 h_x34_4_5 x34_3_5 h_x34_3_5 H34_5 hB34_5 hE34_5 i34_0_5 hm34_5; exact absurd hm34_5 (Nat.not_lt_zero _)
      | succ n34_5 ih34_5 =>
      intro x34_4_5 h_x34_4_5 x34_3_5 h_x34_3_5 H34_5 hB34_5 hE34_5 i34_0_5 hm34_5
      obtain ⟨q9, hS9, hu3, hu4, hR9⟩ := i34_0_5
      have hb9 := hS9.b
      have hRb := hR9.b p_az p_ar (by (clear p_tx hb9; omega))
      have iv136 : XS T q9 H34_5 := hS9
      refine g_iload dX6_readRow_34 rfl ?_
      refine g_aload_n dX6_readRow_36 rfl ?_
      refine x_g45_2 (n := o1) (⟨by decide, rfl⟩ : kx 110 45) ffX6_27 dX6_readRow_37 ((FrX.g hE34_5 (⟨by decide, rfl⟩ : kx 110 45) rfl).trans ((FrX.g hFc3 (⟨by decide, rfl⟩ : kx 110 45) rfl).trans up_same)) ?_
      refine x_g28_6 (z := (P o1 6)) k_o1 ffX6_79 dX6_readRow_40 ((FrX.g hE34_5 k_o1 rfl).trans ((FrX.g hFc3 k_o1 rfl).trans ((up_o (kx.ne k_o1 (⟨by decide, rfl⟩ : kx 110 45) rfl)).trans rfl))) ?_
      refine g_icmp_ge (tgt := 109) dX6_readRow_43 (by decide) ⟨by (clear p_tx hmb hb9 hRb; omega), by (clear p_tx hmb hb9 hRb; omega)⟩ ⟨by have q0 := bx_28_6 (o := o1) hB k_o1; (clear p_tx hmb hb9 hRb; omega), by have q0 := bx_28_6 (o := o1) hB k_o1; (clear p_tx hmb hb9 hRb; omega)⟩ (fun k137 => ?_) (fun k137 => ?_)
      · have hfn := hR9.end (by (clear p_tx hb9 hRb; omega))
        refine g_aload_n dX6_readRow_109 rfl ?_
        refine x_g45_0 (n := 111) (⟨by decide, rfl⟩ : kx 110 45) ffX6_12 dX6_readRow_110 rfl ?_
        refine x_g46_4 (z := (H34_5 111 4)) (⟨by decide, rfl⟩ : kx 111 46) ffX6_40 dX6_readRow_113 rfl ?_
        have f138 := bx_46_4 (o := 111) hB34_5 (⟨by decide, rfl⟩ : kx 111 46)
        refine g_if_eq (tgt := 126) dX6_readRow_116 (by decide) ⟨by have q0 := bx_46_4 (o := 111) hB34_5 (⟨by decide, rfl⟩ : kx 111 46); (clear p_tx hmb hb9 hRb; omega), by have q0 := bx_46_4 (o := 111) hB34_5 (⟨by decide, rfl⟩ : kx 111 46); (clear p_tx hmb hb9 hRb; omega)⟩ (fun k139 => ?_) (fun k139 => ?_)
        · refine g_iload_n dX6_readRow_126 rfl ?_
          exact g_retI dX6_readRow_127 rfl (hQ x34_3_5 ⟨by (clear p_tx hmb hb9 hRb k139; omega), by (clear p_tx hmb hb9 hRb k139; omega)⟩ _ hB34_5 (FrX.c (FrX.c (FrX.s FrX.rf (⟨by decide, rfl⟩ : kx 110 45) rfl) hFc3 rfl) hE34_5 rfl) (Or.inr (by rw [rwR_e (by (clear p_tx hb9 hRb k139; omega)) hfn (by (clear p_tx; omega))]; exact ⟨rfl, by (clear p_tx hmb hb9 hRb k139; omega), rfl, (by show _ = (0 : Int); have q := (rfl : H34_5 110 3 = (H34_5 110 3)); (clear p_tx hmb hb9 hRb k139; omega)), (by show _ = (-1 : Int); have q := (rfl : H34_5 110 4 = (H34_5 110 4)); (clear p_tx hmb hb9 hRb k139; omega))⟩)) (TX.fr (F := ([(45, 3), (45, 4), (46, 3), (46, 4), (46, 5), (46, 6), (46, 7), (46, 8)], [])) vc3_TX (FrX.c FrX.rf hE34_5 rfl) rfl))
        · refine g_aload_n dX6_readRow_119 rfl ?_
          refine g_vI (av := []) (o := 110) (st := []) (f_X6_failHere G H34_5 T q9  hB34_5 (iv136) _ (fun rc140 hc140 Pc140 hBc140 hFc140 gc140_f => ⟨rc140, rfl, ?_⟩)) cf_X6_failHere t_723 rfl (show kx 110 45 from (⟨by decide, rfl⟩ : kx 110 45)).1 ((show kx 110 45 from (⟨by decide, rfl⟩ : kx 110 45)).sh rfl) rfl rfl (Nat.le_of_ble_eq_true rfl) (by decide) rfl dX6_readRow_120
          have hff := gc140_f
          refine g_pop dX6_readRow_123 rfl ?_
          refine g_iconst dX6_readRow_124 ?_
          exact g_retI dX6_readRow_125 rfl (hQ (-1) (by decide) _ hBc140 (FrX.c (FrX.c (FrX.c (FrX.s FrX.rf (⟨by decide, rfl⟩ : kx 110 45) rfl) hFc3 rfl) hE34_5 rfl) hFc140 rfl) (Or.inl (by rw [rwR_b (by (clear p_tx hb9 hRb k139; omega)) hfn (by (clear p_tx; omega))]; exact ⟨rfl, (by show (1 : Int) ≠ 0; decide), hff.1, hff.2.1⟩)) (TX.fr (F := ([(45, 3), (45, 4), (46, 3), (46, 4), (46, 5), (46, 6), (46, 7), (46, 8)], [])) vc3_TX (FrX.c (FrX.c FrX.rf hE34_5 rfl) hFc140 rfl) rfl))
      · have hm9 : x34_4_5 < M 0 0 := by (clear p_tx hb9 hRb; omega)
        obtain ⟨r9, hr9⟩ : ∃ z : Int, z = x34_3_5 := ⟨_, rfl⟩
        rw [← hr9] at hR9
        refine g_iload dX6_readRow_46 rfl ?_
        refine g_if_le (tgt := 62) dX6_readRow_48 (by decide) ⟨by (clear p_tx hmb hb9 hRb; omega), by (clear p_tx hmb hb9 hRb; omega)⟩ (fun k141 => ?_) (fun k141 => ?_)
        · obtain ⟨q10, hq10⟩ : ∃ q10 : Int, (x34_4_5 = 0 ∧ q10 = q9) ∨ (0 < x34_4_5 ∧ (sgn T 44 q9).1 = 0 ∧ q10 = tE T q9) := by first | exact ⟨q9, Or.inl ⟨by (clear p_tx hmb hb9 hRb; omega), rfl⟩⟩ | exact ⟨tE T q9, Or.inr ⟨by (first | (clear p_tx hmb hb9 hRb; omega) | (clear p_tx hmb hb9; omega) | (clear p_tx hmb hRb; omega) | (clear p_tx hb9 hRb; omega) | (clear hmb hb9 hRb; omega) | (clear p_tx hmb; omega) | omega), by (first | (clear p_tx hmb hb9 hRb; omega) | (clear p_tx hmb hb9; omega) | (clear p_tx hmb hRb; omega) | (clear p_tx hb9 hRb; omega) | (clear hmb hb9 hRb; omega) | (clear p_tx hmb; omega) | omega), rfl⟩⟩
          have iv142 : XS T q10 H34_5 := by first | (rw [show q10 = q9 by (clear p_tx hmb hb9 hRb; omega)]; exact iv136) | (rw [show q10 = (sgn T 44 q9).2 by (first | (clear p_tx hmb hb9 hRb hq10; omega) | (clear p_tx hmb hb9 hRb; omega) | (clear p_tx hmb hb9 hq10; omega) | (clear p_tx hmb hRb hq10; omega) | (clear p_tx hb9 hRb hq10; omega) | (clear hmb hb9 hRb hq10; omega) | (clear p_tx hmb hb9; omega) | (clear p_tx; omega) | omega)]; exact (by first | (rw [show (sgn T 44 q9).2 = q9 by (first | (clear p_tx hmb hb9 hRb hq10; omega) | (clear p_tx hmb hb9 hRb; omega) | (clear p_tx hmb hb9 hq10; omega) | (clear p_tx hmb hRb hq10; omega) | (clear p_tx hb9 hRb hq10; omega) | (clear hmb hb9 hRb hq10; omega) | (clear p_tx hmb hb9; omega) | (clear p_tx; omega) | omega)]; exact iv136)))
          refine g_aload_n dX6_readRow_62 rfl ?_
          refine g_aload_n dX6_readRow_63 rfl ?_
          refine x_g45_2 (n := o1) (⟨by decide, rfl⟩ : kx 110 45) ffX6_27 dX6_readRow_64 ((FrX.g hE34_5 (⟨by decide, rfl⟩ : kx 110 45) rfl).trans ((FrX.g hFc3 (⟨by decide, rfl⟩ : kx 110 45) rfl).trans up_same)) ?_
          refine x_g28_1 (n := (crX o1 1)) k_o1 ffX6_159 dX6_readRow_67 rfl ?_
          refine g_iload dX6_readRow_70 rfl ?_
          refine x_l39 (z := (P (crX o1 1) x34_4_5)) (ck_28_1 k_o1) dX6_readRow_72 ⟨by (clear p_tx hmb hb9 hRb hq10; omega), by (clear p_tx hmb hb9 hRb hq10; omega)⟩ ((FrX.g hE34_5 (ck_28_1 k_o1) rfl).trans ((FrX.g hFc3 (ck_28_1 k_o1) rfl).trans ((up_o (kx.ne (ck_28_1 k_o1) (⟨by decide, rfl⟩ : kx 110 45) rfl)).trans rfl))) ?_
          refine g_iconst dX6_readRow_73 ?_
          have hkd : (P (crX o1 1) x34_4_5) = M 1 x34_4_5 := by have q := ((XM.fr (F := ([(45, 2), (45, 3), (45, 4), (46, 1), (46, 2), (46, 3), (46, 4), (46, 5), (46, 6), (46, 7), (46, 8)], [])) z1 (FrX.c (FrX.c (FrX.s FrX.rf (⟨by decide, rfl⟩ : kx 110 45) rfl) hFc3 rfl) hE34_5 rfl) rfl)).c (c := x34_4_5) (by (clear p_tx hmb hb9 hRb hq10; omega)) (by (clear p_tx hmb hb9 hRb hq10; omega)); rw [show H34_5 (crX o1 1) x34_4_5 = (P (crX o1 1) x34_4_5) from ((FrX.g hE34_5 (ck_28_1 k_o1) rfl).trans ((FrX.g hFc3 (ck_28_1 k_o1) rfl).trans ((up_o (kx.ne (ck_28_1 k_o1) (⟨by decide, rfl⟩ : kx 110 45) rfl)).trans rfl)))] at q; exact q
          have havc := p_av.2.2.2.2 x34_4_5 (by (clear p_tx hmb hb9 hRb hq10; omega)) (by (clear p_tx hmb hb9 hRb hq10; omega))
          have f143 := bx_39 (o := (crX o1 1)) (k := x34_4_5) hB (ck_28_1 k_o1)
          refine g_sI (av := [vR 110, vI (P (crX o1 1) x34_4_5), vI 0]) (st := []) (f_X6_readValue G H34_5 T K q10 o1 k_o1 (P (crX o1 1) x34_4_5) 0 ⟨by have q0 := bx_39 (o := (crX o1 1)) (k := x34_4_5) hB (ck_28_1 k_o1); (clear p_tx hmb hb9 hRb hq10; omega), by have q0 := bx_39 (o := (crX o1 1)) (k := x34_4_5) hB (ck_28_1 k_o1); (clear p_tx hmb hb9 hRb hq10; omega)⟩ (by decide) hB34_5 (by have q0 := bx_39 (o := (crX o1 1)) (k := x34_4_5) hB (ck_28_1 k_o1); (clear p_tx hmb hb9 hRb hq10; omega)) p_aw (p_ab) (⟨by (clear p_tx hmb hb9 hRb hq10; omega), by (clear p_tx hmb hb9 hRb hq10; omega), by (clear p_tx hmb hb9 hRb hq10; omega)⟩) (TX.fr (F := ([(45, 3), (45, 4), (46, 3), (46, 4), (46, 5), (46, 6), (46, 7), (46, 8)], [])) vc3_TX (FrX.c FrX.rf hE34_5 rfl) rfl) (OWN.fr (F := ([(45, 2), (45, 3), (45, 4), (46, 1), (46, 2), (46, 3), (46, 4), (46, 5), (46, 6), (46, 7), (46, 8)], [])) v_OWN (FrX.c (FrX.c (FrX.s FrX.rf (⟨by decide, rfl⟩ : kx 110 45) rfl) hFc3 rfl) hE34_5 rfl) rfl) ((XT.fr (F := ([(45, 3), (45, 4), (46, 3), (46, 4), (46, 5), (46, 6), (46, 7), (46, 8)], [])) ec3_0 (FrX.c FrX.rf hE34_5 rfl) rfl)) (iv142) ((XK.fr (F := ([(45, 2), (45, 3), (45, 4), (46, 1), (46, 2), (46, 3), (46, 4), (46, 5), (46, 6), (46, 7), (46, 8)], [])) z0 (FrX.c (FrX.c (FrX.s FrX.rf (⟨by decide, rfl⟩ : kx 110 45) rfl) hFc3 rfl) hE34_5 rfl) rfl)) ((RT.fr (F := ([(45, 3), (45, 4), (46, 1), (46, 2), (46, 3), (46, 4), (46, 5), (46, 6), (46, 7), (46, 8)], [])) iv2 (FrX.c (FrX.c FrX.rf hFc3 rfl) hE34_5 rfl) rfl)) (by (clear p_tx hmb hb9 hRb hq10; omega)) _ (fun rc144 hc144 Pc144 hBc144 hFc144 gc144_vc => ⟨rc144, rfl, ?_⟩)) cf_X6_readValue t_1026 rfl (Nat.le_of_ble_eq_true rfl) (by decide) rfl dX6_readRow_74
          have hvc := gc144_vc
          rw [hkd] at hvc
          refine g_istore (l1 := [(5, vI rc144), (0, vR 110), (3, vI x34_3_5), (4, vI x34_4_5)]) dX6_readRow_77 (by decide) rfl ?_
          refine g_iload dX6_readRow_79 rfl ?_
          refine g_iconst dX6_readRow_81 ?_
          refine g_icmp_ne (tgt := 87) dX6_readRow_82 (by decide) ⟨by (clear p_tx hmb hb9 hRb hq10; omega), by (clear p_tx hmb hb9 hRb hq10; omega)⟩ (by decide) (fun k145 => ?_) (fun k145 => ?_)
          · have r_hq10 := (hq10.resolve_right (by (clear p_tx hmb hb9 hRb hq10 k145; omega)))
            obtain ⟨hv0, hv1, hv3, hv4, q11, hS11, hR11⟩ := hvc.resolve_right (fun h => by (clear p_tx hmb hb9 hRb hq10; omega))
            have ev := VC.ok hR11
            have hgo := hR9.go hm9 hq10 ev ⟨hv0, hv1⟩
            have hbn := hgo.b p_az p_ar (by (clear p_tx hmb hb9 hRb hq10 k145; omega))
            have hsl := sz_le p_aw (k := M 1 x34_4_5) ⟨by (clear p_tx hmb hb9 hRb hq10 k145 hbn; omega), by (clear p_tx hmb hb9 hRb hq10 k145 hbn; omega)⟩
            have iv146 : XS T q11 Pc144 := hS11
            refine g_iload_n dX6_readRow_87 rfl ?_
            refine g_aload_n dX6_readRow_88 rfl ?_
            refine x_g45_2 (n := o1) (⟨by decide, rfl⟩ : kx 110 45) ffX6_27 dX6_readRow_89 ((FrX.g hFc144 (⟨by decide, rfl⟩ : kx 110 45) rfl).trans ((FrX.g hE34_5 (⟨by decide, rfl⟩ : kx 110 45) rfl).trans ((FrX.g hFc3 (⟨by decide, rfl⟩ : kx 110 45) rfl).trans up_same))) ?_
            refine x_g28_2 (n := (crX o1 2)) k_o1 ffX6_218 dX6_readRow_92 rfl ?_
            refine g_iload dX6_readRow_95 rfl ?_
            refine x_l40 (z := (P (crX o1 2) x34_4_5)) (ck_28_2 k_o1) dX6_readRow_97 ⟨by (clear p_tx hmb hb9 hRb hq10 k145 hbn; omega), by (clear p_tx hmb hb9 hRb hq10 k145 hbn; omega)⟩ ((FrX.g hFc144 (ck_28_2 k_o1) rfl).trans ((FrX.g hE34_5 (ck_28_2 k_o1) rfl).trans ((FrX.g hFc3 (ck_28_2 k_o1) rfl).trans ((up_o (kx.ne (ck_28_2 k_o1) (⟨by decide, rfl⟩ : kx 110 45) rfl)).trans rfl)))) ?_
            have hs9 : (P (crX o1 2) x34_4_5) = sz K (M 1 x34_4_5) := by have q := ((XZ.fr (F := ([(45, 2), (45, 3), (45, 4), (46, 1), (46, 2), (46, 3), (46, 4), (46, 5), (46, 6), (46, 7), (46, 8)], [])) z2 (FrX.c (FrX.c (FrX.c (FrX.s FrX.rf (⟨by decide, rfl⟩ : kx 110 45) rfl) hFc3 rfl) hE34_5 rfl) hFc144 rfl) rfl)).2 x34_4_5 (by (clear p_tx hmb hb9 hRb hq10 k145 hbn; omega)) (by (clear p_tx hmb hb9 hRb hq10 k145 hbn; omega)); rw [show Pc144 (crX o1 2) x34_4_5 = (P (crX o1 2) x34_4_5) from ((FrX.g hFc144 (ck_28_2 k_o1) rfl).trans ((FrX.g hE34_5 (ck_28_2 k_o1) rfl).trans ((FrX.g hFc3 (ck_28_2 k_o1) rfl).trans ((up_o (kx.ne (ck_28_2 k_o1) (⟨by decide, rfl⟩ : kx 110 45) rfl)).trans rfl))))] at q; exact q
            refine g_imul dX6_readRow_98 ?_
            refine g_nm (fun w147 e_w147 => ?_)
            have h_w147 : 0 ≤ w147 ∧ w147 ≤ 40120000 := by rw [e_w147]; exact mul_n (A := 20000) (B := 2006) ⟨by (clear p_tx hmb hb9 hRb hq10 k145 hbn; omega), by (clear p_tx hmb hb9 hRb hq10 k145 hbn; omega)⟩ ⟨by (clear p_tx hmb hb9 hRb hq10 k145 hbn; omega), by (clear p_tx hmb hb9 hRb hq10 k145 hbn; omega)⟩
            have hx9 : w147 = r9 * sz K (M 1 x34_4_5) := by rw [e_w147, hs9, hr9]
            refine g_iload dX6_readRow_99 rfl ?_
            refine g_iadd dX6_readRow_101 ?_
            refine g_istore_n (l1 := [(3, vI (w147 + rc144)), (5, vI rc144), (0, vR 110), (4, vI x34_4_5)]) dX6_readRow_102 (by decide) rfl ?_
            have hinv9 : ∃ q : Int, XS T q Pc144 ∧ Pc144 110 3 = 0 ∧ Pc144 110 4 = -1 ∧ RWL T K M (x34_4_5 + 1) q (w147 + rc144) := ⟨q11, iv146, by have q := (rfl : Pc144 110 3 = (Pc144 110 3)); (clear p_tx hmb hb9 hRb hq10 k145 hbn; omega), by have q := (rfl : Pc144 110 4 = (Pc144 110 4)); (clear p_tx hmb hb9 hRb hq10 k145 hbn; omega), by rw [show (w147 + rc144) = r9 * sz K (M 1 x34_4_5) + rc144 by (clear p_tx hmb hb9 hRb hq10 k145 hbn; omega)]; exact hgo⟩
            refine g_iinc (l1 := [(4, vI (x34_4_5 + 1)), (3, vI (w147 + rc144)), (5, vI rc144), (0, vR 110)]) dX6_readRow_103 rfl (by decide) rfl ?_
            refine g_goto (tgt := 34) dX6_readRow_106 (by decide) ?_
            refine g_forget (l1 := [(0, vR 110), (3, vI (w147 + rc144)), (4, vI (x34_4_5 + 1))]) (by intro q hq; simp only [List.mem_cons, List.not_mem_nil, or_false] at hq ⊢; rcases hq with rfl | rfl | rfl <;> simp) ?_
            exact ih34_5 (x34_4_5 + 1) ⟨by (clear p_tx hmb hb9 hRb hq10 k145 hbn; omega), by (clear p_tx hmb hb9 hRb hq10 k145 hbn; omega)⟩ (w147 + rc144) ⟨by (clear p_tx hmb hb9 hRb hq10 k145 hbn; omega), by (omega)⟩ _ hBc144 (FrX.c (FrX.c FrX.rf hE34_5 rfl) hFc144 rfl) (by first | exact hinv9 | exact ⟨0, (by first | (rw [show 0 = q11 by (first | (clear p_tx hmb hb9 hRb hq10 k145 hbn; omega) | (clear p_tx hmb hb9 hRb hq10 k145; omega) | (clear p_tx hmb hb9 hRb hq10 hbn; omega) | (clear p_tx hmb hb9 hRb k145 hbn; omega) | (clear p_tx hmb hb9 hq10 k145 hbn; omega) | (clear p_tx hmb hRb hq10 k145 hbn; omega) | (clear p_tx hb9 hRb hq10 k145 hbn; omega) | (clear hmb hb9 hRb hq10 k145 hbn; omega) | (clear p_tx hmb hb9 hRb hq10; omega) | (clear hb9 hmb p_tx; omega) | omega)]; exact iv146)), by have q := (rfl : Pc144 110 3 = (Pc144 110 3)); (first | (clear p_tx hmb hb9 hRb hq10 k145 hbn; omega) | (clear p_tx hmb hb9 hRb hq10 k145; omega) | (clear p_tx hmb hb9 hRb hq10 hbn; omega) | (clear p_tx hmb hb9 hRb k145 hbn; omega) | (clear p_tx hmb hb9 hq10 k145 hbn; omega) | (clear p_tx hmb hRb hq10 k145 hbn; omega) | (clear p_tx hb9 hRb hq10 k145 hbn; omega) | (clear hmb hb9 hRb hq10 k145 hbn; omega) | (clear p_tx hmb hb9 hRb hq10; omega) | (clear hb9 hmb p_tx; omega) | omega), by have q := (rfl : Pc144 110 4 = (Pc144 110 4)); (first | (clear p_tx hmb hb9 hRb hq10 k145 hbn; omega) | (clear p_tx hmb hb9 hRb hq10 k145; omega) | (clear p_tx hmb hb9 hRb hq10 hbn; omega) | (clear p_tx hmb hb9 hRb k145 hbn; omega) | (clear p_tx hmb hb9 hq10 k145 hbn; omega) | (clear p_tx hmb hRb hq10 k145 hbn; omega) | (clear p_tx hb9 hRb hq10 k145 hbn; omega) | (clear hmb hb9 hRb hq10 k145 hbn; omega) | (clear p_tx hmb hb9 hRb hq10; omega) | (clear hb9 hmb p_tx; omega) | omega), RWL.z hav⟩) (by (clear p_tx hmb hb9 hRb hq10 k145 hbn; omega))
          · have r_hq10 := (hq10.resolve_right (by (clear p_tx hmb hb9 hRb hq10 k145; omega)))
            refine g_iconst dX6_readRow_85 ?_
            exact g_retI dX6_readRow_86 rfl (hQ (-1) (by decide) _ hBc144 (FrX.c (FrX.c (FrX.c (FrX.s FrX.rf (⟨by decide, rfl⟩ : kx 110 45) rfl) hFc3 rfl) hE34_5 rfl) hFc144 rfl) (Or.inl (by have h := hvc.resolve_left (fun h => by (clear p_tx hmb hb9 hRb hq10; omega)); have ev := VC.no h.2.2; rw [rwR_f (by (clear p_tx hmb hb9 hRb hq10 k145; omega)) ((hR9.vF hm9 hq10 (by rw [ev]; exact h.2.1)).trans ev) h.2.1]; exact ⟨rfl, h.2.1, rfl, rfl⟩)) (TX.fr (F := ([(45, 3), (45, 4), (46, 3), (46, 4), (46, 5), (46, 6), (46, 7), (46, 8)], [])) vc3_TX (FrX.c (FrX.c FrX.rf hE34_5 rfl) hFc144 rfl) rfl))
        · have hsg44 := sgn_s T 44 q9
          refine g_aload_n dX6_readRow_51 rfl ?_
          refine g_bipush dX6_readRow_52 (by decide) ?_
          refine g_vI (av := [vI 44]) (o := 110) (st := []) (f_X6_readSign G H34_5 T q9 44 (by decide) hB34_5 (TX.fr (F := ([(45, 3), (45, 4), (46, 3), (46, 4), (46, 5), (46, 6), (46, 7), (46, 8)], [])) vc3_TX (FrX.c FrX.rf hE34_5 rfl) rfl) (OWN.fr (F := ([(45, 2), (45, 3), (45, 4), (46, 1), (46, 2), (46, 3), (46, 4), (46, 5), (46, 6), (46, 7), (46, 8)], [])) v_OWN (FrX.c (FrX.c (FrX.s FrX.rf (⟨by decide, rfl⟩ : kx 110 45) rfl) hFc3 rfl) hE34_5 rfl) rfl) ((XT.fr (F := ([(45, 3), (45, 4), (46, 3), (46, 4), (46, 5), (46, 6), (46, 7), (46, 8)], [])) ec3_0 (FrX.c FrX.rf hE34_5 rfl) rfl)) (iv136) _ (fun rc148 hc148 Pc148 hBc148 hFc148 gc148_n ec148_0 => ⟨rc148, rfl, ?_⟩)) cf_X6_readSign t_797 rfl (show kx 110 45 from (⟨by decide, rfl⟩ : kx 110 45)).1 ((show kx 110 45 from (⟨by decide, rfl⟩ : kx 110 45)).sh rfl) rfl rfl (Nat.le_of_ble_eq_true rfl) (by decide) rfl dX6_readRow_54
          refine g_if_ne (tgt := 62) dX6_readRow_57 (by decide) ⟨by (clear p_tx hmb hb9 hRb hsg44 gc148_n; omega), by (clear p_tx hmb hb9 hRb hsg44 gc148_n; omega)⟩ (fun k149 => ?_) (fun k149 => ?_)
          · have k149n : 1 ≤ rc148 := by (clear p_tx hmb hb9 hRb hsg44 gc148_n; omega)
            clear k149
            have r_gc148_n := (gc148_n.resolve_right (by (clear p_tx hmb hb9 hRb hsg44 gc148_n; omega)))
            have r_hsg44 := (hsg44.resolve_right (by (clear p_tx hmb hb9 hRb hsg44 gc148_n; omega)))
            obtain ⟨q10, hq10⟩ : ∃ q10 : Int, (x34_4_5 = 0 ∧ q10 = q9) ∨ (0 < x34_4_5 ∧ (sgn T 44 q9).1 = 0 ∧ q10 = tE T q9) := by first | exact ⟨q9, Or.inl ⟨by (first | (clear p_tx hmb hb9 hRb hsg44 gc148_n; omega) | (clear p_tx hmb hb9 hRb hsg44; omega) | (clear p_tx hmb hb9 hRb gc148_n; omega) | (clear p_tx hmb hb9 hsg44 gc148_n; omega) | (clear p_tx hmb hRb hsg44 gc148_n; omega) | (clear p_tx hb9 hRb hsg44 gc148_n; omega) | (clear hmb hb9 hRb hsg44 gc148_n; omega) | (clear p_tx hmb hb9 hRb; omega) | (clear hmb p_tx; omega) | omega), rfl⟩⟩ | exact ⟨tE T q9, Or.inr ⟨by (clear p_tx hmb hb9 hRb hsg44 gc148_n; omega), by (clear p_tx hmb hb9 hRb hsg44 gc148_n; omega), rfl⟩⟩
            have iv150 : XS T q10 Pc148 := by first | (rw [show q10 = q9 by (first | (clear p_tx hmb hb9 hRb hsg44 gc148_n hq10; omega) | (clear p_tx hmb hb9 hRb hsg44 gc148_n; omega) | (clear p_tx hmb hb9 hRb hsg44 hq10; omega) | (clear p_tx hmb hb9 hRb gc148_n hq10; omega) | (clear p_tx hmb hb9 hsg44 gc148_n hq10; omega) | (clear p_tx hmb hRb hsg44 gc148_n hq10; omega) | (clear p_tx hb9 hRb hsg44 gc148_n hq10; omega) | (clear hmb hb9 hRb hsg44 gc148_n hq10; omega) | (clear p_tx hmb hb9 hRb hsg44; omega) | (clear hb9 hmb p_tx; omega) | omega)]; exact (by first | (rw [show q9 = (sgn T 44 q9).2 by (first | (clear p_tx hmb hb9 hRb hsg44 gc148_n hq10; omega) | (clear p_tx hmb hb9 hRb hsg44 gc148_n; omega) | (clear p_tx hmb hb9 hRb hsg44 hq10; omega) | (clear p_tx hmb hb9 hRb gc148_n hq10; omega) | (clear p_tx hmb hb9 hsg44 gc148_n hq10; omega) | (clear p_tx hmb hRb hsg44 gc148_n hq10; omega) | (clear p_tx hb9 hRb hsg44 gc148_n hq10; omega) | (clear hmb hb9 hRb hsg44 gc148_n hq10; omega) | (clear p_tx hmb hb9 hRb hsg44; omega) | (clear hb9 hmb p_tx; omega) | omega)]; exact (ec148_0 (by (first | (clear p_tx hmb hb9 hRb hsg44 gc148_n hq10; omega) | (clear p_tx hmb hb9 hRb hsg44 gc148_n; omega) | (clear p_tx hmb hb9 hRb hsg44 hq10; omega) | (clear p_tx hmb hb9 hRb gc148_n hq10; omega) | (clear p_tx hmb hb9 hsg44 gc148_n hq10; omega) | (clear p_tx hmb hRb hsg44 gc148_n hq10; omega) | (clear p_tx hb9 hRb hsg44 gc148_n hq10; omega) | (clear hmb hb9 hRb hsg44 gc148_n hq10; omega) | (clear p_tx hmb hb9 hRb hsg44; omega) | (clear hb9 hmb p_tx; omega) | omega)))))) | (rw [show q10 = (sgn T 44 q9).2 by (clear p_tx hmb hb9 hRb hsg44 gc148_n; omega)]; exact (ec148_0 (by (clear p_tx hmb hb9 hRb hsg44 gc148_n hq10; omega))))
            refine g_aload_n dX6_readRow_62 rfl ?_
            refine g_aload_n dX6_readRow_63 rfl ?_
            refine x_g45_2 (n := o1) (⟨by decide, rfl⟩ : kx 110 45) ffX6_27 dX6_readRow_64 ((FrX.g hFc148 (⟨by decide, rfl⟩ : kx 110 45) rfl).trans ((FrX.g hE34_5 (⟨by decide, rfl⟩ : kx 110 45) rfl).trans ((FrX.g hFc3 (⟨by decide, rfl⟩ : kx 110 45) rfl).trans up_same))) ?_
            refine x_g28_1 (n := (crX o1 1)) k_o1 ffX6_159 dX6_readRow_67 rfl ?_
            refine g_iload dX6_readRow_70 rfl ?_
            refine x_l39 (z := (P (crX o1 1) x34_4_5)) (ck_28_1 k_o1) dX6_readRow_72 ⟨by (clear p_tx hmb hb9 hRb hsg44 gc148_n hq10; omega), by (clear p_tx hmb hb9 hRb hsg44 gc148_n hq10; omega)⟩ ((FrX.g hFc148 (ck_28_1 k_o1) rfl).trans ((FrX.g hE34_5 (ck_28_1 k_o1) rfl).trans ((FrX.g hFc3 (ck_28_1 k_o1) rfl).trans ((up_o (kx.ne (ck_28_1 k_o1) (⟨by decide, rfl⟩ : kx 110 45) rfl)).trans rfl)))) ?_
            refine g_iconst dX6_readRow_73 ?_
            have hkd : (P (crX o1 1) x34_4_5) = M 1 x34_4_5 := by have q := ((XM.fr (F := ([(45, 2), (45, 3), (45, 4), (46, 1), (46, 2), (46, 3), (46, 4), (46, 5), (46, 6), (46, 7), (46, 8)], [])) z1 (FrX.c (FrX.c (FrX.c (FrX.s FrX.rf (⟨by decide, rfl⟩ : kx 110 45) rfl) hFc3 rfl) hE34_5 rfl) hFc148 rfl) rfl)).c (c := x34_4_5) (by (clear p_tx hmb hb9 hRb hsg44 gc148_n hq10; omega)) (by (clear p_tx hmb hb9 hRb hsg44 gc148_n hq10; omega)); rw [show Pc148 (crX o1 1) x34_4_5 = (P (crX o1 1) x34_4_5) from ((FrX.g hFc148 (ck_28_1 k_o1) rfl).trans ((FrX.g hE34_5 (ck_28_1 k_o1) rfl).trans ((FrX.g hFc3 (ck_28_1 k_o1) rfl).trans ((up_o (kx.ne (ck_28_1 k_o1) (⟨by decide, rfl⟩ : kx 110 45) rfl)).trans rfl))))] at q; exact q
            have havc := p_av.2.2.2.2 x34_4_5 (by (clear p_tx hmb hb9 hRb hsg44 gc148_n hq10; omega)) (by (clear p_tx hmb hb9 hRb hsg44 gc148_n hq10; omega))
            have f151 := bx_39 (o := (crX o1 1)) (k := x34_4_5) hB (ck_28_1 k_o1)
            refine g_sI (av := [vR 110, vI (P (crX o1 1) x34_4_5), vI 0]) (st := []) (f_X6_readValue G Pc148 T K q10 o1 k_o1 (P (crX o1 1) x34_4_5) 0 ⟨by have q0 := bx_39 (o := (crX o1 1)) (k := x34_4_5) hB (ck_28_1 k_o1); (clear p_tx hmb hb9 hRb hsg44 gc148_n hq10; omega), by have q0 := bx_39 (o := (crX o1 1)) (k := x34_4_5) hB (ck_28_1 k_o1); (clear p_tx hmb hb9 hRb hsg44 gc148_n hq10; omega)⟩ (by decide) hBc148 (by have q0 := bx_39 (o := (crX o1 1)) (k := x34_4_5) hB (ck_28_1 k_o1); (clear p_tx hmb hb9 hRb hsg44 gc148_n hq10; omega)) p_aw (p_ab) (⟨by (clear p_tx hmb hb9 hRb hsg44 gc148_n hq10; omega), by (clear p_tx hmb hb9 hRb hsg44 gc148_n hq10; omega), by (clear p_tx hmb hb9 hRb hsg44 gc148_n hq10; omega)⟩) (TX.fr (F := ([(45, 3), (45, 4), (46, 3), (46, 4), (46, 5), (46, 6), (46, 7), (46, 8)], [])) vc3_TX (FrX.c (FrX.c FrX.rf hE34_5 rfl) hFc148 rfl) rfl) (OWN.fr (F := ([(45, 2), (45, 3), (45, 4), (46, 1), (46, 2), (46, 3), (46, 4), (46, 5), (46, 6), (46, 7), (46, 8)], [])) v_OWN (FrX.c (FrX.c (FrX.c (FrX.s FrX.rf (⟨by decide, rfl⟩ : kx 110 45) rfl) hFc3 rfl) hE34_5 rfl) hFc148 rfl) rfl) ((XT.fr (F := ([(45, 3), (45, 4), (46, 3), (46, 4), (46, 5), (46, 6), (46, 7), (46, 8)], [])) ec3_0 (FrX.c (FrX.c FrX.rf hE34_5 rfl) hFc148 rfl) rfl)) (iv150) ((XK.fr (F := ([(45, 2), (45, 3), (45, 4), (46, 1), (46, 2), (46, 3), (46, 4), (46, 5), (46, 6), (46, 7), (46, 8)], [])) z0 (FrX.c (FrX.c (FrX.c (FrX.s FrX.rf (⟨by decide, rfl⟩ : kx 110 45) rfl) hFc3 rfl) hE34_5 rfl) hFc148 rfl) rfl)) ((RT.fr (F := ([(45, 3), (45, 4), (46, 1), (46, 2), (46, 3), (46, 4), (46, 5), (46, 6), (46, 7), (46, 8)], [])) iv2 (FrX.c (FrX.c (FrX.c FrX.rf hFc3 rfl) hE34_5 rfl) hFc148 rfl) rfl)) (by (clear p_tx hmb hb9 hRb hsg44 gc148_n hq10; omega)) _ (fun rc152 hc152 Pc152 hBc152 hFc152 gc152_vc => ⟨rc152, rfl, ?_⟩)) cf_X6_readValue t_1026 rfl (Nat.le_of_ble_eq_true rfl) (by decide) rfl dX6_readRow_74
            have hvc := gc152_vc
            rw [hkd] at hvc
            refine g_istore (l1 := [(5, vI rc152), (0, vR 110), (3, vI x34_3_5), (4, vI x34_4_5)]) dX6_readRow_77 (by decide) rfl ?_
            refine g_iload dX6_readRow_79 rfl ?_
            refine g_iconst dX6_readRow_81 ?_
            refine g_icmp_ne (tgt := 87) dX6_readRow_82 (by decide) ⟨by (clear p_tx hmb hb9 hRb hsg44 gc148_n hq10; omega), by (clear p_tx hmb hb9 hRb hsg44 gc148_n hq10; omega)⟩ (by decide) (fun k153 => ?_) (fun k153 => ?_)
            · have r_hq10 := (hq10.resolve_left (by (clear p_tx hmb hb9 hRb hsg44 gc148_n hq10 k153; omega)))
              skip
              skip
              obtain ⟨hv0, hv1, hv3, hv4, q11, hS11, hR11⟩ := hvc.resolve_right (fun h => by (clear p_tx hmb hb9 hRb hsg44 gc148_n hq10; omega))
              have ev := VC.ok hR11
              have hgo := hR9.go hm9 hq10 ev ⟨hv0, hv1⟩
              have hbn := hgo.b p_az p_ar (by (clear p_tx hmb hb9 hRb hsg44 gc148_n hq10 k153; omega))
              have hsl := sz_le p_aw (k := M 1 x34_4_5) ⟨by (clear p_tx hmb hb9 hRb hsg44 gc148_n hq10 k153 hbn; omega), by (clear p_tx hmb hb9 hRb hsg44 gc148_n hq10 k153 hbn; omega)⟩
              have iv154 : XS T q11 Pc152 := hS11
              refine g_iload_n dX6_readRow_87 rfl ?_
              refine g_aload_n dX6_readRow_88 rfl ?_
              refine x_g45_2 (n := o1) (⟨by decide, rfl⟩ : kx 110 45) ffX6_27 dX6_readRow_89 ((FrX.g hFc152 (⟨by decide, rfl⟩ : kx 110 45) rfl).trans ((FrX.g hFc148 (⟨by decide, rfl⟩ : kx 110 45) rfl).trans ((FrX.g hE34_5 (⟨by decide, rfl⟩ : kx 110 45) rfl).trans ((FrX.g hFc3 (⟨by decide, rfl⟩ : kx 110 45) rfl).trans up_same)))) ?_
              refine x_g28_2 (n := (crX o1 2)) k_o1 ffX6_218 dX6_readRow_92 rfl ?_
              refine g_iload dX6_readRow_95 rfl ?_
              refine x_l40 (z := (P (crX o1 2) x34_4_5)) (ck_28_2 k_o1) dX6_readRow_97 ⟨by (clear p_tx hmb hb9 hRb hsg44 gc148_n hq10 k153 hbn; omega), by (clear p_tx hmb hb9 hRb hsg44 gc148_n hq10 k153 hbn; omega)⟩ ((FrX.g hFc152 (ck_28_2 k_o1) rfl).trans ((FrX.g hFc148 (ck_28_2 k_o1) rfl).trans ((FrX.g hE34_5 (ck_28_2 k_o1) rfl).trans ((FrX.g hFc3 (ck_28_2 k_o1) rfl).trans ((up_o (kx.ne (ck_28_2 k_o1) (⟨by decide, rfl⟩ : kx 110 45) rfl)).trans rfl))))) ?_
              have hs9 : (P (crX o1 2) x34_4_5) = sz K (M 1 x34_4_5) := by have q := ((XZ.fr (F := ([(45, 2), (45, 3), (45, 4), (46, 1), (46, 2), (46, 3), (46, 4), (46, 5), (46, 6), (46, 7), (46, 8)], [])) z2 (FrX.c (FrX.c (FrX.c (FrX.c (FrX.s FrX.rf (⟨by decide, rfl⟩ : kx 110 45) rfl) hFc3 rfl) hE34_5 rfl) hFc148 rfl) hFc152 rfl) rfl)).2 x34_4_5 (by (clear p_tx hmb hb9 hRb hsg44 gc148_n hq10 k153 hbn; omega)) (by (clear p_tx hmb hb9 hRb hsg44 gc148_n hq10 k153 hbn; omega)); rw [show Pc152 (crX o1 2) x34_4_5 = (P (crX o1 2) x34_4_5) from ((FrX.g hFc152 (ck_28_2 k_o1) rfl).trans ((FrX.g hFc148 (ck_28_2 k_o1) rfl).trans ((FrX.g hE34_5 (ck_28_2 k_o1) rfl).trans ((FrX.g hFc3 (ck_28_2 k_o1) rfl).trans ((up_o (kx.ne (ck_28_2 k_o1) (⟨by decide, rfl⟩ : kx 110 45) rfl)).trans rfl)))))] at q; exact q
              refine g_imul dX6_readRow_98 ?_
              refine g_nm (fun w155 e_w155 => ?_)
              have h_w155 : 0 ≤ w155 ∧ w155 ≤ 40120000 := by rw [e_w155]; exact mul_n (A := 20000) (B := 2006) ⟨by (clear p_tx hmb hb9 hRb hsg44 gc148_n hq10 k153 hbn; omega), by (clear p_tx hmb hb9 hRb hsg44 gc148_n hq10 k153 hbn; omega)⟩ ⟨by (clear p_tx hmb hb9 hRb hsg44 gc148_n hq10 k153 hbn; omega), by (clear p_tx hmb hb9 hRb hsg44 gc148_n hq10 k153 hbn; omega)⟩
              have hx9 : w155 = r9 * sz K (M 1 x34_4_5) := by rw [e_w155, hs9, hr9]
              refine g_iload dX6_readRow_99 rfl ?_
              refine g_iadd dX6_readRow_101 ?_
              refine g_istore_n (l1 := [(3, vI (w155 + rc152)), (5, vI rc152), (0, vR 110), (4, vI x34_4_5)]) dX6_readRow_102 (by decide) rfl ?_
              have hinv9 : ∃ q : Int, XS T q Pc152 ∧ Pc152 110 3 = 0 ∧ Pc152 110 4 = -1 ∧ RWL T K M (x34_4_5 + 1) q (w155 + rc152) := ⟨q11, iv154, by have q := (rfl : Pc152 110 3 = (Pc152 110 3)); (clear p_tx hmb hb9 hRb hsg44 gc148_n hq10 k153 hbn; omega), by have q := (rfl : Pc152 110 4 = (Pc152 110 4)); (clear p_tx hmb hb9 hRb hsg44 gc148_n hq10 k153 hbn; omega), by rw [show (w155 + rc152) = r9 * sz K (M 1 x34_4_5) + rc152 by (clear p_tx hmb hb9 hRb hsg44 gc148_n hq10 k153 hbn; omega)]; exact hgo⟩
              refine g_iinc (l1 := [(4, vI (x34_4_5 + 1)), (3, vI (w155 + rc152)), (5, vI rc152), (0, vR 110)]) dX6_readRow_103 rfl (by decide) rfl ?_
              refine g_goto (tgt := 34) dX6_readRow_106 (by decide) ?_
              refine g_forget (l1 := [(0, vR 110), (3, vI (w155 + rc152)), (4, vI (x34_4_5 + 1))]) (by intro q hq; simp only [List.mem_cons, List.not_mem_nil, or_false] at hq ⊢; rcases hq with rfl | rfl | rfl <;> simp) ?_
              exact ih34_5 (x34_4_5 + 1) ⟨by (clear p_tx hmb hb9 hRb hsg44 gc148_n hq10 k153 hbn; omega), by (clear p_tx hmb hb9 hRb hsg44 gc148_n hq10 k153 hbn; omega)⟩ (w155 + rc152) ⟨by (clear p_tx hmb hb9 hRb hsg44 gc148_n hq10 k153 hbn; omega), by (omega)⟩ _ hBc152 (FrX.c (FrX.c (FrX.c FrX.rf hE34_5 rfl) hFc148 rfl) hFc152 rfl) (by first | exact hinv9 | exact ⟨0, (by first | (rw [show 0 = q11 by (first | (clear p_tx hmb hb9 hRb hsg44 gc148_n hq10 k153 hbn; omega) | (clear p_tx hmb hb9 hRb hsg44 gc148_n hq10 k153; omega) | (clear p_tx hmb hb9 hRb hsg44 gc148_n hq10 hbn; omega) | (clear p_tx hmb hb9 hRb hsg44 gc148_n k153 hbn; omega) | (clear p_tx hmb hb9 hRb hsg44 hq10 k153 hbn; omega) | (clear p_tx hmb hb9 hRb gc148_n hq10 k153 hbn; omega) | (clear p_tx hmb hb9 hsg44 gc148_n hq10 k153 hbn; omega) | (clear p_tx hmb hRb hsg44 gc148_n hq10 k153 hbn; omega) | (clear p_tx hb9 hRb hsg44 gc148_n hq10 k153 hbn; omega) | (clear p_tx hmb hb9 hRb hsg44 gc148_n hq10; omega) | (clear hsg44 hRb hb9 hmb p_tx; omega) | omega)]; exact iv154)), by have q := (rfl : Pc152 110 3 = (Pc152 110 3)); (first | (clear p_tx hmb hb9 hRb hsg44 gc148_n hq10 k153 hbn; omega) | (clear p_tx hmb hb9 hRb hsg44 gc148_n hq10 k153; omega) | (clear p_tx hmb hb9 hRb hsg44 gc148_n hq10 hbn; omega) | (clear p_tx hmb hb9 hRb hsg44 gc148_n k153 hbn; omega) | (clear p_tx hmb hb9 hRb hsg44 hq10 k153 hbn; omega) | (clear p_tx hmb hb9 hRb gc148_n hq10 k153 hbn; omega) | (clear p_tx hmb hb9 hsg44 gc148_n hq10 k153 hbn; omega) | (clear p_tx hmb hRb hsg44 gc148_n hq10 k153 hbn; omega) | (clear p_tx hb9 hRb hsg44 gc148_n hq10 k153 hbn; omega) | (clear p_tx hmb hb9 hRb hsg44 gc148_n hq10; omega) | (clear hsg44 hRb hb9 hmb p_tx; omega) | omega), by have q := (rfl : Pc152 110 4 = (Pc152 110 4)); (first | (clear p_tx hmb hb9 hRb hsg44 gc148_n hq10 k153 hbn; omega) | (clear p_tx hmb hb9 hRb hsg44 gc148_n hq10 k153; omega) | (clear p_tx hmb hb9 hRb hsg44 gc148_n hq10 hbn; omega) | (clear p_tx hmb hb9 hRb hsg44 gc148_n k153 hbn; omega) | (clear p_tx hmb hb9 hRb hsg44 hq10 k153 hbn; omega) | (clear p_tx hmb hb9 hRb gc148_n hq10 k153 hbn; omega) | (clear p_tx hmb hb9 hsg44 gc148_n hq10 k153 hbn; omega) | (clear p_tx hmb hRb hsg44 gc148_n hq10 k153 hbn; omega) | (clear p_tx hb9 hRb hsg44 gc148_n hq10 k153 hbn; omega) | (clear p_tx hmb hb9 hRb hsg44 gc148_n hq10; omega) | (clear hsg44 hRb hb9 hmb p_tx; omega) | omega), RWL.z hav⟩) (by (clear p_tx hmb hb9 hRb hsg44 gc148_n hq10 k153 hbn; omega))
            · have r_hq10 := (hq10.resolve_left (by (clear p_tx hmb hb9 hRb hsg44 gc148_n hq10 k153; omega)))
              skip
              skip
              refine g_iconst dX6_readRow_85 ?_
              exact g_retI dX6_readRow_86 rfl (hQ (-1) (by decide) _ hBc152 (FrX.c (FrX.c (FrX.c (FrX.c (FrX.s FrX.rf (⟨by decide, rfl⟩ : kx 110 45) rfl) hFc3 rfl) hE34_5 rfl) hFc148 rfl) hFc152 rfl) (Or.inl (by have h := hvc.resolve_left (fun h => by (clear p_tx hmb hb9 hRb hsg44 gc148_n hq10; omega)); have ev := VC.no h.2.2; rw [rwR_f (by (clear p_tx hmb hb9 hRb hsg44 gc148_n hq10 k153; omega)) ((hR9.vF hm9 hq10 (by rw [ev]; exact h.2.1)).trans ev) h.2.1]; exact ⟨rfl, h.2.1, rfl, rfl⟩)) (TX.fr (F := ([(45, 3), (45, 4), (46, 3), (46, 4), (46, 5), (46, 6), (46, 7), (46, 8)], [])) vc3_TX (FrX.c (FrX.c (FrX.c FrX.rf hE34_5 rfl) hFc148 rfl) hFc152 rfl) rfl))
          · have r_gc148_n := (gc148_n.resolve_left (by (clear p_tx hmb hb9 hRb hsg44 gc148_n; omega)))
            have r_hsg44 := (hsg44.resolve_left (by (clear p_tx hmb hb9 hRb hsg44 gc148_n; omega)))
            refine g_iconst dX6_readRow_60 ?_
            exact g_retI dX6_readRow_61 rfl (hQ (-1) (by decide) _ hBc148 (FrX.c (FrX.c (FrX.c (FrX.s FrX.rf (⟨by decide, rfl⟩ : kx 110 45) rfl) hFc3 rfl) hE34_5 rfl) hFc148 rfl) (Or.inl (by rw [rwR_f (by (clear p_tx hmb hb9 hRb hsg44 gc148_n; omega)) (hR9.sF (by (clear p_tx hmb hb9 hRb hsg44 gc148_n; omega)) hm9 (by (clear p_tx hmb hb9 hRb hsg44 gc148_n; omega))) (show (sgn T 44 q9).1 ≠ 0 by (clear p_tx hmb hb9 hRb hsg44 gc148_n; omega))]; exact ⟨rfl, (show (sgn T 44 q9).1 ≠ 0 by (clear p_tx hmb hb9 hRb hsg44 gc148_n; omega)), (by show _ = (sgn T 44 q9).1; have q := (rfl : Pc148 110 3 = (Pc148 110 3)); (clear p_tx hmb hb9 hRb hsg44 gc148_n; omega)), (by show _ = (sgn T 44 q9).2; have q := (rfl : Pc148 110 4 = (Pc148 110 4)); (clear p_tx hmb hb9 hRb hsg44 gc148_n; omega))⟩)) (TX.fr (F := ([(45, 3), (45, 4), (46, 3), (46, 4), (46, 5), (46, 6), (46, 7), (46, 8)], [])) vc3_TX (FrX.c (FrX.c FrX.rf hE34_5 rfl) hFc148 rfl) rfl))
    refine g_forget (l1 := [(0, vR 110), (3, vI 0), (4, vI 0)]) (by intro q hq; simp only [List.mem_cons, List.not_mem_nil, or_false] at hq ⊢; rcases hq with rfl | rfl | rfl <;> simp) ?_
    exact L34_5 _ 0 (by decide) 0 (by decide) _ hBc3 FrX.rf (by first | exact hinv9 | exact ⟨0, ec3_1, by have q := (rfl : Pc3 110 3 = (Pc3 110 3)); (clear p_tx hmb; omega), by have q := (rfl : Pc3 110 4 = (Pc3 110 4)); (clear p_tx hmb; omega), RWL.z hav⟩) (Nat.lt_succ_self _)
  · refine g_aload_n dX6_readRow_20 rfl ?_
    refine g_iconst dX6_readRow_21 ?_
    refine g_iconst dX6_readRow_22 ?_
    refine g_vI (av := [vI 1, vI 0]) (o := 110) (st := []) (f_X6_fail G Pc3 1 0 (by decide) (by decide) hBc3  _ (fun rc156 hc156 Pc156 hBc156 hFc156 gc156_f => ⟨rc156, rfl, ?_⟩)) cf_X6_fail t_727 rfl (show kx 110 45 from (⟨by decide, rfl⟩ : kx 110 45)).1 ((show kx 110 45 from (⟨by decide, rfl⟩ : kx 110 45)).sh rfl) rfl rfl (Nat.le_of_ble_eq_true rfl) (by decide) rfl dX6_readRow_23
    have hff := gc156_f
    refine g_pop dX6_readRow_26 rfl ?_
    refine g_iconst dX6_readRow_27 ?_
    exact g_retI dX6_readRow_28 rfl (hQ (-1) (by decide) _ hBc156 (FrX.c (FrX.c (FrX.s FrX.rf (⟨by decide, rfl⟩ : kx 110 45) rfl) hFc3 rfl) hFc156 rfl) (Or.inl (by rw [rwR_0 (T := T) (K := K) (M := M) (by (clear p_tx; omega))]; exact ⟨rfl, (by show (1 : Int) ≠ 0; decide), hff.1, hff.2.1⟩)) (TX.fr (F := ([(45, 3), (45, 4)], [])) vc3_TX (FrX.c FrX.rf hFc156 rfl) rfl))
/-! What the class answers: X11_row. -/
set_option maxRecDepth 100000 in
set_option maxHeartbeats 4000000 in
theorem f_X11_row (G : GT) (P : PH) (T : TT) (K : PH) (M : PH) (hB : BdX P) (p_tx : P 1 1 = T.2 ∧ ∀ i : Int, 0 ≤ i → i < T.2 → P 2 i = T.1 i) (p_aw : AW K) (p_ab : AB K) (p_av : AV K M) (p_az : AZ K M) (p_ar : AR K M) (v_OWN : OWN P) (z0 : XTB K M P) (z1 : XZT K M P) (Q : Option PV → PH → Prop) (hQ : ∀ (r : Int) (_ : (-2147483648) ≤ r ∧ r ≤ 2147483647) (P1 : PH) (_ : BdX P1) (_ : FrX ([(1, 1), (45, 2), (45, 3), (45, 4), (46, 1), (46, 2), (46, 3), (46, 4), (46, 5), (46, 6), (46, 7), (46, 8)], [27]) P P1) (_ : P1 1 1 = 0) (_ : (r = -1 ∧ (rwR T K M).1 ≠ 0) ∨ (r = (rwR T K M).2.2 ∧ 0 ≤ r ∧ (rwR T K M).1 = 0)) (_ : P1 110 3 = (rwR T K M).1 ∧ P1 110 4 = (rwR T K M).2.1), Q (some (vI r)) P1) : Ct WSX G 13 iX11_row [vR 0] P Q := by
  refine Ct.of (by decide) (l0 := [(0, vR 0)]) rfl (Nat.le_of_ble_eq_true rfl) ?_
  have iv1 : XK K (crX (P 0 10).toNat 0) P := z0.1
  have iv2 : XM M (P 0 10).toNat P := z0.2
  have iv3 : XZ K M (P 0 10).toNat P := z1
  refine g_aload_n dX11_row_0 rfl ?_
  refine x_g0_12 (n := 110) (⟨by decide, rfl⟩ : kx 0 0) ffX11_83 dX11_row_1 rfl ?_
  refine g_aload_n dX11_row_4 rfl ?_
  refine x_g0_0 (n := 1) (⟨by decide, rfl⟩ : kx 0 0) ffX11_14 dX11_row_5 rfl ?_
  refine g_aload_n dX11_row_8 rfl ?_
  refine x_g0_10 (n := (P 0 10).toNat) (⟨by decide, rfl⟩ : kx 0 0) ffX11_71 dX11_row_9 (br_0_10 hB) ?_
  refine g_vI (av := [vR 1, vR (P 0 10).toNat]) (o := 110) (st := []) (f_X6_readRow_B16 G P T K M (P 0 10).toNat (bk_0_10 hB) hB (p_tx) p_aw (p_ab) (p_av) (p_az) (p_ar) v_OWN (iv1) (iv2) (iv3) _ (fun rc4 hc4 Pc4 hBc4 hFc4 gc4_rw vc4_TX => ⟨rc4, rfl, ?_⟩)) cf_X6_readRow t_1022 rfl (show kx 110 45 from (⟨by decide, rfl⟩ : kx 110 45)).1 ((show kx 110 45 from (⟨by decide, rfl⟩ : kx 110 45)).sh rfl) rfl rfl (Nat.le_of_ble_eq_true rfl) (by decide) rfl dX11_row_12
  refine g_istore_n (l1 := [(1, vI rc4), (0, vR 0)]) dX11_row_15 (by decide) rfl ?_
  refine g_aload_n dX11_row_16 rfl ?_
  refine x_g0_0 (n := 1) (⟨by decide, rfl⟩ : kx 0 0) ffX11_14 dX11_row_17 rfl ?_
  refine g_iconst dX11_row_20 ?_
  refine x_p1_1 (⟨by decide, rfl⟩ : kx 1 1) pfX11_100 dX11_row_21 ?_
  have hB5 := by_1_1 (z := 0) hBc4 (⟨by decide, rfl⟩ : kx 1 1) (by decide)
  refine g_iload_n dX11_row_24 rfl ?_
  refine g_iconst dX11_row_25 ?_
  refine g_icmp_ne (tgt := 35) dX11_row_26 (by decide) ⟨by (first | (clear p_tx gc4_rw; omega) | omega), by (first | (clear p_tx gc4_rw; omega) | omega)⟩ (by decide) (fun k6 => ?_) (fun k6 => ?_)
  · first | (revert r_gc4_rw; intro r_gc4_rw) | have r_gc4_rw := (gc4_rw.resolve_right (by (clear p_tx gc4_rw k6; omega))) | have r_gc4_rw := (gc4_rw.resolve_left (by (clear p_tx gc4_rw k6; omega))) | skip
    refine g_iload_n dX11_row_35 rfl ?_
    exact g_retI dX11_row_36 rfl (hQ rc4 ⟨by (first | (clear p_tx gc4_rw k6; omega) | omega), by (first | (clear p_tx gc4_rw k6; omega) | omega)⟩ _ hB5 (FrX.s (FrX.c FrX.rf hFc4 rfl) (⟨by decide, rfl⟩ : kx 1 1) rfl) (by have q0 := (up_same : (up Pc4 1 1 0) 1 1 = 0); (first | (clear p_tx gc4_rw k6; omega) | (clear p_tx gc4_rw; omega) | (clear p_tx k6; omega) | (clear gc4_rw k6; omega) | (clear p_tx; omega) | omega)) (by (first | (clear p_tx gc4_rw k6; omega) | (clear p_tx gc4_rw; omega) | (clear p_tx k6; omega) | (clear gc4_rw k6; omega) | (clear p_tx; omega) | omega)) (by have q0 := (((up_o (kx.ne (⟨by decide, rfl⟩ : kx 110 45) (⟨by decide, rfl⟩ : kx 1 1) rfl)).trans rfl) : (up Pc4 1 1 0) 110 3 = (Pc4 110 3)); have q1 := bx_45_3 (o := 110) hBc4 (⟨by decide, rfl⟩ : kx 110 45); have q2 := (((up_o (kx.ne (⟨by decide, rfl⟩ : kx 110 45) (⟨by decide, rfl⟩ : kx 1 1) rfl)).trans rfl) : (up Pc4 1 1 0) 110 4 = (Pc4 110 4)); have q3 := bx_45_4 (o := 110) hBc4 (⟨by decide, rfl⟩ : kx 110 45); (first | (clear p_tx gc4_rw k6; omega) | (clear p_tx gc4_rw; omega) | (clear p_tx k6; omega) | (clear gc4_rw k6; omega) | (clear p_tx; omega) | omega)))
  · first | (revert r_gc4_rw; intro r_gc4_rw) | have r_gc4_rw := (gc4_rw.resolve_right (by (clear p_tx gc4_rw k6; omega))) | have r_gc4_rw := (gc4_rw.resolve_left (by (clear p_tx gc4_rw k6; omega))) | skip
    refine g_aload_n dX11_row_29 rfl ?_
    refine g_iconst dX11_row_30 ?_
    refine g_vI (av := [vI 1]) (o := 0) (st := []) (m_X11_refuse G (up Pc4 1 1 0) 1 (by decide) hB5  _ (fun rc7 hc7 Pc7 hBc7 hFc7 => ⟨rc7, rfl, ?_⟩)) cf_X11_refuse t_663 rfl (show kx 0 0 from (⟨by decide, rfl⟩ : kx 0 0)).1 ((show kx 0 0 from (⟨by decide, rfl⟩ : kx 0 0)).sh rfl) rfl rfl (Nat.le_of_ble_eq_true rfl) (by decide) rfl dX11_row_31
    refine g_pop dX11_row_34 rfl ?_
    refine g_iload_n dX11_row_35 rfl ?_
    exact g_retI dX11_row_36 rfl (hQ rc4 ⟨by (first | (clear p_tx gc4_rw k6; omega) | omega), by (first | (clear p_tx gc4_rw k6; omega) | omega)⟩ _ hBc7 (FrX.c (FrX.s (FrX.c FrX.rf hFc4 rfl) (⟨by decide, rfl⟩ : kx 1 1) rfl) hFc7 rfl) (by have q0 := (((FrX.g hFc7 (⟨by decide, rfl⟩ : kx 1 1) rfl).trans up_same) : Pc7 1 1 = 0); (first | (clear p_tx gc4_rw k6; omega) | (clear p_tx gc4_rw; omega) | (clear p_tx k6; omega) | (clear gc4_rw k6; omega) | (clear p_tx; omega) | omega)) (by (first | (clear p_tx gc4_rw k6; omega) | (clear p_tx gc4_rw; omega) | (clear p_tx k6; omega) | (clear gc4_rw k6; omega) | (clear p_tx; omega) | omega)) (by have q0 := (((FrX.g hFc7 (⟨by decide, rfl⟩ : kx 110 45) rfl).trans ((up_o (kx.ne (⟨by decide, rfl⟩ : kx 110 45) (⟨by decide, rfl⟩ : kx 1 1) rfl)).trans rfl)) : Pc7 110 3 = (Pc4 110 3)); have q1 := bx_45_3 (o := 110) hBc4 (⟨by decide, rfl⟩ : kx 110 45); have q2 := (((FrX.g hFc7 (⟨by decide, rfl⟩ : kx 110 45) rfl).trans ((up_o (kx.ne (⟨by decide, rfl⟩ : kx 110 45) (⟨by decide, rfl⟩ : kx 1 1) rfl)).trans rfl)) : Pc7 110 4 = (Pc4 110 4)); have q3 := bx_45_4 (o := 110) hBc4 (⟨by decide, rfl⟩ : kx 110 45); (first | (clear p_tx gc4_rw k6; omega) | (clear p_tx gc4_rw; omega) | (clear p_tx k6; omega) | (clear gc4_rw k6; omega) | (clear p_tx; omega) | omega)))
/-! What the class answers: X8_rowOn_B16. -/
set_option maxRecDepth 100000 in
set_option maxHeartbeats 4000000 in
theorem f_X8_rowOn_B16 (G : GT) (P : PH) (T : TT) (a1 : Int) (h_a1 : (-2147483648) ≤ a1 ∧ a1 ≤ 2147483647) (hB : BdX P) (p_i : 0 ≤ a1 ∧ 3 * a1 + 1 < T.2) (z0 : CX T P) (Q : Option PV → PH → Prop) (hQ : ∀ (r : Int) (_ : (-2147483648) ≤ r ∧ r ≤ 2147483647) (_ : r = 256 * T.1 (3 * a1) + T.1 (3 * a1 + 1)), Q (some (vI r)) P) : Ct WSX G 2 iX8_rowOn [vR 1, vI a1] P Q := by
  refine Ct.of (by decide) (l0 := [(0, vR 1), (1, vI a1)]) rfl (Nat.le_of_ble_eq_true rfl) ?_
  have ht := z0.1
  have hTv := z0.2
  have q11 := bx_1_1 (o := 1) hB ⟨by decide, rfl⟩
  have e0 := hTv (3 * a1) (by omega) (by omega)
  have e1 := hTv (3 * a1 + 1) (by omega) (by omega)
  refine g_aload_n dX8_rowOn_0 rfl ?_
  refine g_iconst dX8_rowOn_1 ?_
  refine g_iload_n dX8_rowOn_2 rfl ?_
  refine g_imul dX8_rowOn_3 ?_
  refine g_vI (av := [vI (3 * a1)]) (o := 1) (st := []) (f_X1_byteAt_B16 G P (3 * a1) ⟨by omega, by omega⟩ hB  _ (fun rc1 hc1 gc1_t => ⟨rc1, rfl, ?_⟩)) cf_X1_byteAt t_1218 rfl (show kx 1 1 from (⟨by decide, rfl⟩ : kx 1 1)).1 ((show kx 1 1 from (⟨by decide, rfl⟩ : kx 1 1)).sh rfl) rfl rfl (Nat.le_of_ble_eq_true rfl) (by decide) rfl dX8_rowOn_4
  refine g_sipush dX8_rowOn_7 (by decide) ?_
  refine g_imul dX8_rowOn_10 ?_
  refine g_aload_n dX8_rowOn_11 rfl ?_
  refine g_iconst dX8_rowOn_12 ?_
  refine g_iload_n dX8_rowOn_13 rfl ?_
  refine g_imul dX8_rowOn_14 ?_
  refine g_iconst dX8_rowOn_15 ?_
  refine g_iadd dX8_rowOn_16 ?_
  refine g_vI (av := [vI ((3 * a1) + 1)]) (o := 1) (st := [vI (rc1 * 256)]) (f_X1_byteAt_B16 G P ((3 * a1) + 1) ⟨by (first | (clear gc1_t; omega) | omega), by (first | (clear gc1_t; omega) | omega)⟩ hB  _ (fun rc2 hc2 gc2_t => ⟨rc2, rfl, ?_⟩)) cf_X1_byteAt t_1218 rfl (show kx 1 1 from (⟨by decide, rfl⟩ : kx 1 1)).1 ((show kx 1 1 from (⟨by decide, rfl⟩ : kx 1 1)).sh rfl) rfl rfl (Nat.le_of_ble_eq_true rfl) (by decide) rfl dX8_rowOn_17
  refine g_iadd dX8_rowOn_20 ?_
  exact g_retI dX8_rowOn_21 rfl (hQ ((rc1 * 256) + rc2) ⟨by (first | (clear gc1_t gc2_t; omega) | omega), by (first | (clear gc1_t gc2_t; omega) | omega)⟩ (by (first | (clear gc1_t gc2_t; omega) | (clear gc1_t; omega) | (clear gc2_t; omega) | omega)))
/-! What the class answers: X9_armsFitting. -/
set_option maxRecDepth 100000 in
set_option maxHeartbeats 4000000 in
theorem f_X9_armsFitting (G : GT) (P : PH) (K : PH) (M : PH) (F : FT) (o0 : Nat) (a1 : Int) (a2 : Int) (k_o0 : kx o0 28) (h_a1 : (-2147483648) ≤ a1 ∧ a1 ≤ 2147483647) (h_a2 : (-2147483648) ≤ a2 ∧ a2 ≤ 2147483647) (hB : BdX P) (p_aw : AW K) (p_av : AV K M) (p_cb : 0 ≤ a1 ∧ a1 < M 0 0) (p_vb : 0 ≤ a2 ∧ a2 < sz K (M 1 a1)) (z0 : XM M o0 P) (z1 : XFb K M F o0 P) (Q : Option PV → PH → Prop) (hQ : ∀ (r : Int) (_ : (-2147483648) ≤ r ∧ r ≤ 2147483647) (_ : r = msk K F a1 a2 (M 0 2).toNat), Q (some (vI r)) P) : Ct WSX G 1 iX9_armsFitting [vR o0, vI a1, vI a2] P Q := by
  refine Ct.of (by decide) (l0 := [(0, vR o0), (1, vI a1), (2, vI a2)]) rfl (Nat.le_of_ble_eq_true rfl) ?_
  have hmb := z0.b
  have hk9 := p_av.2.2.2.2 a1 p_cb.1 p_cb.2
  have hsz := sz_le p_aw (k := M 1 a1) ⟨by (first | (clear hmb; omega) | omega), by (first | (clear hmb; omega) | omega)⟩
  have hms9 := z1.2.2 a1 a2 p_cb.1 p_cb.2 p_vb.1 p_vb.2
  refine g_iload_n dX9_armsFitting_0 rfl ?_
  refine g_if_lt (tgt := 23) dX9_armsFitting_1 (by decide) ⟨by (first | (clear hmb; omega) | omega), by (first | (clear hmb; omega) | omega)⟩ (fun k1 => ?_) (fun k1 => ?_)
  · refine g_iconst dX9_armsFitting_23 ?_
    exact g_retI dX9_armsFitting_24 rfl (hQ 0 (by decide) (by exfalso; (first | (clear hmb k1; omega) | (clear hmb; omega) | (clear k1; omega) | omega)))
  · refine g_iload_n dX9_armsFitting_4 rfl ?_
    refine g_aload_n dX9_armsFitting_5 rfl ?_
    refine x_g28_6 (z := (P o0 6)) k_o0 ffX9_39 dX9_armsFitting_6 rfl ?_
    have f2 := bx_28_6 (o := o0) hB k_o0
    refine g_icmp_ge (tgt := 23) dX9_armsFitting_9 (by decide) ⟨by (first | (clear hmb k1; omega) | omega), by (first | (clear hmb k1; omega) | omega)⟩ ⟨by have q0 := bx_28_6 (o := o0) hB k_o0; (first | (clear hmb k1; omega) | omega), by have q0 := bx_28_6 (o := o0) hB k_o0; (first | (clear hmb k1; omega) | omega)⟩ (fun k3 => ?_) (fun k3 => ?_)
    · refine g_iconst dX9_armsFitting_23 ?_
      exact g_retI dX9_armsFitting_24 rfl (hQ 0 (by decide) (by exfalso; (first | (clear hmb k1 k3; omega) | (clear hmb k1; omega) | (clear hmb k3; omega) | (clear k1 k3; omega) | (clear hmb; omega) | omega)))
    · refine g_iload_n dX9_armsFitting_12 rfl ?_
      refine g_if_lt (tgt := 23) dX9_armsFitting_13 (by decide) ⟨by (first | (clear hmb k1 k3; omega) | omega), by (first | (clear hmb k1 k3; omega) | omega)⟩ (fun k4 => ?_) (fun k4 => ?_)
      · refine g_iconst dX9_armsFitting_23 ?_
        exact g_retI dX9_armsFitting_24 rfl (hQ 0 (by decide) (by exfalso; (first | (clear hmb k1 k3 k4; omega) | (clear hmb k1 k3; omega) | (clear hmb k1 k4; omega) | (clear hmb k3 k4; omega) | (clear k1 k3 k4; omega) | (clear hmb k1; omega) | omega)))
      · refine g_iload_n dX9_armsFitting_16 rfl ?_
        refine g_sipush dX9_armsFitting_17 (by decide) ?_
        refine g_icmp_lt (tgt := 25) dX9_armsFitting_20 (by decide) ⟨by (first | (clear hmb k1 k3 k4; omega) | omega), by (first | (clear hmb k1 k3 k4; omega) | omega)⟩ (by decide) (fun k5 => ?_) (fun k5 => ?_)
        · refine g_aload_n dX9_armsFitting_25 rfl ?_
          refine x_g28_5 (n := (crX o0 5)) k_o0 ffX9_33 dX9_armsFitting_26 rfl ?_
          refine g_iload_n dX9_armsFitting_29 rfl ?_
          refine x_l43 (n := (crX (crX o0 5) a1.toNat)) (ck_28_5 k_o0) dX9_armsFitting_30 ⟨by (first | (clear hmb k1 k3 k4 k5; omega) | omega), by (first | (clear hmb k1 k3 k4 k5; omega) | omega)⟩ rfl ?_
          have kk6 := (ce_43 (j := a1.toNat) (ck_28_5 k_o0) (by (first | (clear hmb k1 k3 k4 k5; omega) | (clear hmb k1 k3 k4; omega) | (clear hmb k1 k3 k5; omega) | (clear hmb k1 k4 k5; omega) | (clear hmb k3 k4 k5; omega) | (clear k1 k3 k4 k5; omega) | (clear hmb k1 k3; omega) | (clear hmb; omega) | omega)))
          refine g_iload_n dX9_armsFitting_31 rfl ?_
          refine x_l44 (z := (P (crX (crX o0 5) a1.toNat) a2)) kk6 dX9_armsFitting_32 ⟨by (first | (clear hmb k1 k3 k4 k5; omega) | omega), by (first | (clear hmb k1 k3 k4 k5; omega) | omega)⟩ rfl ?_
          exact g_retI dX9_armsFitting_33 rfl (hQ (P (crX (crX o0 5) a1.toNat) a2) ⟨by have q0 := bx_44 (o := (crX (crX o0 5) a1.toNat)) (k := a2) hB kk6; (first | (clear hmb k1 k3 k4 k5; omega) | omega), by have q0 := bx_44 (o := (crX (crX o0 5) a1.toNat)) (k := a2) hB kk6; (first | (clear hmb k1 k3 k4 k5; omega) | omega)⟩ (hms9))
        · refine g_iconst dX9_armsFitting_23 ?_
          exact g_retI dX9_armsFitting_24 rfl (hQ 0 (by decide) (by exfalso; (first | (clear hmb k1 k3 k4 k5; omega) | (clear hmb k1 k3 k4; omega) | (clear hmb k1 k3 k5; omega) | (clear hmb k1 k4 k5; omega) | (clear hmb k3 k4 k5; omega) | (clear k1 k3 k4 k5; omega) | (clear hmb k1 k3; omega) | (clear hmb; omega) | omega)))
/-! What the class answers: X11_fits. -/
set_option maxRecDepth 100000 in
set_option maxHeartbeats 4000000 in
theorem f_X11_fits (G : GT) (P : PH) (K : PH) (M : PH) (F : FT) (A : PH) (a1 : Int) (a2 : Int) (a3 : Int) (h_a1 : (-2147483648) ≤ a1 ∧ a1 ≤ 2147483647) (h_a2 : (-2147483648) ≤ a2 ∧ a2 ≤ 2147483647) (h_a3 : (-2147483648) ≤ a3 ∧ a3 ≤ 2147483647) (hB : BdX P) (p_aw : AW K) (p_av : AV K M) (p_ga : GA M A) (z0 : AX A P) (z1 : XTB K M P) (z2 : XZT K M P) (z3 : XFT K M F P) (Q : Option PV → PH → Prop) (hQ : ∀ (r : Int) (_ : (-2147483648) ≤ r ∧ r ≤ 2147483647) (_ : r = ftR K M F A a1 a2 a3), Q (some (vI r)) P) : Ct WSX G 3 iX11_fits [vR 0, vI a1, vI a2, vI a3] P Q := by
  refine Ct.of (by decide) (l0 := [(0, vR 0), (1, vI a1), (2, vI a2), (3, vI a3)]) rfl (Nat.le_of_ble_eq_true rfl) ?_
  have hb := z0.b
  have hx7 := z1.2.b
  have hav := p_av
  have hm02 := p_av.2.2.1
  have hm12 := p_av.2.2.2.1
  have iv1 : XM M (P 0 10).toNat P := z1.2
  have iv2 : XZ K M (P 0 10).toNat P := z2
  have iv3 : XFb K M F (P 0 10).toNat P := z3
  refine g_aload_n dX11_fits_0 rfl ?_
  refine x_g0_5 (n := 14) (⟨by decide, rfl⟩ : kx 0 0) ffX11_43 dX11_fits_1 rfl ?_
  refine g_iload_n dX11_fits_4 rfl ?_
  refine g_vI (av := [vI a1]) (o := 14) (st := []) (f_X5_armAt G P 14 a1 (⟨by decide, rfl⟩ : kx 14 14) ⟨by (clear hb hx7; omega), by (clear hb hx7; omega)⟩ hB  _ (fun rc4 hc4 gc4_t => ⟨rc4, rfl, ?_⟩)) cf_X5_armAt t_946 rfl (show kx 14 14 from (⟨by decide, rfl⟩ : kx 14 14)).1 ((show kx 14 14 from (⟨by decide, rfl⟩ : kx 14 14)).sh rfl) rfl rfl (Nat.le_of_ble_eq_true rfl) (by decide) rfl dX11_fits_5
  have har9 := gc4_t
  clear gc4_t
  refine g_istore (l1 := [(4, vI rc4), (0, vR 0), (1, vI a1), (2, vI a2), (3, vI a3)]) dX11_fits_8 (by decide) rfl ?_
  refine g_iload dX11_fits_10 rfl ?_
  refine g_iconst dX11_fits_12 ?_
  refine g_icmp_eq (tgt := 31) dX11_fits_13 (by decide) ⟨by (clear hb hx7 har9; omega), by (clear hb hx7 har9; omega)⟩ (by decide) (fun k5 => ?_) (fun k5 => ?_)
  · skip
    refine g_iconst dX11_fits_31 ?_
    exact g_retI dX11_fits_32 rfl (hQ (-1) (by decide) (by first | (rw [ftR_n (by (first | (clear hb hx7 har9 k5; omega) | (clear hb hx7 har9; omega) | (clear hb hx7 k5; omega) | (clear hb har9 k5; omega) | (clear hx7 har9 k5; omega) | (clear hb hx7; omega) | omega))]) | (rw [ftR_n (fun h => by have w := p_ga.1 a1 h.1.1 h.1.2; have v : P (crX 14 0) a1 = A 1 a1 := z0.2.1 a1 h.1.1 h.1.2; (omega))])))
  · have k5n : 0 ≤ rc4 := by (clear hb hx7 har9; omega)
    clear k5
    have r_har9 := (har9.resolve_right (by (clear hb hx7 har9; omega)))
    have h9a := har9.resolve_right (by (clear hb hx7 har9; omega))
    clear har9
    have hap9 : rc4 = A 1 a1 := h9a.2.2.trans (z0.2.1 a1 h9a.1 (by (clear hx7; omega)))
    have hgr9 := p_ga.1 a1 h9a.1 (by (clear hx7; omega))
    refine g_iload_n dX11_fits_16 rfl ?_
    refine g_if_lt (tgt := 31) dX11_fits_17 (by decide) ⟨by (clear hb hx7; omega), by (clear hb hx7; omega)⟩ (fun k6 => ?_) (fun k6 => ?_)
    · refine g_iconst dX11_fits_31 ?_
      exact g_retI dX11_fits_32 rfl (hQ (-1) (by decide) (by first | (rw [ftR_n (by (clear hb hx7; omega))]) | (rw [ftR_n (fun h => by have w := p_ga.1 a1 h.1.1 h.1.2; have v : P (crX 14 0) a1 = A 1 a1 := z0.2.1 a1 h.1.1 h.1.2; (first | (clear hb hx7 k6; omega) | (clear hb hx7; omega) | (clear hb k6; omega) | (clear hx7 k6; omega) | (clear hb; omega) | omega))])))
    · refine g_iload_n dX11_fits_20 rfl ?_
      refine g_aload_n dX11_fits_21 rfl ?_
      refine x_g0_10 (n := (P 0 10).toNat) (⟨by decide, rfl⟩ : kx 0 0) ffX11_71 dX11_fits_22 (br_0_10 hB) ?_
      refine x_g28_6 (z := (P (P 0 10).toNat 6)) (bk_0_10 hB) ffX11_130 dX11_fits_25 rfl ?_
      have f7 := bx_28_6 (o := (P 0 10).toNat) hB (bk_0_10 hB)
      refine g_icmp_lt (tgt := 33) dX11_fits_28 (by decide) ⟨by (clear hb hx7 k6; omega), by (clear hb hx7 k6; omega)⟩ ⟨by have q0 := bx_28_6 (o := (P 0 10).toNat) hB (bk_0_10 hB); (clear hb hx7 k6; omega), by have q0 := bx_28_6 (o := (P 0 10).toNat) hB (bk_0_10 hB); (clear hb hx7 k6; omega)⟩ (fun k8 => ?_) (fun k8 => ?_)
      · have hcs9 := z2.2 a2 (by (clear hb hx7 k8; omega)) (by (omega))
        refine g_iload_n dX11_fits_33 rfl ?_
        refine g_if_lt (tgt := 50) dX11_fits_34 (by decide) ⟨by (clear hb hx7 k6 k8; omega), by (clear hb hx7 k6 k8; omega)⟩ (fun k9 => ?_) (fun k9 => ?_)
        · refine g_iconst dX11_fits_50 ?_
          exact g_retI dX11_fits_51 rfl (hQ (-1) (by decide) (by rw [ftR_n (by (clear hb hx7 k6 k8; omega))]))
        · refine g_iload_n dX11_fits_37 rfl ?_
          refine g_aload_n dX11_fits_38 rfl ?_
          refine x_g0_10 (n := (P 0 10).toNat) (⟨by decide, rfl⟩ : kx 0 0) ffX11_71 dX11_fits_39 (br_0_10 hB) ?_
          refine x_g28_2 (n := (crX (P 0 10).toNat 2)) (bk_0_10 hB) ffX11_245 dX11_fits_42 rfl ?_
          refine g_iload_n dX11_fits_45 rfl ?_
          refine x_l40 (z := (P (crX (P 0 10).toNat 2) a2)) (ck_28_2 (bk_0_10 hB)) dX11_fits_46 ⟨by (omega), by (omega)⟩ rfl ?_
          have f10 := bx_40 (o := (crX (P 0 10).toNat 2)) (k := a2) hB (ck_28_2 (bk_0_10 hB))
          refine g_icmp_lt (tgt := 52) dX11_fits_47 (by decide) ⟨by (clear hb hx7 k6 k8 k9; omega), by (clear hb hx7 k6 k8 k9; omega)⟩ ⟨by have q0 := bx_40 (o := (crX (P 0 10).toNat 2)) (k := a2) hB (ck_28_2 (bk_0_10 hB)); (clear hb hx7 k6 k8 k9; omega), by have q0 := bx_40 (o := (crX (P 0 10).toNat 2)) (k := a2) hB (ck_28_2 (bk_0_10 hB)); (clear hb hx7 k6 k8 k9; omega)⟩ (fun k11 => ?_) (fun k11 => ?_)
          · refine g_aload_n dX11_fits_52 rfl ?_
            refine x_g0_10 (n := (P 0 10).toNat) (⟨by decide, rfl⟩ : kx 0 0) ffX11_71 dX11_fits_53 (br_0_10 hB) ?_
            refine g_iload_n dX11_fits_56 rfl ?_
            refine g_iload_n dX11_fits_57 rfl ?_
            refine g_vI (av := [vI a2, vI a3]) (o := (P 0 10).toNat) (st := []) (f_X9_armsFitting G P K M F (P 0 10).toNat a2 a3 (bk_0_10 hB) ⟨by (clear hb hx7 k6 k8 k9 k11; omega), by (clear hb hx7 k6 k8 k9 k11; omega)⟩ ⟨by (clear hb hx7 k6 k8 k9 k11; omega), by (clear hb hx7 k6 k8 k9 k11; omega)⟩ hB p_aw (p_av) (by (omega)) (by (clear hb hx7 k6 k8; omega)) (iv1) (iv3) _ (fun rc12 hc12 gc12_m => ⟨rc12, rfl, ?_⟩)) cf_X9_armsFitting t_987 rfl (show kx (P 0 10).toNat 28 from (bk_0_10 hB)).1 ((show kx (P 0 10).toNat 28 from (bk_0_10 hB)).sh rfl) rfl rfl (Nat.le_of_ble_eq_true rfl) (by decide) rfl dX11_fits_58
            have hms9 : tb rc12 rc4 = decide (tv K (F (A 1 a1) a2) a3 = 1) := by rw [gc12_m, hap9]; exact tb_msk hgr9.1 (by (clear hb hx7 k6 k8 k9 k11; omega))
            have hmb9 : 0 ≤ rc12 ∧ rc12 < 4096 := by rw [gc12_m]; exact msk_12 (K := K) (M := M) (F := F) (c := a2) (v := a3) ⟨by (clear hb hx7 k6 k8 k9 k11; omega), by (clear hb hx7 k6 k8 k9 k11; omega)⟩
            refine g_iload dX11_fits_61 rfl ?_
            refine g_sI (av := [vI rc12, vI rc4]) (st := []) (f_X11_isIn G P rc12 rc4 ⟨by (clear hb hx7 k6 k8 k9 k11; omega), by (clear hb hx7 k6 k8 k9 k11; omega)⟩ ⟨by (clear hb hx7 k6 k8 k9 k11; omega), by (clear hb hx7 k6 k8 k9 k11; omega)⟩ hB  _ (fun rc13 hc13 gc13_i => ⟨rc13, rfl, ?_⟩)) cf_X11_isIn t_967 rfl (Nat.le_of_ble_eq_true rfl) (by decide) rfl dX11_fits_63
            have hfb9 := fit_b (isin_tb ⟨by (clear hb hx7 k6 k8 k9 k11 gc13_i; omega), by (clear hb hx7 k6 k8 k9 k11 gc13_i; omega)⟩ ⟨by (clear hb hx7 k6 k8 k9 k11 gc13_i; omega), by (clear hb hx7 k6 k8 k9 k11 gc13_i; omega)⟩ gc13_i) hms9
            refine g_if_eq (tgt := 73) dX11_fits_66 (by decide) ⟨by (clear hb hx7 k6 k8 k9 k11 gc13_i; omega), by (clear hb hx7 k6 k8 k9 k11 gc13_i; omega)⟩ (fun k14 => ?_) (fun k14 => ?_)
            · skip
              refine g_iconst dX11_fits_73 ?_
              exact g_retI dX11_fits_74 rfl (hQ 0 (by decide) (by rw [ftR_y ⟨⟨by (clear hb hx7 k6 k8 k9 k11 gc13_i k14; omega), by (clear hx7 k6 k8 k9 k11 gc13_i k14; omega)⟩, ⟨by (clear hb hx7 k8 k9 k11 gc13_i k14; omega), by (omega)⟩, by (clear hb hx7 k6 k8 k11 gc13_i k14; omega), by (clear hb hx7 k6 k8 k9 gc13_i k14; omega)⟩]; (clear hb hx7 k6 k8 k9 k11 gc13_i; omega)))
            · have k14n : 1 ≤ rc13 := by (clear hb hx7 k6 k8 k9 k11 gc13_i; omega)
              clear k14
              have r_gc13_i := (gc13_i.resolve_right (by (clear hb hx7 k6 k8 k9 k11 gc13_i; omega)))
              refine g_iconst dX11_fits_69 ?_
              refine g_goto (tgt := 74) dX11_fits_70 (by decide) ?_
              exact g_retI dX11_fits_74 rfl (hQ 1 (by decide) (by rw [ftR_y ⟨⟨by (clear hb hx7 k6 k8 k9 k11 gc13_i; omega), by (clear hx7 k6 k8 k9 k11 gc13_i; omega)⟩, ⟨by (clear hb hx7 k8 k9 k11 gc13_i; omega), by (omega)⟩, by (clear hb hx7 k6 k8 k11 gc13_i; omega), by (clear hb hx7 k6 k8 k9 gc13_i; omega)⟩]; (clear hb hx7 k6 k8 k9 k11 gc13_i; omega)))
          · refine g_iconst dX11_fits_50 ?_
            exact g_retI dX11_fits_51 rfl (hQ (-1) (by decide) (by rw [ftR_n (by (clear hb hx7 k6 k8 k9; omega))]))
      · refine g_iconst dX11_fits_31 ?_
        exact g_retI dX11_fits_32 rfl (hQ (-1) (by decide) (by first | (rw [ftR_n (by (omega))]) | (rw [ftR_n (fun h => by have w := p_ga.1 a1 h.1.1 h.1.2; have v : P (crX 14 0) a1 = A 1 a1 := z0.2.1 a1 h.1.1 h.1.2; (first | (clear hb hx7 k6 k8; omega) | (clear hb hx7 k6; omega) | (clear hb hx7 k8; omega) | (clear hb k6 k8; omega) | (clear hx7 k6 k8; omega) | (clear hb hx7; omega) | omega))])))
/-! What the class answers: X9_armsOf. -/
set_option maxRecDepth 100000 in
set_option maxHeartbeats 4000000 in
theorem f_X9_armsOf (G : GT) (P : PH) (K : PH) (M : PH) (F : FT) (o0 : Nat) (a1 : Int) (k_o0 : kx o0 28) (h_a1 : (-2147483648) ≤ a1 ∧ a1 ≤ 2147483647) (hB : BdX P) (p_aw : AW K) (p_av : AV K M) (p_zz : ∀ c : Int, 0 ≤ c → c < M 0 0 → 1 ≤ sz K (M 1 c)) (p_r0 : 0 ≤ a1) (z0 : XM M o0 P) (z1 : XZ K M o0 P) (z2 : XFb K M F o0 P) (Q : Option PV → PH → Prop) (hQ : ∀ (r : Int) (_ : (-2147483648) ≤ r ∧ r ≤ 2147483647) (_ : 0 ≤ r ∧ r ≤ 4095) (_ : ∀ a : Int, 0 ≤ a → tb r a = (decide (a < M 0 2) && fitB K M F a1 a)), Q (some (vI r)) P) : Ct WSX G 2 iX9_armsOf [vR o0, vI a1] P Q := by
  refine Ct.of (by decide) (l0 := [(0, vR o0), (1, vI a1)]) rfl (Nat.le_of_ble_eq_true rfl) ?_
  have hmb := z0.b
  have hav := p_av
  have hm02 := p_av.2.2.1
  have hm12 := p_av.2.2.2.1
  have hm00 := p_av.1
  have hm04 := p_av.2.1
  refine g_iconst dX9_armsOf_0 ?_
  refine g_aload_n dX9_armsOf_1 rfl ?_
  refine x_g28_8 (z := (P o0 8)) k_o0 ffX9_46 dX9_armsOf_2 rfl ?_
  refine g_ishl dX9_armsOf_5 ?_
  refine g_nm (fun b1 e_b1 => ?_)
  have h_b1 : 1 ≤ (ishl 1 (P o0 8)) ∧ (ishl 1 (P o0 8)) ≤ 4096 := (ishl1 12 (by decide) (y := (P o0 8)) ⟨by have q0 := bx_28_8 (o := o0) hB k_o0; (first | (clear hmb; omega) | omega), by have q0 := bx_28_8 (o := o0) hB k_o0; (first | (clear hmb; omega) | omega)⟩).2
  rw [← e_b1] at h_b1
  have he6 : b1 = ishl 1 (M 0 2) := by rw [e_b1]; congr 1; (first | (clear hmb; omega) | omega)
  refine g_iconst dX9_armsOf_6 ?_
  refine g_isub dX9_armsOf_7 ?_
  have hfe0 : FEs K M F a1 0 ((b1 - 1)) := by rw [he6]; exact FEs.start ⟨by (first | (clear hmb; omega) | omega), by (first | (clear hmb; omega) | omega)⟩
  refine g_istore_n (l1 := [(2, vI (b1 - 1)), (0, vR o0), (1, vI a1)]) dX9_armsOf_8 (by decide) rfl ?_
  refine g_iload_n dX9_armsOf_9 rfl ?_
  refine g_istore_n (l1 := [(3, vI a1), (2, vI (b1 - 1)), (0, vR o0), (1, vI a1)]) dX9_armsOf_10 (by decide) rfl ?_
  refine g_aload_n dX9_armsOf_11 rfl ?_
  refine x_g28_6 (z := (P o0 6)) k_o0 ffX9_39 dX9_armsOf_12 rfl ?_
  refine g_iconst dX9_armsOf_15 ?_
  refine g_isub dX9_armsOf_16 ?_
  refine g_istore (l1 := [(4, vI ((P o0 6) - 1)), (3, vI a1), (2, vI (b1 - 1)), (0, vR o0), (1, vI a1)]) dX9_armsOf_17 (by decide) rfl ?_
  have L19_1 : ∀ (n19_1 : Nat) (x19_4_1 : Int) (h_x19_4_1 : (-1) ≤ x19_4_1 ∧ x19_4_1 ≤ 3) (x19_3_1 : Int) (h_x19_3_1 : (-2147483648) ≤ x19_3_1 ∧ x19_3_1 ≤ 2147483647) (x19_2_1 : Int) (h_x19_2_1 : 0 ≤ x19_2_1 ∧ x19_2_1 ≤ 4095) (i19_0_1 : x19_3_1 = rLs K M a1 (M 0 0 - 1 - x19_4_1).toNat) (i19_1_1 : FEs K M F a1 (M 0 0 - 1 - x19_4_1).toNat x19_2_1) (i19_2_1 : x19_4_1 ≤ M 0 0 - 1) (hm19_1 : ((x19_4_1 - (-2)) : Int).toNat < n19_1), Go WSX G 2 iX9_armsOf 19 [(0, vR o0), (2, vI x19_2_1), (3, vI x19_3_1), (4, vI x19_4_1)] [] P Q := by
    intro n19_1
    induction n19_1 with
    | zero => intro x19_4_1 h_x19_4_1 x19_3_1 h_x19_3_1 x19_2_1 h_x19_2_1 i19_0_1 i19_1_1 i19_2_1 hm19_1; exact absurd hm19_1 (Nat.not_lt_zero _)
    | succ n19_1 ih19_1 =>
    intro x19_4_1 h_x19_4_1 x19_3_1 h_x19_3_1 x19_2_1 h_x19_2_1 i19_0_1 i19_1_1 i19_2_1 hm19_1
    refine g_iload dX9_armsOf_19 rfl ?_
    refine g_if_lt (tgt := 61) dX9_armsOf_21 (by decide) ⟨by (first | (clear hmb; omega) | omega), by (first | (clear hmb; omega) | omega)⟩ (fun k32 => ?_) (fun k32 => ?_)
    · refine g_iload_n dX9_armsOf_61 rfl ?_
      exact g_retI dX9_armsOf_62 rfl (hQ x19_2_1 ⟨by (first | (clear hmb k32; omega) | omega), by (first | (clear hmb k32; omega) | omega)⟩ (⟨by (first | (clear hmb k32; omega) | (clear hmb; omega) | (clear k32; omega) | omega), by (first | (clear hmb k32; omega) | (clear hmb; omega) | (clear k32; omega) | omega)⟩) (FEs.end i19_1_1 (by (first | (clear hmb k32; omega) | (clear hmb; omega) | (clear k32; omega) | omega)) (by (first | (clear hmb k32; omega) | (clear hmb; omega) | (clear k32; omega) | omega))))
    · have hm9 : x19_4_1 < M 0 0 := by (first | (clear hmb k32; omega) | (clear hmb; omega) | (clear k32; omega) | omega)
      have hz9 := z1.2 x19_4_1 (by (first | (clear hmb k32; omega) | (clear hmb; omega) | (clear k32; omega) | omega)) hm9
      have hz1 := p_zz x19_4_1 (by (first | (clear hmb k32; omega) | (clear hmb; omega) | (clear k32; omega) | omega)) hm9
      have hi9 := i19_0_1
      have hrb := rLs_b p_zz p_r0 (M 0 0 - 1 - x19_4_1).toNat (by (first | (clear hmb k32; omega) | (clear hmb; omega) | (clear k32; omega) | omega))
      have hvb9 := vIn_b (r := a1) hz1
      refine g_aload_n dX9_armsOf_24 rfl ?_
      refine x_g28_2 (n := (crX o0 2)) k_o0 ffX9_22 dX9_armsOf_25 rfl ?_
      refine g_iload dX9_armsOf_28 rfl ?_
      refine x_l40 (z := (P (crX o0 2) x19_4_1)) (ck_28_2 k_o0) dX9_armsOf_30 ⟨by (first | (clear hmb k32; omega) | omega), by (first | (clear hmb k32; omega) | omega)⟩ rfl ?_
      refine g_iconst dX9_armsOf_31 ?_
      have f33 := bx_40 (o := (crX o0 2)) (k := x19_4_1) hB (ck_28_2 k_o0)
      refine g_sI (av := [vI (P (crX o0 2) x19_4_1), vI 1]) (st := []) (m_J9_max_7cf53 G P (P (crX o0 2) x19_4_1) 1 ⟨by have q0 := bx_40 (o := (crX o0 2)) (k := x19_4_1) hB (ck_28_2 k_o0); (first | (clear hmb k32; omega) | omega), by have q0 := bx_40 (o := (crX o0 2)) (k := x19_4_1) hB (ck_28_2 k_o0); (first | (clear hmb k32; omega) | omega)⟩ (by decide) hB  _ (fun rc34 hc34 gc34_m => ⟨rc34, rfl, ?_⟩)) cf_J9_max_7cf53 t_1008 rfl (Nat.le_of_ble_eq_true rfl) (by decide) rfl dX9_armsOf_32
      have hmx9 : rc34 = sz K (M 1 x19_4_1) := by (first | (clear hmb k32 gc34_m; omega) | (clear hmb k32; omega) | (clear hmb gc34_m; omega) | (clear k32 gc34_m; omega) | (clear hmb; omega) | omega)
      refine g_istore (l1 := [(5, vI rc34), (0, vR o0), (2, vI x19_2_1), (3, vI x19_3_1), (4, vI x19_4_1)]) dX9_armsOf_35 (by decide) rfl ?_
      refine g_iload_n dX9_armsOf_37 rfl ?_
      refine g_aload_n dX9_armsOf_38 rfl ?_
      refine g_iload dX9_armsOf_39 rfl ?_
      refine g_iload_n dX9_armsOf_41 rfl ?_
      refine g_iload dX9_armsOf_42 rfl ?_
      refine g_irem dX9_armsOf_44 ⟨⟨by (first | (clear hmb k32 gc34_m; omega) | omega), by (first | (clear hmb k32 gc34_m; omega) | omega)⟩, by (first | (clear hmb k32 gc34_m; omega) | (clear hmb k32; omega) | (clear hmb gc34_m; omega) | (clear k32 gc34_m; omega) | (clear hmb; omega) | omega)⟩ ?_
      refine g_nm (fun b35 e_b35 => ?_)
      have h_b35 := irem_any (x := x19_3_1) (y := rc34) ⟨by (first | (clear hmb k32 gc34_m; omega) | omega), by (first | (clear hmb k32 gc34_m; omega) | omega)⟩ ⟨by (first | (clear hmb k32 gc34_m; omega) | omega), by (first | (clear hmb k32 gc34_m; omega) | omega)⟩
      rw [← e_b35] at h_b35
      have hvr9 : b35 = vIn K M a1 x19_4_1 := by unfold vIn; rw [e_b35, irem_p ⟨by (first | (clear hmb k32 gc34_m; omega) | (clear hmb k32; omega) | (clear hmb gc34_m; omega) | (clear k32 gc34_m; omega) | (clear hmb; omega) | omega), by (first | (clear hmb k32 gc34_m; omega) | (clear hmb k32; omega) | (clear hmb gc34_m; omega) | (clear k32 gc34_m; omega) | (clear hmb; omega) | omega)⟩ ⟨by (first | (clear hmb k32 gc34_m; omega) | (clear hmb k32; omega) | (clear hmb gc34_m; omega) | (clear k32 gc34_m; omega) | (clear hmb; omega) | omega), by (first | (clear hmb k32 gc34_m; omega) | (clear hmb k32; omega) | (clear hmb gc34_m; omega) | (clear k32 gc34_m; omega) | (clear hmb; omega) | omega)⟩, hmx9, hi9]
      refine g_vI (av := [vI x19_4_1, vI b35]) (o := o0) (st := [vI x19_2_1]) (f_X9_armsFitting G P K M F o0 x19_4_1 b35 k_o0 ⟨by (first | (clear hmb k32 gc34_m; omega) | omega), by (first | (clear hmb k32 gc34_m; omega) | omega)⟩ ⟨by (first | (clear hmb k32 gc34_m; omega) | omega), by (first | (clear hmb k32 gc34_m; omega) | omega)⟩ hB p_aw (p_av) (⟨by (first | (clear hmb k32 gc34_m; omega) | (clear hmb k32; omega) | (clear hmb gc34_m; omega) | (clear k32 gc34_m; omega) | (clear hmb; omega) | omega), hm9⟩) (by rw [hvr9]; exact hvb9) (z0) (z2) _ (fun rc36 hc36 gc36_m => ⟨rc36, rfl, ?_⟩)) cf_X9_armsFitting t_1009 rfl (show kx o0 28 from k_o0).1 ((show kx o0 28 from k_o0).sh rfl) rfl rfl (Nat.le_of_ble_eq_true rfl) (by decide) rfl dX9_armsOf_45
      have hmk9 := gc36_m
      refine g_iand dX9_armsOf_48 ?_
      refine g_nm (fun b37 e_b37 => ?_)
      have h_b37 := iand_l (x := x19_2_1) (y := rc36) ⟨by (first | (clear hmb k32 gc34_m; omega) | omega), by (first | (clear hmb k32 gc34_m; omega) | omega)⟩
      rw [← e_b37] at h_b37
      have hfe9 : FEs K M F a1 (M 0 0 - 1 - (x19_4_1 + (-1))).toNat b37 := by
        rw [e_b37]
        exact FEs.step i19_1_1 ⟨by (first | (clear hmb k32 gc34_m; omega) | (clear hmb k32; omega) | (clear hmb gc34_m; omega) | (clear k32 gc34_m; omega) | (clear hmb; omega) | omega), by (first | (clear hmb k32 gc34_m; omega) | (clear hmb k32; omega) | (clear hmb gc34_m; omega) | (clear k32 gc34_m; omega) | (clear hmb; omega) | omega)⟩ ⟨by (first | (clear hmb k32 gc34_m; omega) | (clear hmb k32; omega) | (clear hmb gc34_m; omega) | (clear k32 gc34_m; omega) | (clear hmb; omega) | omega), hm9⟩ ⟨by (first | (clear hmb k32 gc34_m; omega) | (clear hmb k32; omega) | (clear hmb gc34_m; omega) | (clear k32 gc34_m; omega) | (clear hmb; omega) | omega), by (first | (clear hmb k32 gc34_m; omega) | (clear hmb k32; omega) | (clear hmb gc34_m; omega) | (clear k32 gc34_m; omega) | (clear hmb; omega) | omega)⟩ (by rw [hmk9, hvr9])
      refine g_istore_n (l1 := [(2, vI b37), (5, vI rc34), (0, vR o0), (3, vI x19_3_1), (4, vI x19_4_1)]) dX9_armsOf_49 (by decide) rfl ?_
      refine g_iload_n dX9_armsOf_50 rfl ?_
      refine g_iload dX9_armsOf_51 rfl ?_
      refine g_idiv dX9_armsOf_53 ⟨⟨by (first | (clear hmb k32 gc34_m; omega) | omega), by (first | (clear hmb k32 gc34_m; omega) | omega)⟩, by (first | (clear hmb k32 gc34_m; omega) | (clear hmb k32; omega) | (clear hmb gc34_m; omega) | (clear k32 gc34_m; omega) | (clear hmb; omega) | omega)⟩ ?_
      refine g_nm (fun b38 e_b38 => ?_)
      have h_b38 := idiv_ir x19_3_1 rc34
      rw [← e_b38] at h_b38
      have hd9 : b38 = x19_3_1 / sz K (M 1 x19_4_1) := by rw [e_b38, idiv_p ⟨by (first | (clear hmb k32 gc34_m; omega) | (clear hmb k32; omega) | (clear hmb gc34_m; omega) | (clear k32 gc34_m; omega) | (clear hmb; omega) | omega), by (first | (clear hmb k32 gc34_m; omega) | (clear hmb k32; omega) | (clear hmb gc34_m; omega) | (clear k32 gc34_m; omega) | (clear hmb; omega) | omega)⟩ ⟨by (first | (clear hmb k32 gc34_m; omega) | (clear hmb k32; omega) | (clear hmb gc34_m; omega) | (clear k32 gc34_m; omega) | (clear hmb; omega) | omega), by (first | (clear hmb k32 gc34_m; omega) | (clear hmb k32; omega) | (clear hmb gc34_m; omega) | (clear k32 gc34_m; omega) | (clear hmb; omega) | omega)⟩, hmx9]
      refine g_istore_n (l1 := [(3, vI b38), (2, vI b37), (5, vI rc34), (0, vR o0), (4, vI x19_4_1)]) dX9_armsOf_54 (by decide) rfl ?_
      have hinv9 : b38 = rLs K M a1 (M 0 0 - 1 - (x19_4_1 + (-1))).toNat := by
        rw [show (M 0 0 - 1 - (x19_4_1 + (-1))).toNat = (M 0 0 - 1 - x19_4_1).toNat + 1 by (first | (clear hmb k32 gc34_m; omega) | (clear hmb k32; omega) | (clear hmb gc34_m; omega) | (clear k32 gc34_m; omega) | (clear hmb; omega) | omega)]
        show _ = rLs K M a1 (M 0 0 - 1 - x19_4_1).toNat / sz K (M 1 (M 0 0 - 1 - (((M 0 0 - 1 - x19_4_1).toNat : Nat) : Int)))
        rw [show (M 0 0 - 1 - (((M 0 0 - 1 - x19_4_1).toNat : Nat) : Int)) = x19_4_1 by (first | (clear hmb k32 gc34_m; omega) | (clear hmb k32; omega) | (clear hmb gc34_m; omega) | (clear k32 gc34_m; omega) | (clear hmb; omega) | omega), ← hi9]
        exact hd9
      refine g_iinc (l1 := [(4, vI (x19_4_1 + (-1))), (3, vI b38), (2, vI b37), (5, vI rc34), (0, vR o0)]) dX9_armsOf_55 rfl (by decide) rfl ?_
      refine g_goto (tgt := 19) dX9_armsOf_58 (by decide) ?_
      refine g_forget (l1 := [(0, vR o0), (2, vI b37), (3, vI b38), (4, vI (x19_4_1 + (-1)))]) (by intro q hq; simp only [List.mem_cons, List.not_mem_nil, or_false] at hq ⊢; rcases hq with rfl | rfl | rfl | rfl <;> simp) ?_
      exact ih19_1 (x19_4_1 + (-1)) ⟨by (first | (clear hmb k32 gc34_m; omega) | omega), by (first | (clear hmb k32 gc34_m; omega) | omega)⟩ b38 ⟨by (first | (clear hmb k32 gc34_m; omega) | omega), by (first | (clear hmb k32 gc34_m; omega) | omega)⟩ b37 ⟨by (first | (clear hmb k32 gc34_m; omega) | omega), by (first | (clear hmb k32 gc34_m; omega) | omega)⟩ (by first | exact hinv9 | (rw [show (M 0 0 - 1 - (x19_4_1 + (-1))).toNat = 0 by (first | (clear hmb k32 gc34_m; omega) | (clear hmb k32; omega) | (clear hmb gc34_m; omega) | (clear k32 gc34_m; omega) | (clear hmb; omega) | omega)]; rfl)) (by first | exact hfe9 | (rw [show (M 0 0 - 1 - (x19_4_1 + (-1))).toNat = 0 by (first | (clear hmb k32 gc34_m; omega) | (clear hmb k32; omega) | (clear hmb gc34_m; omega) | (clear k32 gc34_m; omega) | (clear hmb; omega) | omega)]; exact hfe0)) (by (first | (clear hmb k32 gc34_m; omega) | (clear hmb k32; omega) | (clear hmb gc34_m; omega) | (clear k32 gc34_m; omega) | (clear hmb; omega) | omega)) (by (first | (clear hmb k32 gc34_m; omega) | (clear hmb k32; omega) | (clear hmb gc34_m; omega) | (clear k32 gc34_m; omega) | (clear hmb; omega) | omega))
  refine g_forget (l1 := [(0, vR o0), (2, vI (b1 - 1)), (3, vI a1), (4, vI ((P o0 6) - 1))]) (by intro q hq; simp only [List.mem_cons, List.not_mem_nil, or_false] at hq ⊢; rcases hq with rfl | rfl | rfl | rfl <;> simp) ?_
  exact L19_1 _ ((P o0 6) - 1) ⟨by have q0 := bx_28_6 (o := o0) hB k_o0; (first | (clear hmb; omega) | omega), by have q0 := bx_28_6 (o := o0) hB k_o0; (first | (clear hmb; omega) | omega)⟩ a1 ⟨by (first | (clear hmb; omega) | omega), by (first | (clear hmb; omega) | omega)⟩ (b1 - 1) ⟨by (first | (clear hmb; omega) | omega), by (first | (clear hmb; omega) | omega)⟩ (by first | exact hinv9 | (rw [show (M 0 0 - 1 - ((P o0 6) - 1)).toNat = 0 by (first | (clear hmb; omega) | omega)]; rfl)) (by first | exact hfe9 | (rw [show (M 0 0 - 1 - ((P o0 6) - 1)).toNat = 0 by (first | (clear hmb; omega) | omega)]; exact hfe0)) (by have q0 := bx_28_6 (o := o0) hB k_o0; (first | (clear hmb; omega) | omega)) (Nat.lt_succ_self _)
/-! What the class answers: X9_guardOf. -/
set_option maxRecDepth 100000 in
set_option maxHeartbeats 4000000 in
theorem f_X9_guardOf (G : GT) (P : PH) (M : PH) (o0 : Nat) (a1 : Int) (k_o0 : kx o0 28) (h_a1 : (-2147483648) ≤ a1 ∧ a1 ≤ 2147483647) (hB : BdX P) (z0 : XM M o0 P) (Q : Option PV → PH → Prop) (hQ : ∀ (r : Int) (_ : (-2147483648) ≤ r ∧ r ≤ 2147483647) (_ : (0 ≤ a1 ∧ a1 < M 0 2 ∧ r = M 2 a1) ∨ ((a1 < 0 ∨ M 0 2 ≤ a1) ∧ r = -1)), Q (some (vI r)) P) : Ct WSX G 1 iX9_guardOf [vR o0, vI a1] P Q := by
  refine Ct.of (by decide) (l0 := [(0, vR o0), (1, vI a1)]) rfl (Nat.le_of_ble_eq_true rfl) ?_
  have hmb := z0.b
  refine g_iload_n dX9_guardOf_0 rfl ?_
  refine g_if_lt (tgt := 21) dX9_guardOf_1 (by decide) ⟨by (first | (clear hmb; omega) | omega), by (first | (clear hmb; omega) | omega)⟩ (fun k1 => ?_) (fun k1 => ?_)
  · refine g_iconst dX9_guardOf_21 ?_
    exact g_retI dX9_guardOf_22 rfl (hQ (-1) (by decide) (by (first | (clear hmb k1; omega) | (clear hmb; omega) | (clear k1; omega) | omega)))
  · refine g_iload_n dX9_guardOf_4 rfl ?_
    refine g_aload_n dX9_guardOf_5 rfl ?_
    refine x_g28_8 (z := (P o0 8)) k_o0 ffX9_46 dX9_guardOf_6 rfl ?_
    have f2 := bx_28_8 (o := o0) hB k_o0
    refine g_icmp_ge (tgt := 21) dX9_guardOf_9 (by decide) ⟨by (first | (clear hmb k1; omega) | omega), by (first | (clear hmb k1; omega) | omega)⟩ ⟨by have q0 := bx_28_8 (o := o0) hB k_o0; (first | (clear hmb k1; omega) | omega), by have q0 := bx_28_8 (o := o0) hB k_o0; (first | (clear hmb k1; omega) | omega)⟩ (fun k3 => ?_) (fun k3 => ?_)
    · refine g_iconst dX9_guardOf_21 ?_
      exact g_retI dX9_guardOf_22 rfl (hQ (-1) (by decide) (by (first | (clear hmb k1 k3; omega) | (clear hmb k1; omega) | (clear hmb k3; omega) | (clear k1 k3; omega) | (clear hmb; omega) | omega)))
    · refine g_aload_n dX9_guardOf_12 rfl ?_
      refine x_g28_4 (n := (crX o0 4)) k_o0 ffX9_28 dX9_guardOf_13 rfl ?_
      have hga9 := z0.2.2.2.2.2.2.2 a1 (by (first | (clear hmb k1 k3; omega) | (clear hmb k1; omega) | (clear hmb k3; omega) | (clear k1 k3; omega) | (clear hmb; omega) | omega)) (by (first | (clear hmb k1 k3; omega) | (clear hmb k1; omega) | (clear hmb k3; omega) | (clear k1 k3; omega) | (clear hmb; omega) | omega))
      refine g_iload_n dX9_guardOf_16 rfl ?_
      refine x_l42 (z := (P (crX o0 4) a1)) (ck_28_4 k_o0) dX9_guardOf_17 ⟨by (first | (clear hmb k1 k3; omega) | omega), by (first | (clear hmb k1 k3; omega) | omega)⟩ rfl ?_
      refine g_goto (tgt := 22) dX9_guardOf_18 (by decide) ?_
      exact g_retI dX9_guardOf_22 rfl (hQ (P (crX o0 4) a1) ⟨by have q0 := bx_42 (o := (crX o0 4)) (k := a1) hB (ck_28_4 k_o0); (first | (clear hmb k1 k3; omega) | omega), by have q0 := bx_42 (o := (crX o0 4)) (k := a1) hB (ck_28_4 k_o0); (first | (clear hmb k1 k3; omega) | omega)⟩ (by have q0 := bx_42 (o := (crX o0 4)) (k := a1) hB (ck_28_4 k_o0); (first | (clear hmb k1 k3; omega) | (clear hmb k1; omega) | (clear hmb k3; omega) | (clear k1 k3; omega) | (clear hmb; omega) | omega)))
/-! What the class answers: X5_placeTaking. -/
set_option maxRecDepth 100000 in
set_option maxHeartbeats 4000000 in
theorem f_X5_placeTaking (G : GT) (P : PH) (M : PH) (o0 : Nat) (o1 : Nat) (a1 : Int) (a2 : Int) (k_o0 : kx o0 14) (k_o1 : kx o1 28) (h_a1 : (-2147483648) ≤ a1 ∧ a1 ≤ 2147483647) (h_a2 : (-2147483648) ≤ a2 ∧ a2 ≤ 2147483647) (hB : BdX P) (p_m12 : M 0 2 ≤ 12) (p_gw : GW M) (p_fb : ∀ p : Int, 0 ≤ p → p < P o0 1 → 0 ≤ P (crX o0 0) p ∧ P (crX o0 0) p < M 0 2) (p_ft : 0 ≤ a1 ∧ a1 ≤ 4095) (p_on : 0 ≤ a2 ∧ a2 ≤ 255) (z0 : XM M o1 P) (Q : Option PV → PH → Prop) (hQ : ∀ (r : Int) (_ : (-1) ≤ r ∧ r ≤ 11) (_ : r = fxi (ptk M a1 a2 (P (crX o0 0))) 1 (P o0 1).toNat), Q (some (vI r)) P) : Ct WSX G 2 iX5_placeTaking [vR o0, vR o1, vI a1, vI a2] P Q := by
  refine Ct.of (by decide) (l0 := [(0, vR o0), (1, vR o1), (2, vI a1), (3, vI a2)]) rfl (Nat.le_of_ble_eq_true rfl) ?_
  have hmb := z0.b
  refine g_iconst dX5_placeTaking_0 ?_
  refine g_istore (l1 := [(4, vI 0), (0, vR o0), (1, vR o1), (2, vI a1), (3, vI a2)]) dX5_placeTaking_1 (by decide) rfl ?_
  have L3_0 : ∀ (n3_0 : Nat) (x3_4_0 : Int) (h_x3_4_0 : 0 ≤ x3_4_0 ∧ x3_4_0 ≤ 12) (i3_0_0 : ∀ i : Int, 0 ≤ i → i < x3_4_0 → ptk M a1 a2 (P (crX o0 0)) i ≠ 1) (hm3_0 : ((13 - x3_4_0) : Int).toNat < n3_0), Go WSX G 2 iX5_placeTaking 3 [(0, vR o0), (1, vR o1), (2, vI a1), (3, vI a2), (4, vI x3_4_0)] [] P Q := by
    intro n3_0
    induction n3_0 with
    | zero => intro x3_4_0 h_x3_4_0 i3_0_0 hm3_0; exact absurd hm3_0 (Nat.not_lt_zero _)
    | succ n3_0 ih3_0 =>
    intro x3_4_0 h_x3_4_0 i3_0_0 hm3_0
    refine g_iload dX5_placeTaking_3 rfl ?_
    refine g_aload_n dX5_placeTaking_5 rfl ?_
    refine x_g14_1 (z := (P o0 1)) k_o0 ffX5_24 dX5_placeTaking_6 rfl ?_
    have f83 := bx_14_1 (o := o0) hB k_o0
    refine g_icmp_ge (tgt := 63) dX5_placeTaking_9 (by decide) ⟨by (clear hmb; omega), by (clear hmb; omega)⟩ ⟨by have q0 := bx_14_1 (o := o0) hB k_o0; (clear hmb; omega), by have q0 := bx_14_1 (o := o0) hB k_o0; (clear hmb; omega)⟩ (fun k84 => ?_) (fun k84 => ?_)
    · refine g_iconst dX5_placeTaking_63 ?_
      exact g_retI dX5_placeTaking_64 rfl (hQ (-1) (by decide) ((fxi_none _ (fun i i0 i1 => i3_0_0 i i0 (by (clear hmb; omega)))).symm))
    · have hfb9 := p_fb x3_4_0 (by (clear hmb k84; omega)) (by (clear hmb; omega))
      have hgw9 := p_gw _ hfb9.1 hfb9.2
      refine g_iload_n dX5_placeTaking_12 rfl ?_
      refine g_aload_n dX5_placeTaking_13 rfl ?_
      refine x_g14_0 (n := (crX o0 0)) k_o0 ffX5_9 dX5_placeTaking_14 rfl ?_
      refine g_iload dX5_placeTaking_17 rfl ?_
      refine x_l15 (z := (P (crX o0 0) x3_4_0)) (ck_14_0 k_o0) dX5_placeTaking_19 ⟨by (clear hmb k84; omega), by (omega)⟩ rfl ?_
      have f85 := bx_15 (o := (crX o0 0)) (k := x3_4_0) hB (ck_14_0 k_o0)
      refine g_nI (av := [vI a1, vI (P (crX o0 0) x3_4_0)]) (st := []) (f_X11_isIn G P a1 (P (crX o0 0) x3_4_0) ⟨by (clear hmb k84; omega), by (clear hmb k84; omega)⟩ ⟨by have q0 := bx_15 (o := (crX o0 0)) (k := x3_4_0) hB (ck_14_0 k_o0); (clear hmb k84; omega), by have q0 := bx_15 (o := (crX o0 0)) (k := x3_4_0) hB (ck_14_0 k_o0); (clear hmb k84; omega)⟩ hB  _ (fun rc86 hc86 gc86_i => ⟨rc86, rfl, ?_⟩)) cf_X11_isIn (fun U h => h.2.1) rfl (Nat.le_of_ble_eq_true rfl) (by decide) rfl dX5_placeTaking_20
      have hin9 := isin_tb ⟨by (clear hmb k84 gc86_i; omega), by (clear hmb k84 gc86_i; omega)⟩ ⟨by (clear hmb k84 gc86_i; omega), by (clear hmb k84 gc86_i; omega)⟩ gc86_i
      refine g_if_eq (tgt := 57) dX5_placeTaking_23 (by decide) ⟨by (clear hmb k84 gc86_i hin9; omega), by (clear hmb k84 gc86_i hin9; omega)⟩ (fun k87 => ?_) (fun k87 => ?_)
      · skip
        skip
        have hno9 : ∀ i : Int, 0 ≤ i → i < x3_4_0 + 1 → ptk M a1 a2 (P (crX o0 0)) i ≠ 1 := by
          intro i i0 i1
          by_cases e : i = x3_4_0
          · rw [e]
            first
            | exact ptk_n (Or.inl (by rcases hin9 with ⟨h, _⟩ | ⟨_, h⟩; exfalso; (clear hmb k84 gc86_i; omega); exact h))
            | exact ptk_n (Or.inr (by rw [gB_t (by (first | (clear hmb k84 gc86_i hin9 k87; omega) | (clear hmb k84 gc86_i hin9; omega) | (clear hmb k84 gc86_i k87; omega) | (clear hmb k84 hin9 k87; omega) | (clear hmb gc86_i hin9 k87; omega) | (clear k84 gc86_i hin9 k87; omega) | (clear hmb k84 gc86_i; omega) | (clear hmb; omega) | omega)), ← hgd9]; rcases hon9 with ⟨h, _⟩ | ⟨_, h⟩; exfalso; (first | (clear hmb k84 gc86_i hin9 k87; omega) | (clear hmb k84 gc86_i hin9; omega) | (clear hmb k84 gc86_i k87; omega) | (clear hmb k84 hin9 k87; omega) | (clear hmb gc86_i hin9 k87; omega) | (clear k84 gc86_i hin9 k87; omega) | (clear hmb k84 gc86_i; omega) | (clear hmb; omega) | omega); exact h))
          · exact i3_0_0 i i0 (by (clear hmb k84 gc86_i hin9 k87; omega))
        refine g_iinc (l1 := [(4, vI (x3_4_0 + 1)), (0, vR o0), (1, vR o1), (2, vI a1), (3, vI a2)]) dX5_placeTaking_57 rfl (by decide) rfl ?_
        refine g_goto (tgt := 3) dX5_placeTaking_60 (by decide) ?_
        refine g_forget (l1 := [(0, vR o0), (1, vR o1), (2, vI a1), (3, vI a2), (4, vI (x3_4_0 + 1))]) (by intro q hq; simp only [List.mem_cons, List.not_mem_nil, or_false] at hq ⊢; rcases hq with rfl | rfl | rfl | rfl | rfl <;> simp) ?_
        exact ih3_0 (x3_4_0 + 1) ⟨by (clear hmb k84 gc86_i hin9 k87; omega), by (omega)⟩ (by first | exact hno9 | (intro i i0 i1; exfalso; (first | (clear hmb k84 gc86_i hin9 k87; omega) | (clear hmb k84 gc86_i hin9; omega) | (clear hmb k84 gc86_i k87; omega) | (clear hmb k84 hin9 k87; omega) | (clear hmb gc86_i hin9 k87; omega) | (clear k84 gc86_i hin9 k87; omega) | (clear hmb k84 gc86_i; omega) | (clear hmb; omega) | omega))) (by (clear hmb k84 gc86_i hin9 k87; omega))
      · have k87n : 1 ≤ rc86 := by (clear hmb k84 gc86_i hin9; omega)
        clear k87
        have r_hin9 := (hin9.resolve_right (by (clear hmb k84 gc86_i hin9; omega)))
        have r_gc86_i := (gc86_i.resolve_right (by (clear hmb k84 gc86_i hin9; omega)))
        refine g_aload_n dX5_placeTaking_26 rfl ?_
        refine g_aload_n dX5_placeTaking_27 rfl ?_
        refine x_g14_0 (n := (crX o0 0)) k_o0 ffX5_9 dX5_placeTaking_28 rfl ?_
        refine g_iload dX5_placeTaking_31 rfl ?_
        refine x_l15 (z := (P (crX o0 0) x3_4_0)) (ck_14_0 k_o0) dX5_placeTaking_33 ⟨by (clear hmb k84 gc86_i hin9; omega), by (omega)⟩ rfl ?_
        refine g_vI (av := [vI (P (crX o0 0) x3_4_0)]) (o := o1) (st := []) (f_X9_guardOf G P M o1 (P (crX o0 0) x3_4_0) k_o1 ⟨by have q0 := bx_15 (o := (crX o0 0)) (k := x3_4_0) hB (ck_14_0 k_o0); (clear hmb k84 gc86_i hin9; omega), by have q0 := bx_15 (o := (crX o0 0)) (k := x3_4_0) hB (ck_14_0 k_o0); (clear hmb k84 gc86_i hin9; omega)⟩ hB (z0) _ (fun rc88 hc88 gc88_g => ⟨rc88, rfl, ?_⟩)) cf_X9_guardOf t_966 rfl (show kx o1 28 from k_o1).1 ((show kx o1 28 from k_o1).sh rfl) rfl rfl (Nat.le_of_ble_eq_true rfl) (by decide) rfl dX5_placeTaking_34
        have hgq9 := gc88_g
        have hgd9 : rc88 = M 2 (P (crX o0 0) x3_4_0) := by rcases hgq9 with ⟨_, _, h⟩ | ⟨h, _⟩; exact h; exfalso; (clear hmb k84 gc86_i hin9 gc88_g; omega)
        refine g_istore (l1 := [(5, vI rc88), (0, vR o0), (1, vR o1), (2, vI a1), (3, vI a2), (4, vI x3_4_0)]) dX5_placeTaking_37 (by decide) rfl ?_
        refine g_iload dX5_placeTaking_39 rfl ?_
        refine g_iconst dX5_placeTaking_41 ?_
        refine g_icmp_eq (tgt := 54) dX5_placeTaking_42 (by decide) ⟨by (clear hmb k84 gc86_i hin9 gc88_g hgq9; omega), by (clear hmb k84 gc86_i hin9 gc88_g hgq9; omega)⟩ (by decide) (fun k89 => ?_) (fun k89 => ?_)
        · have r_hgq9 := (hgq9.resolve_right (by (clear hmb k84 gc86_i hin9 gc88_g hgq9 k89; omega)))
          have r_gc88_g := (gc88_g.resolve_right (by (clear hmb k84 gc86_i hin9 gc88_g hgq9 k89; omega)))
          skip
          skip
          have hyes9 : ptk M a1 a2 (P (crX o0 0)) x3_4_0 = 1 := by
            refine ptk_y (by rcases hin9 with ⟨_, h⟩ | ⟨h, _⟩; exact h; exfalso; (clear hmb k84 gc86_i gc88_g hgq9 k89; omega)) ?_
            first
            | exact gB_1 (by (clear hmb k84 gc86_i hin9 gc88_g hgq9; omega))
            | (rw [gB_t (by (first | (clear hmb k84 gc86_i hin9 gc88_g hgq9 k89; omega) | (clear hmb k84 gc86_i hin9 gc88_g hgq9; omega) | (clear hmb k84 gc86_i hin9 gc88_g k89; omega) | (clear hmb k84 gc86_i hin9 hgq9 k89; omega) | (clear hmb k84 gc86_i gc88_g hgq9 k89; omega) | (clear hmb k84 hin9 gc88_g hgq9 k89; omega) | (clear hmb gc86_i hin9 gc88_g hgq9 k89; omega) | (clear k84 gc86_i hin9 gc88_g hgq9 k89; omega) | (clear hmb k84 gc86_i hin9 gc88_g; omega) | (clear gc86_i k84 hmb; omega) | omega)), ← hgd9]; rcases hon9 with ⟨_, h⟩ | ⟨h, _⟩; exact h; exfalso; (first | (clear hmb k84 gc86_i hin9 gc88_g hgq9 k89; omega) | (clear hmb k84 gc86_i hin9 gc88_g hgq9; omega) | (clear hmb k84 gc86_i hin9 gc88_g k89; omega) | (clear hmb k84 gc86_i hin9 hgq9 k89; omega) | (clear hmb k84 gc86_i gc88_g hgq9 k89; omega) | (clear hmb k84 hin9 gc88_g hgq9 k89; omega) | (clear hmb gc86_i hin9 gc88_g hgq9 k89; omega) | (clear k84 gc86_i hin9 gc88_g hgq9 k89; omega) | (clear hmb k84 gc86_i hin9 gc88_g; omega) | (clear gc86_i k84 hmb; omega) | omega))
          refine g_iload dX5_placeTaking_54 rfl ?_
          exact g_retI dX5_placeTaking_56 rfl (hQ x3_4_0 ⟨by (clear hmb k84 gc86_i hin9 gc88_g hgq9 k89; omega), by (omega)⟩ ((fxi_some (by (clear hmb k84 gc86_i hin9 gc88_g hgq9 k89; omega)) hyes9 i3_0_0 _ (by (clear hmb gc86_i hin9 gc88_g hgq9 k89; omega))).symm))
        · have r_hgq9 := (hgq9.resolve_right (by (clear hmb k84 gc86_i hin9 gc88_g hgq9 k89; omega)))
          have r_gc88_g := (gc88_g.resolve_right (by (clear hmb k84 gc86_i hin9 gc88_g hgq9 k89; omega)))
          skip
          skip
          refine g_iload_n dX5_placeTaking_45 rfl ?_
          refine g_iload dX5_placeTaking_46 rfl ?_
          refine g_nI (av := [vI a2, vI rc88]) (st := []) (f_X11_isIn G P a2 rc88 ⟨by (clear hmb k84 gc86_i hin9 gc88_g hgq9 k89; omega), by (clear hmb k84 gc86_i hin9 gc88_g hgq9 k89; omega)⟩ ⟨by (clear hmb k84 gc86_i hin9 gc88_g hgq9 k89; omega), by (clear hmb k84 gc86_i hin9 gc88_g hgq9 k89; omega)⟩ hB  _ (fun rc90 hc90 gc90_i => ⟨rc90, rfl, ?_⟩)) cf_X11_isIn (fun U h => h.2.1) rfl (Nat.le_of_ble_eq_true rfl) (by decide) rfl dX5_placeTaking_48
          have hon9 := isin_tb ⟨by (clear hmb k84 gc86_i hin9 gc88_g hgq9 k89 gc90_i; omega), by (clear hmb k84 gc86_i hin9 gc88_g hgq9 k89 gc90_i; omega)⟩ ⟨by (clear hmb k84 gc86_i hin9 gc88_g hgq9 gc90_i; omega), by (clear hmb k84 gc86_i hin9 gc88_g hgq9 k89 gc90_i; omega)⟩ gc90_i
          refine g_if_eq (tgt := 57) dX5_placeTaking_51 (by decide) ⟨by (clear hmb k84 gc86_i hin9 gc88_g hgq9 k89 gc90_i hon9; omega), by (clear hmb k84 gc86_i hin9 gc88_g hgq9 k89 gc90_i hon9; omega)⟩ (fun k91 => ?_) (fun k91 => ?_)
          · skip
            skip
            skip
            skip
            skip
            skip
            have hno9 : ∀ i : Int, 0 ≤ i → i < x3_4_0 + 1 → ptk M a1 a2 (P (crX o0 0)) i ≠ 1 := by
              intro i i0 i1
              by_cases e : i = x3_4_0
              · rw [e]
                first
                | exact ptk_n (Or.inl (by rcases hin9 with ⟨h, _⟩ | ⟨_, h⟩; exfalso; (first | (clear hmb k84 gc86_i hin9 gc88_g hgq9 k89 gc90_i hon9 k91; omega) | (clear hmb k84 gc86_i hin9 gc88_g hgq9 k89 gc90_i hon9; omega) | (clear hmb k84 gc86_i hin9 gc88_g hgq9 k89 gc90_i k91; omega) | (clear hmb k84 gc86_i hin9 gc88_g hgq9 k89 hon9 k91; omega) | (clear hmb k84 gc86_i hin9 gc88_g hgq9 gc90_i hon9 k91; omega) | (clear hmb k84 gc86_i hin9 gc88_g k89 gc90_i hon9 k91; omega) | (clear hmb k84 gc86_i hin9 hgq9 k89 gc90_i hon9 k91; omega) | (clear hmb k84 gc86_i gc88_g hgq9 k89 gc90_i hon9 k91; omega) | (clear hmb k84 hin9 gc88_g hgq9 k89 gc90_i hon9 k91; omega) | (clear hmb k84 gc86_i hin9 gc88_g hgq9 k89 gc90_i; omega) | (clear hgq9 gc88_g hin9 gc86_i k84 hmb; omega) | omega); exact h))
                | exact ptk_n (Or.inr (by rw [gB_t (by (clear hmb k84 gc86_i hin9 gc88_g hgq9 gc90_i hon9 k91; omega)), ← hgd9]; rcases hon9 with ⟨h, _⟩ | ⟨_, h⟩; exfalso; (clear hmb k84 gc86_i hin9 gc88_g hgq9 k89 gc90_i; omega); exact h))
              · exact i3_0_0 i i0 (by (clear hmb k84 gc86_i hin9 gc88_g hgq9 k89 gc90_i hon9 k91; omega))
            refine g_iinc (l1 := [(4, vI (x3_4_0 + 1)), (5, vI rc88), (0, vR o0), (1, vR o1), (2, vI a1), (3, vI a2)]) dX5_placeTaking_57 rfl (by decide) rfl ?_
            refine g_goto (tgt := 3) dX5_placeTaking_60 (by decide) ?_
            refine g_forget (l1 := [(0, vR o0), (1, vR o1), (2, vI a1), (3, vI a2), (4, vI (x3_4_0 + 1))]) (by intro q hq; simp only [List.mem_cons, List.not_mem_nil, or_false] at hq ⊢; rcases hq with rfl | rfl | rfl | rfl | rfl <;> simp) ?_
            exact ih3_0 (x3_4_0 + 1) ⟨by (clear hmb k84 gc86_i hin9 gc88_g hgq9 k89 gc90_i hon9 k91; omega), by (omega)⟩ (by first | exact hno9 | (intro i i0 i1; exfalso; (first | (clear hmb k84 gc86_i hin9 gc88_g hgq9 k89 gc90_i hon9 k91; omega) | (clear hmb k84 gc86_i hin9 gc88_g hgq9 k89 gc90_i hon9; omega) | (clear hmb k84 gc86_i hin9 gc88_g hgq9 k89 gc90_i k91; omega) | (clear hmb k84 gc86_i hin9 gc88_g hgq9 k89 hon9 k91; omega) | (clear hmb k84 gc86_i hin9 gc88_g hgq9 gc90_i hon9 k91; omega) | (clear hmb k84 gc86_i hin9 gc88_g k89 gc90_i hon9 k91; omega) | (clear hmb k84 gc86_i hin9 hgq9 k89 gc90_i hon9 k91; omega) | (clear hmb k84 gc86_i gc88_g hgq9 k89 gc90_i hon9 k91; omega) | (clear hmb k84 hin9 gc88_g hgq9 k89 gc90_i hon9 k91; omega) | (clear hmb k84 gc86_i hin9 gc88_g hgq9 k89 gc90_i; omega) | (clear hgq9 gc88_g hin9 gc86_i k84 hmb; omega) | omega))) (by (clear hmb k84 gc86_i hin9 gc88_g hgq9 k89 gc90_i hon9 k91; omega))
          · have k91n : 1 ≤ rc90 := by (clear hmb k84 gc86_i hin9 gc88_g hgq9 k89 gc90_i hon9; omega)
            clear k91
            have r_hon9 := (hon9.resolve_right (by (clear hmb k84 gc86_i hin9 gc88_g hgq9 k89 gc90_i hon9; omega)))
            have r_gc90_i := (gc90_i.resolve_right (by (clear hmb k84 gc86_i hin9 gc88_g hgq9 k89 gc90_i hon9; omega)))
            skip
            skip
            skip
            skip
            have hyes9 : ptk M a1 a2 (P (crX o0 0)) x3_4_0 = 1 := by
              refine ptk_y (by rcases hin9 with ⟨_, h⟩ | ⟨h, _⟩; exact h; exfalso; (clear hmb k84 gc86_i gc88_g hgq9 k89 gc90_i hon9; omega)) ?_
              first
              | exact gB_1 (by (first | (clear hmb k84 gc86_i hin9 gc88_g hgq9 k89 gc90_i hon9; omega) | (clear hmb k84 gc86_i hin9 gc88_g hgq9 k89 gc90_i; omega) | (clear hmb k84 gc86_i hin9 gc88_g hgq9 k89 hon9; omega) | (clear hmb k84 gc86_i hin9 gc88_g hgq9 gc90_i hon9; omega) | (clear hmb k84 gc86_i hin9 gc88_g k89 gc90_i hon9; omega) | (clear hmb k84 gc86_i hin9 hgq9 k89 gc90_i hon9; omega) | (clear hmb k84 gc86_i gc88_g hgq9 k89 gc90_i hon9; omega) | (clear hmb k84 hin9 gc88_g hgq9 k89 gc90_i hon9; omega) | (clear hmb gc86_i hin9 gc88_g hgq9 k89 gc90_i hon9; omega) | (clear hmb k84 gc86_i hin9 gc88_g hgq9 k89; omega) | (clear gc88_g hin9 gc86_i k84 hmb; omega) | omega))
              | (rw [gB_t (by (clear hmb k84 gc86_i hin9 gc88_g hgq9 gc90_i hon9; omega)), ← hgd9]; rcases hon9 with ⟨_, h⟩ | ⟨h, _⟩; exact h; exfalso; (clear hmb k84 gc86_i hin9 gc88_g hgq9 k89 gc90_i; omega))
            refine g_iload dX5_placeTaking_54 rfl ?_
            exact g_retI dX5_placeTaking_56 rfl (hQ x3_4_0 ⟨by (clear hmb k84 gc86_i hin9 gc88_g hgq9 k89 gc90_i hon9; omega), by (omega)⟩ ((fxi_some (by (clear hmb k84 gc86_i hin9 gc88_g hgq9 k89 gc90_i hon9; omega)) hyes9 i3_0_0 _ (by (clear hmb gc86_i hin9 gc88_g hgq9 k89 gc90_i hon9; omega))).symm))
  refine g_forget (l1 := [(0, vR o0), (1, vR o1), (2, vI a1), (3, vI a2), (4, vI 0)]) (by intro q hq; simp only [List.mem_cons, List.not_mem_nil, or_false] at hq ⊢; rcases hq with rfl | rfl | rfl | rfl | rfl <;> simp) ?_
  exact L3_0 _ 0 (by decide) (by first | exact hno9 | (intro i i0 i1; exfalso; (clear hmb; omega))) (Nat.lt_succ_self _)
/-! What the class answers: X11_runRow. -/
set_option maxRecDepth 100000 in
set_option maxHeartbeats 4000000 in
theorem f_X11_runRow (G : GT) (P : PH) (A : PH) (K : PH) (M : PH) (F : FT) (a1 : Int) (h_a1 : (-2147483648) ≤ a1 ∧ a1 ≤ 2147483647) (hB : BdX P) (p_kb : 0 ≤ A 0 3 ∧ A 0 3 ≤ 2000000) (p_aw : AW K) (p_av : AV K M) (p_az : AZ K M) (p_ga : GA M A) (p_gw : GW M) (p_r0 : 0 ≤ a1) (z0 : AX A P) (z1 : XTB K M P) (z2 : XZT K M P) (z3 : XFT K M F P) (Q : Option PV → PH → Prop) (hQ : ∀ (r : Int) (_ : (-2147483648) ≤ r ∧ r ≤ 2147483647) (P1 : PH) (_ : BdX P1) (_ : FrX ([(5, 2), (16, 5), (51, 12), (51, 14)], [6, 17, 18, 19]) P P1) (_ : r = tak K M F A (A 0 1) a1) (_ : AX (up A 0 3 (A 0 3 + 1)) P1), Q (some (vI r)) P1) : Ct WSX G 6 iX11_runRow [vR 0, vI a1] P Q := by
  refine Ct.of (by decide) (l0 := [(0, vR 0), (1, vI a1)]) rfl (Nat.le_of_ble_eq_true rfl) ?_
  have hb := z0.b
  have hx7 := z1.2.b
  have hav := p_av
  have iv1 : XM M (P 0 10).toNat P := z1.2
  have iv2 : XZ K M (P 0 10).toNat P := z2
  have iv3 : XFb K M F (P 0 10).toNat P := z3
  refine g_aload_n dX11_runRow_0 rfl ?_
  refine x_g0_5 (n := 14) (⟨by decide, rfl⟩ : kx 0 0) ffX11_43 dX11_runRow_1 rfl ?_
  refine g_aload_n dX11_runRow_4 rfl ?_
  refine x_g0_10 (n := (P 0 10).toNat) (⟨by decide, rfl⟩ : kx 0 0) ffX11_71 dX11_runRow_5 (br_0_10 hB) ?_
  refine g_aload_n dX11_runRow_8 rfl ?_
  refine x_g0_10 (n := (P 0 10).toNat) (⟨by decide, rfl⟩ : kx 0 0) ffX11_71 dX11_runRow_9 (br_0_10 hB) ?_
  refine g_iload_n dX11_runRow_12 rfl ?_
  refine g_vI (av := [vI a1]) (o := (P 0 10).toNat) (st := [vR (P 0 10).toNat, vR 14]) (f_X9_armsOf G P K M F (P 0 10).toNat a1 (bk_0_10 hB) ⟨by (first | (clear hb hx7; omega) | omega), by (first | (clear hb hx7; omega) | omega)⟩ hB p_aw (p_av) (p_az.1) (by (first | (clear hb hx7; omega) | (clear hb; omega) | (clear hx7; omega) | omega)) (iv1) (iv2) (iv3) _ (fun rc4 hc4 gc4_b gc4_ao => ⟨rc4, rfl, ?_⟩)) cf_X9_armsOf t_1004 rfl (show kx (P 0 10).toNat 28 from (bk_0_10 hB)).1 ((show kx (P 0 10).toNat 28 from (bk_0_10 hB)).sh rfl) rfl rfl (Nat.le_of_ble_eq_true rfl) (by decide) rfl dX11_runRow_13
  have hao9 := gc4_ao
  have hab9 := gc4_b
  refine g_aload_n dX11_runRow_16 rfl ?_
  refine x_g0_5 (n := 14) (⟨by decide, rfl⟩ : kx 0 0) ffX11_43 dX11_runRow_17 rfl ?_
  refine x_g14_2 (z := (P 14 2)) (⟨by decide, rfl⟩ : kx 14 14) ffX11_177 dX11_runRow_20 rfl ?_
  have f5 := bx_14_2 (o := 14) hB (⟨by decide, rfl⟩ : kx 14 14)
  refine g_vI (av := [vR (P 0 10).toNat, vI rc4, vI (P 14 2)]) (o := 14) (st := []) (f_X5_placeTaking G P M 14 (P 0 10).toNat rc4 (P 14 2) (⟨by decide, rfl⟩ : kx 14 14) (bk_0_10 hB) ⟨by (first | (clear hb hx7; omega) | omega), by (first | (clear hb hx7; omega) | omega)⟩ ⟨by have q0 := bx_14_2 (o := 14) hB (⟨by decide, rfl⟩ : kx 14 14); (first | (clear hb hx7; omega) | omega), by have q0 := bx_14_2 (o := 14) hB (⟨by decide, rfl⟩ : kx 14 14); (first | (clear hb hx7; omega) | omega)⟩ hB (p_av.2.2.2.1) (p_gw) (fun p p0 p1 => by have e14 : P 14 1 = A 0 0 := z0.b.1; have q := p_ga.1 p p0 (by (first | (clear hb hx7; omega) | (clear hb; omega) | (clear hx7; omega) | omega)); have q2 : P (crX 14 0) p = A 1 p := z0.2.1 p p0 (by (first | (clear hb hx7; omega) | (clear hb; omega) | (clear hx7; omega) | omega)); rw [q2]; exact q) (hab9) (by have q := p_ga.2.1; (first | (clear hb hx7; omega) | (clear hb; omega) | (clear hx7; omega) | omega)) (iv1) _ (fun rc6 hc6 gc6_pt => ⟨rc6, rfl, ?_⟩)) cf_X5_placeTaking t_978 rfl (show kx 14 14 from (⟨by decide, rfl⟩ : kx 14 14)).1 ((show kx 14 14 from (⟨by decide, rfl⟩ : kx 14 14)).sh rfl) rfl rfl (Nat.le_of_ble_eq_true rfl) (by decide) rfl dX11_runRow_23
  have htk9 : rc6 = tak K M F A (A 0 1) a1 := by
    have q := gc6_pt
    rw [hb.2.1] at q
    rw [q]
    exact ptk_tak hao9 (fun p p0 p1 => z0.2.1 p p0 p1) p_ga.1 hb.1
  refine g_istore_n (l1 := [(2, vI rc6), (0, vR 0), (1, vI a1)]) dX11_runRow_26 (by decide) rfl ?_
  refine g_aload_n dX11_runRow_27 rfl ?_
  refine x_g0_7 (n := 18) (⟨by decide, rfl⟩ : kx 0 0) ffX11_53 dX11_runRow_28 rfl ?_
  refine g_iload_n dX11_runRow_31 rfl ?_
  refine g_aload_n dX11_runRow_32 rfl ?_
  refine x_g0_5 (n := 14) (⟨by decide, rfl⟩ : kx 0 0) ffX11_43 dX11_runRow_33 rfl ?_
  refine g_iload_n dX11_runRow_36 rfl ?_
  refine g_vI (av := [vI rc6]) (o := 14) (st := [vI a1, vR 18]) (f_X5_armAt G P 14 rc6 (⟨by decide, rfl⟩ : kx 14 14) ⟨by (first | (clear hb hx7; omega) | omega), by (first | (clear hb hx7; omega) | omega)⟩ hB  _ (fun rc7 hc7 gc7_t => ⟨rc7, rfl, ?_⟩)) cf_X5_armAt t_946 rfl (show kx 14 14 from (⟨by decide, rfl⟩ : kx 14 14)).1 ((show kx 14 14 from (⟨by decide, rfl⟩ : kx 14 14)).sh rfl) rfl rfl (Nat.le_of_ble_eq_true rfl) (by decide) rfl dX11_runRow_37
  refine g_aload_n dX11_runRow_40 rfl ?_
  refine x_g0_13 (n := 125) (⟨by decide, rfl⟩ : kx 0 0) ffX11_92 dX11_runRow_41 rfl ?_
  refine g_aload_n dX11_runRow_44 rfl ?_
  refine x_g0_5 (n := 14) (⟨by decide, rfl⟩ : kx 0 0) ffX11_43 dX11_runRow_45 rfl ?_
  refine g_iload_n dX11_runRow_48 rfl ?_
  refine g_vI (av := [vR 14, vI a1]) (o := 125) (st := [vI rc7, vI a1, vR 18]) (m_X10_columnsAsked G P 14 a1 (⟨by decide, rfl⟩ : kx 14 14) ⟨by (first | (clear hb hx7 gc7_t; omega) | omega), by (first | (clear hb hx7 gc7_t; omega) | omega)⟩ hB  _ (fun rc8 hc8 Pc8 hBc8 hFc8 => ⟨rc8, rfl, ?_⟩)) cf_X10_columnsAsked t_1270 rfl (show kx 125 51 from (⟨by decide, rfl⟩ : kx 125 51)).1 ((show kx 125 51 from (⟨by decide, rfl⟩ : kx 125 51)).sh rfl) rfl rfl (Nat.le_of_ble_eq_true rfl) (by decide) rfl dX11_runRow_49
  refine g_vV (av := [vI a1, vI rc7, vI rc8]) (o := 18) (st := []) (f_X0_keep G Pc8 a1 rc7 rc8 ⟨by (first | (clear hb hx7 gc7_t; omega) | omega), by (first | (clear hb hx7 gc7_t; omega) | omega)⟩ ⟨by (first | (clear hb hx7 gc7_t; omega) | omega), by (first | (clear hb hx7 gc7_t; omega) | omega)⟩ ⟨by (first | (clear hb hx7 gc7_t; omega) | omega), by (first | (clear hb hx7 gc7_t; omega) | omega)⟩ hBc8 (by have q0 := (((FrX.g hFc8 (⟨by decide, rfl⟩ : kx 18 16) rfl).trans rfl) : Pc8 18 5 = (P 18 5)); have q1 := bx_16_5 (o := 18) hB (⟨by decide, rfl⟩ : kx 18 16); (first | (clear hb hx7 gc7_t; omega) | (clear hb hx7; omega) | (clear hb gc7_t; omega) | (clear hx7 gc7_t; omega) | (clear hb; omega) | omega)) _ (fun Pc9 hBc9 hFc9 gc9_kc => ⟨rfl, ?_⟩)) cf_X0_keep t_1275 rfl (show kx 18 16 from (⟨by decide, rfl⟩ : kx 18 16)).1 ((show kx 18 16 from (⟨by decide, rfl⟩ : kx 18 16)).sh rfl) rfl rfl (Nat.le_of_ble_eq_true rfl) (by decide) rfl dX11_runRow_52
  have zq10 : Pc8 18 5 = (P 18 5) := ((FrX.g hFc8 (⟨by decide, rfl⟩ : kx 18 16) rfl).trans rfl)
  refine g_iload_n dX11_runRow_55 rfl ?_
  exact g_retI dX11_runRow_56 rfl (hQ rc6 ⟨by (first | (clear hb hx7 gc7_t; omega) | omega), by (first | (clear hb hx7 gc7_t; omega) | omega)⟩ _ hBc9 (FrX.c (FrX.c FrX.rf hFc8 rfl) hFc9 rfl) (htk9) (AX.k3 (F := ([(5, 2), (16, 5), (51, 12), (51, 14)], [6, 17, 18, 19])) z0 (by have q := (((FrX.g hFc8 (⟨by decide, rfl⟩ : kx 18 16) rfl).trans rfl) : Pc8 18 5 = (P 18 5)); (first | (clear hb hx7 gc7_t; omega) | (clear hb hx7; omega) | (clear hb gc7_t; omega) | (clear hx7 gc7_t; omega) | (clear hb; omega) | omega)) (FrX.c (FrX.c FrX.rf hFc8 rfl) hFc9 rfl) rfl))
