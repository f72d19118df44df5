/-! What the class answers: X6_readConName. -/
set_option maxRecDepth 100000 in
set_option maxHeartbeats 4000000 in
theorem f_X6_readConName (G : GT) (P : PH) (T : TT) (K : PH) (p : Int) (o : Nat) (k_o : kx o 28) (a1 : Int) (h_a1 : (-2147483648) ≤ a1 ∧ a1 ≤ 2147483647) (hB : BdX P) (p_aw : AW K) (p_kb : 0 ≤ a1 ∧ a1 < K 0 0) (v_TX : TX P) (v_OWN : OWN P) (z0 : XT T P) (z1 : XS T p P) (z2 : XK K (crX o 0) P) (z3 : RT o P) (Q : Option PV → PH → Prop) (hQ : ∀ (r : Int) (_ : (-1) ≤ r ∧ r ≤ 23) (P1 : PH) (_ : BdX P1) (_ : FrX ([(45, 3), (45, 4), (46, 3), (46, 4), (46, 5), (46, 6), (46, 7), (46, 8)], []) P P1) (_ : (r = cNm K (tV T p) ∧ 0 ≤ r ∧ r < K 0 1 ∧ (cas T K a1 p).1 = 0 ∧ P1 110 3 = P 110 3 ∧ P1 110 4 = P 110 4) ∨ (r = -1 ∧ (cas T K a1 p).1 ≠ 0 ∧ P1 110 3 = (cas T K a1 p).1 ∧ P1 110 4 = (cas T K a1 p).2)) (_ : CP (cas T K a1 p).1 (XS T (tE T p)) P1), Q (some (vI r)) P1) : Ct WSX G 3 iX6_readConName [vR 110, vI a1] P Q := by
  refine Ct.of (by decide) (l0 := [(0, vR 110), (1, vI a1)]) rfl (Nat.le_of_ble_eq_true rfl) ?_
  have hb := z1.b
  have hca := cas_s T K a1 p
  refine g_aload_n dX6_readConName_0 rfl ?_
  refine x_g45_0 (n := 111) (⟨by decide, rfl⟩ : kx 110 45) ffX6_12 dX6_readConName_1 rfl ?_
  refine g_vI (av := []) (o := 111) (st := []) (f_X7_isName G P T p  hB (z1) _ (fun rc1 hc1 gc1_f => ⟨rc1, rfl, ?_⟩)) cf_X7_isName t_736 rfl (show kx 111 46 from (⟨by decide, rfl⟩ : kx 111 46)).1 ((show kx 111 46 from (⟨by decide, rfl⟩ : kx 111 46)).sh rfl) rfl rfl (Nat.le_of_ble_eq_true rfl) (by decide) rfl dX6_readConName_4
  refine g_if_ne (tgt := 17) dX6_readConName_7 (by decide) ⟨by (clear hb hca gc1_f; omega), by (clear hb hca gc1_f; omega)⟩ (fun k2 => ?_) (fun k2 => ?_)
  · have k2n : 1 ≤ rc1 := by (clear hb hca gc1_f; omega)
    clear k2
    have r_gc1_f := (gc1_f.resolve_right (by (clear hb hca gc1_f; omega)))
    skip
    have hv := (z1.tok (by (clear hb hca gc1_f; omega))).2
    refine g_aload_n dX6_readConName_17 rfl ?_
    refine x_g45_2 (n := o) (⟨by decide, rfl⟩ : kx 110 45) ffX6_27 dX6_readConName_18 z3 ?_
    refine x_g28_0 (n := (crX o 0)) k_o ffX6_108 dX6_readConName_21 rfl ?_
    refine g_iload_n dX6_readConName_24 rfl ?_
    refine g_aload_n dX6_readConName_25 rfl ?_
    refine x_g45_0 (n := 111) (⟨by decide, rfl⟩ : kx 110 45) ffX6_12 dX6_readConName_26 rfl ?_
    refine x_g46_7 (z := (P 111 7)) (⟨by decide, rfl⟩ : kx 111 46) ffX6_95 dX6_readConName_29 rfl ?_
    have f3 := bx_46_7 (o := 111) hB (⟨by decide, rfl⟩ : kx 111 46)
    refine g_vI (av := [vI a1, vI (P 111 7)]) (o := (crX o 0)) (st := []) (f_X3_conNamedOf G P K (crX o 0) a1 (P 111 7) (ck_28_0 k_o) ⟨by (clear hb hca gc1_f; omega), by (clear hb hca gc1_f; omega)⟩ ⟨by have q0 := bx_46_7 (o := 111) hB (⟨by decide, rfl⟩ : kx 111 46); (clear hb hca gc1_f; omega), by have q0 := bx_46_7 (o := 111) hB (⟨by decide, rfl⟩ : kx 111 46); (clear hb hca gc1_f; omega)⟩ hB p_aw (by have q0 := bx_46_7 (o := 111) hB (⟨by decide, rfl⟩ : kx 111 46); (clear hb hca gc1_f; omega)) (z2) _ (fun rc4 hc4 gc4_c => ⟨rc4, rfl, ?_⟩)) cf_X3_conNamedOf t_827 rfl (show kx (crX o 0) 29 from (ck_28_0 k_o)).1 ((show kx (crX o 0) 29 from (ck_28_0 k_o)).sh rfl) rfl rfl (Nat.le_of_ble_eq_true rfl) (by decide) rfl dX6_readConName_32
    have hc9 := gc4_c
    rw [hv] at hc9
    clear gc4_c
    refine g_istore_n (l1 := [(2, vI rc4), (0, vR 110), (1, vI a1)]) dX6_readConName_35 (by decide) rfl ?_
    refine g_iload_n dX6_readConName_36 rfl ?_
    refine g_iconst dX6_readConName_37 ?_
    refine g_icmp_ne (tgt := 56) dX6_readConName_38 (by decide) ⟨by (clear hb hca gc1_f hc9; omega), by (clear hb hca gc1_f hc9; omega)⟩ (by decide) (fun k5 => ?_) (fun k5 => ?_)
    · have k5n : 0 ≤ rc4 := by (clear hb hca gc1_f hc9; omega)
      clear k5
      have r_hc9 := (hc9.resolve_left (by (clear hb hca gc1_f hc9; omega)))
      skip
      have r_hca := (hca.resolve_right (by (clear hb hca gc1_f hc9; omega)))
      refine g_aload_n dX6_readConName_56 rfl ?_
      refine x_g45_0 (n := 111) (⟨by decide, rfl⟩ : kx 110 45) ffX6_12 dX6_readConName_57 rfl ?_
      refine g_vV (av := []) (o := 111) (st := []) (f_X7_step G P T (tE T p)  hB ((z1.stp (by (clear hb hca gc1_f hc9; omega))).1) ((z1.stp (by (clear hb hca gc1_f hc9; omega))).2) v_TX v_OWN (z0) _ (fun Pc6 hBc6 hFc6 ec6_0 => ⟨rfl, ?_⟩)) cf_X7_step t_731 rfl (show kx 111 46 from (⟨by decide, rfl⟩ : kx 111 46)).1 ((show kx 111 46 from (⟨by decide, rfl⟩ : kx 111 46)).sh rfl) rfl rfl (Nat.le_of_ble_eq_true rfl) (by decide) rfl dX6_readConName_60
      refine g_iload_n dX6_readConName_63 rfl ?_
      exact g_retI dX6_readConName_64 rfl (hQ rc4 ⟨by (clear hb hca gc1_f hc9; omega), by (clear hb hca gc1_f hc9; omega)⟩ _ hBc6 (FrX.c FrX.rf hFc6 rfl) (by have q0 := (((FrX.g hFc6 (⟨by decide, rfl⟩ : kx 110 45) rfl).trans rfl) : Pc6 110 3 = (P 110 3)); have q1 := bx_45_3 (o := 110) hB (⟨by decide, rfl⟩ : kx 110 45); have q2 := (((FrX.g hFc6 (⟨by decide, rfl⟩ : kx 110 45) rfl).trans rfl) : Pc6 110 4 = (P 110 4)); have q3 := bx_45_4 (o := 110) hB (⟨by decide, rfl⟩ : kx 110 45); (clear hb hca gc1_f hc9; omega)) ((fun h0 => by first | exact ec6_0 | (exfalso; (first | (clear hb hca gc1_f hc9; omega) | (clear hb hca gc1_f; omega) | (clear hb hca hc9; omega) | (clear hb gc1_f hc9; omega) | (clear hca gc1_f hc9; omega) | (clear hb hca; omega) | omega)))))
    · skip
      skip
      skip
      refine g_aload_n dX6_readConName_41 rfl ?_
      refine g_iconst dX6_readConName_42 ?_
      refine g_aload_n dX6_readConName_43 rfl ?_
      refine x_g45_0 (n := 111) (⟨by decide, rfl⟩ : kx 110 45) ffX6_12 dX6_readConName_44 rfl ?_
      refine x_g46_5 (z := (P 111 5)) (⟨by decide, rfl⟩ : kx 111 46) ffX6_72 dX6_readConName_47 rfl ?_
      have f7 := bx_46_5 (o := 111) hB (⟨by decide, rfl⟩ : kx 111 46)
      refine g_vI (av := [vI 3, vI (P 111 5)]) (o := 110) (st := []) (f_X6_fail G P 3 (P 111 5) (by decide) ⟨by have q0 := bx_46_5 (o := 111) hB (⟨by decide, rfl⟩ : kx 111 46); (clear hb hca gc1_f hc9 k5; omega), by have q0 := bx_46_5 (o := 111) hB (⟨by decide, rfl⟩ : kx 111 46); (clear hb hca gc1_f hc9 k5; omega)⟩ hB  _ (fun rc8 hc8 Pc8 hBc8 hFc8 gc8_f => ⟨rc8, rfl, ?_⟩)) cf_X6_fail t_727 rfl (show kx 110 45 from (⟨by decide, rfl⟩ : kx 110 45)).1 ((show kx 110 45 from (⟨by decide, rfl⟩ : kx 110 45)).sh rfl) rfl rfl (Nat.le_of_ble_eq_true rfl) (by decide) rfl dX6_readConName_50
      refine g_pop dX6_readConName_53 rfl ?_
      refine g_iconst dX6_readConName_54 ?_
      exact g_retI dX6_readConName_55 rfl (hQ (-1) (by decide) _ hBc8 (FrX.c FrX.rf hFc8 rfl) (by have q0 := bx_45_3 (o := 110) hBc8 (⟨by decide, rfl⟩ : kx 110 45); have q1 := bx_45_4 (o := 110) hBc8 (⟨by decide, rfl⟩ : kx 110 45); (omega)) ((fun h0 => by first | exact (by first | (rw [show (tE T p) = p by (clear hb; omega)]; exact (XS.fr (F := ([(45, 3), (45, 4)], [])) z1 (FrX.c FrX.rf hFc8 rfl) rfl))) | (exfalso; (first | (clear hb hca gc1_f hc9 k5; omega) | (clear hb hca gc1_f hc9; omega) | (clear hb hca gc1_f k5; omega) | (clear hb hca hc9 k5; omega) | (clear hb gc1_f hc9 k5; omega) | (clear hca gc1_f hc9 k5; omega) | (clear hb hca gc1_f; omega) | (clear hb; omega) | omega)))))
  · skip
    skip
    refine g_aload_n dX6_readConName_10 rfl ?_
    refine g_vI (av := []) (o := 110) (st := []) (f_X6_failHere G P T p  hB (z1) _ (fun rc9 hc9 Pc9 hBc9 hFc9 gc9_f => ⟨rc9, rfl, ?_⟩)) cf_X6_failHere t_723 rfl (show kx 110 45 from (⟨by decide, rfl⟩ : kx 110 45)).1 ((show kx 110 45 from (⟨by decide, rfl⟩ : kx 110 45)).sh rfl) rfl rfl (Nat.le_of_ble_eq_true rfl) (by decide) rfl dX6_readConName_11
    refine g_pop dX6_readConName_14 rfl ?_
    refine g_iconst dX6_readConName_15 ?_
    exact g_retI dX6_readConName_16 rfl (hQ (-1) (by decide) _ hBc9 (FrX.c FrX.rf hFc9 rfl) (by have q0 := bx_45_3 (o := 110) hBc9 (⟨by decide, rfl⟩ : kx 110 45); have q1 := bx_45_4 (o := 110) hBc9 (⟨by decide, rfl⟩ : kx 110 45); (omega)) ((fun h0 => by first | exact (by first | (rw [show (tE T p) = p by (omega)]; exact (XS.fr (F := ([(45, 3), (45, 4)], [])) z1 (FrX.c FrX.rf hFc9 rfl) rfl))) | (exfalso; (first | (clear hb hca gc1_f k2; omega) | (clear hb hca gc1_f; omega) | (clear hb hca k2; omega) | (clear hb gc1_f k2; omega) | (clear hca gc1_f k2; omega) | (clear hb hca; omega) | omega)))))
