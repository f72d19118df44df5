/-! What the class answers: X11_chance. -/
set_option maxRecDepth 100000 in
set_option maxHeartbeats 4000000 in
theorem f_X11_chance (G : GT) (P : PH) (A : PH) (k : Int) (K : PH) (M : PH) (F : FT) (a1 : Int) (h_a1 : (-2147483648) ≤ a1 ∧ a1 ≤ 2147483647) (hB : BdX P) (p_wa : WA k A) (p_k5 : k ≤ 600) (p_aw : AW K) (p_av : AV K M) (p_az : AZ K M) (p_ga : GA M A) (p_gw : GW M) (p_ar : AR K M) (z0 : AX A P) (z1 : XTB K M P) (z2 : XZT K M P) (z3 : XFT K M F P) (Q : Option PV → PH → Prop) (hQ : ∀ (r : Int) (_ : (-2147483648) ≤ r ∧ r ≤ 2147483647) (P1 : PH) (_ : BdX P1) (_ : FrX ([(0, 14), (5, 2), (14, 1), (14, 2), (14, 3), (16, 5), (16, 6), (16, 7), (51, 12), (51, 14)], [6, 15, 17, 18, 19, 21, 27]) P P1) (_ : r = chR K M F A a1) (_ : AX (aCha A M a1) P1), Q (some (vI r)) P1) : Ct WSX G 7 iX11_chance [vR 0, vI a1] P Q := by
  refine Ct.of (by decide) (l0 := [(0, vR 0), (1, vI a1)]) rfl (Nat.le_of_ble_eq_true rfl) ?_
  have hb := z0.b
  have hw3 := p_wa.2.2.1
  have hp3 := aPush_0 A 3 (by decide)
  have hx7 := z1.2.b
  have hav := p_av
  have hrw9 := rows_1 p_ar p_az
  refine g_aload_n dX11_chance_0 rfl ?_
  refine g_vI (av := []) (o := 0) (st := []) (f_X11_matched G P K M  hB (z1) _ (fun rc1 hc1 gc1_m => ⟨rc1, rfl, ?_⟩)) cf_X11_matched t_937 rfl (show kx 0 0 from (⟨by decide, rfl⟩ : kx 0 0)).1 ((show kx 0 0 from (⟨by decide, rfl⟩ : kx 0 0)).sh rfl) rfl rfl (Nat.le_of_ble_eq_true rfl) (by decide) rfl dX11_chance_1
  refine g_if_eq (tgt := 18) dX11_chance_4 (by decide) ⟨by (clear hb hx7 gc1_m; omega), by (clear hb hx7 gc1_m; omega)⟩ (fun k2 => ?_) (fun k2 => ?_)
  · skip
    refine g_aload_n dX11_chance_18 rfl ?_
    refine g_iconst dX11_chance_19 ?_
    refine g_vI (av := [vI 2]) (o := 0) (st := []) (m_X11_refuse G P 2 (by decide) hB  _ (fun rc3 hc3 Pc3 hBc3 hFc3 => ⟨rc3, rfl, ?_⟩)) cf_X11_refuse t_663 rfl (show kx 0 0 from (⟨by decide, rfl⟩ : kx 0 0)).1 ((show kx 0 0 from (⟨by decide, rfl⟩ : kx 0 0)).sh rfl) rfl rfl (Nat.le_of_ble_eq_true rfl) (by decide) rfl dX11_chance_20
    refine g_pop dX11_chance_23 rfl ?_
    refine g_iconst dX11_chance_24 ?_
    exact g_retI dX11_chance_25 rfl (hQ (-1) (by decide) _ hBc3 (FrX.c FrX.rf hFc3 rfl) (by rw [chR_n (by (clear hb hx7; omega))]) (by rw [aCha_n (by (clear hb hx7; omega))]; exact (AX.fr (F := ([], [27])) z0 (FrX.c FrX.rf hFc3 rfl) rfl)))
  · have k2n : 1 ≤ rc1 := by (clear hb hx7 gc1_m; omega)
    clear k2
    have r_gc1_m := (gc1_m.resolve_right (by (clear hb hx7 gc1_m; omega)))
    refine g_iload_n dX11_chance_7 rfl ?_
    refine g_iconst dX11_chance_8 ?_
    refine g_icmp_lt (tgt := 18) dX11_chance_9 (by decide) ⟨by (clear hb hx7 gc1_m; omega), by (clear hb hx7 gc1_m; omega)⟩ (by decide) (fun k4 => ?_) (fun k4 => ?_)
    · skip
      refine g_aload_n dX11_chance_18 rfl ?_
      refine g_iconst dX11_chance_19 ?_
      refine g_vI (av := [vI 2]) (o := 0) (st := []) (m_X11_refuse G P 2 (by decide) hB  _ (fun rc5 hc5 Pc5 hBc5 hFc5 => ⟨rc5, rfl, ?_⟩)) cf_X11_refuse t_663 rfl (show kx 0 0 from (⟨by decide, rfl⟩ : kx 0 0)).1 ((show kx 0 0 from (⟨by decide, rfl⟩ : kx 0 0)).sh rfl) rfl rfl (Nat.le_of_ble_eq_true rfl) (by decide) rfl dX11_chance_20
      refine g_pop dX11_chance_23 rfl ?_
      refine g_iconst dX11_chance_24 ?_
      exact g_retI dX11_chance_25 rfl (hQ (-1) (by decide) _ hBc5 (FrX.c FrX.rf hFc5 rfl) (by rw [chR_n (by (clear hb hx7 gc1_m; omega))]) (by rw [aCha_n (by (clear hb hx7 gc1_m; omega))]; exact (AX.fr (F := ([], [27])) z0 (FrX.c FrX.rf hFc5 rfl) rfl)))
    · skip
      refine g_iload_n dX11_chance_12 rfl ?_
      refine g_bipush dX11_chance_13 (by decide) ?_
      refine g_icmp_le (tgt := 26) dX11_chance_15 (by decide) ⟨by (clear hb hx7 gc1_m k4; omega), by (clear hb hx7 gc1_m k4; omega)⟩ (by decide) (fun k6 => ?_) (fun k6 => ?_)
      · skip
        refine g_aload_n dX11_chance_26 rfl ?_
        refine g_vV (av := []) (o := 0) (st := []) (f_X11_remember G P A k  hB p_wa (z0) _ (fun Pc7 hBc7 hFc7 ec7_0 => ⟨rfl, ?_⟩)) cf_X11_remember t_1254 rfl (show kx 0 0 from (⟨by decide, rfl⟩ : kx 0 0)).1 ((show kx 0 0 from (⟨by decide, rfl⟩ : kx 0 0)).sh rfl) rfl rfl (Nat.le_of_ble_eq_true rfl) (by decide) rfl dX11_chance_27
        refine g_iconst dX11_chance_30 ?_
        refine g_istore_n (l1 := [(2, vI 0), (0, vR 0), (1, vI a1)]) dX11_chance_31 (by decide) rfl ?_
        refine g_iconst dX11_chance_32 ?_
        refine g_istore_n (l1 := [(3, vI 0), (2, vI 0), (0, vR 0), (1, vI a1)]) dX11_chance_33 (by decide) rfl ?_
        have L34_7 : ∀ (n34_7 : Nat) (x34_3_7 : Int) (h_x34_3_7 : 0 ≤ x34_3_7 ∧ x34_3_7 ≤ 40) (x34_2_7 : Int) (h_x34_2_7 : 0 ≤ x34_2_7 ∧ x34_2_7 ≤ 40) (H34_7 : PH) (hB34_7 : BdX H34_7) (hE34_7 : FrX ([(0, 14), (5, 2), (16, 5), (51, 12), (51, 14)], [6, 17, 18, 19]) Pc7 H34_7) (i34_0_7 : x34_2_7 ≤ x34_3_7) (i34_1_7 : AX (aDrs (x34_3_7).toNat (aPush A)) H34_7) (i34_2_7 : x34_3_7 ≤ a1) (i34_3_7 : x34_2_7 = chN K M F (aPush A) (x34_3_7).toNat) (i34_4_7 : x34_2_7 ≤ x34_3_7) (hm34_7 : ((41 - x34_3_7) : Int).toNat < n34_7), Go WSX G 7 iX11_chance 34 [(0, vR 0), (1, vI a1), (2, vI x34_2_7), (3, vI x34_3_7)] [] H34_7 Q := by
          intro n34_7
          induction n34_7 with
          | zero => intro x34_3_7 h_x34_3_7 x34_2_7 h_x34_2_7 H34_7 hB34_7 hE34_7 i34_0_7 i34_1_7 i34_2_7 i34_3_7 i34_4_7 hm34_7; exact absurd hm34_7 (Nat.not_lt_zero _)
          | succ n34_7 ih34_7 =>
          intro x34_3_7 h_x34_3_7 x34_2_7 h_x34_2_7 H34_7 hB34_7 hE34_7 i34_0_7 i34_1_7 i34_2_7 i34_3_7 i34_4_7 hm34_7
          refine g_iload_n dX11_chance_34 rfl ?_
          refine g_iload_n dX11_chance_35 rfl ?_
          refine g_icmp_ge (tgt := 67) dX11_chance_36 (by decide) ⟨by (clear hb hx7 gc1_m k4 k6; omega), by (clear hb hx7 gc1_m k4 k6; omega)⟩ ⟨by (clear hb hx7 gc1_m k4 k6; omega), by (clear hb hx7 gc1_m k4 k6; omega)⟩ (fun k75 => ?_) (fun k75 => ?_)
          · skip
            refine g_iload_n dX11_chance_67 rfl ?_
            exact g_retI dX11_chance_68 rfl (hQ x34_2_7 ⟨by (clear hb hx7 gc1_m k4 k6; omega), by (clear hb hx7 gc1_m k4 k6; omega)⟩ _ hB34_7 (FrX.c (FrX.c FrX.rf hFc7 rfl) hE34_7 rfl) (by rw [chR_y ⟨by (clear hb hx7 gc1_m k4 k6; omega), by (clear hb hx7 gc1_m k6; omega), by (clear hb hx7 gc1_m k4 k6; omega)⟩, show a1 = x34_3_7 by (clear hb hx7 gc1_m k4 k6; omega)]; exact i34_3_7) (by rw [aCha_y ⟨by (clear hb hx7 gc1_m k4 k6; omega), by (clear hb hx7 gc1_m k6; omega), by (clear hb hx7 gc1_m k4 k6; omega)⟩, show a1 = x34_3_7 by (clear hb hx7 gc1_m k4 k6; omega)]; exact i34_1_7))
          · skip
            have hcN9 := i34_3_7
            have hrw8 := hrw9 (by (clear hb hx7 gc1_m k4 k6; omega))
            have iv76 : AX (aDrs (x34_3_7).toNat (aPush A)) H34_7 := i34_1_7
            refine g_aload_n dX11_chance_39 rfl ?_
            refine g_aload_n dX11_chance_40 rfl ?_
            refine g_aload_n dX11_chance_41 rfl ?_
            refine x_g0_10 (n := (P 0 10).toNat) (⟨by decide, rfl⟩ : kx 0 0) ffX11_71 dX11_chance_42 ((FrX.g hE34_7 (⟨by decide, rfl⟩ : kx 0 0) rfl).trans ((FrX.g hFc7 (⟨by decide, rfl⟩ : kx 0 0) rfl).trans (br_0_10 hB))) ?_
            refine x_g28_7 (z := (P (P 0 10).toNat 7)) (bk_0_10 hB) ffX11_173 dX11_chance_45 ((FrX.g hE34_7 (bk_0_10 hB) rfl).trans ((FrX.g hFc7 (bk_0_10 hB) rfl).trans rfl)) ?_
            have hn3 := aDrs_3 (aPush A) (x34_3_7).toNat
            have f77 := bx_28_7 (o := (P 0 10).toNat) hB (bk_0_10 hB)
            refine g_vI (av := [vI (P (P 0 10).toNat 7)]) (o := 0) (st := [vR 0]) (f_X11_draw G H34_7 (aDrs (x34_3_7).toNat (aPush A)) (P (P 0 10).toNat 7) ⟨by have q0 := bx_28_7 (o := (P 0 10).toNat) hB (bk_0_10 hB); (clear hb hx7 gc1_m k4 k6; omega), by have q0 := bx_28_7 (o := (P 0 10).toNat) hB (bk_0_10 hB); (clear hb hx7 gc1_m k4 k6; omega)⟩ hB34_7 (iv76) _ (fun rc78 hc78 Pc78 hBc78 hFc78 gc78_d2 ec78_0 => ⟨rc78, rfl, ?_⟩)) cf_X11_draw t_1283 rfl (show kx 0 0 from (⟨by decide, rfl⟩ : kx 0 0)).1 ((show kx 0 0 from (⟨by decide, rfl⟩ : kx 0 0)).sh rfl) rfl rfl (Nat.le_of_ble_eq_true rfl) (by decide) rfl dX11_chance_48
            have hdr9 : rc78 = drw ((aDrs (x34_3_7).toNat (aPush A)) 0 5) / 64 % M 0 1 := by have q := gc78_d2; have q3 := q.resolve_left (by (clear hb gc1_m k4 k6 gc78_d2; omega)); rw [q3]; congr 1; (clear hb gc1_m k4 k6 gc78_d2; omega)
            refine g_vI (av := [vI rc78]) (o := 0) (st := []) (f_X11_runRow G Pc78 (up (aDrs (x34_3_7).toNat (aPush A)) 0 5 (drw ((aDrs (x34_3_7).toNat (aPush A)) 0 5))) K M F rc78 ⟨by (clear hb hx7 gc1_m k4 k6 gc78_d2; omega), by (clear hb hx7 gc1_m k4 k6 gc78_d2; omega)⟩ hBc78 (by rw [up_k (by decide)]; (clear hb hx7 gc1_m k4 k6 gc78_d2; omega)) p_aw p_av p_az (((GA.drs _ (p_ga.push p_wa)).u0 (Or.inr (Or.inl rfl)))) p_gw (by rw [hdr9]; exact Int.emod_nonneg _ (by (clear hb hx7 gc1_m k4 k6 gc78_d2; omega))) (ec78_0) ((XTB.fr (F := ([(0, 14), (5, 2), (14, 1), (14, 2), (14, 3), (16, 5), (16, 6), (16, 7), (51, 12), (51, 14)], [6, 15, 17, 18, 19, 21])) z1 (FrX.c (FrX.c (FrX.c FrX.rf hFc7 rfl) hE34_7 rfl) hFc78 rfl) rfl)) ((XZT.fr (F := ([(0, 14), (5, 2), (14, 1), (14, 2), (14, 3), (16, 5), (16, 6), (16, 7), (51, 12), (51, 14)], [6, 15, 17, 18, 19, 21])) z2 (FrX.c (FrX.c (FrX.c FrX.rf hFc7 rfl) hE34_7 rfl) hFc78 rfl) rfl)) ((XFT.fr z3 (show FrX ([(0, 14), (5, 2), (14, 1), (14, 2), (14, 3), (16, 5), (16, 6), (16, 7), (51, 12), (51, 14)], [6, 15, 17, 18, 19, 21]) _ _ from (FrX.c (FrX.c (FrX.c FrX.rf hFc7 rfl) hE34_7 rfl) hFc78 rfl)) rfl)) _ (fun rc79 hc79 Pc79 hBc79 hFc79 gc79_tk ec79_0 => ⟨rc79, rfl, ?_⟩)) cf_X11_runRow t_1266 rfl (show kx 0 0 from (⟨by decide, rfl⟩ : kx 0 0)).1 ((show kx 0 0 from (⟨by decide, rfl⟩ : kx 0 0)).sh rfl) rfl rfl (Nat.le_of_ble_eq_true rfl) (by decide) rfl dX11_chance_51
            have hch9 : AX (aDrs (x34_3_7 + 1).toNat (aPush A)) Pc79 := by
              rw [show (x34_3_7 + 1).toNat = (x34_3_7).toNat + 1 by (clear hb hx7 gc1_m k4 k6 gc78_d2; omega)]
              have q := ec79_0
              rw [up_k (by decide)] at q
              exact q
            have htk9 := gc79_tk
            rw [tak_drs, hdr9] at htk9
            refine g_iconst dX11_chance_54 ?_
            refine g_icmp_ne (tgt := 61) dX11_chance_55 (by decide) ⟨by (clear hb hx7 gc1_m k4 k6 gc78_d2; omega), by (clear hb hx7 gc1_m k4 k6 gc78_d2; omega)⟩ (by decide) (fun k80 => ?_) (fun k80 => ?_)
            · skip
              skip
              have hch8 : x34_2_7 = chN K M F (aPush A) (x34_3_7 + 1).toNat := by
                rw [show (x34_3_7 + 1).toNat = (x34_3_7).toNat + 1 by (clear hb hx7 gc1_m k4 k6 gc78_d2 k80; omega)]
                show _ = chN K M F (aPush A) (x34_3_7).toNat + (if tak K M F (aPush A) (aPush A 0 1) (drw (aDrs (x34_3_7).toNat (aPush A) 0 5) / 64 % M 0 1) = -1 then 1 else 0)
                rw [← hcN9]
                first
                | (rw [if_pos (by (first | (clear hb hx7 gc1_m k4 k6 gc78_d2 k80; omega) | (clear hb hx7 gc1_m k4 k6 gc78_d2; omega) | (clear hb hx7 gc1_m k4 k6 k80; omega) | (clear hb hx7 gc1_m k4 gc78_d2 k80; omega) | (clear hb hx7 gc1_m k6 gc78_d2 k80; omega) | (clear hb hx7 k4 k6 gc78_d2 k80; omega) | (clear hb gc1_m k4 k6 gc78_d2 k80; omega) | (clear hx7 gc1_m k4 k6 gc78_d2 k80; omega) | (clear hb hx7 gc1_m k4 k6; omega) | (clear gc1_m hx7 hb; omega) | omega))])
                | (rw [if_neg (by (clear hb hx7 gc1_m k4 k6 gc78_d2; omega)), Int.add_zero])
              refine g_iinc (l1 := [(3, vI (x34_3_7 + 1)), (0, vR 0), (1, vI a1), (2, vI x34_2_7)]) dX11_chance_61 rfl (by decide) rfl ?_
              refine g_goto (tgt := 34) dX11_chance_64 (by decide) ?_
              refine g_forget (l1 := [(0, vR 0), (1, vI a1), (2, vI x34_2_7), (3, vI (x34_3_7 + 1))]) (by intro q hq; simp only [List.mem_cons, List.not_mem_nil, or_false] at hq ⊢; rcases hq with rfl | rfl | rfl | rfl <;> simp) ?_
              exact ih34_7 (x34_3_7 + 1) ⟨by (clear hb hx7 gc1_m k4 k6 gc78_d2 k80; omega), by (omega)⟩ x34_2_7 ⟨by (clear hb hx7 gc1_m k4 k6 gc78_d2 k80; omega), by (clear hb hx7 gc1_m k4 k6 gc78_d2 k80; omega)⟩ _ hBc79 (FrX.c (FrX.c (FrX.c FrX.rf hE34_7 rfl) hFc78 rfl) hFc79 rfl) (by (clear hb hx7 gc1_m k4 k6 gc78_d2 k80; omega)) (by first | exact hch9 | exact (by first | (rw [show (aPush A) = (up (up (aDrs (x34_3_7).toNat (aPush A)) 0 5 (drw ((aDrs (x34_3_7).toNat (aPush A)) 0 5))) 0 3 ((up (aDrs (x34_3_7).toNat (aPush A)) 0 5 (drw ((aDrs (x34_3_7).toNat (aPush A)) 0 5))) 0 3 + 1)) by (first | (clear hb hx7 gc1_m k4 k6 gc78_d2 k80; omega) | (clear hb hx7 gc1_m k4 k6 gc78_d2; omega) | (clear hb hx7 gc1_m k4 k6 k80; omega) | (clear hb hx7 gc1_m k4 gc78_d2 k80; omega) | (clear hb hx7 gc1_m k6 gc78_d2 k80; omega) | (clear hb hx7 k4 k6 gc78_d2 k80; omega) | (clear hb gc1_m k4 k6 gc78_d2 k80; omega) | (clear hx7 gc1_m k4 k6 gc78_d2 k80; omega) | (clear hb hx7 gc1_m k4 k6; omega) | (clear gc1_m hx7 hb; omega) | omega)]; exact ec79_0))) (by (clear hb hx7 gc1_m k4 k6 gc78_d2 k80; omega)) (by first | exact hch8 | rfl) (by (clear hb hx7 gc1_m k4 k6 gc78_d2 k80; omega)) (by (clear hb hx7 gc1_m k4 k6 gc78_d2 k80; omega))
            · skip
              skip
              refine g_iinc (l1 := [(2, vI (x34_2_7 + 1)), (0, vR 0), (1, vI a1), (3, vI x34_3_7)]) dX11_chance_58 rfl (by decide) rfl ?_
              have hch8 : (x34_2_7 + 1) = chN K M F (aPush A) (x34_3_7 + 1).toNat := by
                rw [show (x34_3_7 + 1).toNat = (x34_3_7).toNat + 1 by (clear hb hx7 gc1_m k4 k6 gc78_d2 k80; omega)]
                show _ = chN K M F (aPush A) (x34_3_7).toNat + (if tak K M F (aPush A) (aPush A 0 1) (drw (aDrs (x34_3_7).toNat (aPush A) 0 5) / 64 % M 0 1) = -1 then 1 else 0)
                rw [← hcN9]
                first
                | (rw [if_pos (by (clear hb hx7 gc1_m k4 k6 gc78_d2; omega))])
                | (rw [if_neg (by (first | (clear hb hx7 gc1_m k4 k6 gc78_d2 k80; omega) | (clear hb hx7 gc1_m k4 k6 gc78_d2; omega) | (clear hb hx7 gc1_m k4 k6 k80; omega) | (clear hb hx7 gc1_m k4 gc78_d2 k80; omega) | (clear hb hx7 gc1_m k6 gc78_d2 k80; omega) | (clear hb hx7 k4 k6 gc78_d2 k80; omega) | (clear hb gc1_m k4 k6 gc78_d2 k80; omega) | (clear hx7 gc1_m k4 k6 gc78_d2 k80; omega) | (clear hb hx7 gc1_m k4 k6; omega) | (clear gc1_m hx7 hb; omega) | omega)), Int.add_zero])
              refine g_iinc (l1 := [(3, vI (x34_3_7 + 1)), (2, vI (x34_2_7 + 1)), (0, vR 0), (1, vI a1)]) dX11_chance_61 rfl (by decide) rfl ?_
              refine g_goto (tgt := 34) dX11_chance_64 (by decide) ?_
              refine g_forget (l1 := [(0, vR 0), (1, vI a1), (2, vI (x34_2_7 + 1)), (3, vI (x34_3_7 + 1))]) (by intro q hq; simp only [List.mem_cons, List.not_mem_nil, or_false] at hq ⊢; rcases hq with rfl | rfl | rfl | rfl <;> simp) ?_
              exact ih34_7 (x34_3_7 + 1) ⟨by (clear hb hx7 gc1_m k4 k6 gc78_d2 k80; omega), by (omega)⟩ (x34_2_7 + 1) ⟨by (clear hb hx7 gc1_m k4 k6 gc78_d2 k80; omega), by (omega)⟩ _ hBc79 (FrX.c (FrX.c (FrX.c FrX.rf hE34_7 rfl) hFc78 rfl) hFc79 rfl) (by (clear hb hx7 gc1_m k4 k6 gc78_d2 k80; omega)) (by first | exact hch9 | exact (by first | (rw [show (aPush A) = (up (up (aDrs (x34_3_7).toNat (aPush A)) 0 5 (drw ((aDrs (x34_3_7).toNat (aPush A)) 0 5))) 0 3 ((up (aDrs (x34_3_7).toNat (aPush A)) 0 5 (drw ((aDrs (x34_3_7).toNat (aPush A)) 0 5))) 0 3 + 1)) by (first | (clear hb hx7 gc1_m k4 k6 gc78_d2 k80; omega) | (clear hb hx7 gc1_m k4 k6 gc78_d2; omega) | (clear hb hx7 gc1_m k4 k6 k80; omega) | (clear hb hx7 gc1_m k4 gc78_d2 k80; omega) | (clear hb hx7 gc1_m k6 gc78_d2 k80; omega) | (clear hb hx7 k4 k6 gc78_d2 k80; omega) | (clear hb gc1_m k4 k6 gc78_d2 k80; omega) | (clear hx7 gc1_m k4 k6 gc78_d2 k80; omega) | (clear hb hx7 gc1_m k4 k6; omega) | (clear gc1_m hx7 hb; omega) | omega)]; exact ec79_0))) (by (clear hb hx7 gc1_m k4 k6 gc78_d2 k80; omega)) (by first | exact hch8 | rfl) (by (clear hb hx7 gc1_m k4 k6 gc78_d2 k80; omega)) (by (clear hb hx7 gc1_m k4 k6 gc78_d2 k80; omega))
        refine g_forget (l1 := [(0, vR 0), (1, vI a1), (2, vI 0), (3, vI 0)]) (by intro q hq; simp only [List.mem_cons, List.not_mem_nil, or_false] at hq ⊢; rcases hq with rfl | rfl | rfl | rfl <;> simp) ?_
        exact L34_7 _ 0 (by decide) 0 (by decide) _ hBc7 FrX.rf (by (clear hb hx7 gc1_m k4 k6; omega)) (by first | exact hch9 | exact ec7_0) (by (clear hb hx7 gc1_m k6; omega)) (by first | exact hch8 | rfl) (by (clear hb hx7 gc1_m k4 k6; omega)) (Nat.lt_succ_self _)
      · skip
        refine g_aload_n dX11_chance_18 rfl ?_
        refine g_iconst dX11_chance_19 ?_
        refine g_vI (av := [vI 2]) (o := 0) (st := []) (m_X11_refuse G P 2 (by decide) hB  _ (fun rc81 hc81 Pc81 hBc81 hFc81 => ⟨rc81, rfl, ?_⟩)) cf_X11_refuse t_663 rfl (show kx 0 0 from (⟨by decide, rfl⟩ : kx 0 0)).1 ((show kx 0 0 from (⟨by decide, rfl⟩ : kx 0 0)).sh rfl) rfl rfl (Nat.le_of_ble_eq_true rfl) (by decide) rfl dX11_chance_20
        refine g_pop dX11_chance_23 rfl ?_
        refine g_iconst dX11_chance_24 ?_
        exact g_retI dX11_chance_25 rfl (hQ (-1) (by decide) _ hBc81 (FrX.c FrX.rf hFc81 rfl) (by rw [chR_n (by (clear hb hx7 gc1_m k4; omega))]) (by rw [aCha_n (by (clear hb hx7 gc1_m k4; omega))]; exact (AX.fr (F := ([], [27])) z0 (FrX.c FrX.rf hFc81 rfl) rfl)))
/-! What the class answers: X9_isRow. -/
set_option maxRecDepth 100000 in
set_option maxHeartbeats 4000000 in
theorem f_X9_isRow (G : GT) (P : PH) (o0 : Nat) (a1 : Int) (k_o0 : kx o0 28) (h_a1 : (-2147483648) ≤ a1 ∧ a1 ≤ 2147483647) (hB : BdX P) (Q : Option PV → PH → Prop) (hQ : ∀ (r : Int) (_ : 0 ≤ r ∧ r ≤ 1) (_ : r = 0 ∨ (0 ≤ a1 ∧ a1 < P o0 7)) (_ : (r = 1 ∧ 0 ≤ a1 ∧ a1 < P o0 7) ∨ (r = 0 ∧ (a1 < 0 ∨ P o0 7 ≤ a1))), Q (some (vI r)) P) : Ct WSX G 1 iX9_isRow [vR o0, vI a1] P Q := by
  refine Ct.of (by decide) (l0 := [(0, vR o0), (1, vI a1)]) rfl (Nat.le_of_ble_eq_true rfl) ?_
  refine g_iload_n dX9_isRow_0 rfl ?_
  refine g_if_lt (tgt := 16) dX9_isRow_1 (by decide) ⟨by omega, by omega⟩ (fun k1 => ?_) (fun k1 => ?_)
  · refine g_iconst dX9_isRow_16 ?_
    exact g_retZ dX9_isRow_17 rfl (by decide) (hQ 0 (by decide) (by (first | (clear k1; omega) | omega)) (by (first | (clear k1; omega) | omega)))
  · refine g_iload_n dX9_isRow_4 rfl ?_
    refine g_aload_n dX9_isRow_5 rfl ?_
    refine x_g28_7 (z := (P o0 7)) k_o0 ffX9_43 dX9_isRow_6 rfl ?_
    have f2 := bx_28_7 (o := o0) hB k_o0
    refine g_icmp_ge (tgt := 16) dX9_isRow_9 (by decide) ⟨by (first | (clear k1; omega) | omega), by (first | (clear k1; omega) | omega)⟩ ⟨by have q0 := bx_28_7 (o := o0) hB k_o0; (first | (clear k1; omega) | omega), by have q0 := bx_28_7 (o := o0) hB k_o0; (first | (clear k1; omega) | omega)⟩ (fun k3 => ?_) (fun k3 => ?_)
    · refine g_iconst dX9_isRow_16 ?_
      exact g_retZ dX9_isRow_17 rfl (by decide) (hQ 0 (by decide) (by (first | (clear k1 k3; omega) | (clear k1; omega) | (clear k3; omega) | omega)) (by (first | (clear k1 k3; omega) | (clear k1; omega) | (clear k3; omega) | omega)))
    · refine g_iconst dX9_isRow_12 ?_
      refine g_goto (tgt := 17) dX9_isRow_13 (by decide) ?_
      exact g_retZ dX9_isRow_17 rfl (by decide) (hQ 1 (by decide) (by (first | (clear k1 k3; omega) | (clear k1; omega) | (clear k3; omega) | omega)) (by (first | (clear k1 k3; omega) | (clear k1; omega) | (clear k3; omega) | omega)))
/-! What the class answers: X11_run. -/
set_option maxRecDepth 100000 in
set_option maxHeartbeats 4000000 in
theorem f_X11_run (G : GT) (P : PH) (A : PH) (k : Int) (K : PH) (M : PH) (F : FT) (a1 : Int) (h_a1 : (-2147483648) ≤ a1 ∧ a1 ≤ 2147483647) (hB : BdX P) (p_wa : WA k A) (p_wm : 0 < M 0 0 ∨ M 0 1 ≤ 0) (p_k5 : k ≤ 600) (p_aw : AW K) (p_av : AV K M) (p_az : AZ K M) (p_ga : GA M A) (p_gw : GW M) (z0 : AX A P) (z1 : XTB K M P) (z2 : XZT K M P) (z3 : XFT K M F P) (Q : Option PV → PH → Prop) (hQ : ∀ (r : Int) (_ : (-2147483648) ≤ r ∧ r ≤ 2147483647) (P1 : PH) (_ : BdX P1) (_ : FrX ([(5, 2), (14, 1), (14, 2), (14, 3), (16, 5), (16, 6), (16, 7), (51, 12), (51, 14)], [6, 15, 17, 18, 19, 21, 27]) P P1) (_ : r = tkR K M F A a1) (_ : AX (aRun A M a1) P1), Q (some (vI r)) P1) : Ct WSX G 7 iX11_run [vR 0, vI a1] P Q := by
  refine Ct.of (by decide) (l0 := [(0, vR 0), (1, vI a1)]) rfl (Nat.le_of_ble_eq_true rfl) ?_
  have hb := z0.b
  have hp3 := aPush_0 A 3 (by decide)
  have hx7 := z1.2.b
  have hw3 := p_wa.2.2.1
  have hav := p_av
  refine g_aload_n dX11_run_0 rfl ?_
  refine x_g0_10 (n := (P 0 10).toNat) (⟨by decide, rfl⟩ : kx 0 0) ffX11_71 dX11_run_1 (br_0_10 hB) ?_
  refine g_iload_n dX11_run_4 rfl ?_
  refine g_vI (av := [vI a1]) (o := (P 0 10).toNat) (st := []) (f_X9_isRow G P (P 0 10).toNat a1 (bk_0_10 hB) ⟨by (first | (clear p_wm hb hx7; omega) | omega), by (first | (clear p_wm hb hx7; omega) | omega)⟩ hB  _ (fun rc1 hc1 gc1_k gc1_f => ⟨rc1, rfl, ?_⟩)) cf_X9_isRow t_1014 rfl (show kx (P 0 10).toNat 28 from (bk_0_10 hB)).1 ((show kx (P 0 10).toNat 28 from (bk_0_10 hB)).sh rfl) rfl rfl (Nat.le_of_ble_eq_true rfl) (by decide) rfl dX11_run_5
  have f2 := bx_28_7 (o := (P 0 10).toNat) hB (bk_0_10 hB)
  refine g_if_ne (tgt := 19) dX11_run_8 (by decide) ⟨by (first | (clear p_wm hb hx7 gc1_k gc1_f; omega) | omega), by (first | (clear p_wm hb hx7 gc1_k gc1_f; omega) | omega)⟩ (fun k3 => ?_) (fun k3 => ?_)
  · have k3n : 1 ≤ rc1 := by (first | (clear p_wm hb hx7 gc1_k gc1_f k3; omega) | (clear p_wm hb hx7 gc1_k gc1_f; omega) | (clear p_wm hb hx7 gc1_k k3; omega) | (clear p_wm hb hx7 gc1_f k3; omega) | (clear p_wm hb gc1_k gc1_f k3; omega) | (clear p_wm hx7 gc1_k gc1_f k3; omega) | (clear hb hx7 gc1_k gc1_f k3; omega) | (clear p_wm hb hx7 gc1_k; omega) | (clear hb p_wm; omega) | omega)
    clear k3
    first | (revert r_gc1_f; intro r_gc1_f) | have r_gc1_f := (gc1_f.resolve_right (by (clear p_wm hb hx7 gc1_k gc1_f; omega))) | have r_gc1_f := (gc1_f.resolve_left (by (clear p_wm hb hx7 gc1_k gc1_f; omega))) | skip
    first | (revert r_gc1_k; intro r_gc1_k) | have r_gc1_k := (gc1_k.resolve_right (by (clear p_wm hb hx7 gc1_k gc1_f; omega))) | have r_gc1_k := (gc1_k.resolve_left (by (clear p_wm hb hx7 gc1_k gc1_f; omega))) | skip
    first | (revert r_p_wm; intro r_p_wm) | have r_p_wm := (p_wm.resolve_right (by (clear p_wm hb hx7 gc1_k gc1_f; omega))) | have r_p_wm := (p_wm.resolve_left (by (clear p_wm hb hx7 gc1_k gc1_f; omega))) | skip
    refine g_aload_n dX11_run_19 rfl ?_
    refine g_vV (av := []) (o := 0) (st := []) (f_X11_remember G P A k  hB p_wa (z0) _ (fun Pc4 hBc4 hFc4 ec4_0 => ⟨rfl, ?_⟩)) cf_X11_remember t_1254 rfl (show kx 0 0 from (⟨by decide, rfl⟩ : kx 0 0)).1 ((show kx 0 0 from (⟨by decide, rfl⟩ : kx 0 0)).sh rfl) rfl rfl (Nat.le_of_ble_eq_true rfl) (by decide) rfl dX11_run_20
    refine g_aload_n dX11_run_23 rfl ?_
    refine g_iload_n dX11_run_24 rfl ?_
    refine g_vI (av := [vI a1]) (o := 0) (st := []) (f_X11_runRow G Pc4 (aPush A) K M F a1 ⟨by (first | (clear p_wm hb hx7 gc1_k gc1_f; omega) | omega), by (first | (clear p_wm hb hx7 gc1_k gc1_f; omega) | omega)⟩ hBc4 (by (first | (clear p_wm hb hx7 gc1_k gc1_f; omega) | (clear p_wm hb hx7 gc1_k; omega) | (clear p_wm hb hx7 gc1_f; omega) | (clear p_wm hb gc1_k gc1_f; omega) | (clear p_wm hx7 gc1_k gc1_f; omega) | (clear hb hx7 gc1_k gc1_f; omega) | (clear p_wm hb hx7; omega) | (clear p_wm; omega) | omega)) p_aw p_av p_az (p_ga.push p_wa) p_gw (by (first | (clear p_wm hb hx7 gc1_k gc1_f; omega) | (clear p_wm hb hx7 gc1_k; omega) | (clear p_wm hb hx7 gc1_f; omega) | (clear p_wm hb gc1_k gc1_f; omega) | (clear p_wm hx7 gc1_k gc1_f; omega) | (clear hb hx7 gc1_k gc1_f; omega) | (clear p_wm hb hx7; omega) | (clear p_wm; omega) | omega)) (ec4_0) ((XTB.fr (F := ([(14, 1), (14, 2), (14, 3), (16, 6), (16, 7)], [15, 21])) z1 (FrX.c FrX.rf hFc4 rfl) rfl)) ((XZT.fr (F := ([(14, 1), (14, 2), (14, 3), (16, 6), (16, 7)], [15, 21])) z2 (FrX.c FrX.rf hFc4 rfl) rfl)) ((XFT.fr z3 (show FrX ([(14, 1), (14, 2), (14, 3), (16, 6), (16, 7)], [15, 21]) _ _ from (FrX.c FrX.rf hFc4 rfl)) rfl)) _ (fun rc5 hc5 Pc5 hBc5 hFc5 gc5_tk ec5_0 => ⟨rc5, rfl, ?_⟩)) cf_X11_runRow t_1266 rfl (show kx 0 0 from (⟨by decide, rfl⟩ : kx 0 0)).1 ((show kx 0 0 from (⟨by decide, rfl⟩ : kx 0 0)).sh rfl) rfl rfl (Nat.le_of_ble_eq_true rfl) (by decide) rfl dX11_run_25
    have htk9 := gc5_tk
    rw [tak_push] at htk9
    exact g_retI dX11_run_28 rfl (hQ rc5 ⟨by (first | (clear p_wm hb hx7 gc1_k gc1_f; omega) | omega), by (first | (clear p_wm hb hx7 gc1_k gc1_f; omega) | omega)⟩ _ hBc5 (FrX.c (FrX.c FrX.rf hFc4 rfl) hFc5 rfl) (by rw [tkR_y ⟨by (first | (clear p_wm hb hx7 gc1_k gc1_f; omega) | (clear p_wm hb hx7 gc1_k; omega) | (clear p_wm hb hx7 gc1_f; omega) | (clear p_wm hb gc1_k gc1_f; omega) | (clear p_wm hx7 gc1_k gc1_f; omega) | (clear hb hx7 gc1_k gc1_f; omega) | (clear p_wm hb hx7; omega) | (clear p_wm; omega) | omega), by (first | (clear p_wm hb hx7 gc1_k gc1_f; omega) | (clear p_wm hb hx7 gc1_k; omega) | (clear p_wm hb hx7 gc1_f; omega) | (clear p_wm hb gc1_k gc1_f; omega) | (clear p_wm hx7 gc1_k gc1_f; omega) | (clear hb hx7 gc1_k gc1_f; omega) | (clear p_wm hb hx7; omega) | (clear p_wm; omega) | omega), by (first | (clear p_wm hb hx7 gc1_k gc1_f; omega) | (clear p_wm hb hx7 gc1_k; omega) | (clear p_wm hb hx7 gc1_f; omega) | (clear p_wm hb gc1_k gc1_f; omega) | (clear p_wm hx7 gc1_k gc1_f; omega) | (clear hb hx7 gc1_k gc1_f; omega) | (clear p_wm hb hx7; omega) | (clear p_wm; omega) | omega)⟩]; exact htk9) (by rw [aRun_y ⟨by (first | (clear p_wm hb hx7 gc1_k gc1_f; omega) | (clear p_wm hb hx7 gc1_k; omega) | (clear p_wm hb hx7 gc1_f; omega) | (clear p_wm hb gc1_k gc1_f; omega) | (clear p_wm hx7 gc1_k gc1_f; omega) | (clear hb hx7 gc1_k gc1_f; omega) | (clear p_wm hb hx7; omega) | (clear p_wm; omega) | omega), by (first | (clear p_wm hb hx7 gc1_k gc1_f; omega) | (clear p_wm hb hx7 gc1_k; omega) | (clear p_wm hb hx7 gc1_f; omega) | (clear p_wm hb gc1_k gc1_f; omega) | (clear p_wm hx7 gc1_k gc1_f; omega) | (clear hb hx7 gc1_k gc1_f; omega) | (clear p_wm hb hx7; omega) | (clear p_wm; omega) | omega), by (first | (clear p_wm hb hx7 gc1_k gc1_f; omega) | (clear p_wm hb hx7 gc1_k; omega) | (clear p_wm hb hx7 gc1_f; omega) | (clear p_wm hb gc1_k gc1_f; omega) | (clear p_wm hx7 gc1_k gc1_f; omega) | (clear hb hx7 gc1_k gc1_f; omega) | (clear p_wm hb hx7; omega) | (clear p_wm; omega) | omega)⟩, ← hp3]; exact ec5_0))
  · first | (revert r_gc1_f; intro r_gc1_f) | have r_gc1_f := (gc1_f.resolve_right (by (clear p_wm hb hx7 gc1_k gc1_f k3; omega))) | have r_gc1_f := (gc1_f.resolve_left (by (clear p_wm hb hx7 gc1_k gc1_f k3; omega))) | skip
    first | (revert r_gc1_k; intro r_gc1_k) | have r_gc1_k := (gc1_k.resolve_right (by (clear p_wm hb hx7 gc1_k gc1_f k3; omega))) | have r_gc1_k := (gc1_k.resolve_left (by (clear p_wm hb hx7 gc1_k gc1_f k3; omega))) | skip
    first | (revert r_p_wm; intro r_p_wm) | have r_p_wm := (p_wm.resolve_right (by (clear p_wm hb hx7 gc1_k gc1_f k3; omega))) | have r_p_wm := (p_wm.resolve_left (by (clear p_wm hb hx7 gc1_k gc1_f k3; omega))) | skip
    refine g_aload_n dX11_run_11 rfl ?_
    refine g_iconst dX11_run_12 ?_
    refine g_vI (av := [vI 2]) (o := 0) (st := []) (m_X11_refuse G P 2 (by decide) hB  _ (fun rc6 hc6 Pc6 hBc6 hFc6 => ⟨rc6, rfl, ?_⟩)) cf_X11_refuse t_663 rfl (show kx 0 0 from (⟨by decide, rfl⟩ : kx 0 0)).1 ((show kx 0 0 from (⟨by decide, rfl⟩ : kx 0 0)).sh rfl) rfl rfl (Nat.le_of_ble_eq_true rfl) (by decide) rfl dX11_run_13
    refine g_pop dX11_run_16 rfl ?_
    refine g_iconst dX11_run_17 ?_
    exact g_retI dX11_run_18 rfl (hQ (-1) (by decide) _ hBc6 (FrX.c FrX.rf hFc6 rfl) (by rw [tkR_n (by (first | (clear p_wm hb hx7 gc1_k gc1_f k3; omega) | (clear p_wm hb hx7 gc1_k gc1_f; omega) | (clear p_wm hb hx7 gc1_k k3; omega) | (clear p_wm hb hx7 gc1_f k3; omega) | (clear p_wm hb gc1_k gc1_f k3; omega) | (clear p_wm hx7 gc1_k gc1_f k3; omega) | (clear hb hx7 gc1_k gc1_f k3; omega) | (clear p_wm hb hx7 gc1_k; omega) | (clear hb p_wm; omega) | omega))]) (by rw [aRun_n (by (first | (clear p_wm hb hx7 gc1_k gc1_f k3; omega) | (clear p_wm hb hx7 gc1_k gc1_f; omega) | (clear p_wm hb hx7 gc1_k k3; omega) | (clear p_wm hb hx7 gc1_f k3; omega) | (clear p_wm hb gc1_k gc1_f k3; omega) | (clear p_wm hx7 gc1_k gc1_f k3; omega) | (clear hb hx7 gc1_k gc1_f k3; omega) | (clear p_wm hb hx7 gc1_k; omega) | (clear hb p_wm; omega) | omega))]; exact (AX.fr (F := ([], [27])) z0 (FrX.c FrX.rf hFc6 rfl) rfl)))
/-! What the class answers: X11_taken. -/
set_option maxRecDepth 100000 in
set_option maxHeartbeats 4000000 in
theorem f_X11_taken (G : GT) (P : PH) (K : PH) (M : PH) (F : FT) (A : PH) (a1 : Int) (h_a1 : (-2147483648) ≤ a1 ∧ a1 ≤ 2147483647) (hB : BdX P) (p_aw : AW K) (p_av : AV K M) (p_az : AZ K M) (p_ga : GA M A) (p_gw : GW M) (p_wm : 0 < M 0 0 ∨ M 0 1 ≤ 0) (z0 : AX A P) (z1 : XTB K M P) (z2 : XZT K M P) (z3 : XFT K M F P) (Q : Option PV → PH → Prop) (hQ : ∀ (r : Int) (_ : (-2147483648) ≤ r ∧ r ≤ 2147483647) (_ : r = tkR K M F A a1), Q (some (vI r)) P) : Ct WSX G 3 iX11_taken [vR 0, vI a1] P Q := by
  refine Ct.of (by decide) (l0 := [(0, vR 0), (1, vI a1)]) rfl (Nat.le_of_ble_eq_true rfl) ?_
  have hb := z0.b
  have hx7 := z1.2.b
  have hav := p_av
  have iv1 : XM M (P 0 10).toNat P := z1.2
  have iv2 : XZ K M (P 0 10).toNat P := z2
  have iv3 : XFb K M F (P 0 10).toNat P := z3
  refine g_aload_n dX11_taken_0 rfl ?_
  refine x_g0_10 (n := (P 0 10).toNat) (⟨by decide, rfl⟩ : kx 0 0) ffX11_71 dX11_taken_1 (br_0_10 hB) ?_
  refine g_iload_n dX11_taken_4 rfl ?_
  refine g_vI (av := [vI a1]) (o := (P 0 10).toNat) (st := []) (f_X9_isRow G P (P 0 10).toNat a1 (bk_0_10 hB) ⟨by (first | (clear p_wm hb hx7; omega) | omega), by (first | (clear p_wm hb hx7; omega) | omega)⟩ hB  _ (fun rc4 hc4 gc4_k gc4_f => ⟨rc4, rfl, ?_⟩)) cf_X9_isRow t_1014 rfl (show kx (P 0 10).toNat 28 from (bk_0_10 hB)).1 ((show kx (P 0 10).toNat 28 from (bk_0_10 hB)).sh rfl) rfl rfl (Nat.le_of_ble_eq_true rfl) (by decide) rfl dX11_taken_5
  have f5 := bx_28_7 (o := (P 0 10).toNat) hB (bk_0_10 hB)
  refine g_if_ne (tgt := 13) dX11_taken_8 (by decide) ⟨by (first | (clear p_wm hb hx7 gc4_k gc4_f; omega) | omega), by (first | (clear p_wm hb hx7 gc4_k gc4_f; omega) | omega)⟩ (fun k6 => ?_) (fun k6 => ?_)
  · have k6n : 1 ≤ rc4 := by (first | (clear p_wm hb hx7 gc4_k gc4_f k6; omega) | (clear p_wm hb hx7 gc4_k gc4_f; omega) | (clear p_wm hb hx7 gc4_k k6; omega) | (clear p_wm hb hx7 gc4_f k6; omega) | (clear p_wm hb gc4_k gc4_f k6; omega) | (clear p_wm hx7 gc4_k gc4_f k6; omega) | (clear hb hx7 gc4_k gc4_f k6; omega) | (clear p_wm hb hx7 gc4_k; omega) | (clear hb p_wm; omega) | omega)
    clear k6
    first | (revert r_gc4_f; intro r_gc4_f) | have r_gc4_f := (gc4_f.resolve_right (by (clear p_wm hb hx7 gc4_k gc4_f; omega))) | have r_gc4_f := (gc4_f.resolve_left (by (clear p_wm hb hx7 gc4_k gc4_f; omega))) | skip
    first | (revert r_gc4_k; intro r_gc4_k) | have r_gc4_k := (gc4_k.resolve_right (by (clear p_wm hb hx7 gc4_k gc4_f; omega))) | have r_gc4_k := (gc4_k.resolve_left (by (clear p_wm hb hx7 gc4_k gc4_f; omega))) | skip
    first | (revert r_p_wm; intro r_p_wm) | have r_p_wm := (p_wm.resolve_right (by (clear p_wm hb hx7 gc4_k gc4_f; omega))) | have r_p_wm := (p_wm.resolve_left (by (clear p_wm hb hx7 gc4_k gc4_f; omega))) | skip
    refine g_aload_n dX11_taken_13 rfl ?_
    refine x_g0_5 (n := 14) (⟨by decide, rfl⟩ : kx 0 0) ffX11_43 dX11_taken_14 rfl ?_
    refine g_aload_n dX11_taken_17 rfl ?_
    refine x_g0_10 (n := (P 0 10).toNat) (⟨by decide, rfl⟩ : kx 0 0) ffX11_71 dX11_taken_18 (br_0_10 hB) ?_
    refine g_aload_n dX11_taken_21 rfl ?_
    refine x_g0_10 (n := (P 0 10).toNat) (⟨by decide, rfl⟩ : kx 0 0) ffX11_71 dX11_taken_22 (br_0_10 hB) ?_
    refine g_iload_n dX11_taken_25 rfl ?_
    refine g_vI (av := [vI a1]) (o := (P 0 10).toNat) (st := [vR (P 0 10).toNat, vR 14]) (f_X9_armsOf G P K M F (P 0 10).toNat a1 (bk_0_10 hB) ⟨by (first | (clear p_wm hb hx7 gc4_k gc4_f; omega) | omega), by (first | (clear p_wm hb hx7 gc4_k gc4_f; omega) | omega)⟩ hB p_aw (p_av) (p_az.1) (by (first | (clear p_wm hb hx7 gc4_k gc4_f; omega) | (clear p_wm hb hx7 gc4_k; omega) | (clear p_wm hb hx7 gc4_f; omega) | (clear p_wm hb gc4_k gc4_f; omega) | (clear p_wm hx7 gc4_k gc4_f; omega) | (clear hb hx7 gc4_k gc4_f; omega) | (clear p_wm hb hx7; omega) | (clear p_wm; omega) | omega)) (iv1) (iv2) (iv3) _ (fun rc7 hc7 gc7_b gc7_ao => ⟨rc7, rfl, ?_⟩)) cf_X9_armsOf t_1004 rfl (show kx (P 0 10).toNat 28 from (bk_0_10 hB)).1 ((show kx (P 0 10).toNat 28 from (bk_0_10 hB)).sh rfl) rfl rfl (Nat.le_of_ble_eq_true rfl) (by decide) rfl dX11_taken_26
    have hao9 := gc7_ao
    have hab9 := gc7_b
    refine g_aload_n dX11_taken_29 rfl ?_
    refine x_g0_5 (n := 14) (⟨by decide, rfl⟩ : kx 0 0) ffX11_43 dX11_taken_30 rfl ?_
    refine x_g14_2 (z := (P 14 2)) (⟨by decide, rfl⟩ : kx 14 14) ffX11_177 dX11_taken_33 rfl ?_
    have f8 := bx_14_2 (o := 14) hB (⟨by decide, rfl⟩ : kx 14 14)
    refine g_vI (av := [vR (P 0 10).toNat, vI rc7, vI (P 14 2)]) (o := 14) (st := []) (f_X5_placeTaking G P M 14 (P 0 10).toNat rc7 (P 14 2) (⟨by decide, rfl⟩ : kx 14 14) (bk_0_10 hB) ⟨by (first | (clear p_wm hb hx7 gc4_k gc4_f; omega) | omega), by (first | (clear p_wm hb hx7 gc4_k gc4_f; omega) | omega)⟩ ⟨by have q0 := bx_14_2 (o := 14) hB (⟨by decide, rfl⟩ : kx 14 14); (first | (clear p_wm hb hx7 gc4_k gc4_f; omega) | omega), by have q0 := bx_14_2 (o := 14) hB (⟨by decide, rfl⟩ : kx 14 14); (first | (clear p_wm hb hx7 gc4_k gc4_f; omega) | omega)⟩ hB (p_av.2.2.2.1) (p_gw) (fun p p0 p1 => by have e14 : P 14 1 = A 0 0 := z0.b.1; have q := p_ga.1 p p0 (by (first | (clear p_wm hb hx7 gc4_k gc4_f; omega) | (clear p_wm hb hx7 gc4_k; omega) | (clear p_wm hb hx7 gc4_f; omega) | (clear p_wm hb gc4_k gc4_f; omega) | (clear p_wm hx7 gc4_k gc4_f; omega) | (clear hb hx7 gc4_k gc4_f; omega) | (clear p_wm hb hx7; omega) | (clear p_wm; omega) | omega)); have q2 : P (crX 14 0) p = A 1 p := z0.2.1 p p0 (by (first | (clear p_wm hb hx7 gc4_k gc4_f; omega) | (clear p_wm hb hx7 gc4_k; omega) | (clear p_wm hb hx7 gc4_f; omega) | (clear p_wm hb gc4_k gc4_f; omega) | (clear p_wm hx7 gc4_k gc4_f; omega) | (clear hb hx7 gc4_k gc4_f; omega) | (clear p_wm hb hx7; omega) | (clear p_wm; omega) | omega)); rw [q2]; exact q) (hab9) (by have q := p_ga.2.1; (first | (clear p_wm hb hx7 gc4_k gc4_f; omega) | (clear p_wm hb hx7 gc4_k; omega) | (clear p_wm hb hx7 gc4_f; omega) | (clear p_wm hb gc4_k gc4_f; omega) | (clear p_wm hx7 gc4_k gc4_f; omega) | (clear hb hx7 gc4_k gc4_f; omega) | (clear p_wm hb hx7; omega) | (clear p_wm; omega) | omega)) (iv1) _ (fun rc9 hc9 gc9_pt => ⟨rc9, rfl, ?_⟩)) cf_X5_placeTaking t_978 rfl (show kx 14 14 from (⟨by decide, rfl⟩ : kx 14 14)).1 ((show kx 14 14 from (⟨by decide, rfl⟩ : kx 14 14)).sh rfl) rfl rfl (Nat.le_of_ble_eq_true rfl) (by decide) rfl dX11_taken_36
    have htk9 : rc9 = tak K M F A (A 0 1) a1 := by
      have q := gc9_pt
      rw [hb.2.1] at q
      rw [q]
      exact ptk_tak hao9 (fun p p0 p1 => z0.2.1 p p0 p1) p_ga.1 hb.1
    exact g_retI dX11_taken_39 rfl (hQ rc9 ⟨by (first | (clear p_wm hb hx7 gc4_k gc4_f; omega) | omega), by (first | (clear p_wm hb hx7 gc4_k gc4_f; omega) | omega)⟩ (by rw [tkR_y ⟨by (first | (clear p_wm hb hx7 gc4_k gc4_f; omega) | (clear p_wm hb hx7 gc4_k; omega) | (clear p_wm hb hx7 gc4_f; omega) | (clear p_wm hb gc4_k gc4_f; omega) | (clear p_wm hx7 gc4_k gc4_f; omega) | (clear hb hx7 gc4_k gc4_f; omega) | (clear p_wm hb hx7; omega) | (clear p_wm; omega) | omega), by (first | (clear p_wm hb hx7 gc4_k gc4_f; omega) | (clear p_wm hb hx7 gc4_k; omega) | (clear p_wm hb hx7 gc4_f; omega) | (clear p_wm hb gc4_k gc4_f; omega) | (clear p_wm hx7 gc4_k gc4_f; omega) | (clear hb hx7 gc4_k gc4_f; omega) | (clear p_wm hb hx7; omega) | (clear p_wm; omega) | omega), by (first | (clear p_wm hb hx7 gc4_k gc4_f; omega) | (clear p_wm hb hx7 gc4_k; omega) | (clear p_wm hb hx7 gc4_f; omega) | (clear p_wm hb gc4_k gc4_f; omega) | (clear p_wm hx7 gc4_k gc4_f; omega) | (clear hb hx7 gc4_k gc4_f; omega) | (clear p_wm hb hx7; omega) | (clear p_wm; omega) | omega)⟩]; exact htk9))
  · first | (revert r_gc4_f; intro r_gc4_f) | have r_gc4_f := (gc4_f.resolve_right (by (clear p_wm hb hx7 gc4_k gc4_f k6; omega))) | have r_gc4_f := (gc4_f.resolve_left (by (clear p_wm hb hx7 gc4_k gc4_f k6; omega))) | skip
    first | (revert r_gc4_k; intro r_gc4_k) | have r_gc4_k := (gc4_k.resolve_right (by (clear p_wm hb hx7 gc4_k gc4_f k6; omega))) | have r_gc4_k := (gc4_k.resolve_left (by (clear p_wm hb hx7 gc4_k gc4_f k6; omega))) | skip
    first | (revert r_p_wm; intro r_p_wm) | have r_p_wm := (p_wm.resolve_right (by (clear p_wm hb hx7 gc4_k gc4_f k6; omega))) | have r_p_wm := (p_wm.resolve_left (by (clear p_wm hb hx7 gc4_k gc4_f k6; omega))) | skip
    refine g_iconst dX11_taken_11 ?_
    exact g_retI dX11_taken_12 rfl (hQ (-1) (by decide) (by rw [tkR_n (by (first | (clear p_wm hb hx7 gc4_k gc4_f k6; omega) | (clear p_wm hb hx7 gc4_k gc4_f; omega) | (clear p_wm hb hx7 gc4_k k6; omega) | (clear p_wm hb hx7 gc4_f k6; omega) | (clear p_wm hb gc4_k gc4_f k6; omega) | (clear p_wm hx7 gc4_k gc4_f k6; omega) | (clear hb hx7 gc4_k gc4_f k6; omega) | (clear p_wm hb hx7 gc4_k; omega) | (clear hb p_wm; omega) | omega))]))
/-! What the class answers: X8_read_B16. -/
set_option maxRecDepth 100000 in
set_option maxHeartbeats 4000000 in
theorem f_X8_read_B16 (G : GT) (P : PH) (T : TT) (M : PH) (A : PH) (o1 : Nat) (o2 : Nat) (k_o1 : kx o1 28) (k_o2 : kx o2 14) (hB : BdX P) (p_w : o2 = 14) (p_m : 0 < M 0 0) (z0 : CX T P) (z1 : AX A P) (z2 : XM M o1 P) (Q : Option PV → PH → Prop) (hQ : ∀ (r : Int) (_ : 0 ≤ r ∧ r ≤ 1) (P1 : PH) (_ : BdX P1) (_ : FrX ([(22, 2)], [23, 24]) P P1) (_ : (r = 1 ∧ seOk T M A) ∨ (r = 0 ∧ ¬ seOk T M A)) (_ : AX (aSee T M A) P1), Q (some (vI r)) P1) : Ct WSX G 3 iX8_read [vR 64, vR 1, vR o1, vR o2] P Q := by
  refine Ct.of (by decide) (l0 := [(0, vR 64), (1, vR 1), (2, vR o1), (3, vR o2)]) rfl (Nat.le_of_ble_eq_true rfl) ?_
  have ht := z0.1
  have hTv := z0.2
  have q11 := bx_1_1 (o := 1) hB ⟨by decide, rfl⟩
  have hb := z1.b
  have hx7 := z2.b
  have h14 : P o2 1 = A 0 0 := by rw [p_w]; exact hb.1
  refine g_aload_n dX8_read_0 rfl ?_
  refine x_g1_1 (z := (P 1 1)) (⟨by decide, rfl⟩ : kx 1 1) ffX8_24 dX8_read_1 rfl ?_
  refine g_iconst dX8_read_4 ?_
  refine g_idiv dX8_read_5 ⟨(by decide), by decide⟩ ?_
  refine g_nm (fun b1 e_b1 => ?_)
  have h_b1 := idiv_p (x := (P 1 1)) (y := 3) ⟨by have q0 := bx_1_1 (o := 1) hB (⟨by decide, rfl⟩ : kx 1 1); (clear hb hx7; omega), by have q0 := bx_1_1 (o := 1) hB (⟨by decide, rfl⟩ : kx 1 1); (clear hb hx7; omega)⟩ ⟨by (clear hb hx7; omega), by (clear hb hx7; omega)⟩
  rw [← e_b1] at h_b1
  have f_b1_0 := bx_1_1 (o := 1) hB (⟨by decide, rfl⟩ : kx 1 1)
  refine g_istore (l1 := [(4, vI b1), (0, vR 64), (1, vR 1), (2, vR o1), (3, vR o2)]) dX8_read_6 (by decide) rfl ?_
  refine g_iload dX8_read_8 rfl ?_
  refine g_iconst dX8_read_10 ?_
  refine g_icmp_lt (tgt := 32) dX8_read_11 (by decide) ⟨by (clear hb hx7; omega), by (clear hb hx7; omega)⟩ (by decide) (fun k2 => ?_) (fun k2 => ?_)
  · have hno : ¬ seOk T M A := fun q => by have h := q.1; unfold sHd at h; (clear hb hx7; omega)
    refine g_iconst dX8_read_32 ?_
    exact g_retZ dX8_read_33 rfl (by decide) (hQ 0 (by decide) _ hB FrX.rf (Or.inr ⟨rfl, hno⟩) (by rw [aSee_n hno]; exact z1))
  · refine g_iload dX8_read_14 rfl ?_
    refine g_bipush dX8_read_16 (by decide) ?_
    refine g_icmp_gt (tgt := 32) dX8_read_18 (by decide) ⟨by (clear hb hx7 k2; omega), by (clear hb hx7 k2; omega)⟩ (by decide) (fun k3 => ?_) (fun k3 => ?_)
    · have hno : ¬ seOk T M A := fun q => by have h := q.1; unfold sHd at h; (clear hb hx7 k2; omega)
      refine g_iconst dX8_read_32 ?_
      exact g_retZ dX8_read_33 rfl (by decide) (hQ 0 (by decide) _ hB FrX.rf (Or.inr ⟨rfl, hno⟩) (by rw [aSee_n hno]; exact z1))
    · refine g_aload_n dX8_read_21 rfl ?_
      refine x_g1_1 (z := (P 1 1)) (⟨by decide, rfl⟩ : kx 1 1) ffX8_24 dX8_read_22 rfl ?_
      refine g_iconst dX8_read_25 ?_
      refine g_iload dX8_read_26 rfl ?_
      refine g_imul dX8_read_28 ?_
      have f4 := bx_1_1 (o := 1) hB (⟨by decide, rfl⟩ : kx 1 1)
      refine g_icmp_eq (tgt := 34) dX8_read_29 (by decide) ⟨by have q0 := bx_1_1 (o := 1) hB (⟨by decide, rfl⟩ : kx 1 1); (clear hb hx7 k2 k3; omega), by have q0 := bx_1_1 (o := 1) hB (⟨by decide, rfl⟩ : kx 1 1); (clear hb hx7 k2 k3; omega)⟩ ⟨by (clear hb hx7 k2 k3; omega), by (clear hb hx7 k2 k3; omega)⟩ (fun k5 => ?_) (fun k5 => ?_)
      · refine g_iconst dX8_read_34 ?_
        refine g_istore (l1 := [(5, vI 0), (4, vI b1), (0, vR 64), (1, vR 1), (2, vR o1), (3, vR o2)]) dX8_read_35 (by decide) rfl ?_
        have L37_5 : ∀ (n37_5 : Nat) (x37_5_5 : Int) (h_x37_5_5 : 0 ≤ x37_5_5 ∧ x37_5_5 ≤ 16) (i37_0_5 : SLI T M A x37_5_5) (hm37_5 : ((17 - x37_5_5) : Int).toNat < n37_5), Go WSX G 3 iX8_read 37 [(0, vR 64), (1, vR 1), (2, vR o1), (3, vR o2), (4, vI b1), (5, vI x37_5_5)] [] P Q := by
          intro n37_5
          induction n37_5 with
          | zero => intro x37_5_5 h_x37_5_5 i37_0_5 hm37_5; exact absurd hm37_5 (Nat.not_lt_zero _)
          | succ n37_5 ih37_5 =>
          intro x37_5_5 h_x37_5_5 i37_0_5 hm37_5
          refine g_iload dX8_read_37 rfl ?_
          refine g_iload dX8_read_39 rfl ?_
          refine g_icmp_ge (tgt := 94) dX8_read_41 (by decide) ⟨by (clear hb hx7 k2 k3 k5; omega), by (clear hb hx7 k2 k3 k5; omega)⟩ ⟨by (clear hb hx7 k2 k3 k5; omega), by (clear hb hx7 k2 k3 k5; omega)⟩ (fun k633 => ?_) (fun k633 => ?_)
          · refine g_aload_n dX8_read_94 rfl ?_
            have hsl := i37_0_5
            have hse : seOk T M A := ⟨⟨p_m, by (clear hb hx7 k3 k5; omega), by (clear hb hx7 k2 k3; omega), by (clear hb hx7 k2 k3; omega)⟩, fun i i0 i1 => hsl i i0 (by (clear hb hx7 k2 k3; omega))⟩
            refine g_iload dX8_read_95 rfl ?_
            refine x_p22_2 (⟨by decide, rfl⟩ : kx 64 22) pfX8_49 dX8_read_97 ?_
            have hB634 := by_22_2 (z := b1) hB (⟨by decide, rfl⟩ : kx 64 22) ⟨by (clear hb hx7 k2 k3 k5; omega), by (clear hb hx7 k2 k3 k5; omega)⟩
            refine g_iconst dX8_read_100 ?_
            refine g_istore (l1 := [(5, vI 0), (0, vR 64), (1, vR 1), (2, vR o1), (3, vR o2), (4, vI b1)]) dX8_read_101 (by decide) rfl ?_
            have L103_634 : ∀ (n103_634 : Nat) (x103_5_634 : Int) (h_x103_5_634 : 0 ≤ x103_5_634 ∧ x103_5_634 ≤ 16) (H103_634 : PH) (hB103_634 : BdX H103_634) (hE103_634 : FrX ([], [23, 24]) (up P 64 2 b1) H103_634) (hm103_634 : ((17 - x103_5_634) : Int).toNat < n103_634), Go WSX G 3 iX8_read 103 [(0, vR 64), (1, vR 1), (3, vR o2), (4, vI b1), (5, vI x103_5_634)] [] H103_634 Q := by
              intro n103_634
              induction n103_634 with
              | zero => intro x103_5_634 h_x103_5_634 H103_634 hB103_634 hE103_634 hm103_634; exact absurd hm103_634 (Nat.not_lt_zero _)
              | succ n103_634 ih103_634 =>
              intro x103_5_634 h_x103_5_634 H103_634 hB103_634 hE103_634 hm103_634
              refine g_iload dX8_read_103 rfl ?_
              refine g_iload dX8_read_105 rfl ?_
              refine g_icmp_ge (tgt := 150) dX8_read_107 (by decide) ⟨by (clear hb hx7 k2 k3 k5; omega), by (clear hb hx7 k2 k3 k5; omega)⟩ ⟨by (clear hb hx7 k2 k3 k5; omega), by (clear hb hx7 k2 k3 k5; omega)⟩ (fun k708 => ?_) (fun k708 => ?_)
              · refine g_iconst dX8_read_150 ?_
                exact g_retZ dX8_read_151 rfl (by decide) (hQ 1 (by decide) _ hB103_634 (FrX.c (FrX.s FrX.rf (⟨by decide, rfl⟩ : kx 64 22) rfl) hE103_634 rfl) (Or.inl ⟨rfl, hse⟩) (by rw [aSee_y hse]; exact z1.se (F := ([(22, 2)], [23, 24])) (by have q := (((FrX.g hE103_634 (⟨by decide, rfl⟩ : kx 64 22) rfl).trans up_same) : H103_634 64 2 = b1); (clear hb hx7 k2 k3 k5; omega)) (FrX.c (FrX.s FrX.rf (⟨by decide, rfl⟩ : kx 64 22) rfl) hE103_634 rfl) rfl))
              · refine g_aload_n dX8_read_110 rfl ?_
                refine x_g22_0 (n := 65) (⟨by decide, rfl⟩ : kx 64 22) ffX8_9 dX8_read_111 rfl ?_
                refine g_iload dX8_read_114 rfl ?_
                refine g_aload_n dX8_read_116 rfl ?_
                refine g_iload dX8_read_117 rfl ?_
                refine g_sI (av := [vR 1, vI x103_5_634]) (st := [vI x103_5_634, vR 65]) (f_X8_rowOn_B16 G H103_634 T x103_5_634 ⟨by (clear hb hx7 k2 k3 k5; omega), by (clear hb hx7 k2 k3 k5; omega)⟩ hB103_634 (by (clear hb hx7 k2 k3 k5; omega)) ((CX.fr (F := ([(22, 2)], [23, 24])) z0 (FrX.c (FrX.s FrX.rf (⟨by decide, rfl⟩ : kx 64 22) rfl) hE103_634 rfl) rfl)) _ (fun rc709 hc709 gc709_r => ⟨rc709, rfl, ?_⟩)) cf_X8_rowOn t_1219 rfl (Nat.le_of_ble_eq_true rfl) (by decide) rfl dX8_read_119
                refine x_s23 (⟨by decide, rfl⟩ : kx 65 23) dX8_read_122 ⟨by (clear hb hx7 k2 k3 k5; omega), by (clear hb hx7 k2 k3 k5; omega)⟩ ?_
                have hB710 := by_23 (z := rc709) (k := x103_5_634) hB103_634 (⟨by decide, rfl⟩ : kx 65 23) ⟨by (clear hb hx7 k2 k3 k5; omega), by (clear hb hx7 k2 k3 k5; omega)⟩
                refine g_aload_n dX8_read_123 rfl ?_
                refine x_g22_1 (n := 66) (⟨by decide, rfl⟩ : kx 64 22) ffX8_15 dX8_read_124 rfl ?_
                refine g_iload dX8_read_127 rfl ?_
                refine g_aload_n dX8_read_129 rfl ?_
                refine g_aload_n dX8_read_130 rfl ?_
                refine g_iconst dX8_read_131 ?_
                refine g_iload dX8_read_132 rfl ?_
                refine g_imul dX8_read_134 ?_
                refine g_iconst dX8_read_135 ?_
                refine g_iadd dX8_read_136 ?_
                refine g_vI (av := [vI ((3 * x103_5_634) + 2)]) (o := 1) (st := [vR o2, vI x103_5_634, vR 66]) (f_X1_byteAt_B16 G (up H103_634 65 x103_5_634 rc709) ((3 * x103_5_634) + 2) ⟨by (clear hb hx7 k2 k3 k5; omega), by (clear hb hx7 k2 k3 k5; omega)⟩ hB710  _ (fun rc711 hc711 gc711_t => ⟨rc711, rfl, ?_⟩)) cf_X1_byteAt t_1218 rfl (show kx 1 1 from (⟨by decide, rfl⟩ : kx 1 1)).1 ((show kx 1 1 from (⟨by decide, rfl⟩ : kx 1 1)).sh rfl) rfl rfl (Nat.le_of_ble_eq_true rfl) (by decide) rfl dX8_read_137
                have zq712 : (up H103_634 65 x103_5_634 rc709) 1 1 = (P 1 1) := ((up_o (kx.ne (⟨by decide, rfl⟩ : kx 1 1) (⟨by decide, rfl⟩ : kx 65 23) rfl)).trans ((FrX.g hE103_634 (⟨by decide, rfl⟩ : kx 1 1) rfl).trans ((up_o (kx.ne (⟨by decide, rfl⟩ : kx 1 1) (⟨by decide, rfl⟩ : kx 64 22) rfl)).trans rfl)))
                refine g_vI (av := [vI rc711]) (o := o2) (st := [vI x103_5_634, vR 66]) (f_X5_armAt G (up H103_634 65 x103_5_634 rc709) o2 rc711 k_o2 ⟨by (clear hb hx7 k2 k3 k5 gc711_t; omega), by (clear hb hx7 k2 k3 k5 gc711_t; omega)⟩ hB710  _ (fun rc713 hc713 gc713_t => ⟨rc713, rfl, ?_⟩)) cf_X5_armAt t_1224 rfl (show kx o2 14 from k_o2).1 ((show kx o2 14 from k_o2).sh rfl) rfl rfl (Nat.le_of_ble_eq_true rfl) (by decide) rfl dX8_read_140
                have zq714 : (up H103_634 65 x103_5_634 rc709) o2 1 = (P o2 1) := ((up_o (kx.ne k_o2 (⟨by decide, rfl⟩ : kx 65 23) rfl)).trans ((FrX.g hE103_634 k_o2 rfl).trans ((up_o (kx.ne k_o2 (⟨by decide, rfl⟩ : kx 64 22) rfl)).trans rfl)))
                refine x_s24 (⟨by decide, rfl⟩ : kx 66 24) dX8_read_143 ⟨by (clear hb hx7 k2 k3 k5 gc711_t gc713_t; omega), by (clear hb hx7 k2 k3 k5 gc711_t gc713_t; omega)⟩ ?_
                have hB715 := by_24 (z := rc713) (k := x103_5_634) hB710 (⟨by decide, rfl⟩ : kx 66 24) ⟨by (clear hb hx7 k2 k3 k5 gc711_t gc713_t; omega), by (clear hb hx7 k2 k3 k5 gc711_t gc713_t; omega)⟩
                refine g_iinc (l1 := [(5, vI (x103_5_634 + 1)), (0, vR 64), (1, vR 1), (3, vR o2), (4, vI b1)]) dX8_read_144 rfl (by decide) rfl ?_
                refine g_goto (tgt := 103) dX8_read_147 (by decide) ?_
                refine g_forget (l1 := [(0, vR 64), (1, vR 1), (3, vR o2), (4, vI b1), (5, vI (x103_5_634 + 1))]) (by intro q hq; simp only [List.mem_cons, List.not_mem_nil, or_false] at hq ⊢; rcases hq with rfl | rfl | rfl | rfl | rfl <;> simp) ?_
                exact ih103_634 (x103_5_634 + 1) ⟨by (clear hb hx7 k2 k3 k5 gc711_t gc713_t; omega), by (clear hb hx7 k2 k3 k5 gc711_t gc713_t; omega)⟩ _ hB715 (FrX.s (FrX.s (FrX.c FrX.rf hE103_634 rfl) (⟨by decide, rfl⟩ : kx 65 23) rfl) (⟨by decide, rfl⟩ : kx 66 24) rfl) (by (clear hb hx7 k2 k3 k5 gc711_t gc713_t; omega))
            refine g_forget (l1 := [(0, vR 64), (1, vR 1), (3, vR o2), (4, vI b1), (5, vI 0)]) (by intro q hq; simp only [List.mem_cons, List.not_mem_nil, or_false] at hq ⊢; rcases hq with rfl | rfl | rfl | rfl | rfl <;> simp) ?_
            exact L103_634 _ 0 (by decide) _ hB634 FrX.rf (Nat.lt_succ_self _)
          · have e2 := hTv (3 * x37_5_5 + 2) (by (clear hb hx7 k2 k3 k5; omega)) (by (clear hb hx7 k2 k3 k5; omega))
            have e0 := hTv (3 * x37_5_5) (by (clear hb hx7 k2 k3 k5; omega)) (by (clear hb hx7 k2 k3 k5; omega))
            have e1 := hTv (3 * x37_5_5 + 1) (by (clear hb hx7 k2 k3 k5; omega)) (by (clear hb hx7 k2 k3 k5; omega))
            have qb0 := bx_2 (o := 2) (k := 3 * x37_5_5) hB ⟨by decide, rfl⟩
            have qb1 := bx_2 (o := 2) (k := 3 * x37_5_5 + 1) hB ⟨by decide, rfl⟩
            have qb2 := bx_2 (o := 2) (k := 3 * x37_5_5 + 2) hB ⟨by decide, rfl⟩
            refine g_aload_n dX8_read_44 rfl ?_
            refine g_iconst dX8_read_45 ?_
            refine g_iload dX8_read_46 rfl ?_
            refine g_imul dX8_read_48 ?_
            refine g_iconst dX8_read_49 ?_
            refine g_iadd dX8_read_50 ?_
            refine g_vI (av := [vI ((3 * x37_5_5) + 2)]) (o := 1) (st := []) (f_X1_byteAt_B16 G P ((3 * x37_5_5) + 2) ⟨by (clear hb hx7 k2 k3 k5; omega), by (clear hb hx7 k2 k3 k5; omega)⟩ hB  _ (fun rc716 hc716 gc716_t => ⟨rc716, rfl, ?_⟩)) cf_X1_byteAt t_1218 rfl (show kx 1 1 from (⟨by decide, rfl⟩ : kx 1 1)).1 ((show kx 1 1 from (⟨by decide, rfl⟩ : kx 1 1)).sh rfl) rfl rfl (Nat.le_of_ble_eq_true rfl) (by decide) rfl dX8_read_51
            refine g_istore (l1 := [(6, vI rc716), (0, vR 64), (1, vR 1), (2, vR o1), (3, vR o2), (4, vI b1), (5, vI x37_5_5)]) dX8_read_54 (by decide) rfl ?_
            refine g_aload_n dX8_read_56 rfl ?_
            refine g_aload_n dX8_read_57 rfl ?_
            refine g_iload dX8_read_58 rfl ?_
            refine g_sI (av := [vR 1, vI x37_5_5]) (st := [vR o1]) (f_X8_rowOn_B16 G P T x37_5_5 ⟨by (clear hb hx7 k2 k3 k5 gc716_t; omega), by (clear hb hx7 k2 k3 k5 gc716_t; omega)⟩ hB (by (clear hb hx7 k2 k3 k5 gc716_t; omega)) (z0) _ (fun rc717 hc717 gc717_r => ⟨rc717, rfl, ?_⟩)) cf_X8_rowOn t_1219 rfl (Nat.le_of_ble_eq_true rfl) (by decide) rfl dX8_read_60
            refine g_vI (av := [vI rc717]) (o := o1) (st := []) (f_X9_isRow G P o1 rc717 k_o1 ⟨by (clear hb hx7 k2 k3 k5 gc716_t; omega), by (clear hb hx7 k2 k3 k5 gc716_t; omega)⟩ hB  _ (fun rc718 hc718 gc718_k gc718_f => ⟨rc718, rfl, ?_⟩)) cf_X9_isRow t_1222 rfl (show kx o1 28 from k_o1).1 ((show kx o1 28 from k_o1).sh rfl) rfl rfl (Nat.le_of_ble_eq_true rfl) (by decide) rfl dX8_read_63
            have f719 := bx_28_7 (o := o1) hB k_o1
            refine g_if_eq (tgt := 86) dX8_read_66 (by decide) ⟨by (clear hb hx7 k2 k3 k5 gc716_t gc718_k gc718_f; omega), by (clear hb hx7 k2 k3 k5 gc716_t gc718_k gc718_f; omega)⟩ (fun k720 => ?_) (fun k720 => ?_)
            · have r_gc718_f := (gc718_f.resolve_left (by (clear hb hx7 k2 k3 k5 gc716_t gc718_k gc718_f; omega)))
              have r_gc718_k := (gc718_k.resolve_right (by (clear hb hx7 k2 k3 k5 gc716_t gc718_k gc718_f; omega)))
              have r_gc716_t := (gc716_t.resolve_right (by (clear hb hx7 k2 k3 k5 gc716_t gc718_k gc718_f; omega)))
              have hno : ¬ seOk T M A := fun q => by have h := q.2 x37_5_5 (by (clear hb hx7 k2 k3 k5 gc716_t gc718_k gc718_f; omega)) (by (clear hb hx7 k2 k3 k5 gc716_t gc718_k gc718_f; omega)); unfold sOk at h; (clear hb k2 k3 k5 gc716_t gc718_k gc718_f; omega)
              refine g_iconst dX8_read_86 ?_
              exact g_retZ dX8_read_87 rfl (by decide) (hQ 0 (by decide) _ hB FrX.rf (Or.inr ⟨rfl, hno⟩) (by rw [aSee_n hno]; exact z1))
            · have k720n : 1 ≤ rc718 := by (clear hb hx7 k2 k3 k5 gc716_t gc718_k gc718_f; omega)
              clear k720
              have r_gc718_f := (gc718_f.resolve_right (by (clear hb hx7 k2 k3 k5 gc716_t gc718_k gc718_f; omega)))
              have r_gc718_k := (gc718_k.resolve_left (by (clear hb hx7 k2 k3 k5 gc716_t gc718_k gc718_f; omega)))
              have r_gc716_t := (gc716_t.resolve_right (by (clear hb hx7 k2 k3 k5 gc716_t gc718_k gc718_f; omega)))
              refine g_iload dX8_read_69 rfl ?_
              refine g_sipush dX8_read_71 (by decide) ?_
              refine g_icmp_eq (tgt := 88) dX8_read_74 (by decide) ⟨by (clear hb hx7 k2 k3 k5 gc716_t gc718_k gc718_f; omega), by (clear hb hx7 k2 k3 k5 gc716_t gc718_k gc718_f; omega)⟩ (by decide) (fun k721 => ?_) (fun k721 => ?_)
              · skip
                skip
                skip
                have hsl9 : SLI T M A (x37_5_5 + 1) := (i37_0_5).go (show sOk T M A x37_5_5 from And.intro (by (clear hb k2 k3 k5 gc716_t gc718_k gc718_f; omega)) (by (clear hb hx7 k2 k3 k5 gc716_t gc718_k gc718_f; omega)))
                refine g_iinc (l1 := [(5, vI (x37_5_5 + 1)), (6, vI rc716), (0, vR 64), (1, vR 1), (2, vR o1), (3, vR o2), (4, vI b1)]) dX8_read_88 rfl (by decide) rfl ?_
                refine g_goto (tgt := 37) dX8_read_91 (by decide) ?_
                refine g_forget (l1 := [(0, vR 64), (1, vR 1), (2, vR o1), (3, vR o2), (4, vI b1), (5, vI (x37_5_5 + 1))]) (by intro q hq; simp only [List.mem_cons, List.not_mem_nil, or_false] at hq ⊢; rcases hq with rfl | rfl | rfl | rfl | rfl | rfl <;> simp) ?_
                exact ih37_5 (x37_5_5 + 1) ⟨by (clear hb hx7 k2 k3 k5 gc716_t gc718_k gc718_f; omega), by (omega)⟩ (by first | exact hsl9 | exact SLI.z) (by (clear hb hx7 k2 k3 k5 gc716_t gc718_k gc718_f; omega))
              · have k721n : rc716 ≤ 254 := by (clear hb hx7 k2 k3 k5 gc716_t gc718_k gc718_f; omega)
                clear k721
                skip
                skip
                skip
                refine g_aload_n dX8_read_77 rfl ?_
                refine g_iload dX8_read_78 rfl ?_
                refine g_vI (av := [vI rc716]) (o := o2) (st := []) (f_X5_isPlace G P o2 rc716 k_o2 ⟨by (clear hb hx7 k2 k3 k5 gc716_t gc718_k gc718_f; omega), by (clear hb hx7 k2 k3 k5 gc716_t gc718_k gc718_f; omega)⟩ hB  _ (fun rc722 hc722 gc722_k gc722_f => ⟨rc722, rfl, ?_⟩)) cf_X5_isPlace t_1223 rfl (show kx o2 14 from k_o2).1 ((show kx o2 14 from k_o2).sh rfl) rfl rfl (Nat.le_of_ble_eq_true rfl) (by decide) rfl dX8_read_80
                have f723 := bx_14_1 (o := o2) hB k_o2
                refine g_if_ne (tgt := 88) dX8_read_83 (by decide) ⟨by (clear hb hx7 k2 k3 k5 gc716_t gc718_k gc718_f gc722_k gc722_f; omega), by (clear hb hx7 k2 k3 k5 gc716_t gc718_k gc718_f gc722_k gc722_f; omega)⟩ (fun k724 => ?_) (fun k724 => ?_)
                · have k724n : 1 ≤ rc722 := by (clear hb hx7 k2 k3 k5 gc716_t gc718_k gc718_f gc722_k gc722_f; omega)
                  clear k724
                  have r_gc722_f := (gc722_f.resolve_right (by (clear hb hx7 k2 k3 k5 gc716_t gc718_k gc718_f gc722_k gc722_f; omega)))
                  have r_gc722_k := (gc722_k.resolve_left (by (clear hb hx7 k2 k3 k5 gc716_t gc718_k gc718_f gc722_k gc722_f; omega)))
                  skip
                  skip
                  skip
                  have hsl9 : SLI T M A (x37_5_5 + 1) := (i37_0_5).go (show sOk T M A x37_5_5 from And.intro (by (omega)) (by (clear hb hx7 k2 k3 k5 gc716_t gc718_k gc718_f gc722_k gc722_f; omega)))
                  refine g_iinc (l1 := [(5, vI (x37_5_5 + 1)), (6, vI rc716), (0, vR 64), (1, vR 1), (2, vR o1), (3, vR o2), (4, vI b1)]) dX8_read_88 rfl (by decide) rfl ?_
                  refine g_goto (tgt := 37) dX8_read_91 (by decide) ?_
                  refine g_forget (l1 := [(0, vR 64), (1, vR 1), (2, vR o1), (3, vR o2), (4, vI b1), (5, vI (x37_5_5 + 1))]) (by intro q hq; simp only [List.mem_cons, List.not_mem_nil, or_false] at hq ⊢; rcases hq with rfl | rfl | rfl | rfl | rfl | rfl <;> simp) ?_
                  exact ih37_5 (x37_5_5 + 1) ⟨by (clear hb hx7 k2 k3 k5 gc716_t gc718_k gc718_f gc722_k gc722_f; omega), by (omega)⟩ (by first | exact hsl9 | exact SLI.z) (by (clear hb hx7 k2 k3 k5 gc716_t gc718_k gc718_f gc722_k gc722_f; omega))
                · have r_gc722_f := (gc722_f.resolve_left (by (clear hb hx7 k2 k3 k5 gc716_t gc718_k gc718_f gc722_k gc722_f; omega)))
                  have r_gc722_k := (gc722_k.resolve_right (by (clear hb hx7 k2 k3 k5 gc716_t gc718_k gc718_f gc722_k gc722_f; omega)))
                  skip
                  skip
                  skip
                  have hno : ¬ seOk T M A := fun q => by have h := q.2 x37_5_5 (by (clear hb hx7 k2 k3 k5 gc716_t gc718_k gc718_f gc722_k gc722_f; omega)) (by (clear hb hx7 k2 k3 k5 gc716_t gc718_k gc718_f gc722_k gc722_f; omega)); unfold sOk at h; (clear hb hx7 k2 k3 k5 gc716_t gc718_k gc718_f gc722_k gc722_f; omega)
                  refine g_iconst dX8_read_86 ?_
                  exact g_retZ dX8_read_87 rfl (by decide) (hQ 0 (by decide) _ hB FrX.rf (Or.inr ⟨rfl, hno⟩) (by rw [aSee_n hno]; exact z1))
        refine g_forget (l1 := [(0, vR 64), (1, vR 1), (2, vR o1), (3, vR o2), (4, vI b1), (5, vI 0)]) (by intro q hq; simp only [List.mem_cons, List.not_mem_nil, or_false] at hq ⊢; rcases hq with rfl | rfl | rfl | rfl | rfl | rfl <;> simp) ?_
        exact L37_5 _ 0 (by decide) (by first | exact hsl9 | exact SLI.z) (Nat.lt_succ_self _)
      · have hno : ¬ seOk T M A := fun q => by have h := q.1; unfold sHd at h; (clear hb hx7 k2 k3; omega)
        refine g_iconst dX8_read_32 ?_
        exact g_retZ dX8_read_33 rfl (by decide) (hQ 0 (by decide) _ hB FrX.rf (Or.inr ⟨rfl, hno⟩) (by rw [aSee_n hno]; exact z1))
/-! What the class answers: X11_see. -/
set_option maxRecDepth 100000 in
set_option maxHeartbeats 4000000 in
theorem f_X11_see (G : GT) (P : PH) (T : TT) (K : PH) (M : PH) (A : PH) (hB : BdX P) (z0 : CX T P) (z1 : AX A P) (z2 : XTB K M P) (Q : Option PV → PH → Prop) (hQ : ∀ (r : Int) (_ : (-2147483648) ≤ r ∧ r ≤ 2147483647) (P1 : PH) (_ : BdX P1) (_ : FrX ([(1, 1), (22, 2)], [23, 24, 27]) P P1) (_ : P1 1 1 = 0) (_ : (r = -1 ∧ ¬ seOk T M A) ∨ (r = T.2 / 3 ∧ seOk T M A)) (_ : AX (aSee T M A) P1), Q (some (vI r)) P1) : Ct WSX G 4 iX11_see [vR 0] P Q := by
  refine Ct.of (by decide) (l0 := [(0, vR 0)]) rfl (Nat.le_of_ble_eq_true rfl) ?_
  have iv1 : XM M (P 0 10).toNat P := z2.2
  refine g_aload_n dX11_see_0 rfl ?_
  refine g_vI (av := []) (o := 0) (st := []) (f_X11_matched G P K M  hB (z2) _ (fun rc2 hc2 gc2_m => ⟨rc2, rfl, ?_⟩)) cf_X11_matched t_937 rfl (show kx 0 0 from (⟨by decide, rfl⟩ : kx 0 0)).1 ((show kx 0 0 from (⟨by decide, rfl⟩ : kx 0 0)).sh rfl) rfl rfl (Nat.le_of_ble_eq_true rfl) (by decide) rfl dX11_see_1
  refine g_if_eq (tgt := 33) dX11_see_4 (by decide) ⟨by (clear gc2_m; omega), by (clear gc2_m; omega)⟩ (fun k3 => ?_) (fun k3 => ?_)
  · skip
    refine g_iconst dX11_see_33 ?_
    refine g_istore_n (l1 := [(1, vI 0), (0, vR 0)]) dX11_see_34 (by decide) rfl ?_
    refine g_aload_n dX11_see_35 rfl ?_
    refine x_g0_0 (n := 1) (⟨by decide, rfl⟩ : kx 0 0) ffX11_14 dX11_see_36 rfl ?_
    refine g_iconst dX11_see_39 ?_
    refine x_p1_1 (⟨by decide, rfl⟩ : kx 1 1) pfX11_100 dX11_see_40 ?_
    have hB4 := by_1_1 (z := 0) hB (⟨by decide, rfl⟩ : kx 1 1) (by decide)
    refine g_iload_n dX11_see_43 rfl ?_
    refine g_if_ne (tgt := 55) dX11_see_44 (by decide) (by decide) (fun k5 => by exfalso; (clear gc2_m k3; omega)) (fun k5 => ?_)
    skip
    refine g_aload_n dX11_see_47 rfl ?_
    refine g_iconst dX11_see_48 ?_
    refine g_vI (av := [vI 5]) (o := 0) (st := []) (m_X11_refuse G (up P 1 1 0) 5 (by decide) hB4  _ (fun rc6 hc6 Pc6 hBc6 hFc6 => ⟨rc6, rfl, ?_⟩)) cf_X11_refuse t_663 rfl (show kx 0 0 from (⟨by decide, rfl⟩ : kx 0 0)).1 ((show kx 0 0 from (⟨by decide, rfl⟩ : kx 0 0)).sh rfl) rfl rfl (Nat.le_of_ble_eq_true rfl) (by decide) rfl dX11_see_49
    refine g_pop dX11_see_52 rfl ?_
    refine g_iconst dX11_see_53 ?_
    exact g_retI dX11_see_54 rfl (hQ (-1) (by decide) _ hBc6 (FrX.c (FrX.s FrX.rf (⟨by decide, rfl⟩ : kx 1 1) rfl) hFc6 rfl) (by have q0 := (((FrX.g hFc6 (⟨by decide, rfl⟩ : kx 1 1) rfl).trans up_same) : Pc6 1 1 = 0); (clear gc2_m k3 k5; omega)) (by first | exact hrs.elim (fun h => by exfalso; (first | (clear gc2_m k3 k5; omega) | (clear gc2_m k3; omega) | (clear gc2_m k5; omega) | (clear k3 k5; omega) | (clear gc2_m; omega) | omega)) (fun h => Or.inl ⟨rfl, h.2⟩) | exact Or.inl ⟨rfl, fun q => by have h := q.1.1; (omega)⟩) (by first | (rw [aSee_n (fun q => by have h := q.1.1; (omega))]; exact (AX.fr (F := ([(1, 1)], [27])) z1 (FrX.c (FrX.s FrX.rf (⟨by decide, rfl⟩ : kx 1 1) rfl) hFc6 rfl) rfl)) | exact (by first | (rw [show (aSee T M A) = A by (first | (clear gc2_m k3 k5; omega) | (clear gc2_m k3; omega) | (clear gc2_m k5; omega) | (clear k3 k5; omega) | (clear gc2_m; omega) | omega)]; exact (AX.fr (F := ([(1, 1)], [27])) z1 (FrX.c (FrX.s FrX.rf (⟨by decide, rfl⟩ : kx 1 1) rfl) hFc6 rfl) rfl)))))
  · have k3n : 1 ≤ rc2 := by (clear gc2_m; omega)
    clear k3
    have r_gc2_m := (gc2_m.resolve_right (by (clear gc2_m; omega)))
    refine g_aload_n dX11_see_7 rfl ?_
    refine x_g0_8 (n := 64) (⟨by decide, rfl⟩ : kx 0 0) ffX11_60 dX11_see_8 rfl ?_
    refine g_aload_n dX11_see_11 rfl ?_
    refine x_g0_0 (n := 1) (⟨by decide, rfl⟩ : kx 0 0) ffX11_14 dX11_see_12 rfl ?_
    refine g_aload_n dX11_see_15 rfl ?_
    refine x_g0_10 (n := (P 0 10).toNat) (⟨by decide, rfl⟩ : kx 0 0) ffX11_71 dX11_see_16 (br_0_10 hB) ?_
    refine g_aload_n dX11_see_19 rfl ?_
    refine x_g0_5 (n := 14) (⟨by decide, rfl⟩ : kx 0 0) ffX11_43 dX11_see_20 rfl ?_
    refine g_vI (av := [vR 1, vR (P 0 10).toNat, vR 14]) (o := 64) (st := []) (f_X8_read_B16 G P T M A (P 0 10).toNat 14 (bk_0_10 hB) (⟨by decide, rfl⟩ : kx 14 14) hB (rfl) (by (clear gc2_m; omega)) (z0) (z1) (iv1) _ (fun rc7 hc7 Pc7 hBc7 hFc7 gc7_s ec7_0 => ⟨rc7, rfl, ?_⟩)) cf_X8_read t_1214 rfl (show kx 64 22 from (⟨by decide, rfl⟩ : kx 64 22)).1 ((show kx 64 22 from (⟨by decide, rfl⟩ : kx 64 22)).sh rfl) rfl rfl (Nat.le_of_ble_eq_true rfl) (by decide) rfl dX11_see_23
    have hrs := gc7_s
    have h64 := ec7_0.b.2.2.2.2.2.2
    refine g_if_eq (tgt := 33) dX11_see_26 (by decide) ⟨by (clear gc2_m gc7_s hrs; omega), by (clear gc2_m gc7_s hrs; omega)⟩ (fun k8 => ?_) (fun k8 => ?_)
    · skip
      skip
      skip
      refine g_iconst dX11_see_33 ?_
      refine g_istore_n (l1 := [(1, vI 0), (0, vR 0)]) dX11_see_34 (by decide) rfl ?_
      refine g_aload_n dX11_see_35 rfl ?_
      refine x_g0_0 (n := 1) (⟨by decide, rfl⟩ : kx 0 0) ffX11_14 dX11_see_36 rfl ?_
      refine g_iconst dX11_see_39 ?_
      refine x_p1_1 (⟨by decide, rfl⟩ : kx 1 1) pfX11_100 dX11_see_40 ?_
      have hB9 := by_1_1 (z := 0) hBc7 (⟨by decide, rfl⟩ : kx 1 1) (by decide)
      refine g_iload_n dX11_see_43 rfl ?_
      refine g_if_ne (tgt := 55) dX11_see_44 (by decide) (by decide) (fun k10 => by exfalso; (clear gc2_m gc7_s hrs k8; omega)) (fun k10 => ?_)
      skip
      skip
      skip
      refine g_aload_n dX11_see_47 rfl ?_
      refine g_iconst dX11_see_48 ?_
      refine g_vI (av := [vI 5]) (o := 0) (st := []) (m_X11_refuse G (up Pc7 1 1 0) 5 (by decide) hB9  _ (fun rc11 hc11 Pc11 hBc11 hFc11 => ⟨rc11, rfl, ?_⟩)) cf_X11_refuse t_663 rfl (show kx 0 0 from (⟨by decide, rfl⟩ : kx 0 0)).1 ((show kx 0 0 from (⟨by decide, rfl⟩ : kx 0 0)).sh rfl) rfl rfl (Nat.le_of_ble_eq_true rfl) (by decide) rfl dX11_see_49
      refine g_pop dX11_see_52 rfl ?_
      refine g_iconst dX11_see_53 ?_
      exact g_retI dX11_see_54 rfl (hQ (-1) (by decide) _ hBc11 (FrX.c (FrX.s (FrX.c FrX.rf hFc7 rfl) (⟨by decide, rfl⟩ : kx 1 1) rfl) hFc11 rfl) (by have q0 := (((FrX.g hFc11 (⟨by decide, rfl⟩ : kx 1 1) rfl).trans up_same) : Pc11 1 1 = 0); (clear gc2_m gc7_s hrs k8 k10; omega)) (by first | exact hrs.elim (fun h => by exfalso; (clear gc2_m gc7_s hrs k10; omega)) (fun h => Or.inl ⟨rfl, h.2⟩) | exact Or.inl ⟨rfl, fun q => by have h := q.1.1; (first | (clear gc2_m gc7_s hrs k8 k10; omega) | (clear gc2_m gc7_s hrs k8; omega) | (clear gc2_m gc7_s hrs k10; omega) | (clear gc2_m gc7_s k8 k10; omega) | (clear gc2_m hrs k8 k10; omega) | (clear gc7_s hrs k8 k10; omega) | (clear gc2_m gc7_s hrs; omega) | (clear gc2_m; omega) | omega)⟩) (by first | (rw [aSee_n (fun q => by have h := q.1.1; (first | (clear gc2_m gc7_s hrs k8 k10; omega) | (clear gc2_m gc7_s hrs k8; omega) | (clear gc2_m gc7_s hrs k10; omega) | (clear gc2_m gc7_s k8 k10; omega) | (clear gc2_m hrs k8 k10; omega) | (clear gc7_s hrs k8 k10; omega) | (clear gc2_m gc7_s hrs; omega) | (clear gc2_m; omega) | omega))]; exact (by first | (rw [show A = (aSee T M A) by (first | (clear gc2_m gc7_s hrs k8 k10; omega) | (clear gc2_m gc7_s hrs k8; omega) | (clear gc2_m gc7_s hrs k10; omega) | (clear gc2_m gc7_s k8 k10; omega) | (clear gc2_m hrs k8 k10; omega) | (clear gc7_s hrs k8 k10; omega) | (clear gc2_m gc7_s hrs; omega) | (clear gc2_m; omega) | omega)]; exact (AX.fr (F := ([(1, 1)], [27])) ec7_0 (FrX.c (FrX.s FrX.rf (⟨by decide, rfl⟩ : kx 1 1) rfl) hFc11 rfl) rfl)))) | exact (AX.fr (F := ([(1, 1)], [27])) ec7_0 (FrX.c (FrX.s FrX.rf (⟨by decide, rfl⟩ : kx 1 1) rfl) hFc11 rfl) rfl)))
    · have k8n : 1 ≤ rc7 := by (clear gc2_m gc7_s hrs; omega)
      clear k8
      have r_hrs := (hrs.resolve_right (by (clear gc2_m gc7_s hrs; omega)))
      have r_gc7_s := (gc7_s.resolve_right (by (clear gc2_m gc7_s hrs; omega)))
      skip
      refine g_iconst dX11_see_29 ?_
      refine g_goto (tgt := 34) dX11_see_30 (by decide) ?_
      refine g_istore_n (l1 := [(1, vI 1), (0, vR 0)]) dX11_see_34 (by decide) rfl ?_
      refine g_aload_n dX11_see_35 rfl ?_
      refine x_g0_0 (n := 1) (⟨by decide, rfl⟩ : kx 0 0) ffX11_14 dX11_see_36 rfl ?_
      refine g_iconst dX11_see_39 ?_
      refine x_p1_1 (⟨by decide, rfl⟩ : kx 1 1) pfX11_100 dX11_see_40 ?_
      have hB12 := by_1_1 (z := 0) hBc7 (⟨by decide, rfl⟩ : kx 1 1) (by decide)
      refine g_iload_n dX11_see_43 rfl ?_
      refine g_if_ne (tgt := 55) dX11_see_44 (by decide) (by decide) (fun k13 => ?_) (fun k13 => by exfalso; (clear gc2_m gc7_s hrs; omega))
      skip
      skip
      skip
      refine g_aload_n dX11_see_55 rfl ?_
      refine x_g0_8 (n := 64) (⟨by decide, rfl⟩ : kx 0 0) ffX11_60 dX11_see_56 rfl ?_
      refine x_g22_2 (z := (Pc7 64 2)) (⟨by decide, rfl⟩ : kx 64 22) ffX11_153 dX11_see_59 ((up_o (kx.ne (⟨by decide, rfl⟩ : kx 64 22) (⟨by decide, rfl⟩ : kx 1 1) rfl)).trans rfl) ?_
      exact g_retI dX11_see_62 rfl (hQ (Pc7 64 2) ⟨by have q0 := bx_22_2 (o := 64) hBc7 (⟨by decide, rfl⟩ : kx 64 22); (clear gc2_m gc7_s hrs k13; omega), by have q0 := bx_22_2 (o := 64) hBc7 (⟨by decide, rfl⟩ : kx 64 22); (clear gc2_m gc7_s hrs k13; omega)⟩ _ hB12 (FrX.s (FrX.c FrX.rf hFc7 rfl) (⟨by decide, rfl⟩ : kx 1 1) rfl) (by have q0 := bx_22_2 (o := 64) hBc7 (⟨by decide, rfl⟩ : kx 64 22); have q1 := (up_same : (up Pc7 1 1 0) 1 1 = 0); (clear gc2_m gc7_s hrs k13; omega)) (by first | exact hrs.elim (fun h => Or.inr ⟨by have e : (aSee T M A) 0 6 = T.2 / 3 := (by rw [aSee_y h.2]; exact up_same); have q := (((up_o (kx.ne (⟨by decide, rfl⟩ : kx 64 22) (⟨by decide, rfl⟩ : kx 1 1) rfl)).trans rfl) : (up Pc7 1 1 0) 64 2 = (Pc7 64 2)); (clear gc2_m gc7_s hrs k13; omega), h.2⟩) (fun h => by exfalso; (clear gc2_m gc7_s hrs k13; omega)) | (exfalso; (first | (clear gc2_m gc7_s hrs k13; omega) | (clear gc2_m gc7_s hrs; omega) | (clear gc2_m gc7_s k13; omega) | (clear gc2_m hrs k13; omega) | (clear gc7_s hrs k13; omega) | (clear gc2_m gc7_s; omega) | omega))) (by first | exact (AX.fr (F := ([(1, 1)], [])) ec7_0 (FrX.s FrX.rf (⟨by decide, rfl⟩ : kx 1 1) rfl) rfl) | (exfalso; (first | (clear gc2_m gc7_s hrs k13; omega) | (clear gc2_m gc7_s hrs; omega) | (clear gc2_m gc7_s k13; omega) | (clear gc2_m hrs k13; omega) | (clear gc7_s hrs k13; omega) | (clear gc2_m gc7_s; omega) | omega))))
