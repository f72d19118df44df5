/-! What the reference answers: X12_chance. -/
set_option maxRecDepth 100000 in
set_option maxHeartbeats 4000000 in
theorem f_X12_chance (G : GT) (P : PH) (A : PH) (k : Int) (M : PH) (K : PH) (F : FT) (a1 : Int) (h_a1 : (-2147483648) ≤ a1 ∧ a1 ≤ 2147483647) (hB : BdM P) (p_st : P 0 74 ≤ 199999900) (p_wa : WA k A) (p_aw : AW K) (p_av : AV K M) (p_az : AZ K M) (p_ga : GA M A) (p_gw : GW M) (v_okC : okC P) (v_okR : okR P) (v_MVw : MVw P) (v_RE : RE P) (z0 : AM A P) (z1 : MH M P) (z2 : MR M P) (z3 : MKB K P) (z4 : MMB M P) (z5 : LYT K M F P) (Q : Option PV → PH → Prop) (hQ : ∀ (r : Int) (_ : (-2147483648) ≤ r ∧ r ≤ 2147483647) (P1 : PH) (_ : BdM P1) (_ : FrM ([59, 60, 61, 62, 66, 74, 76, 78], [28, 35, 36, 37, 38, 39, 40, 41, 42, 43, 44, 49, 50]) P P1) (_ : P1 0 74 ≤ P 0 74 + 40) (_ : r = chR K M F A a1) (_ : MVw P1) (_ : RE P1) (_ : AM (aCha A M a1) P1), Q (some (vI r)) P1) : Ct WSM G 6 iX12_chance [vR 0, vI a1] P Q := by
  refine Ct.of (by decide) (l0 := [(0, vR 0), (1, vI a1)]) rfl (Nat.le_of_ble_eq_true rfl) ?_
  have hmh := z1
  unfold MH at hmh
  have hmr9 := z2
  unfold MR at hmr9
  refine g_aload_n dX12_chance_0 rfl ?_
  refine m_g44 (z := (P 0 44)) rfl dX12_chance_1 rfl ?_
  have f1 := b0_44 hB
  refine g_if_eq (tgt := 17) dX12_chance_4 (by decide) ⟨by have q0 := b0_44 hB; (clear hmh hmr9; omega), by have q0 := b0_44 hB; (clear hmh hmr9; omega)⟩ (fun k2 => ?_) (fun k2 => ?_)
  · refine g_aload_n dX12_chance_17 rfl ?_
    refine g_iconst dX12_chance_18 ?_
    refine g_vI (av := [vI 2]) (o := 0) (st := []) (m_X12_refuses G P 2 (by decide) hB  _ (fun rc3 hc3 Pc3 hBc3 hFc3 => ⟨rc3, rfl, ?_⟩)) cf_X12_refuses t_1667 rfl (by decide) rfl rfl rfl (Nat.le_of_ble_eq_true rfl) (by decide) rfl dX12_chance_19
    exact g_retI dX12_chance_22 rfl (hQ rc3 ⟨by (clear hmh hmr9 k2; omega), by (clear hmh hmr9 k2; omega)⟩ _ hBc3 (FrM.c FrM.rf hFc3 rfl) (by have q0 := (((hFc3.1 74 rfl).trans rfl) : Pc3 0 74 = (P 0 74)); have q1 := b0_74 hB; (clear hmh hmr9 k2; omega)) (by rw [chR_n (by (omega))]; (clear hmh hmr9 k2; omega)) (MVw.fr (F := ([], [28])) v_MVw (FrM.c FrM.rf hFc3 rfl) rfl) (RE.fr (F := ([], [28])) v_RE (FrM.c FrM.rf hFc3 rfl) rfl) (by rw [aCha_n (by (omega))]; exact (AM.fr (F := ([], [28])) z0 (FrM.c FrM.rf hFc3 rfl) rfl)))
  · have k2n : 1 ≤ (P 0 44) := by have q0 := b0_44 hB; (clear hmh hmr9; omega)
    clear k2
    refine g_iload_n dX12_chance_7 rfl ?_
    refine g_iconst dX12_chance_8 ?_
    refine g_bipush dX12_chance_9 (by decide) ?_
    refine g_sI (av := [vI a1, vI 1, vI 40]) (st := []) (m_X12_is G P a1 1 40 ⟨by (clear hmh hmr9; omega), by (clear hmh hmr9; omega)⟩ (by decide) (by decide) hB  _ (fun rc4 hc4 gc4_is => ⟨rc4, rfl, ?_⟩)) cf_X12_is t_1800 rfl (Nat.le_of_ble_eq_true rfl) (by decide) rfl dX12_chance_11
    refine g_if_ne (tgt := 23) dX12_chance_14 (by decide) ⟨by (clear hmh hmr9 gc4_is; omega), by (clear hmh hmr9 gc4_is; omega)⟩ (fun k5 => ?_) (fun k5 => ?_)
    · have k5n : 1 ≤ rc4 := by (clear hmh hmr9 gc4_is; omega)
      clear k5
      have r_gc4_is := (gc4_is.resolve_right (by (clear hmh hmr9 gc4_is; omega)))
      refine g_aload_n dX12_chance_23 rfl ?_
      refine g_vV (av := []) (o := 0) (st := []) (f_X12_keeps G P (A) (k)  hB p_wa (z0) _ (fun Pc6 hBc6 hFc6 gc6_o ec6_0 => ⟨rfl, ?_⟩)) cf_X12_keeps t_2132 rfl (by decide) rfl rfl rfl (Nat.le_of_ble_eq_true rfl) (by decide) rfl dX12_chance_24
      refine g_iconst dX12_chance_27 ?_
      refine g_istore_n (l1 := [(2, vI 0), (0, vR 0), (1, vI a1)]) dX12_chance_28 (by decide) rfl ?_
      have ho := v_okR
      unfold okR at ho
      refine g_iconst dX12_chance_29 ?_
      refine g_istore_n (l1 := [(3, vI 0), (2, vI 0), (0, vR 0), (1, vI a1)]) dX12_chance_30 (by decide) rfl ?_
      have L31_6 : ∀ (n31_6 : Nat) (x31_3_6 : Int) (h_x31_3_6 : 0 ≤ x31_3_6 ∧ x31_3_6 ≤ 40) (x31_2_6 : Int) (h_x31_2_6 : 0 ≤ x31_2_6 ∧ x31_2_6 ≤ 40) (H31_6 : PH) (hB31_6 : BdM H31_6) (hE31_6 : FrM ([61, 62, 66, 74, 76, 78], [39, 40, 41, 42, 43, 44, 49, 50]) Pc6 H31_6) (i31_0_6 : H31_6 0 74 ≤ P 0 74 + x31_3_6) (i31_1_6 : AM (aDrs (x31_3_6).toNat (aPush A)) H31_6) (i31_2_6 : x31_3_6 ≤ a1) (i31_3_6 : x31_2_6 = chN K M F (aPush A) (x31_3_6).toNat) (i31_4_6 : x31_2_6 ≤ x31_3_6) (w31_RE_6 : RE H31_6) (w31_MVw_6 : MVw H31_6) (hm31_6 : ((41 - x31_3_6) : Int).toNat < n31_6), Go WSM G 6 iX12_chance 31 [(0, vR 0), (1, vI a1), (2, vI x31_2_6), (3, vI x31_3_6)] [] H31_6 Q := by
        intro n31_6
        induction n31_6 with
        | zero => intro x31_3_6 h_x31_3_6 x31_2_6 h_x31_2_6 H31_6 hB31_6 hE31_6 i31_0_6 i31_1_6 i31_2_6 i31_3_6 i31_4_6 w31_RE_6 w31_MVw_6 hm31_6; exact absurd hm31_6 (Nat.not_lt_zero _)
        | succ n31_6 ih31_6 =>
        intro x31_3_6 h_x31_3_6 x31_2_6 h_x31_2_6 H31_6 hB31_6 hE31_6 i31_0_6 i31_1_6 i31_2_6 i31_3_6 i31_4_6 w31_RE_6 w31_MVw_6 hm31_6
        refine g_iload_n dX12_chance_31 rfl ?_
        refine g_iload_n dX12_chance_32 rfl ?_
        refine g_icmp_ge (tgt := 66) dX12_chance_33 (by decide) ⟨by (clear hmh hmr9 gc4_is ho; omega), by (clear hmh hmr9 gc4_is ho; omega)⟩ ⟨by (clear hmh hmr9 gc4_is ho; omega), by (clear hmh hmr9 gc4_is ho; omega)⟩ (fun k36 => ?_) (fun k36 => ?_)
        · skip
          refine g_iload_n dX12_chance_66 rfl ?_
          exact g_retI dX12_chance_67 rfl (hQ x31_2_6 ⟨by (clear hmh hmr9 gc4_is ho k36; omega), by (clear hmh hmr9 gc4_is ho k36; omega)⟩ _ hB31_6 (FrM.c (FrM.c FrM.rf hFc6 rfl) hE31_6 rfl) (by have q0 := b0_74 hB31_6; (clear hmh hmr9 gc4_is ho k36; omega)) (by rw [chR_y (by (clear hmr9 gc4_is ho k36; omega)), show a1 = x31_3_6 by (clear hmh hmr9 gc4_is ho; omega)]; exact i31_3_6) w31_MVw_6 w31_RE_6 (by rw [aCha_y ⟨by (clear hmr9 gc4_is ho k36; omega), by (clear hmh hmr9 gc4_is ho k36; omega), by (clear hmh hmr9 gc4_is ho k36; omega)⟩, show a1 = x31_3_6 by (clear hmh hmr9 gc4_is ho; omega)]; exact i31_1_6))
        · skip
          have hcN9 := i31_3_6
          have iv37 : AM (aDrs (x31_3_6).toNat (aPush A)) H31_6 := i31_1_6
          refine g_iload_n dX12_chance_36 rfl ?_
          refine g_aload_n dX12_chance_37 rfl ?_
          refine g_aload_n dX12_chance_38 rfl ?_
          refine g_aload_n dX12_chance_39 rfl ?_
          refine m_g52 (z := (P 0 52)) rfl dX12_chance_40 ((hE31_6.1 52 rfl).trans ((hFc6.1 52 rfl).trans rfl)) ?_
          have f38 := b0_52 hB
          refine g_vI (av := [vI (P 0 52)]) (o := 0) (st := [vR 0, vI x31_2_6]) (f_X12_draw G H31_6 (aDrs (x31_3_6).toNat (aPush A)) (P 0 52) ⟨by have q0 := b0_52 hB; (omega), by have q0 := b0_52 hB; (clear hmh hmr9 gc4_is ho k36; omega)⟩ hB31_6 (iv37) _ (fun rc39 hc39 Pc39 hBc39 hFc39 gc39_d gc39_d2 ec39_0 => ⟨rc39, rfl, ?_⟩)) cf_X12_draw t_2144 rfl (by decide) rfl rfl rfl (Nat.le_of_ble_eq_true rfl) (by decide) rfl dX12_chance_43
          have hdr9 : rc39 = drw ((aDrs (x31_3_6).toNat (aPush A)) 0 5) / 64 % M 0 1 := by have q := gc39_d2; rw [q]; congr 1; have q2 := (((hFc39.1 52 rfl).trans ((hE31_6.1 52 rfl).trans ((hFc6.1 52 rfl).trans rfl))) : Pc39 0 52 = (P 0 52)); (omega)
          refine g_vI (av := [vI rc39]) (o := 0) (st := [vI x31_2_6]) (f_X12_runs G Pc39 (up (aDrs (x31_3_6).toNat (aPush A)) 0 5 (drw ((aDrs (x31_3_6).toNat (aPush A)) 0 5))) (K) (M) (F) rc39 ⟨by (clear hmh hmr9 gc4_is ho k36; omega), by (clear hmh hmr9 gc4_is ho k36; omega)⟩ hBc39 (by have q0 := (((hFc39.1 74 rfl).trans rfl) : Pc39 0 74 = (H31_6 0 74)); have q1 := b0_74 hB31_6; (clear hmh hmr9 gc4_is ho k36; omega)) p_aw p_av p_az (((GA.drs _ (p_ga.push p_wa)).u0 (Or.inr (Or.inl rfl)))) p_gw (okC.fr (F := ([59, 60, 61, 62, 66, 74, 76, 78], [35, 36, 37, 38, 39, 40, 41, 42, 43, 44, 49, 50])) v_okC (FrM.c (FrM.c (FrM.c FrM.rf hFc6 rfl) hE31_6 rfl) hFc39 rfl) rfl) (MVw.fr (F := ([61], [])) w31_MVw_6 (FrM.c FrM.rf hFc39 rfl) rfl) (RE.fr (F := ([61], [])) w31_RE_6 (FrM.c FrM.rf hFc39 rfl) rfl) (ec39_0) ((MKB.fr (F := ([59, 60, 61, 62, 66, 74, 76, 78], [35, 36, 37, 38, 39, 40, 41, 42, 43, 44, 49, 50])) z3 (FrM.c (FrM.c (FrM.c FrM.rf hFc6 rfl) hE31_6 rfl) hFc39 rfl) rfl)) ((MMB.fr (F := ([59, 60, 61, 62, 66, 74, 76, 78], [35, 36, 37, 38, 39, 40, 41, 42, 43, 44, 49, 50])) z4 (FrM.c (FrM.c (FrM.c FrM.rf hFc6 rfl) hE31_6 rfl) hFc39 rfl) rfl)) ((LYT.fr z5 (show FrM ([59, 60, 61, 62, 66, 74, 76, 78], [35, 36, 37, 38, 39, 40, 41, 42, 43, 44, 49, 50]) _ _ from (FrM.c (FrM.c (FrM.c FrM.rf hFc6 rfl) hE31_6 rfl) hFc39 rfl)) rfl)) _ (fun rc40 hc40 Pc40 hBc40 hFc40 gc40_st gc40_tk vc40_MVw vc40_RE ec40_0 => ⟨rc40, rfl, ?_⟩)) cf_X12_runs t_2136 rfl (by decide) rfl rfl rfl (Nat.le_of_ble_eq_true rfl) (by decide) rfl dX12_chance_46
          have zf41 : Pc39 0 74 = (H31_6 0 74) := ((hFc39.1 74 rfl).trans rfl)
          have hch9 : AM (aDrs (x31_3_6 + 1).toNat (aPush A)) Pc40 := by
            rw [show (x31_3_6 + 1).toNat = (x31_3_6).toNat + 1 by (clear hmh hmr9 gc4_is ho k36; omega)]
            have q := ec40_0
            rw [up_k (by decide)] at q
            exact q
          have htk9 := gc40_tk
          rw [tak_drs, hdr9] at htk9
          refine g_iconst dX12_chance_49 ?_
          refine g_icmp_ne (tgt := 57) dX12_chance_50 (by decide) ⟨by (clear hmh hmr9 gc4_is ho k36; omega), by (clear hmh hmr9 gc4_is ho k36; omega)⟩ (by decide) (fun k42 => ?_) (fun k42 => ?_)
          · have k42n : 0 ≤ rc40 := by (clear hmh hmr9 gc4_is ho k36; omega)
            clear k42
            skip
            refine g_iconst dX12_chance_57 ?_
            have hch8 : x31_2_6 + 0 = chN K M F (aPush A) (x31_3_6 + 1).toNat := by
              rw [show (x31_3_6 + 1).toNat = (x31_3_6).toNat + 1 by (clear hmh hmr9 gc4_is ho k36; omega)]
              show _ = chN K M F (aPush A) (x31_3_6).toNat + (if tak K M F (aPush A) (aPush A 0 1) (drw (aDrs (x31_3_6).toNat (aPush A) 0 5) / 64 % M 0 1) = -1 then 1 else 0)
              rw [← hcN9]
              first
              | (rw [if_pos (by (first | (clear hmh hmr9 gc4_is ho k36; omega) | (clear hmh hmr9 gc4_is ho; omega) | (clear hmh hmr9 gc4_is k36; omega) | (clear hmh hmr9 ho k36; omega) | (clear hmh gc4_is ho k36; omega) | (clear hmr9 gc4_is ho k36; omega) | (clear hmh hmr9 gc4_is; omega) | (clear hmh; omega) | omega))])
              | (rw [if_neg (by (clear hmh hmr9 gc4_is ho k36; omega))])
            refine g_iadd dX12_chance_58 ?_
            refine g_istore_n (l1 := [(2, vI (x31_2_6 + 0)), (0, vR 0), (1, vI a1), (3, vI x31_3_6)]) dX12_chance_59 (by decide) rfl ?_
            refine g_iinc (l1 := [(3, vI (x31_3_6 + 1)), (2, vI (x31_2_6 + 0)), (0, vR 0), (1, vI a1)]) dX12_chance_60 rfl (by decide) rfl ?_
            refine g_goto (tgt := 31) dX12_chance_63 (by decide) ?_
            refine g_forget (l1 := [(0, vR 0), (1, vI a1), (2, vI (x31_2_6 + 0)), (3, vI (x31_3_6 + 1))]) (by intro q hq; simp only [List.mem_cons, List.not_mem_nil, or_false] at hq ⊢; rcases hq with rfl | rfl | rfl | rfl <;> simp) ?_
            exact ih31_6 (x31_3_6 + 1) ⟨by (clear hmh hmr9 gc4_is ho k36; omega), by (omega)⟩ (x31_2_6 + 0) ⟨by (clear hmh hmr9 gc4_is ho k36; omega), by (clear hmh hmr9 gc4_is ho k36; omega)⟩ _ hBc40 (FrM.c (FrM.c (FrM.c FrM.rf hE31_6 rfl) hFc39 rfl) hFc40 rfl) (by have q0 := b0_74 hBc40; (clear hmh hmr9 gc4_is ho k36; omega)) (by first | exact hch9 | exact (by first | (rw [show (aPush A) = (up (up (aDrs (x31_3_6).toNat (aPush A)) 0 5 (drw ((aDrs (x31_3_6).toNat (aPush A)) 0 5))) 0 3 ((up (aDrs (x31_3_6).toNat (aPush A)) 0 5 (drw ((aDrs (x31_3_6).toNat (aPush A)) 0 5))) 0 3 + 1)) by (first | (clear hmh hmr9 gc4_is ho k36; omega) | (clear hmh hmr9 gc4_is ho; omega) | (clear hmh hmr9 gc4_is k36; omega) | (clear hmh hmr9 ho k36; omega) | (clear hmh gc4_is ho k36; omega) | (clear hmr9 gc4_is ho k36; omega) | (clear hmh hmr9 gc4_is; omega) | (clear hmh; omega) | omega)]; exact ec40_0))) (by (clear hmh hmr9 gc4_is ho; omega)) (by first | exact hch8 | rfl) (by (clear hmh hmr9 gc4_is ho k36; omega)) vc40_RE vc40_MVw (by (clear hmh hmr9 gc4_is ho k36; omega))
          · skip
            refine g_iconst dX12_chance_53 ?_
            refine g_goto (tgt := 58) dX12_chance_54 (by decide) ?_
            have hch8 : x31_2_6 + 1 = chN K M F (aPush A) (x31_3_6 + 1).toNat := by
              rw [show (x31_3_6 + 1).toNat = (x31_3_6).toNat + 1 by (clear hmh hmr9 gc4_is ho k36 k42; omega)]
              show _ = chN K M F (aPush A) (x31_3_6).toNat + (if tak K M F (aPush A) (aPush A 0 1) (drw (aDrs (x31_3_6).toNat (aPush A) 0 5) / 64 % M 0 1) = -1 then 1 else 0)
              rw [← hcN9]
              first
              | (rw [if_pos (by (clear hmh hmr9 gc4_is ho k36; omega))])
              | (rw [if_neg (by (first | (clear hmh hmr9 gc4_is ho k36 k42; omega) | (clear hmh hmr9 gc4_is ho k36; omega) | (clear hmh hmr9 gc4_is ho k42; omega) | (clear hmh hmr9 gc4_is k36 k42; omega) | (clear hmh hmr9 ho k36 k42; omega) | (clear hmh gc4_is ho k36 k42; omega) | (clear hmr9 gc4_is ho k36 k42; omega) | (clear hmh hmr9 gc4_is ho; omega) | (clear hmr9 hmh; omega) | omega))])
            refine g_iadd dX12_chance_58 ?_
            refine g_istore_n (l1 := [(2, vI (x31_2_6 + 1)), (0, vR 0), (1, vI a1), (3, vI x31_3_6)]) dX12_chance_59 (by decide) rfl ?_
            refine g_iinc (l1 := [(3, vI (x31_3_6 + 1)), (2, vI (x31_2_6 + 1)), (0, vR 0), (1, vI a1)]) dX12_chance_60 rfl (by decide) rfl ?_
            refine g_goto (tgt := 31) dX12_chance_63 (by decide) ?_
            refine g_forget (l1 := [(0, vR 0), (1, vI a1), (2, vI (x31_2_6 + 1)), (3, vI (x31_3_6 + 1))]) (by intro q hq; simp only [List.mem_cons, List.not_mem_nil, or_false] at hq ⊢; rcases hq with rfl | rfl | rfl | rfl <;> simp) ?_
            exact ih31_6 (x31_3_6 + 1) ⟨by (clear hmh hmr9 gc4_is ho k36 k42; omega), by (omega)⟩ (x31_2_6 + 1) ⟨by (clear hmh hmr9 gc4_is ho k36 k42; omega), by (omega)⟩ _ hBc40 (FrM.c (FrM.c (FrM.c FrM.rf hE31_6 rfl) hFc39 rfl) hFc40 rfl) (by have q0 := b0_74 hBc40; (clear hmh hmr9 gc4_is ho k36 k42; omega)) (by first | exact hch9 | exact (by first | (rw [show (aPush A) = (up (up (aDrs (x31_3_6).toNat (aPush A)) 0 5 (drw ((aDrs (x31_3_6).toNat (aPush A)) 0 5))) 0 3 ((up (aDrs (x31_3_6).toNat (aPush A)) 0 5 (drw ((aDrs (x31_3_6).toNat (aPush A)) 0 5))) 0 3 + 1)) by (first | (clear hmh hmr9 gc4_is ho k36 k42; omega) | (clear hmh hmr9 gc4_is ho k36; omega) | (clear hmh hmr9 gc4_is ho k42; omega) | (clear hmh hmr9 gc4_is k36 k42; omega) | (clear hmh hmr9 ho k36 k42; omega) | (clear hmh gc4_is ho k36 k42; omega) | (clear hmr9 gc4_is ho k36 k42; omega) | (clear hmh hmr9 gc4_is ho; omega) | (clear hmr9 hmh; omega) | omega)]; exact ec40_0))) (by (clear hmh hmr9 gc4_is ho k42; omega)) (by first | exact hch8 | rfl) (by (clear hmh hmr9 gc4_is ho k36 k42; omega)) vc40_RE vc40_MVw (by (clear hmh hmr9 gc4_is ho k36 k42; omega))
      refine g_forget (l1 := [(0, vR 0), (1, vI a1), (2, vI 0), (3, vI 0)]) (by intro q hq; simp only [List.mem_cons, List.not_mem_nil, or_false] at hq ⊢; rcases hq with rfl | rfl | rfl | rfl <;> simp) ?_
      exact L31_6 _ 0 (by decide) 0 (by decide) _ hBc6 FrM.rf (by have q0 := (((hFc6.1 74 rfl).trans rfl) : Pc6 0 74 = (P 0 74)); have q1 := b0_74 hB; (clear hmh hmr9 gc4_is ho; omega)) (by first | exact hch9 | exact ec6_0) (by (clear hmh hmr9 gc4_is ho; omega)) (by first | exact hch8 | rfl) (by (clear hmh hmr9 gc4_is ho; omega)) (RE.fr (F := ([59, 60], [35, 36, 37, 38, 39, 40])) v_RE (FrM.c FrM.rf hFc6 rfl) rfl) (MVw.fr (F := ([59, 60], [35, 36, 37, 38, 39, 40])) v_MVw (FrM.c FrM.rf hFc6 rfl) rfl) (Nat.lt_succ_self _)
    · skip
      refine g_aload_n dX12_chance_17 rfl ?_
      refine g_iconst dX12_chance_18 ?_
      refine g_vI (av := [vI 2]) (o := 0) (st := []) (m_X12_refuses G P 2 (by decide) hB  _ (fun rc43 hc43 Pc43 hBc43 hFc43 => ⟨rc43, rfl, ?_⟩)) cf_X12_refuses t_1667 rfl (by decide) rfl rfl rfl (Nat.le_of_ble_eq_true rfl) (by decide) rfl dX12_chance_19
      exact g_retI dX12_chance_22 rfl (hQ rc43 ⟨by (clear hmh hmr9 gc4_is k5; omega), by (clear hmh hmr9 gc4_is k5; omega)⟩ _ hBc43 (FrM.c FrM.rf hFc43 rfl) (by have q0 := (((hFc43.1 74 rfl).trans rfl) : Pc43 0 74 = (P 0 74)); have q1 := b0_74 hB; (clear hmh hmr9 gc4_is k5; omega)) (by rw [chR_n (by (clear hmh hmr9; omega))]; (clear hmh hmr9 gc4_is k5; omega)) (MVw.fr (F := ([], [28])) v_MVw (FrM.c FrM.rf hFc43 rfl) rfl) (RE.fr (F := ([], [28])) v_RE (FrM.c FrM.rf hFc43 rfl) rfl) (by rw [aCha_n (by (clear hmh hmr9; omega))]; exact (AM.fr (F := ([], [28])) z0 (FrM.c FrM.rf hFc43 rfl) rfl)))
/-! What the reference answers: X12_run. -/
set_option maxRecDepth 100000 in
set_option maxHeartbeats 4000000 in
theorem f_X12_run (G : GT) (P : PH) (A : PH) (k : Int) (M : PH) (K : PH) (F : FT) (a1 : Int) (h_a1 : (-2147483648) ≤ a1 ∧ a1 ≤ 2147483647) (hB : BdM P) (p_st : P 0 74 ≤ 199999999) (p_wa : WA k A) (p_aw : AW K) (p_av : AV K M) (p_az : AZ K M) (p_ga : GA M A) (p_gw : GW M) (v_okC : okC P) (v_MVw : MVw P) (v_RE : RE P) (z0 : AM A P) (z1 : MH M P) (z2 : MR M P) (z3 : MKB K P) (z4 : MMB M P) (z5 : LYT K M F P) (Q : Option PV → PH → Prop) (hQ : ∀ (r : Int) (_ : (-2147483648) ≤ r ∧ r ≤ 2147483647) (P1 : PH) (_ : BdM P1) (_ : FrM ([59, 60, 62, 66, 74, 76, 78], [28, 35, 36, 37, 38, 39, 40, 41, 42, 43, 44, 49, 50]) P P1) (_ : P1 0 74 ≤ P 0 74 + 1) (_ : r = tkR K M F A a1) (_ : MVw P1) (_ : RE P1) (_ : AM (aRun A M a1) P1), Q (some (vI r)) P1) : Ct WSM G 6 iX12_run [vR 0, vI a1] P Q := by
  refine Ct.of (by decide) (l0 := [(0, vR 0), (1, vI a1)]) rfl (Nat.le_of_ble_eq_true rfl) ?_
  have hp3 := aPush_0 A 3 (by decide)
  refine g_aload_n dX12_run_0 rfl ?_
  refine g_iload_n dX12_run_1 rfl ?_
  refine g_vI (av := [vI a1]) (o := 0) (st := []) (f_X12_isRow G P (M) a1 ⟨by omega, by omega⟩ hB (z1) (z2) _ (fun rc1 hc1 gc1_p gc1_f => ⟨rc1, rfl, ?_⟩)) cf_X12_isRow t_1946 rfl (by decide) rfl rfl rfl (Nat.le_of_ble_eq_true rfl) (by decide) rfl dX12_run_2
  have f2 := b0_44 hB
  have f3 := b0_52 hB
  refine g_if_ne (tgt := 14) dX12_run_5 (by decide) ⟨by (first | (clear gc1_p gc1_f; omega) | omega), by (first | (clear gc1_p gc1_f; omega) | omega)⟩ (fun k4 => ?_) (fun k4 => ?_)
  · have k4n : 1 ≤ rc1 := by (first | (clear gc1_p gc1_f k4; omega) | (clear gc1_p gc1_f; omega) | (clear gc1_p k4; omega) | (clear gc1_f k4; omega) | (clear gc1_p; omega) | omega)
    clear k4
    first | (revert r_gc1_f; intro r_gc1_f) | have r_gc1_f := (gc1_f.resolve_right (by (clear gc1_p gc1_f; omega))) | have r_gc1_f := (gc1_f.resolve_left (by (clear gc1_p gc1_f; omega))) | skip
    first | (revert r_gc1_p; intro r_gc1_p) | have r_gc1_p := (gc1_p.resolve_right (by (clear gc1_p gc1_f; omega))) | have r_gc1_p := (gc1_p.resolve_left (by (clear gc1_p gc1_f; omega))) | skip
    refine g_aload_n dX12_run_14 rfl ?_
    refine g_vV (av := []) (o := 0) (st := []) (f_X12_keeps G P (A) (k)  hB p_wa (z0) _ (fun Pc5 hBc5 hFc5 gc5_o ec5_0 => ⟨rfl, ?_⟩)) cf_X12_keeps t_2132 rfl (by decide) rfl rfl rfl (Nat.le_of_ble_eq_true rfl) (by decide) rfl dX12_run_15
    refine g_aload_n dX12_run_18 rfl ?_
    refine g_iload_n dX12_run_19 rfl ?_
    refine g_vI (av := [vI a1]) (o := 0) (st := []) (f_X12_runs G Pc5 (aPush A) (K) (M) (F) a1 ⟨by (first | (clear gc1_p gc1_f; omega) | omega), by (first | (clear gc1_p gc1_f; omega) | omega)⟩ hBc5 (by have q0 := (((hFc5.1 74 rfl).trans rfl) : Pc5 0 74 = (P 0 74)); have q1 := b0_74 hB; (first | (clear gc1_p gc1_f; omega) | (clear gc1_p; omega) | (clear gc1_f; omega) | omega)) p_aw p_av p_az (p_ga.push p_wa) p_gw (okC.fr (F := ([59, 60], [35, 36, 37, 38, 39, 40])) v_okC (FrM.c FrM.rf hFc5 rfl) rfl) (MVw.fr (F := ([59, 60], [35, 36, 37, 38, 39, 40])) v_MVw (FrM.c FrM.rf hFc5 rfl) rfl) (RE.fr (F := ([59, 60], [35, 36, 37, 38, 39, 40])) v_RE (FrM.c FrM.rf hFc5 rfl) rfl) (ec5_0) ((MKB.fr (F := ([59, 60], [35, 36, 37, 38, 39, 40])) z3 (FrM.c FrM.rf hFc5 rfl) rfl)) ((MMB.fr (F := ([59, 60], [35, 36, 37, 38, 39, 40])) z4 (FrM.c FrM.rf hFc5 rfl) rfl)) ((LYT.fr z5 (show FrM ([59, 60], [35, 36, 37, 38, 39, 40]) _ _ from (FrM.c FrM.rf hFc5 rfl)) rfl)) _ (fun rc6 hc6 Pc6 hBc6 hFc6 gc6_st gc6_tk vc6_MVw vc6_RE ec6_0 => ⟨rc6, rfl, ?_⟩)) cf_X12_runs t_2136 rfl (by decide) rfl rfl rfl (Nat.le_of_ble_eq_true rfl) (by decide) rfl dX12_run_20
    have zf7 : Pc5 0 74 = (P 0 74) := ((hFc5.1 74 rfl).trans rfl)
    have htk9 := gc6_tk
    rw [tak_push] at htk9
    exact g_retI dX12_run_23 rfl (hQ rc6 ⟨by (first | (clear gc1_p gc1_f; omega) | omega), by (first | (clear gc1_p gc1_f; omega) | omega)⟩ _ hBc6 (FrM.c (FrM.c FrM.rf hFc5 rfl) hFc6 rfl) (by have q0 := b0_74 hBc6; (first | (clear gc1_p gc1_f; omega) | (clear gc1_p; omega) | (clear gc1_f; omega) | omega)) (by rw [tkR_y (by (first | (clear gc1_p gc1_f; omega) | (clear gc1_p; omega) | (clear gc1_f; omega) | omega))]; exact htk9) vc6_MVw vc6_RE (by rw [aRun_y ⟨by (first | (clear gc1_p gc1_f; omega) | (clear gc1_p; omega) | (clear gc1_f; omega) | omega), by (first | (clear gc1_p gc1_f; omega) | (clear gc1_p; omega) | (clear gc1_f; omega) | omega), by (first | (clear gc1_p gc1_f; omega) | (clear gc1_p; omega) | (clear gc1_f; omega) | omega)⟩, ← hp3]; exact ec6_0))
  · first | (revert r_gc1_f; intro r_gc1_f) | have r_gc1_f := (gc1_f.resolve_right (by (clear gc1_p gc1_f k4; omega))) | have r_gc1_f := (gc1_f.resolve_left (by (clear gc1_p gc1_f k4; omega))) | skip
    first | (revert r_gc1_p; intro r_gc1_p) | have r_gc1_p := (gc1_p.resolve_right (by (clear gc1_p gc1_f k4; omega))) | have r_gc1_p := (gc1_p.resolve_left (by (clear gc1_p gc1_f k4; omega))) | skip
    refine g_aload_n dX12_run_8 rfl ?_
    refine g_iconst dX12_run_9 ?_
    refine g_vI (av := [vI 2]) (o := 0) (st := []) (m_X12_refuses G P 2 (by decide) hB  _ (fun rc8 hc8 Pc8 hBc8 hFc8 => ⟨rc8, rfl, ?_⟩)) cf_X12_refuses t_1667 rfl (by decide) rfl rfl rfl (Nat.le_of_ble_eq_true rfl) (by decide) rfl dX12_run_10
    exact g_retI dX12_run_13 rfl (hQ rc8 ⟨by (first | (clear gc1_p gc1_f k4; omega) | omega), by (first | (clear gc1_p gc1_f k4; omega) | omega)⟩ _ hBc8 (FrM.c FrM.rf hFc8 rfl) (by have q0 := (((hFc8.1 74 rfl).trans rfl) : Pc8 0 74 = (P 0 74)); have q1 := b0_74 hB; (first | (clear gc1_p gc1_f k4; omega) | (clear gc1_p gc1_f; omega) | (clear gc1_p k4; omega) | (clear gc1_f k4; omega) | (clear gc1_p; omega) | omega)) (by rw [tkR_n (by (first | (clear gc1_p gc1_f k4; omega) | (clear gc1_p gc1_f; omega) | (clear gc1_p k4; omega) | (clear gc1_f k4; omega) | (clear gc1_p; omega) | omega))]; (first | (clear gc1_p gc1_f k4; omega) | (clear gc1_p gc1_f; omega) | (clear gc1_p k4; omega) | (clear gc1_f k4; omega) | (clear gc1_p; omega) | omega)) (MVw.fr (F := ([], [28])) v_MVw (FrM.c FrM.rf hFc8 rfl) rfl) (RE.fr (F := ([], [28])) v_RE (FrM.c FrM.rf hFc8 rfl) rfl) (by rw [aRun_n (by (first | (clear gc1_p gc1_f k4; omega) | (clear gc1_p gc1_f; omega) | (clear gc1_p k4; omega) | (clear gc1_f k4; omega) | (clear gc1_p; omega) | omega))]; exact (AM.fr (F := ([], [28])) z0 (FrM.c FrM.rf hFc8 rfl) rfl)))
/-! What the reference answers: X12_taken. -/
set_option maxRecDepth 100000 in
set_option maxHeartbeats 4000000 in
theorem f_X12_taken (G : GT) (P : PH) (K : PH) (M : PH) (F : FT) (A : PH) (a1 : Int) (h_a1 : (-2147483648) ≤ a1 ∧ a1 ≤ 2147483647) (hB : BdM P) (p_st : P 0 74 ≤ 199999999) (p_aw : AW K) (p_av : AV K M) (p_az : AZ K M) (p_ga : GA M A) (p_gw : GW M) (v_okC : okC P) (v_MVw : MVw P) (v_RE : RE P) (z0 : AM A P) (z1 : MH M P) (z2 : MR M P) (z3 : MKB K P) (z4 : MMB M P) (z5 : LYT K M F P) (Q : Option PV → PH → Prop) (hQ : ∀ (r : Int) (_ : (-2147483648) ≤ r ∧ r ≤ 2147483647) (P1 : PH) (_ : BdM P1) (_ : FrM ([62, 66, 74], [41, 42, 43, 44]) P P1) (_ : P1 0 74 ≤ P 0 74 + 1) (_ : r = tkR K M F A a1) (_ : MVw P1) (_ : RE P1), Q (some (vI r)) P1) : Ct WSM G 5 iX12_taken [vR 0, vI a1] P Q := by
  refine Ct.of (by decide) (l0 := [(0, vR 0), (1, vI a1)]) rfl (Nat.le_of_ble_eq_true rfl) ?_
  have hb := z0.b
  have hav := p_av
  have q35 := bl_35 (k := 0) hB
  refine g_aload_n dX12_taken_0 rfl ?_
  refine g_iload_n dX12_taken_1 rfl ?_
  refine g_vI (av := [vI a1]) (o := 0) (st := []) (f_X12_isRow G P (M) a1 ⟨by (clear hb; omega), by (clear hb; omega)⟩ hB (z1) (z2) _ (fun rc1 hc1 gc1_p gc1_f => ⟨rc1, rfl, ?_⟩)) cf_X12_isRow t_1946 rfl (by decide) rfl rfl rfl (Nat.le_of_ble_eq_true rfl) (by decide) rfl dX12_taken_2
  have f2 := b0_44 hB
  have f3 := b0_52 hB
  refine g_if_ne (tgt := 10) dX12_taken_5 (by decide) ⟨by (clear hb gc1_p gc1_f; omega), by (clear hb gc1_p gc1_f; omega)⟩ (fun k4 => ?_) (fun k4 => ?_)
  · have k4n : 1 ≤ rc1 := by (clear hb gc1_p gc1_f; omega)
    clear k4
    have r_gc1_f := (gc1_f.resolve_right (by (clear hb gc1_p gc1_f; omega)))
    have r_gc1_p := (gc1_p.resolve_left (by (clear hb gc1_p gc1_f; omega)))
    refine g_aload_n dX12_taken_10 rfl ?_
    refine g_iconst dX12_taken_11 ?_
    have iv5 : ODb 0 (A 0 0) (A 1) P := AM.od z0
    refine g_vV (av := [vI 0]) (o := 0) (st := []) (f_X12_arranges G P (K) (M) (F) (A 0 0) (A 1) 0 (by decide) hB (by have q0 := b0_74 hB; (clear hb gc1_p gc1_f; omega)) p_aw (p_av) (p_ga.1) (⟨by (clear gc1_p gc1_f; omega), by (clear gc1_p gc1_f; omega)⟩) v_MVw v_RE (z4) (z5) (iv5) _ (fun Pc6 hBc6 hFc6 gc6_st vc6_MV vc6_RE vc6_RLt ec6_0 => ⟨rfl, ?_⟩)) cf_X12_arranges t_1887 rfl (by decide) rfl rfl rfl (Nat.le_of_ble_eq_true rfl) (by decide) rfl dX12_taken_12
    refine g_aload_n dX12_taken_15 rfl ?_
    refine g_iload_n dX12_taken_16 rfl ?_
    refine g_vI (av := [vI a1]) (o := 0) (st := []) (f_X12_fitting G Pc6 (K) (M) (F) (A 0 0) (A 1) a1 ⟨by (clear hb gc1_p gc1_f; omega), by (clear hb gc1_p gc1_f; omega)⟩ hBc6 p_aw (p_av) (p_az) (⟨by (clear gc1_p gc1_f; omega), by (clear gc1_p gc1_f; omega)⟩) (okC.fr (F := ([62, 66, 74], [41, 42, 43])) v_okC (FrM.c FrM.rf hFc6 rfl) rfl) ((MKB.fr (F := ([62, 66, 74], [41, 42, 43])) z3 (FrM.c FrM.rf hFc6 rfl) rfl)) ((MMB.fr (F := ([62, 66, 74], [41, 42, 43])) z4 (FrM.c FrM.rf hFc6 rfl) rfl)) (ec6_0) _ (fun rc7 hc7 Pc7 hBc7 hFc7 gc7_ft => ⟨rc7, rfl, ?_⟩)) cf_X12_fitting t_1899 rfl (by decide) rfl rfl rfl (Nat.le_of_ble_eq_true rfl) (by decide) rfl dX12_taken_17
    obtain ⟨X9, hX9⟩ : ∃ X : Int, X = rc7 := ⟨_, rfl⟩
    have hft9 := gc7_ft
    rw [← hX9] at hft9
    refine g_aload_n dX12_taken_20 rfl ?_
    refine g_aload_n dX12_taken_21 rfl ?_
    refine m_g55 rfl dX12_taken_22 ?_
    refine g_iconst dX12_taken_25 ?_
    refine m_l37 (z := (P 37 0)) dX12_taken_26 (by decide) ((congrFun (hFc7.2 37 rfl rfl) _).trans ((congrFun (hFc6.2 37 rfl rfl) _).trans rfl)) ?_
    have f8 := bl_37 (k := 0) hB
    refine g_vI (av := [vI (P 37 0)]) (o := 0) (st := [vI rc7]) (f_X12_openBy G Pc7 (K) (M) (F) (A 0 0) (A 1) (P 37 0) ⟨by have q0 := bl_37 (k := 0) hB; (clear hb gc1_p gc1_f; omega), by have q0 := bl_37 (k := 0) hB; (clear hb gc1_p gc1_f; omega)⟩ hBc7 (by have q := (((congrFun (hFc7.2 37 rfl rfl) _).trans ((congrFun (hFc6.2 37 rfl rfl) _).trans rfl)) : Pc7 37 0 = (P 37 0)); have q2 := p_ga.2.1; (clear hb gc1_p gc1_f; omega)) (p_ga.1) (p_gw) (⟨by (clear gc1_p gc1_f; omega), by (clear gc1_p gc1_f; omega)⟩) ((ARG.fr ec6_0 (show FrM ([], [44]) _ _ from (FrM.c FrM.rf hFc7 rfl)) rfl)) _ (fun rc9 hc9 gc9_op => ⟨rc9, rfl, ?_⟩)) cf_X12_openBy t_1923 rfl (by decide) rfl rfl rfl (Nat.le_of_ble_eq_true rfl) (by decide) rfl dX12_taken_27
    obtain ⟨Y9, hY9⟩ : ∃ X : Int, X = rc9 := ⟨_, rfl⟩
    have hop9 := gc9_op
    rw [← hY9] at hop9
    refine g_iand dX12_taken_30 ?_
    refine g_nm (fun b10 e_b10 => ?_)
    have h_b10 := iand_l (x := rc7) (y := rc9) ⟨by (clear hb gc1_p gc1_f; omega), by (clear hb gc1_p gc1_f; omega)⟩
    rw [← e_b10] at h_b10
    have hx9 : b10 = iand X9 Y9 := by rw [e_b10, hX9, hY9]
    have htk9 := fun (w : Int) => take_f (w := w) hft9 hop9 ⟨by (clear hb gc1_p gc1_f; omega), by (clear hb gc1_p gc1_f; omega)⟩ ⟨by (clear hb gc1_p gc1_f; omega), by (clear hb gc1_p gc1_f; omega)⟩ (by (clear gc1_p gc1_f; omega))
    refine g_sI (av := [vI b10]) (st := []) (f_X12_lowest G Pc7 b10 ⟨by (clear hb gc1_p gc1_f; omega), by (clear hb gc1_p gc1_f; omega)⟩ hBc7  _ (fun rc11 hc11 gc11_l gc11_b gc11_t gc11_f => ⟨rc11, rfl, ?_⟩)) cf_X12_lowest t_1927 rfl (Nat.le_of_ble_eq_true rfl) (by decide) rfl dX12_taken_31
    have htw9 : rc11 = tak K M F A (A 0 1) a1 := by
      have q := htk9 rc11 (by rw [← hx9]; exact gc11_l) (by rw [← hx9]; exact gc11_t) (by rw [← hx9]; exact gc11_f)
      rw [hb.2.1] at q
      exact q
    exact g_retI dX12_taken_34 rfl (hQ rc11 ⟨by (clear hb gc1_p gc1_f gc11_l gc11_b gc11_t; omega), by (clear hb gc1_p gc1_f gc11_l gc11_b gc11_t; omega)⟩ _ hBc7 (FrM.c (FrM.c FrM.rf hFc6 rfl) hFc7 rfl) (by have q0 := (((hFc7.1 74 rfl).trans rfl) : Pc7 0 74 = (Pc6 0 74)); have q1 := b0_74 hBc6; (clear hb gc1_p gc1_f gc11_l gc11_b gc11_t; omega)) (by rw [tkR_y (by (clear hb gc1_p gc1_f gc11_l gc11_b gc11_t; omega))]; exact htw9) ((MV.fr (F := ([], [44])) vc6_MV (FrM.c FrM.rf hFc7 rfl) rfl).w) (RE.fr (F := ([], [44])) vc6_RE (FrM.c FrM.rf hFc7 rfl) rfl))
  · skip
    skip
    refine g_iconst dX12_taken_8 ?_
    exact g_retI dX12_taken_9 rfl (hQ (-1) (by decide) _ hB FrM.rf (by have q0 := b0_74 hB; (clear hb gc1_p gc1_f k4; omega)) (by rw [tkR_n (by (clear hb gc1_p; omega))]) v_MVw v_RE)
