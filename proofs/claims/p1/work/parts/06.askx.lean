/-! The class on a fresh object: each public method. -/
abbrev w0_c_X11_matched (cI : ClassId) (h0 : Nat) (r : Nat → Nat) : va_W := [(h0, .inr (11, [.ref (r 0), .ref (r 1), .ref (r 2), .ref (r 3), .ref (r 4), .ref (r 5), .ref (r 6), .ref (r 7), .ref (r 8), .ref (r 9), .ref (r 10), .ref (r 11), .ref (r 12), .ref (r 13), .int 1])), ((r 10), .inr (9, [.ref (r 26), .ref (r 27), .ref (r 28), .ref (r 29), .ref (r 30), .ref (r 31), .int 0, .int 0, .int 0, .int 0, .int 0]))]
set_option maxHeartbeats 4000000 in
set_option maxRecDepth 100000 in
theorem c_X11_matched (l : Launch) (dC : Nat → ClassId) (dI : Nat → Nat → Nat) (cI cJ : ClassId) (h0 : Nat) (r : Nat → Nat) (sz : Nat) : Met l yX11_matched wsX11_matched ({ frames := 1, cells := 0, slots := 0, locals := 60 }) (va_Pc [.ref h0] (mPre dC dI cI cJ sz (w0_c_X11_matched cI h0 r))) (va_Qi (fun (r : Int32) (u : Unit) => r = 0) (fun (u : Unit) (t : State) => va_P (dC, dI) vwCl [(h0, .inr (11, [.ref (r 0), .ref (r 1), .ref (r 2), .ref (r 3), .ref (r 4), .ref (r 5), .ref (r 6), .ref (r 7), .ref (r 8), .ref (r 9), .ref (r 10), .ref (r 11), .ref (r 12), .ref (r 13), .int 1])), ((r 10), .inr (9, [.ref (r 26), .ref (r 27), .ref (r 28), .ref (r 29), .ref (r 30), .ref (r 31), .int 0, .int 0, .int 0, .int 0, .int 0]))] t.heap ∧ va_D (va_A (w0_c_X11_matched cI h0 r) sz) [(h0, .inr (11, [.ref (r 0), .ref (r 1), .ref (r 2), .ref (r 3), .ref (r 4), .ref (r 5), .ref (r 6), .ref (r 7), .ref (r 8), .ref (r 9), .ref (r 10), .ref (r 11), .ref (r 12), .ref (r 13), .int 1])), ((r 10), .inr (9, [.ref (r 26), .ref (r 27), .ref (r 28), .ref (r 29), .ref (r 30), .ref (r 31), .int 0, .int 0, .int 0, .int 0, .int 0]))]) (va_A (w0_c_X11_matched cI h0 r) sz)) 0 0 (va_A (w0_c_X11_matched cI h0 r) sz) := by
  refine Met.ofW (cc := cX11_matched) (maxL := 1) (ret := (some .boolean)) (by decide) rfl ?_
  intro p e s m args below meth c s₁ B hml hv
  obtain ⟨rfl, hsz, hP, hK, hD0, hN⟩ := hv
  have hx := B.exec
  have hb := B.bytes
  have hr := B.returns
  have hts := atoms_spec (ws := wsX11_matched) B.pre
  have hown : s.vm.findClass RX11 = some m.cls := findClass_of_methodNamed B.named
  have hlocks := B.notSynchronized
  have h_in_X11 : ∀ w ∈ wsX110, w ∈ wsX11_matched := fun w h => List.mem_cons_of_mem _ (List.mem_append_left _ (List.mem_append_right _ h))
  have h_in_X9 : ∀ w ∈ wsX90, w ∈ wsX11_matched := fun w h => List.mem_cons_of_mem _ (List.mem_append_right _ h)
  subst hsz
  have hD := hD0.self (sz := s.heap.size)
  generalize hAe : va_A (w0_c_X11_matched cI h0 r) s.heap.size = A at hD ⊢
  have hA : ∀ q : Nat, s.heap.size ≤ q → A q := fun q h => by rw [← hAe]; exact Or.inr h
  have hS : va_S A s.heap s.heap [] := va_S.rf
  have hP : va_P (dC, dI) vwCl [(h0, .inr (11, [.ref (r 0), .ref (r 1), .ref (r 2), .ref (r 3), .ref (r 4), .ref (r 5), .ref (r 6), .ref (r 7), .ref (r 8), .ref (r 9), .ref (r 10), .ref (r 11), .ref (r 12), .ref (r 13), .int 1])), ((r 10), .inr (9, [.ref (r 26), .ref (r 27), .ref (r 28), .ref (r 29), .ref (r 30), .ref (r 31), .int 0, .int 0, .int 0, .int 0, .int 0]))] s.heap := hP
  have hD : va_D A [(h0, .inr (11, [.ref (r 0), .ref (r 1), .ref (r 2), .ref (r 3), .ref (r 4), .ref (r 5), .ref (r 6), .ref (r 7), .ref (r 8), .ref (r 9), .ref (r 10), .ref (r 11), .ref (r 12), .ref (r 13), .int 1])), ((r 10), .inr (9, [.ref (r 26), .ref (r 27), .ref (r 28), .ref (r 29), .ref (r 30), .ref (r 31), .int 0, .int 0, .int 0, .int 0, .int 0]))] := hD
  have hl := lv_entry ([.ref h0]) (n := 1) (Nat.le_of_ble_eq_true rfl)
  rw [lg_entry_eq]
  generalize (lg_sl ([.ref h0]) ++ List.replicate (1 - (lg_sl ([.ref h0])).length) Slot.unset).toArray = ls at hl ⊢
  have hl : lv_has ls 1 [(0, .ref h0)] := hl
  refine lv_aload_n hx hb dX11_matched_0 rfl (lv_at hl 0 rfl) ?_
  refine va_get (D := (dC, dI)) (ci := 11) (v := .ref (r 10)) (C := RX11) (T := TX11) (N := 15) hx hb hts h_in_X11 hown hK hP 0 rfl rfl 10 (by decide) (hts (.fieldLink RX11 71 "MatchTrees" "table" "LMatchTrees$Table;") (by decide +kernel)) (fun _ h9 => h9) rfl dX11_matched_1 ?_
  refine va_get (D := (dC, dI)) (ci := 9) (v := .int 0) (C := RX9) (T := TX9) (N := 11) hx hb hts h_in_X9 hown hK hP 1 rfl rfl 6 (by decide) (hts (.fieldLink RX11 130 "MatchTrees$Table" "columns" "I") (by decide +kernel)) (fun _ h9 => h9) rfl dX11_matched_4 ?_
  refine lv_if_le (tgt := 14) hx hb dX11_matched_7 (by decide) (fun _ => ?_) (fun c => absurd (by decide) c)
  refine lv_iconst (v := 0) hx hb dX11_matched_14 (by decide) ?_
  have hP9 := hP.sub (ws' := [(h0, .inr (11, [.ref (r 0), .ref (r 1), .ref (r 2), .ref (r 3), .ref (r 4), .ref (r 5), .ref (r 6), .ref (r 7), .ref (r 8), .ref (r 9), .ref (r 10), .ref (r 11), .ref (r 12), .ref (r 13), .int 1])), ((r 10), .inr (9, [.ref (r 26), .ref (r 27), .ref (r 28), .ref (r 29), .ref (r 30), .ref (r 31), .int 0, .int 0, .int 0, .int 0, .int 0]))]) [0, 1] rfl
  have hD9 := hD.sub (ws' := [(h0, .inr (11, [.ref (r 0), .ref (r 1), .ref (r 2), .ref (r 3), .ref (r 4), .ref (r 5), .ref (r 6), .ref (r 7), .ref (r 8), .ref (r 9), .ref (r 10), .ref (r 11), .ref (r 12), .ref (r 13), .int 1])), ((r 10), .inr (9, [.ref (r 26), .ref (r 27), .ref (r 28), .ref (r 29), .ref (r 30), .ref (r 31), .int 0, .int 0, .int 0, .int 0, .int 0]))]) [0, 1] (by decide) rfl
  exact W.zret (v := 0) hx hb hr rfl (fun t ht hW => ⟨⟨0, (), rfl, rfl, by rw [ht]; exact hP9, hD9⟩, hS.F ht⟩) hS.2.2 dX11_matched_15
abbrev w0_c_X11_refuse_0 (cI : ClassId) (h0 : Nat) (r : Nat → Nat) : va_W := [(h0, .inr (11, [.ref (r 0), .ref (r 1), .ref (r 2), .ref (r 3), .ref (r 4), .ref (r 5), .ref (r 6), .ref (r 7), .ref (r 8), .ref (r 9), .ref (r 10), .ref (r 11), .ref (r 12), .ref (r 13), .int 1])), ((r 9), .inl (cI, 6, .inl (fun _ => 0)))]
set_option maxHeartbeats 4000000 in
set_option maxRecDepth 100000 in
theorem c_X11_refuse_0 (l : Launch) (dC : Nat → ClassId) (dI : Nat → Nat → Nat) (cI cJ : ClassId) (h0 : Nat) (r : Nat → Nat) (sz : Nat) : Met l yX11_refuse wsX11_refuse ({ frames := 1, cells := 0, slots := 0, locals := 60 }) (va_Pc [.ref h0, .int 0] (mPre dC dI cI cJ sz (w0_c_X11_refuse_0 cI h0 r))) (va_Qi (fun (r : Int32) (u : Unit) => r = 0) (fun (u : Unit) (t : State) => ∃ (g : Nat → Int32), va_P (dC, dI) vwCl [(h0, .inr (11, [.ref (r 0), .ref (r 1), .ref (r 2), .ref (r 3), .ref (r 4), .ref (r 5), .ref (r 6), .ref (r 7), .ref (r 8), .ref (r 9), .ref (r 10), .ref (r 11), .ref (r 12), .ref (r 13), .int 1])), ((r 9), .inl (cI, 6, .inl g))] t.heap ∧ va_D (va_A (w0_c_X11_refuse_0 cI h0 r) sz) [(h0, .inr (11, [.ref (r 0), .ref (r 1), .ref (r 2), .ref (r 3), .ref (r 4), .ref (r 5), .ref (r 6), .ref (r 7), .ref (r 8), .ref (r 9), .ref (r 10), .ref (r 11), .ref (r 12), .ref (r 13), .int 1])), ((r 9), .inl (cI, 6, .inl g))]) (va_A (w0_c_X11_refuse_0 cI h0 r) sz)) 0 0 (va_A (w0_c_X11_refuse_0 cI h0 r) sz) := by
  refine Met.ofW (cc := cX11_refuse) (maxL := 2) (ret := (some .boolean)) (by decide) rfl ?_
  intro p e s m args below meth c s₁ B hml hv
  obtain ⟨rfl, hsz, hP, hK, hD0, hN⟩ := hv
  have hx := B.exec
  have hb := B.bytes
  have hr := B.returns
  have hts := atoms_spec (ws := wsX11_refuse) B.pre
  have hown : s.vm.findClass RX11 = some m.cls := findClass_of_methodNamed B.named
  have hlocks := B.notSynchronized
  have h_in_X11 : ∀ w ∈ wsX110, w ∈ wsX11_refuse := fun w h => List.mem_cons_of_mem _ (List.mem_append_right _ h)
  subst hsz
  have hD := hD0.self (sz := s.heap.size)
  generalize hAe : va_A (w0_c_X11_refuse_0 cI h0 r) s.heap.size = A at hD ⊢
  have hA : ∀ q : Nat, s.heap.size ≤ q → A q := fun q h => by rw [← hAe]; exact Or.inr h
  have hS : va_S A s.heap s.heap [] := va_S.rf
  have hP : va_P (dC, dI) vwCl [(h0, .inr (11, [.ref (r 0), .ref (r 1), .ref (r 2), .ref (r 3), .ref (r 4), .ref (r 5), .ref (r 6), .ref (r 7), .ref (r 8), .ref (r 9), .ref (r 10), .ref (r 11), .ref (r 12), .ref (r 13), .int 1])), ((r 9), .inl (cI, 6, .inl (fun _ => 0)))] s.heap := hP
  have hD : va_D A [(h0, .inr (11, [.ref (r 0), .ref (r 1), .ref (r 2), .ref (r 3), .ref (r 4), .ref (r 5), .ref (r 6), .ref (r 7), .ref (r 8), .ref (r 9), .ref (r 10), .ref (r 11), .ref (r 12), .ref (r 13), .int 1])), ((r 9), .inl (cI, 6, .inl (fun _ => 0)))] := hD
  have hl := lv_entry ([.ref h0, .int 0]) (n := 2) (Nat.le_of_ble_eq_true rfl)
  rw [lg_entry_eq]
  generalize (lg_sl ([.ref h0, .int 0]) ++ List.replicate (2 - (lg_sl ([.ref h0, .int 0])).length) Slot.unset).toArray = ls at hl ⊢
  have hl : lv_has ls 2 [(0, .ref h0), (1, .int 0)] := hl
  refine lv_iload_n hx hb dX11_refuse_0 rfl (lv_at hl 1 rfl) ?_
  refine lv_if_lt (tgt := 20) hx hb dX11_refuse_1 (by decide) (fun c => absurd c (by decide)) (fun _ => ?_)
  refine lv_iload_n hx hb dX11_refuse_4 rfl (lv_at hl 1 rfl) ?_
  refine lv_bipush (v := 6) hx hb dX11_refuse_5 (by decide) ?_
  refine lv_icmp_ge (tgt := 20) hx hb dX11_refuse_7 (by decide) (fun c => absurd c (by decide)) (fun _ => ?_)
  refine lv_aload_n hx hb dX11_refuse_10 rfl (lv_at hl 0 rfl) ?_
  refine va_get (D := (dC, dI)) (ci := 11) (v := .ref (r 9)) (C := RX11) (T := TX11) (N := 15) hx hb hts h_in_X11 hown hK hP 0 rfl rfl 9 (by decide) (hts (.fieldLink RX11 64 "MatchTrees" "refused" "[I") (by decide +kernel)) (fun _ h9 => h9) rfl dX11_refuse_11 ?_
  refine lv_iload_n hx hb dX11_refuse_14 rfl (lv_at hl 1 rfl) ?_
  refine lv_dup2_11 hx hb dX11_refuse_15 rfl rfl ?_
  refine va_iald hx hb hK hP 1 0 rfl rfl (vpd (by decide)) dX11_refuse_16 ?_
  refine lv_topi (fun t9 e9 => ?_)
  obtain rfl : t9 = 0 := e9
  refine lv_iconst (v := 1) hx hb dX11_refuse_17 (by decide) ?_
  refine k_iadd (v := 1) hx hb (by decide) dX11_refuse_18 ?_
  refine va_iast hx hb hK hP hD hS 1 0 rfl rfl (vpd (by decide)) dX11_refuse_19 (fun H locs hP hD hS => ?_)
  obtain ⟨g_1, e_g_1⟩ : ∃ y : Nat → Int32, y = upd (fun _ => 0) (0 : Int32).toNatClampNeg 1 := ⟨_, rfl⟩
  have hP : va_P (dC, dI) vwCl [(h0, .inr (11, [.ref (r 0), .ref (r 1), .ref (r 2), .ref (r 3), .ref (r 4), .ref (r 5), .ref (r 6), .ref (r 7), .ref (r 8), .ref (r 9), .ref (r 10), .ref (r 11), .ref (r 12), .ref (r 13), .int 1])), ((r 9), .inl (cI, 6, .inl g_1))] H := by rw [e_g_1]; exact hP
  have hD : va_D A [(h0, .inr (11, [.ref (r 0), .ref (r 1), .ref (r 2), .ref (r 3), .ref (r 4), .ref (r 5), .ref (r 6), .ref (r 7), .ref (r 8), .ref (r 9), .ref (r 10), .ref (r 11), .ref (r 12), .ref (r 13), .int 1])), ((r 9), .inl (cI, 6, .inl g_1))] := by rw [e_g_1]; exact hD
  refine lv_iconst (v := 0) hx hb dX11_refuse_20 (by decide) ?_
  have hP9 := hP.sub (ws' := [(h0, .inr (11, [.ref (r 0), .ref (r 1), .ref (r 2), .ref (r 3), .ref (r 4), .ref (r 5), .ref (r 6), .ref (r 7), .ref (r 8), .ref (r 9), .ref (r 10), .ref (r 11), .ref (r 12), .ref (r 13), .int 1])), ((r 9), .inl (cI, 6, .inl g_1))]) [0, 1] rfl
  have hD9 := hD.sub (ws' := [(h0, .inr (11, [.ref (r 0), .ref (r 1), .ref (r 2), .ref (r 3), .ref (r 4), .ref (r 5), .ref (r 6), .ref (r 7), .ref (r 8), .ref (r 9), .ref (r 10), .ref (r 11), .ref (r 12), .ref (r 13), .int 1])), ((r 9), .inl (cI, 6, .inl g_1))]) [0, 1] (by decide) rfl
  exact W.zret (v := 0) hx hb hr rfl (fun t ht hW => ⟨⟨0, (), rfl, rfl, g_1, by rw [ht]; exact hP9, hD9⟩, hS.F ht⟩) hS.2.2 dX11_refuse_21
abbrev w0_c_X11_refuse_1 (cI : ClassId) (h0 : Nat) (r : Nat → Nat) : va_W := [(h0, .inr (11, [.ref (r 0), .ref (r 1), .ref (r 2), .ref (r 3), .ref (r 4), .ref (r 5), .ref (r 6), .ref (r 7), .ref (r 8), .ref (r 9), .ref (r 10), .ref (r 11), .ref (r 12), .ref (r 13), .int 1])), ((r 9), .inl (cI, 6, .inl (fun _ => 0)))]
set_option maxHeartbeats 4000000 in
set_option maxRecDepth 100000 in
theorem c_X11_refuse_1 (l : Launch) (dC : Nat → ClassId) (dI : Nat → Nat → Nat) (cI cJ : ClassId) (h0 : Nat) (r : Nat → Nat) (sz : Nat) : Met l yX11_refuse wsX11_refuse ({ frames := 1, cells := 0, slots := 0, locals := 60 }) (va_Pc [.ref h0, .int 1] (mPre dC dI cI cJ sz (w0_c_X11_refuse_1 cI h0 r))) (va_Qi (fun (r : Int32) (u : Unit) => r = 0) (fun (u : Unit) (t : State) => ∃ (g : Nat → Int32), va_P (dC, dI) vwCl [(h0, .inr (11, [.ref (r 0), .ref (r 1), .ref (r 2), .ref (r 3), .ref (r 4), .ref (r 5), .ref (r 6), .ref (r 7), .ref (r 8), .ref (r 9), .ref (r 10), .ref (r 11), .ref (r 12), .ref (r 13), .int 1])), ((r 9), .inl (cI, 6, .inl g))] t.heap ∧ va_D (va_A (w0_c_X11_refuse_1 cI h0 r) sz) [(h0, .inr (11, [.ref (r 0), .ref (r 1), .ref (r 2), .ref (r 3), .ref (r 4), .ref (r 5), .ref (r 6), .ref (r 7), .ref (r 8), .ref (r 9), .ref (r 10), .ref (r 11), .ref (r 12), .ref (r 13), .int 1])), ((r 9), .inl (cI, 6, .inl g))]) (va_A (w0_c_X11_refuse_1 cI h0 r) sz)) 0 0 (va_A (w0_c_X11_refuse_1 cI h0 r) sz) := by
  refine Met.ofW (cc := cX11_refuse) (maxL := 2) (ret := (some .boolean)) (by decide) rfl ?_
  intro p e s m args below meth c s₁ B hml hv
  obtain ⟨rfl, hsz, hP, hK, hD0, hN⟩ := hv
  have hx := B.exec
  have hb := B.bytes
  have hr := B.returns
  have hts := atoms_spec (ws := wsX11_refuse) B.pre
  have hown : s.vm.findClass RX11 = some m.cls := findClass_of_methodNamed B.named
  have hlocks := B.notSynchronized
  have h_in_X11 : ∀ w ∈ wsX110, w ∈ wsX11_refuse := fun w h => List.mem_cons_of_mem _ (List.mem_append_right _ h)
  subst hsz
  have hD := hD0.self (sz := s.heap.size)
  generalize hAe : va_A (w0_c_X11_refuse_1 cI h0 r) s.heap.size = A at hD ⊢
  have hA : ∀ q : Nat, s.heap.size ≤ q → A q := fun q h => by rw [← hAe]; exact Or.inr h
  have hS : va_S A s.heap s.heap [] := va_S.rf
  have hP : va_P (dC, dI) vwCl [(h0, .inr (11, [.ref (r 0), .ref (r 1), .ref (r 2), .ref (r 3), .ref (r 4), .ref (r 5), .ref (r 6), .ref (r 7), .ref (r 8), .ref (r 9), .ref (r 10), .ref (r 11), .ref (r 12), .ref (r 13), .int 1])), ((r 9), .inl (cI, 6, .inl (fun _ => 0)))] s.heap := hP
  have hD : va_D A [(h0, .inr (11, [.ref (r 0), .ref (r 1), .ref (r 2), .ref (r 3), .ref (r 4), .ref (r 5), .ref (r 6), .ref (r 7), .ref (r 8), .ref (r 9), .ref (r 10), .ref (r 11), .ref (r 12), .ref (r 13), .int 1])), ((r 9), .inl (cI, 6, .inl (fun _ => 0)))] := hD
  have hl := lv_entry ([.ref h0, .int 1]) (n := 2) (Nat.le_of_ble_eq_true rfl)
  rw [lg_entry_eq]
  generalize (lg_sl ([.ref h0, .int 1]) ++ List.replicate (2 - (lg_sl ([.ref h0, .int 1])).length) Slot.unset).toArray = ls at hl ⊢
  have hl : lv_has ls 2 [(0, .ref h0), (1, .int 1)] := hl
  refine lv_iload_n hx hb dX11_refuse_0 rfl (lv_at hl 1 rfl) ?_
  refine lv_if_lt (tgt := 20) hx hb dX11_refuse_1 (by decide) (fun c => absurd c (by decide)) (fun _ => ?_)
  refine lv_iload_n hx hb dX11_refuse_4 rfl (lv_at hl 1 rfl) ?_
  refine lv_bipush (v := 6) hx hb dX11_refuse_5 (by decide) ?_
  refine lv_icmp_ge (tgt := 20) hx hb dX11_refuse_7 (by decide) (fun c => absurd c (by decide)) (fun _ => ?_)
  refine lv_aload_n hx hb dX11_refuse_10 rfl (lv_at hl 0 rfl) ?_
  refine va_get (D := (dC, dI)) (ci := 11) (v := .ref (r 9)) (C := RX11) (T := TX11) (N := 15) hx hb hts h_in_X11 hown hK hP 0 rfl rfl 9 (by decide) (hts (.fieldLink RX11 64 "MatchTrees" "refused" "[I") (by decide +kernel)) (fun _ h9 => h9) rfl dX11_refuse_11 ?_
  refine lv_iload_n hx hb dX11_refuse_14 rfl (lv_at hl 1 rfl) ?_
  refine lv_dup2_11 hx hb dX11_refuse_15 rfl rfl ?_
  refine va_iald hx hb hK hP 1 0 rfl rfl (vpd (by decide)) dX11_refuse_16 ?_
  refine lv_topi (fun t9 e9 => ?_)
  obtain rfl : t9 = 0 := e9
  refine lv_iconst (v := 1) hx hb dX11_refuse_17 (by decide) ?_
  refine k_iadd (v := 1) hx hb (by decide) dX11_refuse_18 ?_
  refine va_iast hx hb hK hP hD hS 1 0 rfl rfl (vpd (by decide)) dX11_refuse_19 (fun H locs hP hD hS => ?_)
  obtain ⟨g_1, e_g_1⟩ : ∃ y : Nat → Int32, y = upd (fun _ => 0) (1 : Int32).toNatClampNeg 1 := ⟨_, rfl⟩
  have hP : va_P (dC, dI) vwCl [(h0, .inr (11, [.ref (r 0), .ref (r 1), .ref (r 2), .ref (r 3), .ref (r 4), .ref (r 5), .ref (r 6), .ref (r 7), .ref (r 8), .ref (r 9), .ref (r 10), .ref (r 11), .ref (r 12), .ref (r 13), .int 1])), ((r 9), .inl (cI, 6, .inl g_1))] H := by rw [e_g_1]; exact hP
  have hD : va_D A [(h0, .inr (11, [.ref (r 0), .ref (r 1), .ref (r 2), .ref (r 3), .ref (r 4), .ref (r 5), .ref (r 6), .ref (r 7), .ref (r 8), .ref (r 9), .ref (r 10), .ref (r 11), .ref (r 12), .ref (r 13), .int 1])), ((r 9), .inl (cI, 6, .inl g_1))] := by rw [e_g_1]; exact hD
  refine lv_iconst (v := 0) hx hb dX11_refuse_20 (by decide) ?_
  have hP9 := hP.sub (ws' := [(h0, .inr (11, [.ref (r 0), .ref (r 1), .ref (r 2), .ref (r 3), .ref (r 4), .ref (r 5), .ref (r 6), .ref (r 7), .ref (r 8), .ref (r 9), .ref (r 10), .ref (r 11), .ref (r 12), .ref (r 13), .int 1])), ((r 9), .inl (cI, 6, .inl g_1))]) [0, 1] rfl
  have hD9 := hD.sub (ws' := [(h0, .inr (11, [.ref (r 0), .ref (r 1), .ref (r 2), .ref (r 3), .ref (r 4), .ref (r 5), .ref (r 6), .ref (r 7), .ref (r 8), .ref (r 9), .ref (r 10), .ref (r 11), .ref (r 12), .ref (r 13), .int 1])), ((r 9), .inl (cI, 6, .inl g_1))]) [0, 1] (by decide) rfl
  exact W.zret (v := 0) hx hb hr rfl (fun t ht hW => ⟨⟨0, (), rfl, rfl, g_1, by rw [ht]; exact hP9, hD9⟩, hS.F ht⟩) hS.2.2 dX11_refuse_21
abbrev w0_c_X11_refuse_2 (cI : ClassId) (h0 : Nat) (r : Nat → Nat) : va_W := [(h0, .inr (11, [.ref (r 0), .ref (r 1), .ref (r 2), .ref (r 3), .ref (r 4), .ref (r 5), .ref (r 6), .ref (r 7), .ref (r 8), .ref (r 9), .ref (r 10), .ref (r 11), .ref (r 12), .ref (r 13), .int 1])), ((r 9), .inl (cI, 6, .inl (fun _ => 0)))]
set_option maxHeartbeats 4000000 in
set_option maxRecDepth 100000 in
theorem c_X11_refuse_2 (l : Launch) (dC : Nat → ClassId) (dI : Nat → Nat → Nat) (cI cJ : ClassId) (h0 : Nat) (r : Nat → Nat) (sz : Nat) : Met l yX11_refuse wsX11_refuse ({ frames := 1, cells := 0, slots := 0, locals := 60 }) (va_Pc [.ref h0, .int 2] (mPre dC dI cI cJ sz (w0_c_X11_refuse_2 cI h0 r))) (va_Qi (fun (r : Int32) (u : Unit) => r = 0) (fun (u : Unit) (t : State) => ∃ (g : Nat → Int32), va_P (dC, dI) vwCl [(h0, .inr (11, [.ref (r 0), .ref (r 1), .ref (r 2), .ref (r 3), .ref (r 4), .ref (r 5), .ref (r 6), .ref (r 7), .ref (r 8), .ref (r 9), .ref (r 10), .ref (r 11), .ref (r 12), .ref (r 13), .int 1])), ((r 9), .inl (cI, 6, .inl g))] t.heap ∧ va_D (va_A (w0_c_X11_refuse_2 cI h0 r) sz) [(h0, .inr (11, [.ref (r 0), .ref (r 1), .ref (r 2), .ref (r 3), .ref (r 4), .ref (r 5), .ref (r 6), .ref (r 7), .ref (r 8), .ref (r 9), .ref (r 10), .ref (r 11), .ref (r 12), .ref (r 13), .int 1])), ((r 9), .inl (cI, 6, .inl g))]) (va_A (w0_c_X11_refuse_2 cI h0 r) sz)) 0 0 (va_A (w0_c_X11_refuse_2 cI h0 r) sz) := by
  refine Met.ofW (cc := cX11_refuse) (maxL := 2) (ret := (some .boolean)) (by decide) rfl ?_
  intro p e s m args below meth c s₁ B hml hv
  obtain ⟨rfl, hsz, hP, hK, hD0, hN⟩ := hv
  have hx := B.exec
  have hb := B.bytes
  have hr := B.returns
  have hts := atoms_spec (ws := wsX11_refuse) B.pre
  have hown : s.vm.findClass RX11 = some m.cls := findClass_of_methodNamed B.named
  have hlocks := B.notSynchronized
  have h_in_X11 : ∀ w ∈ wsX110, w ∈ wsX11_refuse := fun w h => List.mem_cons_of_mem _ (List.mem_append_right _ h)
  subst hsz
  have hD := hD0.self (sz := s.heap.size)
  generalize hAe : va_A (w0_c_X11_refuse_2 cI h0 r) s.heap.size = A at hD ⊢
  have hA : ∀ q : Nat, s.heap.size ≤ q → A q := fun q h => by rw [← hAe]; exact Or.inr h
  have hS : va_S A s.heap s.heap [] := va_S.rf
  have hP : va_P (dC, dI) vwCl [(h0, .inr (11, [.ref (r 0), .ref (r 1), .ref (r 2), .ref (r 3), .ref (r 4), .ref (r 5), .ref (r 6), .ref (r 7), .ref (r 8), .ref (r 9), .ref (r 10), .ref (r 11), .ref (r 12), .ref (r 13), .int 1])), ((r 9), .inl (cI, 6, .inl (fun _ => 0)))] s.heap := hP
  have hD : va_D A [(h0, .inr (11, [.ref (r 0), .ref (r 1), .ref (r 2), .ref (r 3), .ref (r 4), .ref (r 5), .ref (r 6), .ref (r 7), .ref (r 8), .ref (r 9), .ref (r 10), .ref (r 11), .ref (r 12), .ref (r 13), .int 1])), ((r 9), .inl (cI, 6, .inl (fun _ => 0)))] := hD
  have hl := lv_entry ([.ref h0, .int 2]) (n := 2) (Nat.le_of_ble_eq_true rfl)
  rw [lg_entry_eq]
  generalize (lg_sl ([.ref h0, .int 2]) ++ List.replicate (2 - (lg_sl ([.ref h0, .int 2])).length) Slot.unset).toArray = ls at hl ⊢
  have hl : lv_has ls 2 [(0, .ref h0), (1, .int 2)] := hl
  refine lv_iload_n hx hb dX11_refuse_0 rfl (lv_at hl 1 rfl) ?_
  refine lv_if_lt (tgt := 20) hx hb dX11_refuse_1 (by decide) (fun c => absurd c (by decide)) (fun _ => ?_)
  refine lv_iload_n hx hb dX11_refuse_4 rfl (lv_at hl 1 rfl) ?_
  refine lv_bipush (v := 6) hx hb dX11_refuse_5 (by decide) ?_
  refine lv_icmp_ge (tgt := 20) hx hb dX11_refuse_7 (by decide) (fun c => absurd c (by decide)) (fun _ => ?_)
  refine lv_aload_n hx hb dX11_refuse_10 rfl (lv_at hl 0 rfl) ?_
  refine va_get (D := (dC, dI)) (ci := 11) (v := .ref (r 9)) (C := RX11) (T := TX11) (N := 15) hx hb hts h_in_X11 hown hK hP 0 rfl rfl 9 (by decide) (hts (.fieldLink RX11 64 "MatchTrees" "refused" "[I") (by decide +kernel)) (fun _ h9 => h9) rfl dX11_refuse_11 ?_
  refine lv_iload_n hx hb dX11_refuse_14 rfl (lv_at hl 1 rfl) ?_
  refine lv_dup2_11 hx hb dX11_refuse_15 rfl rfl ?_
  refine va_iald hx hb hK hP 1 0 rfl rfl (vpd (by decide)) dX11_refuse_16 ?_
  refine lv_topi (fun t9 e9 => ?_)
  obtain rfl : t9 = 0 := e9
  refine lv_iconst (v := 1) hx hb dX11_refuse_17 (by decide) ?_
  refine k_iadd (v := 1) hx hb (by decide) dX11_refuse_18 ?_
  refine va_iast hx hb hK hP hD hS 1 0 rfl rfl (vpd (by decide)) dX11_refuse_19 (fun H locs hP hD hS => ?_)
  obtain ⟨g_1, e_g_1⟩ : ∃ y : Nat → Int32, y = upd (fun _ => 0) (2 : Int32).toNatClampNeg 1 := ⟨_, rfl⟩
  have hP : va_P (dC, dI) vwCl [(h0, .inr (11, [.ref (r 0), .ref (r 1), .ref (r 2), .ref (r 3), .ref (r 4), .ref (r 5), .ref (r 6), .ref (r 7), .ref (r 8), .ref (r 9), .ref (r 10), .ref (r 11), .ref (r 12), .ref (r 13), .int 1])), ((r 9), .inl (cI, 6, .inl g_1))] H := by rw [e_g_1]; exact hP
  have hD : va_D A [(h0, .inr (11, [.ref (r 0), .ref (r 1), .ref (r 2), .ref (r 3), .ref (r 4), .ref (r 5), .ref (r 6), .ref (r 7), .ref (r 8), .ref (r 9), .ref (r 10), .ref (r 11), .ref (r 12), .ref (r 13), .int 1])), ((r 9), .inl (cI, 6, .inl g_1))] := by rw [e_g_1]; exact hD
  refine lv_iconst (v := 0) hx hb dX11_refuse_20 (by decide) ?_
  have hP9 := hP.sub (ws' := [(h0, .inr (11, [.ref (r 0), .ref (r 1), .ref (r 2), .ref (r 3), .ref (r 4), .ref (r 5), .ref (r 6), .ref (r 7), .ref (r 8), .ref (r 9), .ref (r 10), .ref (r 11), .ref (r 12), .ref (r 13), .int 1])), ((r 9), .inl (cI, 6, .inl g_1))]) [0, 1] rfl
  have hD9 := hD.sub (ws' := [(h0, .inr (11, [.ref (r 0), .ref (r 1), .ref (r 2), .ref (r 3), .ref (r 4), .ref (r 5), .ref (r 6), .ref (r 7), .ref (r 8), .ref (r 9), .ref (r 10), .ref (r 11), .ref (r 12), .ref (r 13), .int 1])), ((r 9), .inl (cI, 6, .inl g_1))]) [0, 1] (by decide) rfl
  exact W.zret (v := 0) hx hb hr rfl (fun t ht hW => ⟨⟨0, (), rfl, rfl, g_1, by rw [ht]; exact hP9, hD9⟩, hS.F ht⟩) hS.2.2 dX11_refuse_21
abbrev w0_c_X11_refuse_3 (cI : ClassId) (h0 : Nat) (r : Nat → Nat) : va_W := [(h0, .inr (11, [.ref (r 0), .ref (r 1), .ref (r 2), .ref (r 3), .ref (r 4), .ref (r 5), .ref (r 6), .ref (r 7), .ref (r 8), .ref (r 9), .ref (r 10), .ref (r 11), .ref (r 12), .ref (r 13), .int 1])), ((r 9), .inl (cI, 6, .inl (fun _ => 0)))]
set_option maxHeartbeats 4000000 in
set_option maxRecDepth 100000 in
theorem c_X11_refuse_3 (l : Launch) (dC : Nat → ClassId) (dI : Nat → Nat → Nat) (cI cJ : ClassId) (h0 : Nat) (r : Nat → Nat) (sz : Nat) : Met l yX11_refuse wsX11_refuse ({ frames := 1, cells := 0, slots := 0, locals := 60 }) (va_Pc [.ref h0, .int 3] (mPre dC dI cI cJ sz (w0_c_X11_refuse_3 cI h0 r))) (va_Qi (fun (r : Int32) (u : Unit) => r = 0) (fun (u : Unit) (t : State) => ∃ (g : Nat → Int32), va_P (dC, dI) vwCl [(h0, .inr (11, [.ref (r 0), .ref (r 1), .ref (r 2), .ref (r 3), .ref (r 4), .ref (r 5), .ref (r 6), .ref (r 7), .ref (r 8), .ref (r 9), .ref (r 10), .ref (r 11), .ref (r 12), .ref (r 13), .int 1])), ((r 9), .inl (cI, 6, .inl g))] t.heap ∧ va_D (va_A (w0_c_X11_refuse_3 cI h0 r) sz) [(h0, .inr (11, [.ref (r 0), .ref (r 1), .ref (r 2), .ref (r 3), .ref (r 4), .ref (r 5), .ref (r 6), .ref (r 7), .ref (r 8), .ref (r 9), .ref (r 10), .ref (r 11), .ref (r 12), .ref (r 13), .int 1])), ((r 9), .inl (cI, 6, .inl g))]) (va_A (w0_c_X11_refuse_3 cI h0 r) sz)) 0 0 (va_A (w0_c_X11_refuse_3 cI h0 r) sz) := by
  refine Met.ofW (cc := cX11_refuse) (maxL := 2) (ret := (some .boolean)) (by decide) rfl ?_
  intro p e s m args below meth c s₁ B hml hv
  obtain ⟨rfl, hsz, hP, hK, hD0, hN⟩ := hv
  have hx := B.exec
  have hb := B.bytes
  have hr := B.returns
  have hts := atoms_spec (ws := wsX11_refuse) B.pre
  have hown : s.vm.findClass RX11 = some m.cls := findClass_of_methodNamed B.named
  have hlocks := B.notSynchronized
  have h_in_X11 : ∀ w ∈ wsX110, w ∈ wsX11_refuse := fun w h => List.mem_cons_of_mem _ (List.mem_append_right _ h)
  subst hsz
  have hD := hD0.self (sz := s.heap.size)
  generalize hAe : va_A (w0_c_X11_refuse_3 cI h0 r) s.heap.size = A at hD ⊢
  have hA : ∀ q : Nat, s.heap.size ≤ q → A q := fun q h => by rw [← hAe]; exact Or.inr h
  have hS : va_S A s.heap s.heap [] := va_S.rf
  have hP : va_P (dC, dI) vwCl [(h0, .inr (11, [.ref (r 0), .ref (r 1), .ref (r 2), .ref (r 3), .ref (r 4), .ref (r 5), .ref (r 6), .ref (r 7), .ref (r 8), .ref (r 9), .ref (r 10), .ref (r 11), .ref (r 12), .ref (r 13), .int 1])), ((r 9), .inl (cI, 6, .inl (fun _ => 0)))] s.heap := hP
  have hD : va_D A [(h0, .inr (11, [.ref (r 0), .ref (r 1), .ref (r 2), .ref (r 3), .ref (r 4), .ref (r 5), .ref (r 6), .ref (r 7), .ref (r 8), .ref (r 9), .ref (r 10), .ref (r 11), .ref (r 12), .ref (r 13), .int 1])), ((r 9), .inl (cI, 6, .inl (fun _ => 0)))] := hD
  have hl := lv_entry ([.ref h0, .int 3]) (n := 2) (Nat.le_of_ble_eq_true rfl)
  rw [lg_entry_eq]
  generalize (lg_sl ([.ref h0, .int 3]) ++ List.replicate (2 - (lg_sl ([.ref h0, .int 3])).length) Slot.unset).toArray = ls at hl ⊢
  have hl : lv_has ls 2 [(0, .ref h0), (1, .int 3)] := hl
  refine lv_iload_n hx hb dX11_refuse_0 rfl (lv_at hl 1 rfl) ?_
  refine lv_if_lt (tgt := 20) hx hb dX11_refuse_1 (by decide) (fun c => absurd c (by decide)) (fun _ => ?_)
  refine lv_iload_n hx hb dX11_refuse_4 rfl (lv_at hl 1 rfl) ?_
  refine lv_bipush (v := 6) hx hb dX11_refuse_5 (by decide) ?_
  refine lv_icmp_ge (tgt := 20) hx hb dX11_refuse_7 (by decide) (fun c => absurd c (by decide)) (fun _ => ?_)
  refine lv_aload_n hx hb dX11_refuse_10 rfl (lv_at hl 0 rfl) ?_
  refine va_get (D := (dC, dI)) (ci := 11) (v := .ref (r 9)) (C := RX11) (T := TX11) (N := 15) hx hb hts h_in_X11 hown hK hP 0 rfl rfl 9 (by decide) (hts (.fieldLink RX11 64 "MatchTrees" "refused" "[I") (by decide +kernel)) (fun _ h9 => h9) rfl dX11_refuse_11 ?_
  refine lv_iload_n hx hb dX11_refuse_14 rfl (lv_at hl 1 rfl) ?_
  refine lv_dup2_11 hx hb dX11_refuse_15 rfl rfl ?_
  refine va_iald hx hb hK hP 1 0 rfl rfl (vpd (by decide)) dX11_refuse_16 ?_
  refine lv_topi (fun t9 e9 => ?_)
  obtain rfl : t9 = 0 := e9
  refine lv_iconst (v := 1) hx hb dX11_refuse_17 (by decide) ?_
  refine k_iadd (v := 1) hx hb (by decide) dX11_refuse_18 ?_
  refine va_iast hx hb hK hP hD hS 1 0 rfl rfl (vpd (by decide)) dX11_refuse_19 (fun H locs hP hD hS => ?_)
  obtain ⟨g_1, e_g_1⟩ : ∃ y : Nat → Int32, y = upd (fun _ => 0) (3 : Int32).toNatClampNeg 1 := ⟨_, rfl⟩
  have hP : va_P (dC, dI) vwCl [(h0, .inr (11, [.ref (r 0), .ref (r 1), .ref (r 2), .ref (r 3), .ref (r 4), .ref (r 5), .ref (r 6), .ref (r 7), .ref (r 8), .ref (r 9), .ref (r 10), .ref (r 11), .ref (r 12), .ref (r 13), .int 1])), ((r 9), .inl (cI, 6, .inl g_1))] H := by rw [e_g_1]; exact hP
  have hD : va_D A [(h0, .inr (11, [.ref (r 0), .ref (r 1), .ref (r 2), .ref (r 3), .ref (r 4), .ref (r 5), .ref (r 6), .ref (r 7), .ref (r 8), .ref (r 9), .ref (r 10), .ref (r 11), .ref (r 12), .ref (r 13), .int 1])), ((r 9), .inl (cI, 6, .inl g_1))] := by rw [e_g_1]; exact hD
  refine lv_iconst (v := 0) hx hb dX11_refuse_20 (by decide) ?_
  have hP9 := hP.sub (ws' := [(h0, .inr (11, [.ref (r 0), .ref (r 1), .ref (r 2), .ref (r 3), .ref (r 4), .ref (r 5), .ref (r 6), .ref (r 7), .ref (r 8), .ref (r 9), .ref (r 10), .ref (r 11), .ref (r 12), .ref (r 13), .int 1])), ((r 9), .inl (cI, 6, .inl g_1))]) [0, 1] rfl
  have hD9 := hD.sub (ws' := [(h0, .inr (11, [.ref (r 0), .ref (r 1), .ref (r 2), .ref (r 3), .ref (r 4), .ref (r 5), .ref (r 6), .ref (r 7), .ref (r 8), .ref (r 9), .ref (r 10), .ref (r 11), .ref (r 12), .ref (r 13), .int 1])), ((r 9), .inl (cI, 6, .inl g_1))]) [0, 1] (by decide) rfl
  exact W.zret (v := 0) hx hb hr rfl (fun t ht hW => ⟨⟨0, (), rfl, rfl, g_1, by rw [ht]; exact hP9, hD9⟩, hS.F ht⟩) hS.2.2 dX11_refuse_21
abbrev w0_c_X11_refuse_4 (cI : ClassId) (h0 : Nat) (r : Nat → Nat) : va_W := [(h0, .inr (11, [.ref (r 0), .ref (r 1), .ref (r 2), .ref (r 3), .ref (r 4), .ref (r 5), .ref (r 6), .ref (r 7), .ref (r 8), .ref (r 9), .ref (r 10), .ref (r 11), .ref (r 12), .ref (r 13), .int 1])), ((r 9), .inl (cI, 6, .inl (fun _ => 0)))]
set_option maxHeartbeats 4000000 in
set_option maxRecDepth 100000 in
theorem c_X11_refuse_4 (l : Launch) (dC : Nat → ClassId) (dI : Nat → Nat → Nat) (cI cJ : ClassId) (h0 : Nat) (r : Nat → Nat) (sz : Nat) : Met l yX11_refuse wsX11_refuse ({ frames := 1, cells := 0, slots := 0, locals := 60 }) (va_Pc [.ref h0, .int 4] (mPre dC dI cI cJ sz (w0_c_X11_refuse_4 cI h0 r))) (va_Qi (fun (r : Int32) (u : Unit) => r = 0) (fun (u : Unit) (t : State) => ∃ (g : Nat → Int32), va_P (dC, dI) vwCl [(h0, .inr (11, [.ref (r 0), .ref (r 1), .ref (r 2), .ref (r 3), .ref (r 4), .ref (r 5), .ref (r 6), .ref (r 7), .ref (r 8), .ref (r 9), .ref (r 10), .ref (r 11), .ref (r 12), .ref (r 13), .int 1])), ((r 9), .inl (cI, 6, .inl g))] t.heap ∧ va_D (va_A (w0_c_X11_refuse_4 cI h0 r) sz) [(h0, .inr (11, [.ref (r 0), .ref (r 1), .ref (r 2), .ref (r 3), .ref (r 4), .ref (r 5), .ref (r 6), .ref (r 7), .ref (r 8), .ref (r 9), .ref (r 10), .ref (r 11), .ref (r 12), .ref (r 13), .int 1])), ((r 9), .inl (cI, 6, .inl g))]) (va_A (w0_c_X11_refuse_4 cI h0 r) sz)) 0 0 (va_A (w0_c_X11_refuse_4 cI h0 r) sz) := by
  refine Met.ofW (cc := cX11_refuse) (maxL := 2) (ret := (some .boolean)) (by decide) rfl ?_
  intro p e s m args below meth c s₁ B hml hv
  obtain ⟨rfl, hsz, hP, hK, hD0, hN⟩ := hv
  have hx := B.exec
  have hb := B.bytes
  have hr := B.returns
  have hts := atoms_spec (ws := wsX11_refuse) B.pre
  have hown : s.vm.findClass RX11 = some m.cls := findClass_of_methodNamed B.named
  have hlocks := B.notSynchronized
  have h_in_X11 : ∀ w ∈ wsX110, w ∈ wsX11_refuse := fun w h => List.mem_cons_of_mem _ (List.mem_append_right _ h)
  subst hsz
  have hD := hD0.self (sz := s.heap.size)
  generalize hAe : va_A (w0_c_X11_refuse_4 cI h0 r) s.heap.size = A at hD ⊢
  have hA : ∀ q : Nat, s.heap.size ≤ q → A q := fun q h => by rw [← hAe]; exact Or.inr h
  have hS : va_S A s.heap s.heap [] := va_S.rf
  have hP : va_P (dC, dI) vwCl [(h0, .inr (11, [.ref (r 0), .ref (r 1), .ref (r 2), .ref (r 3), .ref (r 4), .ref (r 5), .ref (r 6), .ref (r 7), .ref (r 8), .ref (r 9), .ref (r 10), .ref (r 11), .ref (r 12), .ref (r 13), .int 1])), ((r 9), .inl (cI, 6, .inl (fun _ => 0)))] s.heap := hP
  have hD : va_D A [(h0, .inr (11, [.ref (r 0), .ref (r 1), .ref (r 2), .ref (r 3), .ref (r 4), .ref (r 5), .ref (r 6), .ref (r 7), .ref (r 8), .ref (r 9), .ref (r 10), .ref (r 11), .ref (r 12), .ref (r 13), .int 1])), ((r 9), .inl (cI, 6, .inl (fun _ => 0)))] := hD
  have hl := lv_entry ([.ref h0, .int 4]) (n := 2) (Nat.le_of_ble_eq_true rfl)
  rw [lg_entry_eq]
  generalize (lg_sl ([.ref h0, .int 4]) ++ List.replicate (2 - (lg_sl ([.ref h0, .int 4])).length) Slot.unset).toArray = ls at hl ⊢
  have hl : lv_has ls 2 [(0, .ref h0), (1, .int 4)] := hl
  refine lv_iload_n hx hb dX11_refuse_0 rfl (lv_at hl 1 rfl) ?_
  refine lv_if_lt (tgt := 20) hx hb dX11_refuse_1 (by decide) (fun c => absurd c (by decide)) (fun _ => ?_)
  refine lv_iload_n hx hb dX11_refuse_4 rfl (lv_at hl 1 rfl) ?_
  refine lv_bipush (v := 6) hx hb dX11_refuse_5 (by decide) ?_
  refine lv_icmp_ge (tgt := 20) hx hb dX11_refuse_7 (by decide) (fun c => absurd c (by decide)) (fun _ => ?_)
  refine lv_aload_n hx hb dX11_refuse_10 rfl (lv_at hl 0 rfl) ?_
  refine va_get (D := (dC, dI)) (ci := 11) (v := .ref (r 9)) (C := RX11) (T := TX11) (N := 15) hx hb hts h_in_X11 hown hK hP 0 rfl rfl 9 (by decide) (hts (.fieldLink RX11 64 "MatchTrees" "refused" "[I") (by decide +kernel)) (fun _ h9 => h9) rfl dX11_refuse_11 ?_
  refine lv_iload_n hx hb dX11_refuse_14 rfl (lv_at hl 1 rfl) ?_
  refine lv_dup2_11 hx hb dX11_refuse_15 rfl rfl ?_
  refine va_iald hx hb hK hP 1 0 rfl rfl (vpd (by decide)) dX11_refuse_16 ?_
  refine lv_topi (fun t9 e9 => ?_)
  obtain rfl : t9 = 0 := e9
  refine lv_iconst (v := 1) hx hb dX11_refuse_17 (by decide) ?_
  refine k_iadd (v := 1) hx hb (by decide) dX11_refuse_18 ?_
  refine va_iast hx hb hK hP hD hS 1 0 rfl rfl (vpd (by decide)) dX11_refuse_19 (fun H locs hP hD hS => ?_)
  obtain ⟨g_1, e_g_1⟩ : ∃ y : Nat → Int32, y = upd (fun _ => 0) (4 : Int32).toNatClampNeg 1 := ⟨_, rfl⟩
  have hP : va_P (dC, dI) vwCl [(h0, .inr (11, [.ref (r 0), .ref (r 1), .ref (r 2), .ref (r 3), .ref (r 4), .ref (r 5), .ref (r 6), .ref (r 7), .ref (r 8), .ref (r 9), .ref (r 10), .ref (r 11), .ref (r 12), .ref (r 13), .int 1])), ((r 9), .inl (cI, 6, .inl g_1))] H := by rw [e_g_1]; exact hP
  have hD : va_D A [(h0, .inr (11, [.ref (r 0), .ref (r 1), .ref (r 2), .ref (r 3), .ref (r 4), .ref (r 5), .ref (r 6), .ref (r 7), .ref (r 8), .ref (r 9), .ref (r 10), .ref (r 11), .ref (r 12), .ref (r 13), .int 1])), ((r 9), .inl (cI, 6, .inl g_1))] := by rw [e_g_1]; exact hD
  refine lv_iconst (v := 0) hx hb dX11_refuse_20 (by decide) ?_
  have hP9 := hP.sub (ws' := [(h0, .inr (11, [.ref (r 0), .ref (r 1), .ref (r 2), .ref (r 3), .ref (r 4), .ref (r 5), .ref (r 6), .ref (r 7), .ref (r 8), .ref (r 9), .ref (r 10), .ref (r 11), .ref (r 12), .ref (r 13), .int 1])), ((r 9), .inl (cI, 6, .inl g_1))]) [0, 1] rfl
  have hD9 := hD.sub (ws' := [(h0, .inr (11, [.ref (r 0), .ref (r 1), .ref (r 2), .ref (r 3), .ref (r 4), .ref (r 5), .ref (r 6), .ref (r 7), .ref (r 8), .ref (r 9), .ref (r 10), .ref (r 11), .ref (r 12), .ref (r 13), .int 1])), ((r 9), .inl (cI, 6, .inl g_1))]) [0, 1] (by decide) rfl
  exact W.zret (v := 0) hx hb hr rfl (fun t ht hW => ⟨⟨0, (), rfl, rfl, g_1, by rw [ht]; exact hP9, hD9⟩, hS.F ht⟩) hS.2.2 dX11_refuse_21
abbrev w0_c_X11_refuse_5 (cI : ClassId) (h0 : Nat) (r : Nat → Nat) : va_W := [(h0, .inr (11, [.ref (r 0), .ref (r 1), .ref (r 2), .ref (r 3), .ref (r 4), .ref (r 5), .ref (r 6), .ref (r 7), .ref (r 8), .ref (r 9), .ref (r 10), .ref (r 11), .ref (r 12), .ref (r 13), .int 1])), ((r 9), .inl (cI, 6, .inl (fun _ => 0)))]
set_option maxHeartbeats 4000000 in
set_option maxRecDepth 100000 in
theorem c_X11_refuse_5 (l : Launch) (dC : Nat → ClassId) (dI : Nat → Nat → Nat) (cI cJ : ClassId) (h0 : Nat) (r : Nat → Nat) (sz : Nat) : Met l yX11_refuse wsX11_refuse ({ frames := 1, cells := 0, slots := 0, locals := 60 }) (va_Pc [.ref h0, .int 5] (mPre dC dI cI cJ sz (w0_c_X11_refuse_5 cI h0 r))) (va_Qi (fun (r : Int32) (u : Unit) => r = 0) (fun (u : Unit) (t : State) => ∃ (g : Nat → Int32), va_P (dC, dI) vwCl [(h0, .inr (11, [.ref (r 0), .ref (r 1), .ref (r 2), .ref (r 3), .ref (r 4), .ref (r 5), .ref (r 6), .ref (r 7), .ref (r 8), .ref (r 9), .ref (r 10), .ref (r 11), .ref (r 12), .ref (r 13), .int 1])), ((r 9), .inl (cI, 6, .inl g))] t.heap ∧ va_D (va_A (w0_c_X11_refuse_5 cI h0 r) sz) [(h0, .inr (11, [.ref (r 0), .ref (r 1), .ref (r 2), .ref (r 3), .ref (r 4), .ref (r 5), .ref (r 6), .ref (r 7), .ref (r 8), .ref (r 9), .ref (r 10), .ref (r 11), .ref (r 12), .ref (r 13), .int 1])), ((r 9), .inl (cI, 6, .inl g))]) (va_A (w0_c_X11_refuse_5 cI h0 r) sz)) 0 0 (va_A (w0_c_X11_refuse_5 cI h0 r) sz) := by
  refine Met.ofW (cc := cX11_refuse) (maxL := 2) (ret := (some .boolean)) (by decide) rfl ?_
  intro p e s m args below meth c s₁ B hml hv
  obtain ⟨rfl, hsz, hP, hK, hD0, hN⟩ := hv
  have hx := B.exec
  have hb := B.bytes
  have hr := B.returns
  have hts := atoms_spec (ws := wsX11_refuse) B.pre
  have hown : s.vm.findClass RX11 = some m.cls := findClass_of_methodNamed B.named
  have hlocks := B.notSynchronized
  have h_in_X11 : ∀ w ∈ wsX110, w ∈ wsX11_refuse := fun w h => List.mem_cons_of_mem _ (List.mem_append_right _ h)
  subst hsz
  have hD := hD0.self (sz := s.heap.size)
  generalize hAe : va_A (w0_c_X11_refuse_5 cI h0 r) s.heap.size = A at hD ⊢
  have hA : ∀ q : Nat, s.heap.size ≤ q → A q := fun q h => by rw [← hAe]; exact Or.inr h
  have hS : va_S A s.heap s.heap [] := va_S.rf
  have hP : va_P (dC, dI) vwCl [(h0, .inr (11, [.ref (r 0), .ref (r 1), .ref (r 2), .ref (r 3), .ref (r 4), .ref (r 5), .ref (r 6), .ref (r 7), .ref (r 8), .ref (r 9), .ref (r 10), .ref (r 11), .ref (r 12), .ref (r 13), .int 1])), ((r 9), .inl (cI, 6, .inl (fun _ => 0)))] s.heap := hP
  have hD : va_D A [(h0, .inr (11, [.ref (r 0), .ref (r 1), .ref (r 2), .ref (r 3), .ref (r 4), .ref (r 5), .ref (r 6), .ref (r 7), .ref (r 8), .ref (r 9), .ref (r 10), .ref (r 11), .ref (r 12), .ref (r 13), .int 1])), ((r 9), .inl (cI, 6, .inl (fun _ => 0)))] := hD
  have hl := lv_entry ([.ref h0, .int 5]) (n := 2) (Nat.le_of_ble_eq_true rfl)
  rw [lg_entry_eq]
  generalize (lg_sl ([.ref h0, .int 5]) ++ List.replicate (2 - (lg_sl ([.ref h0, .int 5])).length) Slot.unset).toArray = ls at hl ⊢
  have hl : lv_has ls 2 [(0, .ref h0), (1, .int 5)] := hl
  refine lv_iload_n hx hb dX11_refuse_0 rfl (lv_at hl 1 rfl) ?_
  refine lv_if_lt (tgt := 20) hx hb dX11_refuse_1 (by decide) (fun c => absurd c (by decide)) (fun _ => ?_)
  refine lv_iload_n hx hb dX11_refuse_4 rfl (lv_at hl 1 rfl) ?_
  refine lv_bipush (v := 6) hx hb dX11_refuse_5 (by decide) ?_
  refine lv_icmp_ge (tgt := 20) hx hb dX11_refuse_7 (by decide) (fun c => absurd c (by decide)) (fun _ => ?_)
  refine lv_aload_n hx hb dX11_refuse_10 rfl (lv_at hl 0 rfl) ?_
  refine va_get (D := (dC, dI)) (ci := 11) (v := .ref (r 9)) (C := RX11) (T := TX11) (N := 15) hx hb hts h_in_X11 hown hK hP 0 rfl rfl 9 (by decide) (hts (.fieldLink RX11 64 "MatchTrees" "refused" "[I") (by decide +kernel)) (fun _ h9 => h9) rfl dX11_refuse_11 ?_
  refine lv_iload_n hx hb dX11_refuse_14 rfl (lv_at hl 1 rfl) ?_
  refine lv_dup2_11 hx hb dX11_refuse_15 rfl rfl ?_
  refine va_iald hx hb hK hP 1 0 rfl rfl (vpd (by decide)) dX11_refuse_16 ?_
  refine lv_topi (fun t9 e9 => ?_)
  obtain rfl : t9 = 0 := e9
  refine lv_iconst (v := 1) hx hb dX11_refuse_17 (by decide) ?_
  refine k_iadd (v := 1) hx hb (by decide) dX11_refuse_18 ?_
  refine va_iast hx hb hK hP hD hS 1 0 rfl rfl (vpd (by decide)) dX11_refuse_19 (fun H locs hP hD hS => ?_)
  obtain ⟨g_1, e_g_1⟩ : ∃ y : Nat → Int32, y = upd (fun _ => 0) (5 : Int32).toNatClampNeg 1 := ⟨_, rfl⟩
  have hP : va_P (dC, dI) vwCl [(h0, .inr (11, [.ref (r 0), .ref (r 1), .ref (r 2), .ref (r 3), .ref (r 4), .ref (r 5), .ref (r 6), .ref (r 7), .ref (r 8), .ref (r 9), .ref (r 10), .ref (r 11), .ref (r 12), .ref (r 13), .int 1])), ((r 9), .inl (cI, 6, .inl g_1))] H := by rw [e_g_1]; exact hP
  have hD : va_D A [(h0, .inr (11, [.ref (r 0), .ref (r 1), .ref (r 2), .ref (r 3), .ref (r 4), .ref (r 5), .ref (r 6), .ref (r 7), .ref (r 8), .ref (r 9), .ref (r 10), .ref (r 11), .ref (r 12), .ref (r 13), .int 1])), ((r 9), .inl (cI, 6, .inl g_1))] := by rw [e_g_1]; exact hD
  refine lv_iconst (v := 0) hx hb dX11_refuse_20 (by decide) ?_
  have hP9 := hP.sub (ws' := [(h0, .inr (11, [.ref (r 0), .ref (r 1), .ref (r 2), .ref (r 3), .ref (r 4), .ref (r 5), .ref (r 6), .ref (r 7), .ref (r 8), .ref (r 9), .ref (r 10), .ref (r 11), .ref (r 12), .ref (r 13), .int 1])), ((r 9), .inl (cI, 6, .inl g_1))]) [0, 1] rfl
  have hD9 := hD.sub (ws' := [(h0, .inr (11, [.ref (r 0), .ref (r 1), .ref (r 2), .ref (r 3), .ref (r 4), .ref (r 5), .ref (r 6), .ref (r 7), .ref (r 8), .ref (r 9), .ref (r 10), .ref (r 11), .ref (r 12), .ref (r 13), .int 1])), ((r 9), .inl (cI, 6, .inl g_1))]) [0, 1] (by decide) rfl
  exact W.zret (v := 0) hx hb hr rfl (fun t ht hW => ⟨⟨0, (), rfl, rfl, g_1, by rw [ht]; exact hP9, hD9⟩, hS.F ht⟩) hS.2.2 dX11_refuse_21
abbrev w0_c_X5_isPlace (cI : ClassId) (h0 : Nat) (r : Nat → Nat) (p0 : Int32) : va_W := [((r 5), .inr (5, [.ref (r 16), .int 0, .int 0, .int 0]))]
set_option maxHeartbeats 4000000 in
set_option maxRecDepth 100000 in
theorem c_X5_isPlace (l : Launch) (dC : Nat → ClassId) (dI : Nat → Nat → Nat) (cI cJ : ClassId) (h0 : Nat) (r : Nat → Nat) (p0 : Int32) (sz : Nat) : Met l yX5_isPlace wsX5_isPlace ({ frames := 1, cells := 0, slots := 0, locals := 60 }) (va_Pc [.ref (r 5), .int p0] (mPre dC dI cI cJ sz (w0_c_X5_isPlace cI h0 r p0))) (va_Qi (fun (r : Int32) (u : Unit) => r = 0) (fun (u : Unit) (t : State) => va_P (dC, dI) vwCl [((r 5), .inr (5, [.ref (r 16), .int 0, .int 0, .int 0]))] t.heap ∧ va_D (va_A (w0_c_X5_isPlace cI h0 r p0) sz) [((r 5), .inr (5, [.ref (r 16), .int 0, .int 0, .int 0]))]) (va_A (w0_c_X5_isPlace cI h0 r p0) sz)) 0 0 (va_A (w0_c_X5_isPlace cI h0 r p0) sz) := by
  refine Met.ofW (cc := cX5_isPlace) (maxL := 2) (ret := (some .boolean)) (by decide) rfl ?_
  intro p e s m args below meth c s₁ B hml hv
  obtain ⟨rfl, hsz, hP, hK, hD0, hN⟩ := hv
  have hx := B.exec
  have hb := B.bytes
  have hr := B.returns
  have hts := atoms_spec (ws := wsX5_isPlace) B.pre
  have hown : s.vm.findClass RX5 = some m.cls := findClass_of_methodNamed B.named
  have hlocks := B.notSynchronized
  have h_in_X5 : ∀ w ∈ wsX50, w ∈ wsX5_isPlace := fun w h => List.mem_cons_of_mem _ (List.mem_append_right _ h)
  subst hsz
  have hD := hD0.self (sz := s.heap.size)
  generalize hAe : va_A (w0_c_X5_isPlace cI h0 r p0) s.heap.size = A at hD ⊢
  have hA : ∀ q : Nat, s.heap.size ≤ q → A q := fun q h => by rw [← hAe]; exact Or.inr h
  have hS : va_S A s.heap s.heap [] := va_S.rf
  have hP : va_P (dC, dI) vwCl [((r 5), .inr (5, [.ref (r 16), .int 0, .int 0, .int 0]))] s.heap := hP
  have hD : va_D A [((r 5), .inr (5, [.ref (r 16), .int 0, .int 0, .int 0]))] := hD
  have hl := lv_entry ([.ref (r 5), .int p0]) (n := 2) (Nat.le_of_ble_eq_true rfl)
  rw [lg_entry_eq]
  generalize (lg_sl ([.ref (r 5), .int p0]) ++ List.replicate (2 - (lg_sl ([.ref (r 5), .int p0])).length) Slot.unset).toArray = ls at hl ⊢
  have hl : lv_has ls 2 [(0, .ref (r 5)), (1, .int p0)] := hl
  refine lv_iload_n hx hb dX5_isPlace_0 rfl (lv_at hl 1 rfl) ?_
  refine lv_if_lt (tgt := 16) hx hb dX5_isPlace_1 (by decide) (fun c_1 => ?_) (fun c_1 => ?_)
  · refine lv_iconst (v := 0) hx hb dX5_isPlace_16 (by decide) ?_
    have hP9 := hP.sub (ws' := [((r 5), .inr (5, [.ref (r 16), .int 0, .int 0, .int 0]))]) [0] rfl
    have hD9 := hD.sub (ws' := [((r 5), .inr (5, [.ref (r 16), .int 0, .int 0, .int 0]))]) [0] (by decide) rfl
    exact W.zret (v := 0) hx hb hr rfl (fun t ht hW => ⟨⟨0, (), rfl, rfl, by rw [ht]; exact hP9, hD9⟩, hS.F ht⟩) hS.2.2 dX5_isPlace_17
  · refine lv_iload_n hx hb dX5_isPlace_4 rfl (lv_at hl 1 rfl) ?_
    refine lv_aload_n hx hb dX5_isPlace_5 rfl (lv_at hl 0 rfl) ?_
    refine va_get (D := (dC, dI)) (ci := 5) (v := .int 0) (C := RX5) (T := TX5) (N := 4) hx hb hts h_in_X5 hown hK hP 0 rfl rfl 1 (by decide) (hts (.fieldLink RX5 24 "MatchTrees$Order" "count" "I") (by decide +kernel)) (fun _ h9 => h9) rfl dX5_isPlace_6 ?_
    refine lv_icmp_ge (tgt := 16) hx hb dX5_isPlace_9 (by decide) (fun _ => ?_) (fun c => absurd (by have e0 : (0 : Int32).toInt = 0 := (by decide); rw [Int32.lt_iff_toInt_lt] at c_1; rw [Int32.le_iff_toInt_le]; omega) c)
    refine lv_iconst (v := 0) hx hb dX5_isPlace_16 (by decide) ?_
    have hP9 := hP.sub (ws' := [((r 5), .inr (5, [.ref (r 16), .int 0, .int 0, .int 0]))]) [0] rfl
    have hD9 := hD.sub (ws' := [((r 5), .inr (5, [.ref (r 16), .int 0, .int 0, .int 0]))]) [0] (by decide) rfl
    exact W.zret (v := 0) hx hb hr rfl (fun t ht hW => ⟨⟨0, (), rfl, rfl, by rw [ht]; exact hP9, hD9⟩, hS.F ht⟩) hS.2.2 dX5_isPlace_17
abbrev w0_c_X5_armAt (cI : ClassId) (h0 : Nat) (r : Nat → Nat) (p0 : Int32) : va_W := [((r 5), .inr (5, [.ref (r 16), .int 0, .int 0, .int 0]))]
set_option maxHeartbeats 4000000 in
set_option maxRecDepth 100000 in
theorem c_X5_armAt (l : Launch) (dC : Nat → ClassId) (dI : Nat → Nat → Nat) (cI cJ : ClassId) (h0 : Nat) (r : Nat → Nat) (p0 : Int32) (sz : Nat) : Met l yX5_armAt wsX5_armAt ({ frames := 2, cells := 0, slots := 0, locals := 81 }) (va_Pc [.ref (r 5), .int p0] (mPre dC dI cI cJ sz (w0_c_X5_armAt cI h0 r p0))) (va_Qi (fun (r : Int32) (u : Unit) => r = -1) (fun (u : Unit) (t : State) => va_P (dC, dI) vwCl [((r 5), .inr (5, [.ref (r 16), .int 0, .int 0, .int 0]))] t.heap ∧ va_D (va_A (w0_c_X5_armAt cI h0 r p0) sz) [((r 5), .inr (5, [.ref (r 16), .int 0, .int 0, .int 0]))]) (va_A (w0_c_X5_armAt cI h0 r p0) sz)) 0 0 (va_A (w0_c_X5_armAt cI h0 r p0) sz) := by
  refine Met.ofW (cc := cX5_armAt) (maxL := 2) (ret := (some .int)) (by decide) rfl ?_
  intro p e s m args below meth c s₁ B hml hv
  obtain ⟨rfl, hsz, hP, hK, hD0, hN⟩ := hv
  have hx := B.exec
  have hb := B.bytes
  have hr := B.returns
  have hts := atoms_spec (ws := wsX5_armAt) B.pre
  have hown : s.vm.findClass RX5 = some m.cls := findClass_of_methodNamed B.named
  have hlocks := B.notSynchronized
  have h_in_X5 : ∀ w ∈ wsX50, w ∈ wsX5_armAt := fun w h => List.mem_cons_of_mem _ (List.mem_append_right _ h)
  subst hsz
  have hD := hD0.self (sz := s.heap.size)
  generalize hAe : va_A (w0_c_X5_armAt cI h0 r p0) s.heap.size = A at hD ⊢
  have hA : ∀ q : Nat, s.heap.size ≤ q → A q := fun q h => by rw [← hAe]; exact Or.inr h
  have hS : va_S A s.heap s.heap [] := va_S.rf
  have hP : va_P (dC, dI) vwCl [((r 5), .inr (5, [.ref (r 16), .int 0, .int 0, .int 0]))] s.heap := hP
  have hD : va_D A [((r 5), .inr (5, [.ref (r 16), .int 0, .int 0, .int 0]))] := hD
  have hl := lv_entry ([.ref (r 5), .int p0]) (n := 2) (Nat.le_of_ble_eq_true rfl)
  rw [lg_entry_eq]
  generalize (lg_sl ([.ref (r 5), .int p0]) ++ List.replicate (2 - (lg_sl ([.ref (r 5), .int p0])).length) Slot.unset).toArray = ls at hl ⊢
  have hl : lv_has ls 2 [(0, .ref (r 5)), (1, .int p0)] := hl
  refine lv_aload_n hx hb dX5_armAt_0 rfl (lv_at hl 0 rfl) ?_
  refine lv_iload_n hx hb dX5_armAt_1 rfl (lv_at hl 1 rfl) ?_
  have hPc := hP.sub (ws' := [((r 5), .inr (5, [.ref (r 16), .int 0, .int 0, .int 0]))]) [0] rfl
  have hDc := hD.sub (ws' := [((r 5), .inr (5, [.ref (r 16), .int 0, .int 0, .int 0]))]) [0] (by decide) rfl
  have hFc := va_free (wc := [((r 5), .inr (5, [.ref (r 16), .int 0, .int 0, .int 0]))]) hD hS hA [0] rfl
  refine va_calli (va_runV (As := [.int p0]) (rest := []) ⟨hx, hb, hml, hown, hts⟩ (c_X5_isPlace l dC dI cI cJ h0 r p0 s.heap.size) (cwV 1 hts gX5_armAt_X5_isPlace rfl rfl rfl (by decide +kernel) ⟨Nat.le_of_ble_eq_true rfl, Nat.le_of_ble_eq_true rfl⟩) ⟨mBlind, va_recv hK hPc (ci := 5) (q0 := 0) rfl rfl, mGo hPc hK hDc hN⟩ rfl rfl hl.1 rfl (lv_room (Nat.le_of_ble_eq_true rfl)) dX5_armAt_2 ⟨Nat.le_of_ble_eq_true rfl, Nat.le_of_ble_eq_true rfl⟩) hS (fun q _ h => hFc q h) hFc (fun r_1 u t H1 locs ht hvm hw hB hz1 hk1 hS => ?_)
  obtain ⟨hP1, hD1⟩ := hB
  obtain rfl : r_1 = 0 := hw
  rw [ht] at hP1
  obtain ⟨hP, hD⟩ := va_join (wr := []) (w1 := [((r 5), .inr (5, [.ref (r 16), .int 0, .int 0, .int 0]))]) hP hD [0] [] rfl rfl (by decide) (by decide) hk1 hFc hP1 hD1
  generalize H1 = H at hP hS ⊢
  have hP : va_P (dC, dI) vwCl [((r 5), .inr (5, [.ref (r 16), .int 0, .int 0, .int 0]))] H := hP
  have hD : va_D A [((r 5), .inr (5, [.ref (r 16), .int 0, .int 0, .int 0]))] := hD
  refine lv_if_eq (tgt := 17) hx hb dX5_armAt_5 (by decide) (fun _ => ?_) (fun c => absurd (by decide) c)
  refine lv_iconst (v := (-1)) hx hb dX5_armAt_17 (by decide) ?_
  have hP9 := hP.sub (ws' := [((r 5), .inr (5, [.ref (r 16), .int 0, .int 0, .int 0]))]) [0] rfl
  have hD9 := hD.sub (ws' := [((r 5), .inr (5, [.ref (r 16), .int 0, .int 0, .int 0]))]) [0] (by decide) rfl
  exact W.iret (v := (-1)) hx hb hr (fun t ht hW => ⟨⟨(-1), (), rfl, rfl, by rw [ht]; exact hP9, hD9⟩, hS.F ht⟩) hS.2.2 dX5_armAt_18
abbrev w0_c_X9_isRow (cI : ClassId) (h0 : Nat) (r : Nat → Nat) (p0 : Int32) : va_W := [((r 10), .inr (9, [.ref (r 26), .ref (r 27), .ref (r 28), .ref (r 29), .ref (r 30), .ref (r 31), .int 0, .int 0, .int 0, .int 0, .int 0]))]
set_option maxHeartbeats 4000000 in
set_option maxRecDepth 100000 in
theorem c_X9_isRow (l : Launch) (dC : Nat → ClassId) (dI : Nat → Nat → Nat) (cI cJ : ClassId) (h0 : Nat) (r : Nat → Nat) (p0 : Int32) (sz : Nat) : Met l yX9_isRow wsX9_isRow ({ frames := 1, cells := 0, slots := 0, locals := 60 }) (va_Pc [.ref (r 10), .int p0] (mPre dC dI cI cJ sz (w0_c_X9_isRow cI h0 r p0))) (va_Qi (fun (r : Int32) (u : Unit) => r = 0) (fun (u : Unit) (t : State) => va_P (dC, dI) vwCl [((r 10), .inr (9, [.ref (r 26), .ref (r 27), .ref (r 28), .ref (r 29), .ref (r 30), .ref (r 31), .int 0, .int 0, .int 0, .int 0, .int 0]))] t.heap ∧ va_D (va_A (w0_c_X9_isRow cI h0 r p0) sz) [((r 10), .inr (9, [.ref (r 26), .ref (r 27), .ref (r 28), .ref (r 29), .ref (r 30), .ref (r 31), .int 0, .int 0, .int 0, .int 0, .int 0]))]) (va_A (w0_c_X9_isRow cI h0 r p0) sz)) 0 0 (va_A (w0_c_X9_isRow cI h0 r p0) sz) := by
  refine Met.ofW (cc := cX9_isRow) (maxL := 2) (ret := (some .boolean)) (by decide) rfl ?_
  intro p e s m args below meth c s₁ B hml hv
  obtain ⟨rfl, hsz, hP, hK, hD0, hN⟩ := hv
  have hx := B.exec
  have hb := B.bytes
  have hr := B.returns
  have hts := atoms_spec (ws := wsX9_isRow) B.pre
  have hown : s.vm.findClass RX9 = some m.cls := findClass_of_methodNamed B.named
  have hlocks := B.notSynchronized
  have h_in_X9 : ∀ w ∈ wsX90, w ∈ wsX9_isRow := fun w h => List.mem_cons_of_mem _ (List.mem_append_right _ h)
  subst hsz
  have hD := hD0.self (sz := s.heap.size)
  generalize hAe : va_A (w0_c_X9_isRow cI h0 r p0) s.heap.size = A at hD ⊢
  have hA : ∀ q : Nat, s.heap.size ≤ q → A q := fun q h => by rw [← hAe]; exact Or.inr h
  have hS : va_S A s.heap s.heap [] := va_S.rf
  have hP : va_P (dC, dI) vwCl [((r 10), .inr (9, [.ref (r 26), .ref (r 27), .ref (r 28), .ref (r 29), .ref (r 30), .ref (r 31), .int 0, .int 0, .int 0, .int 0, .int 0]))] s.heap := hP
  have hD : va_D A [((r 10), .inr (9, [.ref (r 26), .ref (r 27), .ref (r 28), .ref (r 29), .ref (r 30), .ref (r 31), .int 0, .int 0, .int 0, .int 0, .int 0]))] := hD
  have hl := lv_entry ([.ref (r 10), .int p0]) (n := 2) (Nat.le_of_ble_eq_true rfl)
  rw [lg_entry_eq]
  generalize (lg_sl ([.ref (r 10), .int p0]) ++ List.replicate (2 - (lg_sl ([.ref (r 10), .int p0])).length) Slot.unset).toArray = ls at hl ⊢
  have hl : lv_has ls 2 [(0, .ref (r 10)), (1, .int p0)] := hl
  refine lv_iload_n hx hb dX9_isRow_0 rfl (lv_at hl 1 rfl) ?_
  refine lv_if_lt (tgt := 16) hx hb dX9_isRow_1 (by decide) (fun c_1 => ?_) (fun c_1 => ?_)
  · refine lv_iconst (v := 0) hx hb dX9_isRow_16 (by decide) ?_
    have hP9 := hP.sub (ws' := [((r 10), .inr (9, [.ref (r 26), .ref (r 27), .ref (r 28), .ref (r 29), .ref (r 30), .ref (r 31), .int 0, .int 0, .int 0, .int 0, .int 0]))]) [0] rfl
    have hD9 := hD.sub (ws' := [((r 10), .inr (9, [.ref (r 26), .ref (r 27), .ref (r 28), .ref (r 29), .ref (r 30), .ref (r 31), .int 0, .int 0, .int 0, .int 0, .int 0]))]) [0] (by decide) rfl
    exact W.zret (v := 0) hx hb hr rfl (fun t ht hW => ⟨⟨0, (), rfl, rfl, by rw [ht]; exact hP9, hD9⟩, hS.F ht⟩) hS.2.2 dX9_isRow_17
  · refine lv_iload_n hx hb dX9_isRow_4 rfl (lv_at hl 1 rfl) ?_
    refine lv_aload_n hx hb dX9_isRow_5 rfl (lv_at hl 0 rfl) ?_
    refine va_get (D := (dC, dI)) (ci := 9) (v := .int 0) (C := RX9) (T := TX9) (N := 11) hx hb hts h_in_X9 hown hK hP 0 rfl rfl 7 (by decide) (hts (.fieldLink RX9 43 "MatchTrees$Table" "rows" "I") (by decide +kernel)) (fun _ h9 => h9) rfl dX9_isRow_6 ?_
    refine lv_icmp_ge (tgt := 16) hx hb dX9_isRow_9 (by decide) (fun _ => ?_) (fun c => absurd (by have e0 : (0 : Int32).toInt = 0 := (by decide); rw [Int32.lt_iff_toInt_lt] at c_1; rw [Int32.le_iff_toInt_le]; omega) c)
    refine lv_iconst (v := 0) hx hb dX9_isRow_16 (by decide) ?_
    have hP9 := hP.sub (ws' := [((r 10), .inr (9, [.ref (r 26), .ref (r 27), .ref (r 28), .ref (r 29), .ref (r 30), .ref (r 31), .int 0, .int 0, .int 0, .int 0, .int 0]))]) [0] rfl
    have hD9 := hD.sub (ws' := [((r 10), .inr (9, [.ref (r 26), .ref (r 27), .ref (r 28), .ref (r 29), .ref (r 30), .ref (r 31), .int 0, .int 0, .int 0, .int 0, .int 0]))]) [0] (by decide) rfl
    exact W.zret (v := 0) hx hb hr rfl (fun t ht hW => ⟨⟨0, (), rfl, rfl, by rw [ht]; exact hP9, hD9⟩, hS.F ht⟩) hS.2.2 dX9_isRow_17
abbrev w0_c_X3_isKind (cI : ClassId) (h0 : Nat) (r : Nat → Nat) (p0 : Int32) : va_W := [((r 26), .inr (3, [.ref (r 32), .ref (r 33), .ref (r 34), .ref (r 35), .ref (r 36), .ref (r 37), .ref (r 38), .ref (r 39), .ref (r 40), .int 0, .int 0]))]
set_option maxHeartbeats 4000000 in
set_option maxRecDepth 100000 in
theorem c_X3_isKind (l : Launch) (dC : Nat → ClassId) (dI : Nat → Nat → Nat) (cI cJ : ClassId) (h0 : Nat) (r : Nat → Nat) (p0 : Int32) (sz : Nat) : Met l yX3_isKind wsX3_isKind ({ frames := 1, cells := 0, slots := 0, locals := 60 }) (va_Pc [.ref (r 26), .int p0] (mPre dC dI cI cJ sz (w0_c_X3_isKind cI h0 r p0))) (va_Qi (fun (r : Int32) (u : Unit) => r = 0) (fun (u : Unit) (t : State) => va_P (dC, dI) vwCl [((r 26), .inr (3, [.ref (r 32), .ref (r 33), .ref (r 34), .ref (r 35), .ref (r 36), .ref (r 37), .ref (r 38), .ref (r 39), .ref (r 40), .int 0, .int 0]))] t.heap ∧ va_D (va_A (w0_c_X3_isKind cI h0 r p0) sz) [((r 26), .inr (3, [.ref (r 32), .ref (r 33), .ref (r 34), .ref (r 35), .ref (r 36), .ref (r 37), .ref (r 38), .ref (r 39), .ref (r 40), .int 0, .int 0]))]) (va_A (w0_c_X3_isKind cI h0 r p0) sz)) 0 0 (va_A (w0_c_X3_isKind cI h0 r p0) sz) := by
  refine Met.ofW (cc := cX3_isKind) (maxL := 2) (ret := (some .boolean)) (by decide) rfl ?_
  intro p e s m args below meth c s₁ B hml hv
  obtain ⟨rfl, hsz, hP, hK, hD0, hN⟩ := hv
  have hx := B.exec
  have hb := B.bytes
  have hr := B.returns
  have hts := atoms_spec (ws := wsX3_isKind) B.pre
  have hown : s.vm.findClass RX3 = some m.cls := findClass_of_methodNamed B.named
  have hlocks := B.notSynchronized
  have h_in_X3 : ∀ w ∈ wsX30, w ∈ wsX3_isKind := fun w h => List.mem_cons_of_mem _ (List.mem_append_right _ h)
  subst hsz
  have hD := hD0.self (sz := s.heap.size)
  generalize hAe : va_A (w0_c_X3_isKind cI h0 r p0) s.heap.size = A at hD ⊢
  have hA : ∀ q : Nat, s.heap.size ≤ q → A q := fun q h => by rw [← hAe]; exact Or.inr h
  have hS : va_S A s.heap s.heap [] := va_S.rf
  have hP : va_P (dC, dI) vwCl [((r 26), .inr (3, [.ref (r 32), .ref (r 33), .ref (r 34), .ref (r 35), .ref (r 36), .ref (r 37), .ref (r 38), .ref (r 39), .ref (r 40), .int 0, .int 0]))] s.heap := hP
  have hD : va_D A [((r 26), .inr (3, [.ref (r 32), .ref (r 33), .ref (r 34), .ref (r 35), .ref (r 36), .ref (r 37), .ref (r 38), .ref (r 39), .ref (r 40), .int 0, .int 0]))] := hD
  have hl := lv_entry ([.ref (r 26), .int p0]) (n := 2) (Nat.le_of_ble_eq_true rfl)
  rw [lg_entry_eq]
  generalize (lg_sl ([.ref (r 26), .int p0]) ++ List.replicate (2 - (lg_sl ([.ref (r 26), .int p0])).length) Slot.unset).toArray = ls at hl ⊢
  have hl : lv_has ls 2 [(0, .ref (r 26)), (1, .int p0)] := hl
  refine lv_iload_n hx hb dX3_isKind_0 rfl (lv_at hl 1 rfl) ?_
  refine lv_if_lt (tgt := 16) hx hb dX3_isKind_1 (by decide) (fun c_1 => ?_) (fun c_1 => ?_)
  · refine lv_iconst (v := 0) hx hb dX3_isKind_16 (by decide) ?_
    have hP9 := hP.sub (ws' := [((r 26), .inr (3, [.ref (r 32), .ref (r 33), .ref (r 34), .ref (r 35), .ref (r 36), .ref (r 37), .ref (r 38), .ref (r 39), .ref (r 40), .int 0, .int 0]))]) [0] rfl
    have hD9 := hD.sub (ws' := [((r 26), .inr (3, [.ref (r 32), .ref (r 33), .ref (r 34), .ref (r 35), .ref (r 36), .ref (r 37), .ref (r 38), .ref (r 39), .ref (r 40), .int 0, .int 0]))]) [0] (by decide) rfl
    exact W.zret (v := 0) hx hb hr rfl (fun t ht hW => ⟨⟨0, (), rfl, rfl, by rw [ht]; exact hP9, hD9⟩, hS.F ht⟩) hS.2.2 dX3_isKind_17
  · refine lv_iload_n hx hb dX3_isKind_4 rfl (lv_at hl 1 rfl) ?_
    refine lv_aload_n hx hb dX3_isKind_5 rfl (lv_at hl 0 rfl) ?_
    refine va_get (D := (dC, dI)) (ci := 3) (v := .int 0) (C := RX3) (T := TX3) (N := 11) hx hb hts h_in_X3 hown hK hP 0 rfl rfl 9 (by decide) (hts (.fieldLink RX3 39 "MatchTrees$Kinds" "kinds" "I") (by decide +kernel)) (fun _ h9 => h9) rfl dX3_isKind_6 ?_
    refine lv_icmp_ge (tgt := 16) hx hb dX3_isKind_9 (by decide) (fun _ => ?_) (fun c => absurd (by have e0 : (0 : Int32).toInt = 0 := (by decide); rw [Int32.lt_iff_toInt_lt] at c_1; rw [Int32.le_iff_toInt_le]; omega) c)
    refine lv_iconst (v := 0) hx hb dX3_isKind_16 (by decide) ?_
    have hP9 := hP.sub (ws' := [((r 26), .inr (3, [.ref (r 32), .ref (r 33), .ref (r 34), .ref (r 35), .ref (r 36), .ref (r 37), .ref (r 38), .ref (r 39), .ref (r 40), .int 0, .int 0]))]) [0] rfl
    have hD9 := hD.sub (ws' := [((r 26), .inr (3, [.ref (r 32), .ref (r 33), .ref (r 34), .ref (r 35), .ref (r 36), .ref (r 37), .ref (r 38), .ref (r 39), .ref (r 40), .int 0, .int 0]))]) [0] (by decide) rfl
    exact W.zret (v := 0) hx hb hr rfl (fun t ht hW => ⟨⟨0, (), rfl, rfl, by rw [ht]; exact hP9, hD9⟩, hS.F ht⟩) hS.2.2 dX3_isKind_17
abbrev w0_c_X3_isCon (cI : ClassId) (h0 : Nat) (r : Nat → Nat) (p0 : Int32) : va_W := [((r 26), .inr (3, [.ref (r 32), .ref (r 33), .ref (r 34), .ref (r 35), .ref (r 36), .ref (r 37), .ref (r 38), .ref (r 39), .ref (r 40), .int 0, .int 0]))]
set_option maxHeartbeats 4000000 in
set_option maxRecDepth 100000 in
theorem c_X3_isCon (l : Launch) (dC : Nat → ClassId) (dI : Nat → Nat → Nat) (cI cJ : ClassId) (h0 : Nat) (r : Nat → Nat) (p0 : Int32) (sz : Nat) : Met l yX3_isCon wsX3_isCon ({ frames := 1, cells := 0, slots := 0, locals := 60 }) (va_Pc [.ref (r 26), .int p0] (mPre dC dI cI cJ sz (w0_c_X3_isCon cI h0 r p0))) (va_Qi (fun (r : Int32) (u : Unit) => r = 0) (fun (u : Unit) (t : State) => va_P (dC, dI) vwCl [((r 26), .inr (3, [.ref (r 32), .ref (r 33), .ref (r 34), .ref (r 35), .ref (r 36), .ref (r 37), .ref (r 38), .ref (r 39), .ref (r 40), .int 0, .int 0]))] t.heap ∧ va_D (va_A (w0_c_X3_isCon cI h0 r p0) sz) [((r 26), .inr (3, [.ref (r 32), .ref (r 33), .ref (r 34), .ref (r 35), .ref (r 36), .ref (r 37), .ref (r 38), .ref (r 39), .ref (r 40), .int 0, .int 0]))]) (va_A (w0_c_X3_isCon cI h0 r p0) sz)) 0 0 (va_A (w0_c_X3_isCon cI h0 r p0) sz) := by
  refine Met.ofW (cc := cX3_isCon) (maxL := 2) (ret := (some .boolean)) (by decide) rfl ?_
  intro p e s m args below meth c s₁ B hml hv
  obtain ⟨rfl, hsz, hP, hK, hD0, hN⟩ := hv
  have hx := B.exec
  have hb := B.bytes
  have hr := B.returns
  have hts := atoms_spec (ws := wsX3_isCon) B.pre
  have hown : s.vm.findClass RX3 = some m.cls := findClass_of_methodNamed B.named
  have hlocks := B.notSynchronized
  have h_in_X3 : ∀ w ∈ wsX30, w ∈ wsX3_isCon := fun w h => List.mem_cons_of_mem _ (List.mem_append_right _ h)
  subst hsz
  have hD := hD0.self (sz := s.heap.size)
  generalize hAe : va_A (w0_c_X3_isCon cI h0 r p0) s.heap.size = A at hD ⊢
  have hA : ∀ q : Nat, s.heap.size ≤ q → A q := fun q h => by rw [← hAe]; exact Or.inr h
  have hS : va_S A s.heap s.heap [] := va_S.rf
  have hP : va_P (dC, dI) vwCl [((r 26), .inr (3, [.ref (r 32), .ref (r 33), .ref (r 34), .ref (r 35), .ref (r 36), .ref (r 37), .ref (r 38), .ref (r 39), .ref (r 40), .int 0, .int 0]))] s.heap := hP
  have hD : va_D A [((r 26), .inr (3, [.ref (r 32), .ref (r 33), .ref (r 34), .ref (r 35), .ref (r 36), .ref (r 37), .ref (r 38), .ref (r 39), .ref (r 40), .int 0, .int 0]))] := hD
  have hl := lv_entry ([.ref (r 26), .int p0]) (n := 2) (Nat.le_of_ble_eq_true rfl)
  rw [lg_entry_eq]
  generalize (lg_sl ([.ref (r 26), .int p0]) ++ List.replicate (2 - (lg_sl ([.ref (r 26), .int p0])).length) Slot.unset).toArray = ls at hl ⊢
  have hl : lv_has ls 2 [(0, .ref (r 26)), (1, .int p0)] := hl
  refine lv_iload_n hx hb dX3_isCon_0 rfl (lv_at hl 1 rfl) ?_
  refine lv_if_lt (tgt := 16) hx hb dX3_isCon_1 (by decide) (fun c_1 => ?_) (fun c_1 => ?_)
  · refine lv_iconst (v := 0) hx hb dX3_isCon_16 (by decide) ?_
    have hP9 := hP.sub (ws' := [((r 26), .inr (3, [.ref (r 32), .ref (r 33), .ref (r 34), .ref (r 35), .ref (r 36), .ref (r 37), .ref (r 38), .ref (r 39), .ref (r 40), .int 0, .int 0]))]) [0] rfl
    have hD9 := hD.sub (ws' := [((r 26), .inr (3, [.ref (r 32), .ref (r 33), .ref (r 34), .ref (r 35), .ref (r 36), .ref (r 37), .ref (r 38), .ref (r 39), .ref (r 40), .int 0, .int 0]))]) [0] (by decide) rfl
    exact W.zret (v := 0) hx hb hr rfl (fun t ht hW => ⟨⟨0, (), rfl, rfl, by rw [ht]; exact hP9, hD9⟩, hS.F ht⟩) hS.2.2 dX3_isCon_17
  · refine lv_iload_n hx hb dX3_isCon_4 rfl (lv_at hl 1 rfl) ?_
    refine lv_aload_n hx hb dX3_isCon_5 rfl (lv_at hl 0 rfl) ?_
    refine va_get (D := (dC, dI)) (ci := 3) (v := .int 0) (C := RX3) (T := TX3) (N := 11) hx hb hts h_in_X3 hown hK hP 0 rfl rfl 10 (by decide) (hts (.fieldLink RX3 43 "MatchTrees$Kinds" "cons" "I") (by decide +kernel)) (fun _ h9 => h9) rfl dX3_isCon_6 ?_
    refine lv_icmp_ge (tgt := 16) hx hb dX3_isCon_9 (by decide) (fun _ => ?_) (fun c => absurd (by have e0 : (0 : Int32).toInt = 0 := (by decide); rw [Int32.lt_iff_toInt_lt] at c_1; rw [Int32.le_iff_toInt_le]; omega) c)
    refine lv_iconst (v := 0) hx hb dX3_isCon_16 (by decide) ?_
    have hP9 := hP.sub (ws' := [((r 26), .inr (3, [.ref (r 32), .ref (r 33), .ref (r 34), .ref (r 35), .ref (r 36), .ref (r 37), .ref (r 38), .ref (r 39), .ref (r 40), .int 0, .int 0]))]) [0] rfl
    have hD9 := hD.sub (ws' := [((r 26), .inr (3, [.ref (r 32), .ref (r 33), .ref (r 34), .ref (r 35), .ref (r 36), .ref (r 37), .ref (r 38), .ref (r 39), .ref (r 40), .int 0, .int 0]))]) [0] (by decide) rfl
    exact W.zret (v := 0) hx hb hr rfl (fun t ht hW => ⟨⟨0, (), rfl, rfl, by rw [ht]; exact hP9, hD9⟩, hS.F ht⟩) hS.2.2 dX3_isCon_17
abbrev w0_c_X0_keptTold (cI : ClassId) (h0 : Nat) (r : Nat → Nat) : va_W := [((r 7), .inr (0, [.ref (r 17), .ref (r 18), .ref (r 19), .ref (r 20), .ref (r 21), .int 0, .int 0, .int 0]))]
set_option maxHeartbeats 4000000 in
set_option maxRecDepth 100000 in
theorem c_X0_keptTold (l : Launch) (dC : Nat → ClassId) (dI : Nat → Nat → Nat) (cI cJ : ClassId) (h0 : Nat) (r : Nat → Nat) (sz : Nat) : Met l yX0_keptTold wsX0_keptTold ({ frames := 1, cells := 0, slots := 0, locals := 60 }) (va_Pc [.ref (r 7)] (mPre dC dI cI cJ sz (w0_c_X0_keptTold cI h0 r))) (va_Qi (fun (r : Int32) (u : Unit) => r = 0) (fun (u : Unit) (t : State) => va_P (dC, dI) vwCl [((r 7), .inr (0, [.ref (r 17), .ref (r 18), .ref (r 19), .ref (r 20), .ref (r 21), .int 0, .int 0, .int 0]))] t.heap ∧ va_D (va_A (w0_c_X0_keptTold cI h0 r) sz) [((r 7), .inr (0, [.ref (r 17), .ref (r 18), .ref (r 19), .ref (r 20), .ref (r 21), .int 0, .int 0, .int 0]))]) (va_A (w0_c_X0_keptTold cI h0 r) sz)) 0 0 (va_A (w0_c_X0_keptTold cI h0 r) sz) := by
  refine Met.ofW (cc := cX0_keptTold) (maxL := 1) (ret := (some .int)) (by decide) rfl ?_
  intro p e s m args below meth c s₁ B hml hv
  obtain ⟨rfl, hsz, hP, hK, hD0, hN⟩ := hv
  have hx := B.exec
  have hb := B.bytes
  have hr := B.returns
  have hts := atoms_spec (ws := wsX0_keptTold) B.pre
  have hown : s.vm.findClass RX0 = some m.cls := findClass_of_methodNamed B.named
  have hlocks := B.notSynchronized
  have h_in_X0 : ∀ w ∈ wsX00, w ∈ wsX0_keptTold := fun w h => List.mem_cons_of_mem _ (List.mem_append_right _ h)
  subst hsz
  have hD := hD0.self (sz := s.heap.size)
  generalize hAe : va_A (w0_c_X0_keptTold cI h0 r) s.heap.size = A at hD ⊢
  have hA : ∀ q : Nat, s.heap.size ≤ q → A q := fun q h => by rw [← hAe]; exact Or.inr h
  have hS : va_S A s.heap s.heap [] := va_S.rf
  have hP : va_P (dC, dI) vwCl [((r 7), .inr (0, [.ref (r 17), .ref (r 18), .ref (r 19), .ref (r 20), .ref (r 21), .int 0, .int 0, .int 0]))] s.heap := hP
  have hD : va_D A [((r 7), .inr (0, [.ref (r 17), .ref (r 18), .ref (r 19), .ref (r 20), .ref (r 21), .int 0, .int 0, .int 0]))] := hD
  have hl := lv_entry ([.ref (r 7)]) (n := 1) (Nat.le_of_ble_eq_true rfl)
  rw [lg_entry_eq]
  generalize (lg_sl ([.ref (r 7)]) ++ List.replicate (1 - (lg_sl ([.ref (r 7)])).length) Slot.unset).toArray = ls at hl ⊢
  have hl : lv_has ls 1 [(0, .ref (r 7))] := hl
  refine lv_aload_n hx hb dX0_keptTold_0 rfl (lv_at hl 0 rfl) ?_
  refine va_get (D := (dC, dI)) (ci := 0) (v := .int 0) (C := RX0) (T := TX0) (N := 8) hx hb hts h_in_X0 hown hK hP 0 rfl rfl 5 (by decide) (hts (.fieldLink RX0 31 "MatchTrees$Acts" "keptRows" "I") (by decide +kernel)) (fun _ h9 => h9) rfl dX0_keptTold_1 ?_
  refine lv_bipush (v := 40) hx hb dX0_keptTold_4 (by decide) ?_
  refine va_mmin hx hb (by rw [hml]; exact hl.1.symm) hown (hts (.methodLink RX0 38 Lib.Math.min.name) (by decide +kernel)) (hts (.static Lib.Math.min.name) (by decide +kernel)) (hts (.initialized "java/lang/Math") (by decide +kernel)) (hts (.code Lib.Math.min.name Lib.Math.min.code 2 (some .int)) (by decide +kernel)) (Nat.le_of_ble_eq_true rfl) (Nat.le_of_ble_eq_true rfl) (Nat.le_of_ble_eq_true rfl) (Nat.le_of_ble_eq_true rfl) dX0_keptTold_6 ?_
  refine lv_topi (fun t9 e9 => ?_)
  obtain rfl : t9 = 0 := e9.trans (by decide)
  have hP9 := hP.sub (ws' := [((r 7), .inr (0, [.ref (r 17), .ref (r 18), .ref (r 19), .ref (r 20), .ref (r 21), .int 0, .int 0, .int 0]))]) [0] rfl
  have hD9 := hD.sub (ws' := [((r 7), .inr (0, [.ref (r 17), .ref (r 18), .ref (r 19), .ref (r 20), .ref (r 21), .int 0, .int 0, .int 0]))]) [0] (by decide) rfl
  exact W.iret (v := 0) hx hb hr (fun t ht hW => ⟨⟨0, (), rfl, rfl, by rw [ht]; exact hP9, hD9⟩, hS.F ht⟩) hS.2.2 dX0_keptTold_9
abbrev w0_c_X0_tellKept (cI : ClassId) (h0 : Nat) (r : Nat → Nat) (p0 p1 : Int32) : va_W := [((r 7), .inr (0, [.ref (r 17), .ref (r 18), .ref (r 19), .ref (r 20), .ref (r 21), .int 0, .int 0, .int 0]))]
set_option maxHeartbeats 4000000 in
set_option maxRecDepth 100000 in
theorem c_X0_tellKept (l : Launch) (dC : Nat → ClassId) (dI : Nat → Nat → Nat) (cI cJ : ClassId) (h0 : Nat) (r : Nat → Nat) (p0 p1 : Int32) (sz : Nat) : Met l yX0_tellKept wsX0_tellKept ({ frames := 2, cells := 0, slots := 0, locals := 80 }) (va_Pc [.ref (r 7), .int p0, .int p1] (mPre dC dI cI cJ sz (w0_c_X0_tellKept cI h0 r p0 p1))) (va_Qi (fun (r : Int32) (u : Unit) => r = -1) (fun (u : Unit) (t : State) => va_P (dC, dI) vwCl [((r 7), .inr (0, [.ref (r 17), .ref (r 18), .ref (r 19), .ref (r 20), .ref (r 21), .int 0, .int 0, .int 0]))] t.heap ∧ va_D (va_A (w0_c_X0_tellKept cI h0 r p0 p1) sz) [((r 7), .inr (0, [.ref (r 17), .ref (r 18), .ref (r 19), .ref (r 20), .ref (r 21), .int 0, .int 0, .int 0]))]) (va_A (w0_c_X0_tellKept cI h0 r p0 p1) sz)) 0 0 (va_A (w0_c_X0_tellKept cI h0 r p0 p1) sz) := by
  refine Met.ofW (cc := cX0_tellKept) (maxL := 4) (ret := (some .int)) (by decide) rfl ?_
  intro p e s m args below meth c s₁ B hml hv
  obtain ⟨rfl, hsz, hP, hK, hD0, hN⟩ := hv
  have hx := B.exec
  have hb := B.bytes
  have hr := B.returns
  have hts := atoms_spec (ws := wsX0_tellKept) B.pre
  have hown : s.vm.findClass RX0 = some m.cls := findClass_of_methodNamed B.named
  have hlocks := B.notSynchronized
  have h_in_X0 : ∀ w ∈ wsX00, w ∈ wsX0_tellKept := fun w h => List.mem_cons_of_mem _ (List.mem_append_right _ h)
  subst hsz
  have hD := hD0.self (sz := s.heap.size)
  generalize hAe : va_A (w0_c_X0_tellKept cI h0 r p0 p1) s.heap.size = A at hD ⊢
  have hA : ∀ q : Nat, s.heap.size ≤ q → A q := fun q h => by rw [← hAe]; exact Or.inr h
  have hS : va_S A s.heap s.heap [] := va_S.rf
  have hP : va_P (dC, dI) vwCl [((r 7), .inr (0, [.ref (r 17), .ref (r 18), .ref (r 19), .ref (r 20), .ref (r 21), .int 0, .int 0, .int 0]))] s.heap := hP
  have hD : va_D A [((r 7), .inr (0, [.ref (r 17), .ref (r 18), .ref (r 19), .ref (r 20), .ref (r 21), .int 0, .int 0, .int 0]))] := hD
  have hl := lv_entry ([.ref (r 7), .int p0, .int p1]) (n := 4) (Nat.le_of_ble_eq_true rfl)
  rw [lg_entry_eq]
  generalize (lg_sl ([.ref (r 7), .int p0, .int p1]) ++ List.replicate (4 - (lg_sl ([.ref (r 7), .int p0, .int p1])).length) Slot.unset).toArray = ls at hl ⊢
  have hl : lv_has ls 4 [(0, .ref (r 7)), (1, .int p0), (2, .int p1)] := hl
  refine lv_iload_n hx hb dX0_tellKept_0 rfl (lv_at hl 1 rfl) ?_
  refine lv_if_lt (tgt := 12) hx hb dX0_tellKept_1 (by decide) (fun c_1 => ?_) (fun c_1 => ?_)
  · refine lv_iconst (v := (-1)) hx hb dX0_tellKept_12 (by decide) ?_
    have hP9 := hP.sub (ws' := [((r 7), .inr (0, [.ref (r 17), .ref (r 18), .ref (r 19), .ref (r 20), .ref (r 21), .int 0, .int 0, .int 0]))]) [0] rfl
    have hD9 := hD.sub (ws' := [((r 7), .inr (0, [.ref (r 17), .ref (r 18), .ref (r 19), .ref (r 20), .ref (r 21), .int 0, .int 0, .int 0]))]) [0] (by decide) rfl
    exact W.iret (v := (-1)) hx hb hr (fun t ht hW => ⟨⟨(-1), (), rfl, rfl, by rw [ht]; exact hP9, hD9⟩, hS.F ht⟩) hS.2.2 dX0_tellKept_13
  · refine lv_iload_n hx hb dX0_tellKept_4 rfl (lv_at hl 1 rfl) ?_
    refine lv_aload_n hx hb dX0_tellKept_5 rfl (lv_at hl 0 rfl) ?_
    have hPc := hP.sub (ws' := [((r 7), .inr (0, [.ref (r 17), .ref (r 18), .ref (r 19), .ref (r 20), .ref (r 21), .int 0, .int 0, .int 0]))]) [0] rfl
    have hDc := hD.sub (ws' := [((r 7), .inr (0, [.ref (r 17), .ref (r 18), .ref (r 19), .ref (r 20), .ref (r 21), .int 0, .int 0, .int 0]))]) [0] (by decide) rfl
    have hFc := va_free (wc := [((r 7), .inr (0, [.ref (r 17), .ref (r 18), .ref (r 19), .ref (r 20), .ref (r 21), .int 0, .int 0, .int 0]))]) hD hS hA [0] rfl
    refine va_calli (va_runV (As := []) (rest := [.int p0]) ⟨hx, hb, hml, hown, hts⟩ (c_X0_keptTold l dC dI cI cJ h0 r s.heap.size) (cwV 0 hts gX0_tellKept_X0_keptTold rfl rfl rfl (by decide +kernel) ⟨Nat.le_of_ble_eq_true rfl, Nat.le_of_ble_eq_true rfl⟩) ⟨mBlind, va_recv hK hPc (ci := 0) (q0 := 0) rfl rfl, mGo hPc hK hDc hN⟩ rfl rfl hl.1 rfl (lv_room (Nat.le_of_ble_eq_true rfl)) dX0_tellKept_6 ⟨Nat.le_of_ble_eq_true rfl, Nat.le_of_ble_eq_true rfl⟩) hS (fun q _ h => hFc q h) hFc (fun r_2 u t H1 locs ht hvm hw hB hz1 hk1 hS => ?_)
    obtain ⟨hP1, hD1⟩ := hB
    obtain rfl : r_2 = 0 := hw
    rw [ht] at hP1
    obtain ⟨hP, hD⟩ := va_join (wr := []) (w1 := [((r 7), .inr (0, [.ref (r 17), .ref (r 18), .ref (r 19), .ref (r 20), .ref (r 21), .int 0, .int 0, .int 0]))]) hP hD [0] [] rfl rfl (by decide) (by decide) hk1 hFc hP1 hD1
    generalize H1 = H at hP hS ⊢
    have hP : va_P (dC, dI) vwCl [((r 7), .inr (0, [.ref (r 17), .ref (r 18), .ref (r 19), .ref (r 20), .ref (r 21), .int 0, .int 0, .int 0]))] H := hP
    have hD : va_D A [((r 7), .inr (0, [.ref (r 17), .ref (r 18), .ref (r 19), .ref (r 20), .ref (r 21), .int 0, .int 0, .int 0]))] := hD
    refine lv_icmp_lt (tgt := 14) hx hb dX0_tellKept_9 (by decide) (fun c => absurd c (by have e0 : (0 : Int32).toInt = 0 := (by decide); rw [Int32.lt_iff_toInt_lt] at c_1; rw [Int32.lt_iff_toInt_lt]; omega)) (fun _ => ?_)
    refine lv_iconst (v := (-1)) hx hb dX0_tellKept_12 (by decide) ?_
    have hP9 := hP.sub (ws' := [((r 7), .inr (0, [.ref (r 17), .ref (r 18), .ref (r 19), .ref (r 20), .ref (r 21), .int 0, .int 0, .int 0]))]) [0] rfl
    have hD9 := hD.sub (ws' := [((r 7), .inr (0, [.ref (r 17), .ref (r 18), .ref (r 19), .ref (r 20), .ref (r 21), .int 0, .int 0, .int 0]))]) [0] (by decide) rfl
    exact W.iret (v := (-1)) hx hb hr (fun t ht hW => ⟨⟨(-1), (), rfl, rfl, by rw [ht]; exact hP9, hD9⟩, hS.F ht⟩) hS.2.2 dX0_tellKept_13
abbrev w0_c_X1_byteAt (cI : ClassId) (h0 : Nat) (r : Nat → Nat) (p0 : Int32) : va_W := [((r 1), .inr (1, [.ref (r 15), .int 0]))]
set_option maxHeartbeats 4000000 in
set_option maxRecDepth 100000 in
theorem c_X1_byteAt (l : Launch) (dC : Nat → ClassId) (dI : Nat → Nat → Nat) (cI cJ : ClassId) (h0 : Nat) (r : Nat → Nat) (p0 : Int32) (sz : Nat) : Met l yX1_byteAt wsX1_byteAt ({ frames := 1, cells := 0, slots := 0, locals := 60 }) (va_Pc [.ref (r 1), .int p0] (mPre dC dI cI cJ sz (w0_c_X1_byteAt cI h0 r p0))) (va_Qi (fun (r : Int32) (u : Unit) => r = -1) (fun (u : Unit) (t : State) => va_P (dC, dI) vwCl [((r 1), .inr (1, [.ref (r 15), .int 0]))] t.heap ∧ va_D (va_A (w0_c_X1_byteAt cI h0 r p0) sz) [((r 1), .inr (1, [.ref (r 15), .int 0]))]) (va_A (w0_c_X1_byteAt cI h0 r p0) sz)) 0 0 (va_A (w0_c_X1_byteAt cI h0 r p0) sz) := by
  refine Met.ofW (cc := cX1_byteAt) (maxL := 2) (ret := (some .int)) (by decide) rfl ?_
  intro p e s m args below meth c s₁ B hml hv
  obtain ⟨rfl, hsz, hP, hK, hD0, hN⟩ := hv
  have hx := B.exec
  have hb := B.bytes
  have hr := B.returns
  have hts := atoms_spec (ws := wsX1_byteAt) B.pre
  have hown : s.vm.findClass RX1 = some m.cls := findClass_of_methodNamed B.named
  have hlocks := B.notSynchronized
  have h_in_X1 : ∀ w ∈ wsX10, w ∈ wsX1_byteAt := fun w h => List.mem_cons_of_mem _ (List.mem_append_right _ h)
  subst hsz
  have hD := hD0.self (sz := s.heap.size)
  generalize hAe : va_A (w0_c_X1_byteAt cI h0 r p0) s.heap.size = A at hD ⊢
  have hA : ∀ q : Nat, s.heap.size ≤ q → A q := fun q h => by rw [← hAe]; exact Or.inr h
  have hS : va_S A s.heap s.heap [] := va_S.rf
  have hP : va_P (dC, dI) vwCl [((r 1), .inr (1, [.ref (r 15), .int 0]))] s.heap := hP
  have hD : va_D A [((r 1), .inr (1, [.ref (r 15), .int 0]))] := hD
  have hl := lv_entry ([.ref (r 1), .int p0]) (n := 2) (Nat.le_of_ble_eq_true rfl)
  rw [lg_entry_eq]
  generalize (lg_sl ([.ref (r 1), .int p0]) ++ List.replicate (2 - (lg_sl ([.ref (r 1), .int p0])).length) Slot.unset).toArray = ls at hl ⊢
  have hl : lv_has ls 2 [(0, .ref (r 1)), (1, .int p0)] := hl
  refine lv_iload_n hx hb dX1_byteAt_0 rfl (lv_at hl 1 rfl) ?_
  refine lv_if_lt (tgt := 30) hx hb dX1_byteAt_1 (by decide) (fun c_1 => ?_) (fun c_1 => ?_)
  · refine lv_iconst (v := (-1)) hx hb dX1_byteAt_30 (by decide) ?_
    have hP9 := hP.sub (ws' := [((r 1), .inr (1, [.ref (r 15), .int 0]))]) [0] rfl
    have hD9 := hD.sub (ws' := [((r 1), .inr (1, [.ref (r 15), .int 0]))]) [0] (by decide) rfl
    exact W.iret (v := (-1)) hx hb hr (fun t ht hW => ⟨⟨(-1), (), rfl, rfl, by rw [ht]; exact hP9, hD9⟩, hS.F ht⟩) hS.2.2 dX1_byteAt_31
  · refine lv_iload_n hx hb dX1_byteAt_4 rfl (lv_at hl 1 rfl) ?_
    refine lv_aload_n hx hb dX1_byteAt_5 rfl (lv_at hl 0 rfl) ?_
    refine va_get (D := (dC, dI)) (ci := 1) (v := .int 0) (C := RX1) (T := TX1) (N := 2) hx hb hts h_in_X1 hown hK hP 0 rfl rfl 1 (by decide) (hts (.fieldLink RX1 21 "MatchTrees$Bytes" "length" "I") (by decide +kernel)) (fun _ h9 => h9) rfl dX1_byteAt_6 ?_
    refine lv_icmp_ge (tgt := 30) hx hb dX1_byteAt_9 (by decide) (fun _ => ?_) (fun c => absurd (by have e0 : (0 : Int32).toInt = 0 := (by decide); rw [Int32.lt_iff_toInt_lt] at c_1; rw [Int32.le_iff_toInt_le]; omega) c)
    refine lv_iconst (v := (-1)) hx hb dX1_byteAt_30 (by decide) ?_
    have hP9 := hP.sub (ws' := [((r 1), .inr (1, [.ref (r 15), .int 0]))]) [0] rfl
    have hD9 := hD.sub (ws' := [((r 1), .inr (1, [.ref (r 15), .int 0]))]) [0] (by decide) rfl
    exact W.iret (v := (-1)) hx hb hr (fun t ht hW => ⟨⟨(-1), (), rfl, rfl, by rw [ht]; exact hP9, hD9⟩, hS.F ht⟩) hS.2.2 dX1_byteAt_31
abbrev w0_c_X11_letter (cI : ClassId) (h0 : Nat) (r : Nat → Nat) (p0 p1 p2 : Int32) : va_W := [(h0, .inr (11, [.ref (r 0), .ref (r 1), .ref (r 2), .ref (r 3), .ref (r 4), .ref (r 5), .ref (r 6), .ref (r 7), .ref (r 8), .ref (r 9), .ref (r 10), .ref (r 11), .ref (r 12), .ref (r 13), .int 1])), ((r 10), .inr (9, [.ref (r 26), .ref (r 27), .ref (r 28), .ref (r 29), .ref (r 30), .ref (r 31), .int 0, .int 0, .int 0, .int 0, .int 0])), ((r 26), .inr (3, [.ref (r 32), .ref (r 33), .ref (r 34), .ref (r 35), .ref (r 36), .ref (r 37), .ref (r 38), .ref (r 39), .ref (r 40), .int 0, .int 0]))]
set_option maxHeartbeats 4000000 in
set_option maxRecDepth 100000 in
theorem c_X11_letter (l : Launch) (dC : Nat → ClassId) (dI : Nat → Nat → Nat) (cI cJ : ClassId) (h0 : Nat) (r : Nat → Nat) (p0 p1 p2 : Int32) (sz : Nat) : Met l yX11_letter wsX11_letter ({ frames := 2, cells := 0, slots := 0, locals := 81 }) (va_Pc [.ref h0, .int p0, .int p1, .int p2] (mPre dC dI cI cJ sz (w0_c_X11_letter cI h0 r p0 p1 p2))) (va_Qi (fun (r : Int32) (u : Unit) => r = -1) (fun _ _ => True) (va_A (w0_c_X11_letter cI h0 r p0 p1 p2) sz)) 0 0 (va_A (w0_c_X11_letter cI h0 r p0 p1 p2) sz) := by
  refine Met.ofW (cc := cX11_letter) (maxL := 5) (ret := (some .int)) (by decide) rfl ?_
  intro p e s m args below meth c s₁ B hml hv
  obtain ⟨rfl, hsz, hP, hK, hD0, hN⟩ := hv
  have hx := B.exec
  have hb := B.bytes
  have hr := B.returns
  have hts := atoms_spec (ws := wsX11_letter) B.pre
  have hown : s.vm.findClass RX11 = some m.cls := findClass_of_methodNamed B.named
  have hlocks := B.notSynchronized
  have h_in_X11 : ∀ w ∈ wsX110, w ∈ wsX11_letter := fun w h => List.mem_cons_of_mem _ (List.mem_append_left _ (List.mem_append_left _ (List.mem_append_right _ h)))
  have h_in_X9 : ∀ w ∈ wsX90, w ∈ wsX11_letter := fun w h => List.mem_cons_of_mem _ (List.mem_append_left _ (List.mem_append_right _ h))
  have h_in_X3 : ∀ w ∈ wsX30, w ∈ wsX11_letter := fun w h => List.mem_cons_of_mem _ (List.mem_append_right _ h)
  subst hsz
  have hD := hD0.self (sz := s.heap.size)
  generalize hAe : va_A (w0_c_X11_letter cI h0 r p0 p1 p2) s.heap.size = A at hD ⊢
  have hA : ∀ q : Nat, s.heap.size ≤ q → A q := fun q h => by rw [← hAe]; exact Or.inr h
  have hS : va_S A s.heap s.heap [] := va_S.rf
  have hP : va_P (dC, dI) vwCl [(h0, .inr (11, [.ref (r 0), .ref (r 1), .ref (r 2), .ref (r 3), .ref (r 4), .ref (r 5), .ref (r 6), .ref (r 7), .ref (r 8), .ref (r 9), .ref (r 10), .ref (r 11), .ref (r 12), .ref (r 13), .int 1])), ((r 10), .inr (9, [.ref (r 26), .ref (r 27), .ref (r 28), .ref (r 29), .ref (r 30), .ref (r 31), .int 0, .int 0, .int 0, .int 0, .int 0])), ((r 26), .inr (3, [.ref (r 32), .ref (r 33), .ref (r 34), .ref (r 35), .ref (r 36), .ref (r 37), .ref (r 38), .ref (r 39), .ref (r 40), .int 0, .int 0]))] s.heap := hP
  have hD : va_D A [(h0, .inr (11, [.ref (r 0), .ref (r 1), .ref (r 2), .ref (r 3), .ref (r 4), .ref (r 5), .ref (r 6), .ref (r 7), .ref (r 8), .ref (r 9), .ref (r 10), .ref (r 11), .ref (r 12), .ref (r 13), .int 1])), ((r 10), .inr (9, [.ref (r 26), .ref (r 27), .ref (r 28), .ref (r 29), .ref (r 30), .ref (r 31), .int 0, .int 0, .int 0, .int 0, .int 0])), ((r 26), .inr (3, [.ref (r 32), .ref (r 33), .ref (r 34), .ref (r 35), .ref (r 36), .ref (r 37), .ref (r 38), .ref (r 39), .ref (r 40), .int 0, .int 0]))] := hD
  have hl := lv_entry ([.ref h0, .int p0, .int p1, .int p2]) (n := 5) (Nat.le_of_ble_eq_true rfl)
  rw [lg_entry_eq]
  generalize (lg_sl ([.ref h0, .int p0, .int p1, .int p2]) ++ List.replicate (5 - (lg_sl ([.ref h0, .int p0, .int p1, .int p2])).length) Slot.unset).toArray = ls at hl ⊢
  have hl : lv_has ls 5 [(0, .ref h0), (1, .int p0), (2, .int p1), (3, .int p2)] := hl
  refine lv_aload_n hx hb dX11_letter_0 rfl (lv_at hl 0 rfl) ?_
  refine va_get (D := (dC, dI)) (ci := 11) (v := .ref (r 10)) (C := RX11) (T := TX11) (N := 15) hx hb hts h_in_X11 hown hK hP 0 rfl rfl 10 (by decide) (hts (.fieldLink RX11 71 "MatchTrees" "table" "LMatchTrees$Table;") (by decide +kernel)) (fun _ h9 => h9) rfl dX11_letter_1 ?_
  refine va_get (D := (dC, dI)) (ci := 9) (v := .ref (r 26)) (C := RX9) (T := TX9) (N := 11) hx hb hts h_in_X9 hown hK hP 1 rfl rfl 0 (by decide) (hts (.fieldLink RX11 162 "MatchTrees$Table" "kinds" "LMatchTrees$Kinds;") (by decide +kernel)) (fun _ h9 => h9) rfl dX11_letter_4 ?_
  refine lv_astore (lv' := [(4, .ref (r 26)), (0, .ref h0), (1, .int p0), (2, .int p1), (3, .int p2)]) hx hb dX11_letter_7 hl (by decide) rfl (fun ls hl => ?_)
  refine lv_iload_n hx hb dX11_letter_9 rfl (lv_at hl 4 rfl) ?_
  refine lv_if_lt (tgt := 23) hx hb dX11_letter_10 (by decide) (fun c_1 => ?_) (fun c_1 => ?_)
  · refine lv_iconst (v := (-1)) hx hb dX11_letter_23 (by decide) ?_
    exact W.iret (v := (-1)) hx hb hr (fun t ht hW => ⟨⟨(-1), (), rfl, rfl, trivial⟩, hS.F ht⟩) hS.2.2 dX11_letter_24
  · refine lv_iload_n hx hb dX11_letter_13 rfl (lv_at hl 4 rfl) ?_
    refine lv_bipush (v := 6) hx hb dX11_letter_14 (by decide) ?_
    refine lv_icmp_ge (tgt := 23) hx hb dX11_letter_16 (by decide) (fun c_2 => ?_) (fun c_2 => ?_)
    · refine lv_iconst (v := (-1)) hx hb dX11_letter_23 (by decide) ?_
      exact W.iret (v := (-1)) hx hb hr (fun t ht hW => ⟨⟨(-1), (), rfl, rfl, trivial⟩, hS.F ht⟩) hS.2.2 dX11_letter_24
    · refine lv_iload_n hx hb dX11_letter_19 rfl (lv_at hl 3 rfl) ?_
      refine lv_if_ge (tgt := 25) hx hb dX11_letter_20 (by decide) (fun c_3 => ?_) (fun c_3 => ?_)
      · refine lv_iload_n hx hb dX11_letter_25 rfl (lv_at hl 2 rfl) ?_
        refine lv_if_ne (tgt := 50) hx hb dX11_letter_26 (by decide) (fun c_4 => ?_) (fun c_4 => ?_)
        · refine lv_iload_n hx hb dX11_letter_50 rfl (lv_at hl 2 rfl) ?_
          refine lv_iconst (v := 1) hx hb dX11_letter_51 (by decide) ?_
          refine lv_icmp_ne (tgt := 76) hx hb dX11_letter_52 (by decide) (fun c_5 => ?_) (fun c_5 => ?_)
          · refine lv_iconst (v := (-1)) hx hb dX11_letter_76 (by decide) ?_
            exact W.iret (v := (-1)) hx hb hr (fun t ht hW => ⟨⟨(-1), (), rfl, rfl, trivial⟩, hS.F ht⟩) hS.2.2 dX11_letter_77
          · refine lv_aload hx hb dX11_letter_55 (lv_at hl 0 rfl) ?_
            refine lv_iload_n hx hb dX11_letter_57 rfl (lv_at hl 3 rfl) ?_
            have hPc := hP.sub (ws' := [((r 26), .inr (3, [.ref (r 32), .ref (r 33), .ref (r 34), .ref (r 35), .ref (r 36), .ref (r 37), .ref (r 38), .ref (r 39), .ref (r 40), .int 0, .int 0]))]) [2] rfl
            have hDc := hD.sub (ws' := [((r 26), .inr (3, [.ref (r 32), .ref (r 33), .ref (r 34), .ref (r 35), .ref (r 36), .ref (r 37), .ref (r 38), .ref (r 39), .ref (r 40), .int 0, .int 0]))]) [2] (by decide) rfl
            have hFc := va_free (wc := [((r 26), .inr (3, [.ref (r 32), .ref (r 33), .ref (r 34), .ref (r 35), .ref (r 36), .ref (r 37), .ref (r 38), .ref (r 39), .ref (r 40), .int 0, .int 0]))]) hD hS hA [2] rfl
            refine va_calli (va_runV (As := [.int p1]) (rest := []) ⟨hx, hb, hml, hown, hts⟩ (c_X3_isCon l dC dI cI cJ h0 r p1 s.heap.size) (cwV 1 hts gX11_letter_X3_isCon rfl rfl rfl (by decide +kernel) ⟨Nat.le_of_ble_eq_true rfl, Nat.le_of_ble_eq_true rfl⟩) ⟨mBlind, va_recv hK hPc (ci := 3) (q0 := 0) rfl rfl, mGo hPc hK hDc hN⟩ rfl rfl hl.1 rfl (lv_room (Nat.le_of_ble_eq_true rfl)) dX11_letter_58 ⟨Nat.le_of_ble_eq_true rfl, Nat.le_of_ble_eq_true rfl⟩) hS (fun q _ h => hFc q h) hFc (fun r_6 u t H1 locs ht hvm hw hB hz1 hk1 hS => ?_)
            obtain ⟨hP1, hD1⟩ := hB
            obtain rfl : r_6 = 0 := hw
            rw [ht] at hP1
            obtain ⟨hP, hD⟩ := va_join (wr := [(h0, .inr (11, [.ref (r 0), .ref (r 1), .ref (r 2), .ref (r 3), .ref (r 4), .ref (r 5), .ref (r 6), .ref (r 7), .ref (r 8), .ref (r 9), .ref (r 10), .ref (r 11), .ref (r 12), .ref (r 13), .int 1])), ((r 10), .inr (9, [.ref (r 26), .ref (r 27), .ref (r 28), .ref (r 29), .ref (r 30), .ref (r 31), .int 0, .int 0, .int 0, .int 0, .int 0]))]) (w1 := [((r 26), .inr (3, [.ref (r 32), .ref (r 33), .ref (r 34), .ref (r 35), .ref (r 36), .ref (r 37), .ref (r 38), .ref (r 39), .ref (r 40), .int 0, .int 0]))]) hP hD [2] [0, 1] rfl rfl (by decide) (by decide) hk1 hFc hP1 hD1
            generalize H1 = H at hP hS ⊢
            have hP : va_P (dC, dI) vwCl [(h0, .inr (11, [.ref (r 0), .ref (r 1), .ref (r 2), .ref (r 3), .ref (r 4), .ref (r 5), .ref (r 6), .ref (r 7), .ref (r 8), .ref (r 9), .ref (r 10), .ref (r 11), .ref (r 12), .ref (r 13), .int 1])), ((r 10), .inr (9, [.ref (r 26), .ref (r 27), .ref (r 28), .ref (r 29), .ref (r 30), .ref (r 31), .int 0, .int 0, .int 0, .int 0, .int 0])), ((r 26), .inr (3, [.ref (r 32), .ref (r 33), .ref (r 34), .ref (r 35), .ref (r 36), .ref (r 37), .ref (r 38), .ref (r 39), .ref (r 40), .int 0, .int 0]))] H := hP
            have hD : va_D A [(h0, .inr (11, [.ref (r 0), .ref (r 1), .ref (r 2), .ref (r 3), .ref (r 4), .ref (r 5), .ref (r 6), .ref (r 7), .ref (r 8), .ref (r 9), .ref (r 10), .ref (r 11), .ref (r 12), .ref (r 13), .int 1])), ((r 10), .inr (9, [.ref (r 26), .ref (r 27), .ref (r 28), .ref (r 29), .ref (r 30), .ref (r 31), .int 0, .int 0, .int 0, .int 0, .int 0])), ((r 26), .inr (3, [.ref (r 32), .ref (r 33), .ref (r 34), .ref (r 35), .ref (r 36), .ref (r 37), .ref (r 38), .ref (r 39), .ref (r 40), .int 0, .int 0]))] := hD
            refine lv_if_eq (tgt := 76) hx hb dX11_letter_61 (by decide) (fun _ => ?_) (fun c => absurd (by decide) c)
            refine lv_iconst (v := (-1)) hx hb dX11_letter_76 (by decide) ?_
            exact W.iret (v := (-1)) hx hb hr (fun t ht hW => ⟨⟨(-1), (), rfl, rfl, trivial⟩, hS.F ht⟩) hS.2.2 dX11_letter_77
        · refine lv_aload hx hb dX11_letter_29 (lv_at hl 0 rfl) ?_
          refine lv_iload_n hx hb dX11_letter_31 rfl (lv_at hl 3 rfl) ?_
          have hPc := hP.sub (ws' := [((r 26), .inr (3, [.ref (r 32), .ref (r 33), .ref (r 34), .ref (r 35), .ref (r 36), .ref (r 37), .ref (r 38), .ref (r 39), .ref (r 40), .int 0, .int 0]))]) [2] rfl
          have hDc := hD.sub (ws' := [((r 26), .inr (3, [.ref (r 32), .ref (r 33), .ref (r 34), .ref (r 35), .ref (r 36), .ref (r 37), .ref (r 38), .ref (r 39), .ref (r 40), .int 0, .int 0]))]) [2] (by decide) rfl
          have hFc := va_free (wc := [((r 26), .inr (3, [.ref (r 32), .ref (r 33), .ref (r 34), .ref (r 35), .ref (r 36), .ref (r 37), .ref (r 38), .ref (r 39), .ref (r 40), .int 0, .int 0]))]) hD hS hA [2] rfl
          refine va_calli (va_runV (As := [.int p1]) (rest := []) ⟨hx, hb, hml, hown, hts⟩ (c_X3_isKind l dC dI cI cJ h0 r p1 s.heap.size) (cwV 1 hts gX11_letter_X3_isKind rfl rfl rfl (by decide +kernel) ⟨Nat.le_of_ble_eq_true rfl, Nat.le_of_ble_eq_true rfl⟩) ⟨mBlind, va_recv hK hPc (ci := 3) (q0 := 0) rfl rfl, mGo hPc hK hDc hN⟩ rfl rfl hl.1 rfl (lv_room (Nat.le_of_ble_eq_true rfl)) dX11_letter_32 ⟨Nat.le_of_ble_eq_true rfl, Nat.le_of_ble_eq_true rfl⟩) hS (fun q _ h => hFc q h) hFc (fun r_7 u t H1 locs ht hvm hw hB hz1 hk1 hS => ?_)
          obtain ⟨hP1, hD1⟩ := hB
          obtain rfl : r_7 = 0 := hw
          rw [ht] at hP1
          obtain ⟨hP, hD⟩ := va_join (wr := [(h0, .inr (11, [.ref (r 0), .ref (r 1), .ref (r 2), .ref (r 3), .ref (r 4), .ref (r 5), .ref (r 6), .ref (r 7), .ref (r 8), .ref (r 9), .ref (r 10), .ref (r 11), .ref (r 12), .ref (r 13), .int 1])), ((r 10), .inr (9, [.ref (r 26), .ref (r 27), .ref (r 28), .ref (r 29), .ref (r 30), .ref (r 31), .int 0, .int 0, .int 0, .int 0, .int 0]))]) (w1 := [((r 26), .inr (3, [.ref (r 32), .ref (r 33), .ref (r 34), .ref (r 35), .ref (r 36), .ref (r 37), .ref (r 38), .ref (r 39), .ref (r 40), .int 0, .int 0]))]) hP hD [2] [0, 1] rfl rfl (by decide) (by decide) hk1 hFc hP1 hD1
          generalize H1 = H at hP hS ⊢
          have hP : va_P (dC, dI) vwCl [(h0, .inr (11, [.ref (r 0), .ref (r 1), .ref (r 2), .ref (r 3), .ref (r 4), .ref (r 5), .ref (r 6), .ref (r 7), .ref (r 8), .ref (r 9), .ref (r 10), .ref (r 11), .ref (r 12), .ref (r 13), .int 1])), ((r 10), .inr (9, [.ref (r 26), .ref (r 27), .ref (r 28), .ref (r 29), .ref (r 30), .ref (r 31), .int 0, .int 0, .int 0, .int 0, .int 0])), ((r 26), .inr (3, [.ref (r 32), .ref (r 33), .ref (r 34), .ref (r 35), .ref (r 36), .ref (r 37), .ref (r 38), .ref (r 39), .ref (r 40), .int 0, .int 0]))] H := hP
          have hD : va_D A [(h0, .inr (11, [.ref (r 0), .ref (r 1), .ref (r 2), .ref (r 3), .ref (r 4), .ref (r 5), .ref (r 6), .ref (r 7), .ref (r 8), .ref (r 9), .ref (r 10), .ref (r 11), .ref (r 12), .ref (r 13), .int 1])), ((r 10), .inr (9, [.ref (r 26), .ref (r 27), .ref (r 28), .ref (r 29), .ref (r 30), .ref (r 31), .int 0, .int 0, .int 0, .int 0, .int 0])), ((r 26), .inr (3, [.ref (r 32), .ref (r 33), .ref (r 34), .ref (r 35), .ref (r 36), .ref (r 37), .ref (r 38), .ref (r 39), .ref (r 40), .int 0, .int 0]))] := hD
          refine lv_if_eq (tgt := 50) hx hb dX11_letter_35 (by decide) (fun _ => ?_) (fun c => absurd (by decide) c)
          refine lv_iload_n hx hb dX11_letter_50 rfl (lv_at hl 2 rfl) ?_
          refine lv_iconst (v := 1) hx hb dX11_letter_51 (by decide) ?_
          refine lv_icmp_ne (tgt := 76) hx hb dX11_letter_52 (by decide) (fun _ => ?_) (fun c => absurd c (by have e1 : (1 : Int32).toInt = 1 := (by decide); have e0 : (0 : Int32).toInt = 0 := (by decide); rw [← Int32.toInt_inj] at c_4; rw [← Int32.toInt_inj]; omega))
          refine lv_iconst (v := (-1)) hx hb dX11_letter_76 (by decide) ?_
          exact W.iret (v := (-1)) hx hb hr (fun t ht hW => ⟨⟨(-1), (), rfl, rfl, trivial⟩, hS.F ht⟩) hS.2.2 dX11_letter_77
      · refine lv_iconst (v := (-1)) hx hb dX11_letter_23 (by decide) ?_
        exact W.iret (v := (-1)) hx hb hr (fun t ht hW => ⟨⟨(-1), (), rfl, rfl, trivial⟩, hS.F ht⟩) hS.2.2 dX11_letter_24
abbrev w0_c_X11_values (cI : ClassId) (h0 : Nat) (r : Nat → Nat) (p0 : Int32) : va_W := [(h0, .inr (11, [.ref (r 0), .ref (r 1), .ref (r 2), .ref (r 3), .ref (r 4), .ref (r 5), .ref (r 6), .ref (r 7), .ref (r 8), .ref (r 9), .ref (r 10), .ref (r 11), .ref (r 12), .ref (r 13), .int 1])), ((r 10), .inr (9, [.ref (r 26), .ref (r 27), .ref (r 28), .ref (r 29), .ref (r 30), .ref (r 31), .int 0, .int 0, .int 0, .int 0, .int 0]))]
set_option maxHeartbeats 4000000 in
set_option maxRecDepth 100000 in
theorem c_X11_values (l : Launch) (dC : Nat → ClassId) (dI : Nat → Nat → Nat) (cI cJ : ClassId) (h0 : Nat) (r : Nat → Nat) (p0 : Int32) (sz : Nat) : Met l yX11_values wsX11_values ({ frames := 2, cells := 0, slots := 0, locals := 80 }) (va_Pc [.ref h0, .int p0] (mPre dC dI cI cJ sz (w0_c_X11_values cI h0 r p0))) (va_Qi (fun (r : Int32) (u : Unit) => r = -1) (fun _ _ => True) (va_A (w0_c_X11_values cI h0 r p0) sz)) 0 0 (va_A (w0_c_X11_values cI h0 r p0) sz) := by
  refine Met.ofW (cc := cX11_values) (maxL := 2) (ret := (some .int)) (by decide) rfl ?_
  intro p e s m args below meth c s₁ B hml hv
  obtain ⟨rfl, hsz, hP, hK, hD0, hN⟩ := hv
  have hx := B.exec
  have hb := B.bytes
  have hr := B.returns
  have hts := atoms_spec (ws := wsX11_values) B.pre
  have hown : s.vm.findClass RX11 = some m.cls := findClass_of_methodNamed B.named
  have hlocks := B.notSynchronized
  have h_in_X11 : ∀ w ∈ wsX110, w ∈ wsX11_values := fun w h => List.mem_cons_of_mem _ (List.mem_append_left _ (List.mem_append_left _ (List.mem_append_right _ h)))
  have h_in_X9 : ∀ w ∈ wsX90, w ∈ wsX11_values := fun w h => List.mem_cons_of_mem _ (List.mem_append_left _ (List.mem_append_right _ h))
  have h_in_X3 : ∀ w ∈ wsX30, w ∈ wsX11_values := fun w h => List.mem_cons_of_mem _ (List.mem_append_right _ h)
  subst hsz
  have hD := hD0.self (sz := s.heap.size)
  generalize hAe : va_A (w0_c_X11_values cI h0 r p0) s.heap.size = A at hD ⊢
  have hA : ∀ q : Nat, s.heap.size ≤ q → A q := fun q h => by rw [← hAe]; exact Or.inr h
  have hS : va_S A s.heap s.heap [] := va_S.rf
  have hP : va_P (dC, dI) vwCl [(h0, .inr (11, [.ref (r 0), .ref (r 1), .ref (r 2), .ref (r 3), .ref (r 4), .ref (r 5), .ref (r 6), .ref (r 7), .ref (r 8), .ref (r 9), .ref (r 10), .ref (r 11), .ref (r 12), .ref (r 13), .int 1])), ((r 10), .inr (9, [.ref (r 26), .ref (r 27), .ref (r 28), .ref (r 29), .ref (r 30), .ref (r 31), .int 0, .int 0, .int 0, .int 0, .int 0]))] s.heap := hP
  have hD : va_D A [(h0, .inr (11, [.ref (r 0), .ref (r 1), .ref (r 2), .ref (r 3), .ref (r 4), .ref (r 5), .ref (r 6), .ref (r 7), .ref (r 8), .ref (r 9), .ref (r 10), .ref (r 11), .ref (r 12), .ref (r 13), .int 1])), ((r 10), .inr (9, [.ref (r 26), .ref (r 27), .ref (r 28), .ref (r 29), .ref (r 30), .ref (r 31), .int 0, .int 0, .int 0, .int 0, .int 0]))] := hD
  have hl := lv_entry ([.ref h0, .int p0]) (n := 2) (Nat.le_of_ble_eq_true rfl)
  rw [lg_entry_eq]
  generalize (lg_sl ([.ref h0, .int p0]) ++ List.replicate (2 - (lg_sl ([.ref h0, .int p0])).length) Slot.unset).toArray = ls at hl ⊢
  have hl : lv_has ls 2 [(0, .ref h0), (1, .int p0)] := hl
  refine lv_aload_n hx hb dX11_values_0 rfl (lv_at hl 0 rfl) ?_
  have hPc := hP.sub (ws' := [(h0, .inr (11, [.ref (r 0), .ref (r 1), .ref (r 2), .ref (r 3), .ref (r 4), .ref (r 5), .ref (r 6), .ref (r 7), .ref (r 8), .ref (r 9), .ref (r 10), .ref (r 11), .ref (r 12), .ref (r 13), .int 1])), ((r 10), .inr (9, [.ref (r 26), .ref (r 27), .ref (r 28), .ref (r 29), .ref (r 30), .ref (r 31), .int 0, .int 0, .int 0, .int 0, .int 0]))]) [0, 1] rfl
  have hDc := hD.sub (ws' := [(h0, .inr (11, [.ref (r 0), .ref (r 1), .ref (r 2), .ref (r 3), .ref (r 4), .ref (r 5), .ref (r 6), .ref (r 7), .ref (r 8), .ref (r 9), .ref (r 10), .ref (r 11), .ref (r 12), .ref (r 13), .int 1])), ((r 10), .inr (9, [.ref (r 26), .ref (r 27), .ref (r 28), .ref (r 29), .ref (r 30), .ref (r 31), .int 0, .int 0, .int 0, .int 0, .int 0]))]) [0, 1] (by decide) rfl
  have hFc := va_free (wc := [(h0, .inr (11, [.ref (r 0), .ref (r 1), .ref (r 2), .ref (r 3), .ref (r 4), .ref (r 5), .ref (r 6), .ref (r 7), .ref (r 8), .ref (r 9), .ref (r 10), .ref (r 11), .ref (r 12), .ref (r 13), .int 1])), ((r 10), .inr (9, [.ref (r 26), .ref (r 27), .ref (r 28), .ref (r 29), .ref (r 30), .ref (r 31), .int 0, .int 0, .int 0, .int 0, .int 0]))]) hD hS hA [0, 1] rfl
  refine va_calli (va_runV (As := []) (rest := []) ⟨hx, hb, hml, hown, hts⟩ (c_X11_matched l dC dI cI cJ h0 r s.heap.size) (cwV 0 hts gX11_values_X11_matched rfl rfl rfl (by decide +kernel) ⟨Nat.le_of_ble_eq_true rfl, Nat.le_of_ble_eq_true rfl⟩) ⟨mBlind, va_recv hK hPc (ci := 11) (q0 := 0) rfl rfl, mGo hPc hK hDc hN⟩ rfl rfl hl.1 rfl (lv_room (Nat.le_of_ble_eq_true rfl)) dX11_values_1 ⟨Nat.le_of_ble_eq_true rfl, Nat.le_of_ble_eq_true rfl⟩) hS (fun q _ h => hFc q h) hFc (fun r_1 u t H1 locs ht hvm hw hB hz1 hk1 hS => ?_)
  obtain ⟨hP1, hD1⟩ := hB
  obtain rfl : r_1 = 0 := hw
  rw [ht] at hP1
  obtain ⟨hP, hD⟩ := va_join (wr := []) (w1 := [(h0, .inr (11, [.ref (r 0), .ref (r 1), .ref (r 2), .ref (r 3), .ref (r 4), .ref (r 5), .ref (r 6), .ref (r 7), .ref (r 8), .ref (r 9), .ref (r 10), .ref (r 11), .ref (r 12), .ref (r 13), .int 1])), ((r 10), .inr (9, [.ref (r 26), .ref (r 27), .ref (r 28), .ref (r 29), .ref (r 30), .ref (r 31), .int 0, .int 0, .int 0, .int 0, .int 0]))]) hP hD [0, 1] [] rfl rfl (by decide) (by decide) hk1 hFc hP1 hD1
  generalize H1 = H at hP hS ⊢
  have hP : va_P (dC, dI) vwCl [(h0, .inr (11, [.ref (r 0), .ref (r 1), .ref (r 2), .ref (r 3), .ref (r 4), .ref (r 5), .ref (r 6), .ref (r 7), .ref (r 8), .ref (r 9), .ref (r 10), .ref (r 11), .ref (r 12), .ref (r 13), .int 1])), ((r 10), .inr (9, [.ref (r 26), .ref (r 27), .ref (r 28), .ref (r 29), .ref (r 30), .ref (r 31), .int 0, .int 0, .int 0, .int 0, .int 0]))] H := hP
  have hD : va_D A [(h0, .inr (11, [.ref (r 0), .ref (r 1), .ref (r 2), .ref (r 3), .ref (r 4), .ref (r 5), .ref (r 6), .ref (r 7), .ref (r 8), .ref (r 9), .ref (r 10), .ref (r 11), .ref (r 12), .ref (r 13), .int 1])), ((r 10), .inr (9, [.ref (r 26), .ref (r 27), .ref (r 28), .ref (r 29), .ref (r 30), .ref (r 31), .int 0, .int 0, .int 0, .int 0, .int 0]))] := hD
  refine lv_if_eq (tgt := 26) hx hb dX11_values_4 (by decide) (fun _ => ?_) (fun c => absurd (by decide) c)
  refine lv_iconst (v := (-1)) hx hb dX11_values_26 (by decide) ?_
  exact W.iret (v := (-1)) hx hb hr (fun t ht hW => ⟨⟨(-1), (), rfl, rfl, trivial⟩, hS.F ht⟩) hS.2.2 dX11_values_27
abbrev w0_c_X11_arm (cI : ClassId) (h0 : Nat) (r : Nat → Nat) (p0 p1 : Int32) : va_W := [(h0, .inr (11, [.ref (r 0), .ref (r 1), .ref (r 2), .ref (r 3), .ref (r 4), .ref (r 5), .ref (r 6), .ref (r 7), .ref (r 8), .ref (r 9), .ref (r 10), .ref (r 11), .ref (r 12), .ref (r 13), .int 1])), ((r 5), .inr (5, [.ref (r 16), .int 0, .int 0, .int 0]))]
set_option maxHeartbeats 4000000 in
set_option maxRecDepth 100000 in
theorem c_X11_arm (l : Launch) (dC : Nat → ClassId) (dI : Nat → Nat → Nat) (cI cJ : ClassId) (h0 : Nat) (r : Nat → Nat) (p0 p1 : Int32) (sz : Nat) : Met l yX11_arm wsX11_arm ({ frames := 3, cells := 0, slots := 0, locals := 102 }) (va_Pc [.ref h0, .int p0, .int p1] (mPre dC dI cI cJ sz (w0_c_X11_arm cI h0 r p0 p1))) (va_Qi (fun (r : Int32) (u : Unit) => r = -1) (fun _ _ => True) (va_A (w0_c_X11_arm cI h0 r p0 p1) sz)) 0 0 (va_A (w0_c_X11_arm cI h0 r p0 p1) sz) := by
  refine Met.ofW (cc := cX11_arm) (maxL := 4) (ret := (some .int)) (by decide) rfl ?_
  intro p e s m args below meth c s₁ B hml hv
  obtain ⟨rfl, hsz, hP, hK, hD0, hN⟩ := hv
  have hx := B.exec
  have hb := B.bytes
  have hr := B.returns
  have hts := atoms_spec (ws := wsX11_arm) B.pre
  have hown : s.vm.findClass RX11 = some m.cls := findClass_of_methodNamed B.named
  have hlocks := B.notSynchronized
  have h_in_X11 : ∀ w ∈ wsX110, w ∈ wsX11_arm := fun w h => List.mem_cons_of_mem _ (List.mem_append_left _ (List.mem_append_left _ (List.mem_append_left _ (List.mem_append_right _ h))))
  have h_in_X5 : ∀ w ∈ wsX50, w ∈ wsX11_arm := fun w h => List.mem_cons_of_mem _ (List.mem_append_left _ (List.mem_append_left _ (List.mem_append_right _ h)))
  have h_in_X9 : ∀ w ∈ wsX90, w ∈ wsX11_arm := fun w h => List.mem_cons_of_mem _ (List.mem_append_left _ (List.mem_append_right _ h))
  have h_in_X2 : ∀ w ∈ wsX20, w ∈ wsX11_arm := fun w h => List.mem_cons_of_mem _ (List.mem_append_right _ h)
  subst hsz
  have hD := hD0.self (sz := s.heap.size)
  generalize hAe : va_A (w0_c_X11_arm cI h0 r p0 p1) s.heap.size = A at hD ⊢
  have hA : ∀ q : Nat, s.heap.size ≤ q → A q := fun q h => by rw [← hAe]; exact Or.inr h
  have hS : va_S A s.heap s.heap [] := va_S.rf
  have hP : va_P (dC, dI) vwCl [(h0, .inr (11, [.ref (r 0), .ref (r 1), .ref (r 2), .ref (r 3), .ref (r 4), .ref (r 5), .ref (r 6), .ref (r 7), .ref (r 8), .ref (r 9), .ref (r 10), .ref (r 11), .ref (r 12), .ref (r 13), .int 1])), ((r 5), .inr (5, [.ref (r 16), .int 0, .int 0, .int 0]))] s.heap := hP
  have hD : va_D A [(h0, .inr (11, [.ref (r 0), .ref (r 1), .ref (r 2), .ref (r 3), .ref (r 4), .ref (r 5), .ref (r 6), .ref (r 7), .ref (r 8), .ref (r 9), .ref (r 10), .ref (r 11), .ref (r 12), .ref (r 13), .int 1])), ((r 5), .inr (5, [.ref (r 16), .int 0, .int 0, .int 0]))] := hD
  have hl := lv_entry ([.ref h0, .int p0, .int p1]) (n := 4) (Nat.le_of_ble_eq_true rfl)
  rw [lg_entry_eq]
  generalize (lg_sl ([.ref h0, .int p0, .int p1]) ++ List.replicate (4 - (lg_sl ([.ref h0, .int p0, .int p1])).length) Slot.unset).toArray = ls at hl ⊢
  have hl : lv_has ls 4 [(0, .ref h0), (1, .int p0), (2, .int p1)] := hl
  refine lv_aload_n hx hb dX11_arm_0 rfl (lv_at hl 0 rfl) ?_
  refine va_get (D := (dC, dI)) (ci := 11) (v := .ref (r 5)) (C := RX11) (T := TX11) (N := 15) hx hb hts h_in_X11 hown hK hP 0 rfl rfl 5 (by decide) (hts (.fieldLink RX11 43 "MatchTrees" "order" "LMatchTrees$Order;") (by decide +kernel)) (fun _ h9 => h9) rfl dX11_arm_1 ?_
  refine lv_iload_n hx hb dX11_arm_4 rfl (lv_at hl 1 rfl) ?_
  have hPc := hP.sub (ws' := [((r 5), .inr (5, [.ref (r 16), .int 0, .int 0, .int 0]))]) [1] rfl
  have hDc := hD.sub (ws' := [((r 5), .inr (5, [.ref (r 16), .int 0, .int 0, .int 0]))]) [1] (by decide) rfl
  have hFc := va_free (wc := [((r 5), .inr (5, [.ref (r 16), .int 0, .int 0, .int 0]))]) hD hS hA [1] rfl
  refine va_calli (va_runV (As := [.int p0]) (rest := []) ⟨hx, hb, hml, hown, hts⟩ (c_X5_armAt l dC dI cI cJ h0 r p0 s.heap.size) (cwV 1 hts gX11_arm_X5_armAt rfl rfl rfl (by decide +kernel) ⟨Nat.le_of_ble_eq_true rfl, Nat.le_of_ble_eq_true rfl⟩) ⟨mBlind, va_recv hK hPc (ci := 5) (q0 := 0) rfl rfl, mGo hPc hK hDc hN⟩ rfl rfl hl.1 rfl (lv_room (Nat.le_of_ble_eq_true rfl)) dX11_arm_5 ⟨Nat.le_of_ble_eq_true rfl, Nat.le_of_ble_eq_true rfl⟩) hS (fun q _ h => hFc q h) hFc (fun r_1 u t H1 locs ht hvm hw hB hz1 hk1 hS => ?_)
  obtain ⟨hP1, hD1⟩ := hB
  obtain rfl : r_1 = (-1) := hw
  rw [ht] at hP1
  obtain ⟨hP, hD⟩ := va_join (wr := [(h0, .inr (11, [.ref (r 0), .ref (r 1), .ref (r 2), .ref (r 3), .ref (r 4), .ref (r 5), .ref (r 6), .ref (r 7), .ref (r 8), .ref (r 9), .ref (r 10), .ref (r 11), .ref (r 12), .ref (r 13), .int 1]))]) (w1 := [((r 5), .inr (5, [.ref (r 16), .int 0, .int 0, .int 0]))]) hP hD [1] [0] rfl rfl (by decide) (by decide) hk1 hFc hP1 hD1
  generalize H1 = H at hP hS ⊢
  have hP : va_P (dC, dI) vwCl [(h0, .inr (11, [.ref (r 0), .ref (r 1), .ref (r 2), .ref (r 3), .ref (r 4), .ref (r 5), .ref (r 6), .ref (r 7), .ref (r 8), .ref (r 9), .ref (r 10), .ref (r 11), .ref (r 12), .ref (r 13), .int 1])), ((r 5), .inr (5, [.ref (r 16), .int 0, .int 0, .int 0]))] H := hP
  have hD : va_D A [(h0, .inr (11, [.ref (r 0), .ref (r 1), .ref (r 2), .ref (r 3), .ref (r 4), .ref (r 5), .ref (r 6), .ref (r 7), .ref (r 8), .ref (r 9), .ref (r 10), .ref (r 11), .ref (r 12), .ref (r 13), .int 1])), ((r 5), .inr (5, [.ref (r 16), .int 0, .int 0, .int 0]))] := hD
  refine lv_istore_n (lv' := [(3, .int (-1)), (0, .ref h0), (1, .int p0), (2, .int p1)]) hx hb dX11_arm_8 rfl hl (by decide) rfl (fun ls hl => ?_)
  refine lv_iload_n hx hb dX11_arm_9 rfl (lv_at hl 0 rfl) ?_
  refine lv_iconst (v := (-1)) hx hb dX11_arm_10 (by decide) ?_
  refine lv_icmp_ne (tgt := 16) hx hb dX11_arm_11 (by decide) (fun c => absurd c (by decide)) (fun _ => ?_)
  refine lv_iconst (v := (-1)) hx hb dX11_arm_14 (by decide) ?_
  exact W.iret (v := (-1)) hx hb hr (fun t ht hW => ⟨⟨(-1), (), rfl, rfl, trivial⟩, hS.F ht⟩) hS.2.2 dX11_arm_15
abbrev w0_c_X11_fits (cI : ClassId) (h0 : Nat) (r : Nat → Nat) (p0 p1 p2 : Int32) : va_W := [(h0, .inr (11, [.ref (r 0), .ref (r 1), .ref (r 2), .ref (r 3), .ref (r 4), .ref (r 5), .ref (r 6), .ref (r 7), .ref (r 8), .ref (r 9), .ref (r 10), .ref (r 11), .ref (r 12), .ref (r 13), .int 1])), ((r 5), .inr (5, [.ref (r 16), .int 0, .int 0, .int 0]))]
set_option maxHeartbeats 4000000 in
set_option maxRecDepth 100000 in
theorem c_X11_fits (l : Launch) (dC : Nat → ClassId) (dI : Nat → Nat → Nat) (cI cJ : ClassId) (h0 : Nat) (r : Nat → Nat) (p0 p1 p2 : Int32) (sz : Nat) : Met l yX11_fits wsX11_fits ({ frames := 3, cells := 0, slots := 0, locals := 102 }) (va_Pc [.ref h0, .int p0, .int p1, .int p2] (mPre dC dI cI cJ sz (w0_c_X11_fits cI h0 r p0 p1 p2))) (va_Qi (fun (r : Int32) (u : Unit) => r = -1) (fun _ _ => True) (va_A (w0_c_X11_fits cI h0 r p0 p1 p2) sz)) 0 0 (va_A (w0_c_X11_fits cI h0 r p0 p1 p2) sz) := by
  refine Met.ofW (cc := cX11_fits) (maxL := 5) (ret := (some .int)) (by decide) rfl ?_
  intro p e s m args below meth c s₁ B hml hv
  obtain ⟨rfl, hsz, hP, hK, hD0, hN⟩ := hv
  have hx := B.exec
  have hb := B.bytes
  have hr := B.returns
  have hts := atoms_spec (ws := wsX11_fits) B.pre
  have hown : s.vm.findClass RX11 = some m.cls := findClass_of_methodNamed B.named
  have hlocks := B.notSynchronized
  have h_in_X11 : ∀ w ∈ wsX110, w ∈ wsX11_fits := fun w h => List.mem_cons_of_mem _ (List.mem_append_left _ (List.mem_append_left _ (List.mem_append_right _ h)))
  have h_in_X9 : ∀ w ∈ wsX90, w ∈ wsX11_fits := fun w h => List.mem_cons_of_mem _ (List.mem_append_left _ (List.mem_append_right _ h))
  have h_in_X5 : ∀ w ∈ wsX50, w ∈ wsX11_fits := fun w h => List.mem_cons_of_mem _ (List.mem_append_right _ h)
  subst hsz
  have hD := hD0.self (sz := s.heap.size)
  generalize hAe : va_A (w0_c_X11_fits cI h0 r p0 p1 p2) s.heap.size = A at hD ⊢
  have hA : ∀ q : Nat, s.heap.size ≤ q → A q := fun q h => by rw [← hAe]; exact Or.inr h
  have hS : va_S A s.heap s.heap [] := va_S.rf
  have hP : va_P (dC, dI) vwCl [(h0, .inr (11, [.ref (r 0), .ref (r 1), .ref (r 2), .ref (r 3), .ref (r 4), .ref (r 5), .ref (r 6), .ref (r 7), .ref (r 8), .ref (r 9), .ref (r 10), .ref (r 11), .ref (r 12), .ref (r 13), .int 1])), ((r 5), .inr (5, [.ref (r 16), .int 0, .int 0, .int 0]))] s.heap := hP
  have hD : va_D A [(h0, .inr (11, [.ref (r 0), .ref (r 1), .ref (r 2), .ref (r 3), .ref (r 4), .ref (r 5), .ref (r 6), .ref (r 7), .ref (r 8), .ref (r 9), .ref (r 10), .ref (r 11), .ref (r 12), .ref (r 13), .int 1])), ((r 5), .inr (5, [.ref (r 16), .int 0, .int 0, .int 0]))] := hD
  have hl := lv_entry ([.ref h0, .int p0, .int p1, .int p2]) (n := 5) (Nat.le_of_ble_eq_true rfl)
  rw [lg_entry_eq]
  generalize (lg_sl ([.ref h0, .int p0, .int p1, .int p2]) ++ List.replicate (5 - (lg_sl ([.ref h0, .int p0, .int p1, .int p2])).length) Slot.unset).toArray = ls at hl ⊢
  have hl : lv_has ls 5 [(0, .ref h0), (1, .int p0), (2, .int p1), (3, .int p2)] := hl
  refine lv_aload_n hx hb dX11_fits_0 rfl (lv_at hl 0 rfl) ?_
  refine va_get (D := (dC, dI)) (ci := 11) (v := .ref (r 5)) (C := RX11) (T := TX11) (N := 15) hx hb hts h_in_X11 hown hK hP 0 rfl rfl 5 (by decide) (hts (.fieldLink RX11 43 "MatchTrees" "order" "LMatchTrees$Order;") (by decide +kernel)) (fun _ h9 => h9) rfl dX11_fits_1 ?_
  refine lv_iload_n hx hb dX11_fits_4 rfl (lv_at hl 1 rfl) ?_
  have hPc := hP.sub (ws' := [((r 5), .inr (5, [.ref (r 16), .int 0, .int 0, .int 0]))]) [1] rfl
  have hDc := hD.sub (ws' := [((r 5), .inr (5, [.ref (r 16), .int 0, .int 0, .int 0]))]) [1] (by decide) rfl
  have hFc := va_free (wc := [((r 5), .inr (5, [.ref (r 16), .int 0, .int 0, .int 0]))]) hD hS hA [1] rfl
  refine va_calli (va_runV (As := [.int p0]) (rest := []) ⟨hx, hb, hml, hown, hts⟩ (c_X5_armAt l dC dI cI cJ h0 r p0 s.heap.size) (cwV 1 hts gX11_fits_X5_armAt rfl rfl rfl (by decide +kernel) ⟨Nat.le_of_ble_eq_true rfl, Nat.le_of_ble_eq_true rfl⟩) ⟨mBlind, va_recv hK hPc (ci := 5) (q0 := 0) rfl rfl, mGo hPc hK hDc hN⟩ rfl rfl hl.1 rfl (lv_room (Nat.le_of_ble_eq_true rfl)) dX11_fits_5 ⟨Nat.le_of_ble_eq_true rfl, Nat.le_of_ble_eq_true rfl⟩) hS (fun q _ h => hFc q h) hFc (fun r_1 u t H1 locs ht hvm hw hB hz1 hk1 hS => ?_)
  obtain ⟨hP1, hD1⟩ := hB
  obtain rfl : r_1 = (-1) := hw
  rw [ht] at hP1
  obtain ⟨hP, hD⟩ := va_join (wr := [(h0, .inr (11, [.ref (r 0), .ref (r 1), .ref (r 2), .ref (r 3), .ref (r 4), .ref (r 5), .ref (r 6), .ref (r 7), .ref (r 8), .ref (r 9), .ref (r 10), .ref (r 11), .ref (r 12), .ref (r 13), .int 1]))]) (w1 := [((r 5), .inr (5, [.ref (r 16), .int 0, .int 0, .int 0]))]) hP hD [1] [0] rfl rfl (by decide) (by decide) hk1 hFc hP1 hD1
  generalize H1 = H at hP hS ⊢
  have hP : va_P (dC, dI) vwCl [(h0, .inr (11, [.ref (r 0), .ref (r 1), .ref (r 2), .ref (r 3), .ref (r 4), .ref (r 5), .ref (r 6), .ref (r 7), .ref (r 8), .ref (r 9), .ref (r 10), .ref (r 11), .ref (r 12), .ref (r 13), .int 1])), ((r 5), .inr (5, [.ref (r 16), .int 0, .int 0, .int 0]))] H := hP
  have hD : va_D A [(h0, .inr (11, [.ref (r 0), .ref (r 1), .ref (r 2), .ref (r 3), .ref (r 4), .ref (r 5), .ref (r 6), .ref (r 7), .ref (r 8), .ref (r 9), .ref (r 10), .ref (r 11), .ref (r 12), .ref (r 13), .int 1])), ((r 5), .inr (5, [.ref (r 16), .int 0, .int 0, .int 0]))] := hD
  refine lv_istore (lv' := [(4, .int (-1)), (0, .ref h0), (1, .int p0), (2, .int p1), (3, .int p2)]) hx hb dX11_fits_8 hl (by decide) rfl (fun ls hl => ?_)
  refine lv_iload hx hb dX11_fits_10 (lv_at hl 0 rfl) ?_
  refine lv_iconst (v := (-1)) hx hb dX11_fits_12 (by decide) ?_
  refine lv_icmp_eq (tgt := 31) hx hb dX11_fits_13 (by decide) (fun _ => ?_) (fun c => absurd (by decide) c)
  refine lv_iconst (v := (-1)) hx hb dX11_fits_31 (by decide) ?_
  exact W.iret (v := (-1)) hx hb hr (fun t ht hW => ⟨⟨(-1), (), rfl, rfl, trivial⟩, hS.F ht⟩) hS.2.2 dX11_fits_32
abbrev w0_c_X11_holds (cI : ClassId) (h0 : Nat) (r : Nat → Nat) (p0 p1 : Int32) : va_W := [(h0, .inr (11, [.ref (r 0), .ref (r 1), .ref (r 2), .ref (r 3), .ref (r 4), .ref (r 5), .ref (r 6), .ref (r 7), .ref (r 8), .ref (r 9), .ref (r 10), .ref (r 11), .ref (r 12), .ref (r 13), .int 1])), ((r 5), .inr (5, [.ref (r 16), .int 0, .int 0, .int 0]))]
set_option maxHeartbeats 4000000 in
set_option maxRecDepth 100000 in
theorem c_X11_holds (l : Launch) (dC : Nat → ClassId) (dI : Nat → Nat → Nat) (cI cJ : ClassId) (h0 : Nat) (r : Nat → Nat) (p0 p1 : Int32) (sz : Nat) : Met l yX11_holds wsX11_holds ({ frames := 3, cells := 0, slots := 0, locals := 102 }) (va_Pc [.ref h0, .int p0, .int p1] (mPre dC dI cI cJ sz (w0_c_X11_holds cI h0 r p0 p1))) (va_Qi (fun (r : Int32) (u : Unit) => r = -1) (fun _ _ => True) (va_A (w0_c_X11_holds cI h0 r p0 p1) sz)) 0 0 (va_A (w0_c_X11_holds cI h0 r p0 p1) sz) := by
  refine Met.ofW (cc := cX11_holds) (maxL := 7) (ret := (some .int)) (by decide) rfl ?_
  intro p e s m args below meth c s₁ B hml hv
  obtain ⟨rfl, hsz, hP, hK, hD0, hN⟩ := hv
  have hx := B.exec
  have hb := B.bytes
  have hr := B.returns
  have hts := atoms_spec (ws := wsX11_holds) B.pre
  have hown : s.vm.findClass RX11 = some m.cls := findClass_of_methodNamed B.named
  have hlocks := B.notSynchronized
  have h_in_X11 : ∀ w ∈ wsX110, w ∈ wsX11_holds := fun w h => List.mem_cons_of_mem _ (List.mem_append_left _ (List.mem_append_left _ (List.mem_append_right _ h)))
  have h_in_X2 : ∀ w ∈ wsX20, w ∈ wsX11_holds := fun w h => List.mem_cons_of_mem _ (List.mem_append_left _ (List.mem_append_right _ h))
  have h_in_X5 : ∀ w ∈ wsX50, w ∈ wsX11_holds := fun w h => List.mem_cons_of_mem _ (List.mem_append_right _ h)
  subst hsz
  have hD := hD0.self (sz := s.heap.size)
  generalize hAe : va_A (w0_c_X11_holds cI h0 r p0 p1) s.heap.size = A at hD ⊢
  have hA : ∀ q : Nat, s.heap.size ≤ q → A q := fun q h => by rw [← hAe]; exact Or.inr h
  have hS : va_S A s.heap s.heap [] := va_S.rf
  have hP : va_P (dC, dI) vwCl [(h0, .inr (11, [.ref (r 0), .ref (r 1), .ref (r 2), .ref (r 3), .ref (r 4), .ref (r 5), .ref (r 6), .ref (r 7), .ref (r 8), .ref (r 9), .ref (r 10), .ref (r 11), .ref (r 12), .ref (r 13), .int 1])), ((r 5), .inr (5, [.ref (r 16), .int 0, .int 0, .int 0]))] s.heap := hP
  have hD : va_D A [(h0, .inr (11, [.ref (r 0), .ref (r 1), .ref (r 2), .ref (r 3), .ref (r 4), .ref (r 5), .ref (r 6), .ref (r 7), .ref (r 8), .ref (r 9), .ref (r 10), .ref (r 11), .ref (r 12), .ref (r 13), .int 1])), ((r 5), .inr (5, [.ref (r 16), .int 0, .int 0, .int 0]))] := hD
  have hl := lv_entry ([.ref h0, .int p0, .int p1]) (n := 7) (Nat.le_of_ble_eq_true rfl)
  rw [lg_entry_eq]
  generalize (lg_sl ([.ref h0, .int p0, .int p1]) ++ List.replicate (7 - (lg_sl ([.ref h0, .int p0, .int p1])).length) Slot.unset).toArray = ls at hl ⊢
  have hl : lv_has ls 7 [(0, .ref h0), (1, .int p0), (2, .int p1)] := hl
  refine lv_aload_n hx hb dX11_holds_0 rfl (lv_at hl 0 rfl) ?_
  refine va_get (D := (dC, dI)) (ci := 11) (v := .ref (r 5)) (C := RX11) (T := TX11) (N := 15) hx hb hts h_in_X11 hown hK hP 0 rfl rfl 5 (by decide) (hts (.fieldLink RX11 43 "MatchTrees" "order" "LMatchTrees$Order;") (by decide +kernel)) (fun _ h9 => h9) rfl dX11_holds_1 ?_
  refine lv_iload_n hx hb dX11_holds_4 rfl (lv_at hl 1 rfl) ?_
  have hPc := hP.sub (ws' := [((r 5), .inr (5, [.ref (r 16), .int 0, .int 0, .int 0]))]) [1] rfl
  have hDc := hD.sub (ws' := [((r 5), .inr (5, [.ref (r 16), .int 0, .int 0, .int 0]))]) [1] (by decide) rfl
  have hFc := va_free (wc := [((r 5), .inr (5, [.ref (r 16), .int 0, .int 0, .int 0]))]) hD hS hA [1] rfl
  refine va_calli (va_runV (As := [.int p0]) (rest := []) ⟨hx, hb, hml, hown, hts⟩ (c_X5_armAt l dC dI cI cJ h0 r p0 s.heap.size) (cwV 1 hts gX11_holds_X5_armAt rfl rfl rfl (by decide +kernel) ⟨Nat.le_of_ble_eq_true rfl, Nat.le_of_ble_eq_true rfl⟩) ⟨mBlind, va_recv hK hPc (ci := 5) (q0 := 0) rfl rfl, mGo hPc hK hDc hN⟩ rfl rfl hl.1 rfl (lv_room (Nat.le_of_ble_eq_true rfl)) dX11_holds_5 ⟨Nat.le_of_ble_eq_true rfl, Nat.le_of_ble_eq_true rfl⟩) hS (fun q _ h => hFc q h) hFc (fun r_1 u t H1 locs ht hvm hw hB hz1 hk1 hS => ?_)
  obtain ⟨hP1, hD1⟩ := hB
  obtain rfl : r_1 = (-1) := hw
  rw [ht] at hP1
  obtain ⟨hP, hD⟩ := va_join (wr := [(h0, .inr (11, [.ref (r 0), .ref (r 1), .ref (r 2), .ref (r 3), .ref (r 4), .ref (r 5), .ref (r 6), .ref (r 7), .ref (r 8), .ref (r 9), .ref (r 10), .ref (r 11), .ref (r 12), .ref (r 13), .int 1]))]) (w1 := [((r 5), .inr (5, [.ref (r 16), .int 0, .int 0, .int 0]))]) hP hD [1] [0] rfl rfl (by decide) (by decide) hk1 hFc hP1 hD1
  generalize H1 = H at hP hS ⊢
  have hP : va_P (dC, dI) vwCl [(h0, .inr (11, [.ref (r 0), .ref (r 1), .ref (r 2), .ref (r 3), .ref (r 4), .ref (r 5), .ref (r 6), .ref (r 7), .ref (r 8), .ref (r 9), .ref (r 10), .ref (r 11), .ref (r 12), .ref (r 13), .int 1])), ((r 5), .inr (5, [.ref (r 16), .int 0, .int 0, .int 0]))] H := hP
  have hD : va_D A [(h0, .inr (11, [.ref (r 0), .ref (r 1), .ref (r 2), .ref (r 3), .ref (r 4), .ref (r 5), .ref (r 6), .ref (r 7), .ref (r 8), .ref (r 9), .ref (r 10), .ref (r 11), .ref (r 12), .ref (r 13), .int 1])), ((r 5), .inr (5, [.ref (r 16), .int 0, .int 0, .int 0]))] := hD
  refine lv_istore_n (lv' := [(3, .int (-1)), (0, .ref h0), (1, .int p0), (2, .int p1)]) hx hb dX11_holds_8 rfl hl (by decide) rfl (fun ls hl => ?_)
  refine lv_aload_n hx hb dX11_holds_9 rfl (lv_at hl 1 rfl) ?_
  refine va_get (D := (dC, dI)) (ci := 11) (v := .ref (r 5)) (C := RX11) (T := TX11) (N := 15) hx hb hts h_in_X11 hown hK hP 0 rfl rfl 5 (by decide) (hts (.fieldLink RX11 43 "MatchTrees" "order" "LMatchTrees$Order;") (by decide +kernel)) (fun _ h9 => h9) rfl dX11_holds_10 ?_
  refine lv_iload_n hx hb dX11_holds_13 rfl (lv_at hl 3 rfl) ?_
  have hPc := hP.sub (ws' := [((r 5), .inr (5, [.ref (r 16), .int 0, .int 0, .int 0]))]) [1] rfl
  have hDc := hD.sub (ws' := [((r 5), .inr (5, [.ref (r 16), .int 0, .int 0, .int 0]))]) [1] (by decide) rfl
  have hFc := va_free (wc := [((r 5), .inr (5, [.ref (r 16), .int 0, .int 0, .int 0]))]) hD hS hA [1] rfl
  refine va_calli (va_runV (As := [.int p1]) (rest := []) ⟨hx, hb, hml, hown, hts⟩ (c_X5_armAt l dC dI cI cJ h0 r p1 H.size) (cwV 1 hts gX11_holds_X5_armAt rfl rfl rfl (by decide +kernel) ⟨Nat.le_of_ble_eq_true rfl, Nat.le_of_ble_eq_true rfl⟩) ⟨mBlind, va_recv hK hPc (ci := 5) (q0 := 0) rfl rfl, mGo hPc hK hDc hN⟩ rfl rfl hl.1 rfl (lv_room (Nat.le_of_ble_eq_true rfl)) dX11_holds_14 ⟨Nat.le_of_ble_eq_true rfl, Nat.le_of_ble_eq_true rfl⟩) hS (fun q _ h => hFc q h) hFc (fun r_2 u t H1 locs ht hvm hw hB hz1 hk1 hS => ?_)
  obtain ⟨hP1, hD1⟩ := hB
  obtain rfl : r_2 = (-1) := hw
  rw [ht] at hP1
  obtain ⟨hP, hD⟩ := va_join (wr := [(h0, .inr (11, [.ref (r 0), .ref (r 1), .ref (r 2), .ref (r 3), .ref (r 4), .ref (r 5), .ref (r 6), .ref (r 7), .ref (r 8), .ref (r 9), .ref (r 10), .ref (r 11), .ref (r 12), .ref (r 13), .int 1]))]) (w1 := [((r 5), .inr (5, [.ref (r 16), .int 0, .int 0, .int 0]))]) hP hD [1] [0] rfl rfl (by decide) (by decide) hk1 hFc hP1 hD1
  generalize H1 = H at hP hS ⊢
  have hP : va_P (dC, dI) vwCl [(h0, .inr (11, [.ref (r 0), .ref (r 1), .ref (r 2), .ref (r 3), .ref (r 4), .ref (r 5), .ref (r 6), .ref (r 7), .ref (r 8), .ref (r 9), .ref (r 10), .ref (r 11), .ref (r 12), .ref (r 13), .int 1])), ((r 5), .inr (5, [.ref (r 16), .int 0, .int 0, .int 0]))] H := hP
  have hD : va_D A [(h0, .inr (11, [.ref (r 0), .ref (r 1), .ref (r 2), .ref (r 3), .ref (r 4), .ref (r 5), .ref (r 6), .ref (r 7), .ref (r 8), .ref (r 9), .ref (r 10), .ref (r 11), .ref (r 12), .ref (r 13), .int 1])), ((r 5), .inr (5, [.ref (r 16), .int 0, .int 0, .int 0]))] := hD
  refine lv_istore (lv' := [(4, .int (-1)), (3, .int (-1)), (0, .ref h0), (1, .int p0), (2, .int p1)]) hx hb dX11_holds_17 hl (by decide) rfl (fun ls hl => ?_)
  refine lv_iload_n hx hb dX11_holds_19 rfl (lv_at hl 1 rfl) ?_
  refine lv_iconst (v := (-1)) hx hb dX11_holds_20 (by decide) ?_
  refine lv_icmp_eq (tgt := 30) hx hb dX11_holds_21 (by decide) (fun _ => ?_) (fun c => absurd (by decide) c)
  refine lv_iconst (v := (-1)) hx hb dX11_holds_30 (by decide) ?_
  exact W.iret (v := (-1)) hx hb hr (fun t ht hW => ⟨⟨(-1), (), rfl, rfl, trivial⟩, hS.F ht⟩) hS.2.2 dX11_holds_31
abbrev w0_c_X11_missing (cI : ClassId) (h0 : Nat) (r : Nat → Nat) (p0 : Int32) : va_W := [(h0, .inr (11, [.ref (r 0), .ref (r 1), .ref (r 2), .ref (r 3), .ref (r 4), .ref (r 5), .ref (r 6), .ref (r 7), .ref (r 8), .ref (r 9), .ref (r 10), .ref (r 11), .ref (r 12), .ref (r 13), .int 1])), ((r 10), .inr (9, [.ref (r 26), .ref (r 27), .ref (r 28), .ref (r 29), .ref (r 30), .ref (r 31), .int 0, .int 0, .int 0, .int 0, .int 0]))]
set_option maxHeartbeats 4000000 in
set_option maxRecDepth 100000 in
theorem c_X11_missing (l : Launch) (dC : Nat → ClassId) (dI : Nat → Nat → Nat) (cI cJ : ClassId) (h0 : Nat) (r : Nat → Nat) (p0 : Int32) (sz : Nat) : Met l yX11_missing wsX11_missing ({ frames := 2, cells := 0, slots := 0, locals := 80 }) (va_Pc [.ref h0, .int p0] (mPre dC dI cI cJ sz (w0_c_X11_missing cI h0 r p0))) (va_Qi (fun (r : Int32) (u : Unit) => r = -1) (fun _ _ => True) (va_A (w0_c_X11_missing cI h0 r p0) sz)) 0 0 (va_A (w0_c_X11_missing cI h0 r p0) sz) := by
  refine Met.ofW (cc := cX11_missing) (maxL := 3) (ret := (some .int)) (by decide) rfl ?_
  intro p e s m args below meth c s₁ B hml hv
  obtain ⟨rfl, hsz, hP, hK, hD0, hN⟩ := hv
  have hx := B.exec
  have hb := B.bytes
  have hr := B.returns
  have hts := atoms_spec (ws := wsX11_missing) B.pre
  have hown : s.vm.findClass RX11 = some m.cls := findClass_of_methodNamed B.named
  have hlocks := B.notSynchronized
  have h_in_X11 : ∀ w ∈ wsX110, w ∈ wsX11_missing := fun w h => List.mem_cons_of_mem _ (List.mem_append_left _ (List.mem_append_left _ (List.mem_append_left _ (List.mem_append_right _ h))))
  have h_in_X5 : ∀ w ∈ wsX50, w ∈ wsX11_missing := fun w h => List.mem_cons_of_mem _ (List.mem_append_left _ (List.mem_append_left _ (List.mem_append_right _ h)))
  have h_in_X9 : ∀ w ∈ wsX90, w ∈ wsX11_missing := fun w h => List.mem_cons_of_mem _ (List.mem_append_left _ (List.mem_append_right _ h))
  have h_in_X2 : ∀ w ∈ wsX20, w ∈ wsX11_missing := fun w h => List.mem_cons_of_mem _ (List.mem_append_right _ h)
  subst hsz
  have hD := hD0.self (sz := s.heap.size)
  generalize hAe : va_A (w0_c_X11_missing cI h0 r p0) s.heap.size = A at hD ⊢
  have hA : ∀ q : Nat, s.heap.size ≤ q → A q := fun q h => by rw [← hAe]; exact Or.inr h
  have hS : va_S A s.heap s.heap [] := va_S.rf
  have hP : va_P (dC, dI) vwCl [(h0, .inr (11, [.ref (r 0), .ref (r 1), .ref (r 2), .ref (r 3), .ref (r 4), .ref (r 5), .ref (r 6), .ref (r 7), .ref (r 8), .ref (r 9), .ref (r 10), .ref (r 11), .ref (r 12), .ref (r 13), .int 1])), ((r 10), .inr (9, [.ref (r 26), .ref (r 27), .ref (r 28), .ref (r 29), .ref (r 30), .ref (r 31), .int 0, .int 0, .int 0, .int 0, .int 0]))] s.heap := hP
  have hD : va_D A [(h0, .inr (11, [.ref (r 0), .ref (r 1), .ref (r 2), .ref (r 3), .ref (r 4), .ref (r 5), .ref (r 6), .ref (r 7), .ref (r 8), .ref (r 9), .ref (r 10), .ref (r 11), .ref (r 12), .ref (r 13), .int 1])), ((r 10), .inr (9, [.ref (r 26), .ref (r 27), .ref (r 28), .ref (r 29), .ref (r 30), .ref (r 31), .int 0, .int 0, .int 0, .int 0, .int 0]))] := hD
  have hl := lv_entry ([.ref h0, .int p0]) (n := 3) (Nat.le_of_ble_eq_true rfl)
  rw [lg_entry_eq]
  generalize (lg_sl ([.ref h0, .int p0]) ++ List.replicate (3 - (lg_sl ([.ref h0, .int p0])).length) Slot.unset).toArray = ls at hl ⊢
  have hl : lv_has ls 3 [(0, .ref h0), (1, .int p0)] := hl
  refine lv_aload_n hx hb dX11_missing_0 rfl (lv_at hl 0 rfl) ?_
  have hPc := hP.sub (ws' := [(h0, .inr (11, [.ref (r 0), .ref (r 1), .ref (r 2), .ref (r 3), .ref (r 4), .ref (r 5), .ref (r 6), .ref (r 7), .ref (r 8), .ref (r 9), .ref (r 10), .ref (r 11), .ref (r 12), .ref (r 13), .int 1])), ((r 10), .inr (9, [.ref (r 26), .ref (r 27), .ref (r 28), .ref (r 29), .ref (r 30), .ref (r 31), .int 0, .int 0, .int 0, .int 0, .int 0]))]) [0, 1] rfl
  have hDc := hD.sub (ws' := [(h0, .inr (11, [.ref (r 0), .ref (r 1), .ref (r 2), .ref (r 3), .ref (r 4), .ref (r 5), .ref (r 6), .ref (r 7), .ref (r 8), .ref (r 9), .ref (r 10), .ref (r 11), .ref (r 12), .ref (r 13), .int 1])), ((r 10), .inr (9, [.ref (r 26), .ref (r 27), .ref (r 28), .ref (r 29), .ref (r 30), .ref (r 31), .int 0, .int 0, .int 0, .int 0, .int 0]))]) [0, 1] (by decide) rfl
  have hFc := va_free (wc := [(h0, .inr (11, [.ref (r 0), .ref (r 1), .ref (r 2), .ref (r 3), .ref (r 4), .ref (r 5), .ref (r 6), .ref (r 7), .ref (r 8), .ref (r 9), .ref (r 10), .ref (r 11), .ref (r 12), .ref (r 13), .int 1])), ((r 10), .inr (9, [.ref (r 26), .ref (r 27), .ref (r 28), .ref (r 29), .ref (r 30), .ref (r 31), .int 0, .int 0, .int 0, .int 0, .int 0]))]) hD hS hA [0, 1] rfl
  refine va_calli (va_runV (As := []) (rest := []) ⟨hx, hb, hml, hown, hts⟩ (c_X11_matched l dC dI cI cJ h0 r s.heap.size) (cwV 0 hts gX11_missing_X11_matched rfl rfl rfl (by decide +kernel) ⟨Nat.le_of_ble_eq_true rfl, Nat.le_of_ble_eq_true rfl⟩) ⟨mBlind, va_recv hK hPc (ci := 11) (q0 := 0) rfl rfl, mGo hPc hK hDc hN⟩ rfl rfl hl.1 rfl (lv_room (Nat.le_of_ble_eq_true rfl)) dX11_missing_1 ⟨Nat.le_of_ble_eq_true rfl, Nat.le_of_ble_eq_true rfl⟩) hS (fun q _ h => hFc q h) hFc (fun r_1 u t H1 locs ht hvm hw hB hz1 hk1 hS => ?_)
  obtain ⟨hP1, hD1⟩ := hB
  obtain rfl : r_1 = 0 := hw
  rw [ht] at hP1
  obtain ⟨hP, hD⟩ := va_join (wr := []) (w1 := [(h0, .inr (11, [.ref (r 0), .ref (r 1), .ref (r 2), .ref (r 3), .ref (r 4), .ref (r 5), .ref (r 6), .ref (r 7), .ref (r 8), .ref (r 9), .ref (r 10), .ref (r 11), .ref (r 12), .ref (r 13), .int 1])), ((r 10), .inr (9, [.ref (r 26), .ref (r 27), .ref (r 28), .ref (r 29), .ref (r 30), .ref (r 31), .int 0, .int 0, .int 0, .int 0, .int 0]))]) hP hD [0, 1] [] rfl rfl (by decide) (by decide) hk1 hFc hP1 hD1
  generalize H1 = H at hP hS ⊢
  have hP : va_P (dC, dI) vwCl [(h0, .inr (11, [.ref (r 0), .ref (r 1), .ref (r 2), .ref (r 3), .ref (r 4), .ref (r 5), .ref (r 6), .ref (r 7), .ref (r 8), .ref (r 9), .ref (r 10), .ref (r 11), .ref (r 12), .ref (r 13), .int 1])), ((r 10), .inr (9, [.ref (r 26), .ref (r 27), .ref (r 28), .ref (r 29), .ref (r 30), .ref (r 31), .int 0, .int 0, .int 0, .int 0, .int 0]))] H := hP
  have hD : va_D A [(h0, .inr (11, [.ref (r 0), .ref (r 1), .ref (r 2), .ref (r 3), .ref (r 4), .ref (r 5), .ref (r 6), .ref (r 7), .ref (r 8), .ref (r 9), .ref (r 10), .ref (r 11), .ref (r 12), .ref (r 13), .int 1])), ((r 10), .inr (9, [.ref (r 26), .ref (r 27), .ref (r 28), .ref (r 29), .ref (r 30), .ref (r 31), .int 0, .int 0, .int 0, .int 0, .int 0]))] := hD
  refine lv_if_eq (tgt := 12) hx hb dX11_missing_4 (by decide) (fun _ => ?_) (fun c => absurd (by decide) c)
  refine lv_iconst (v := (-1)) hx hb dX11_missing_12 (by decide) ?_
  exact W.iret (v := (-1)) hx hb hr (fun t ht hW => ⟨⟨(-1), (), rfl, rfl, trivial⟩, hS.F ht⟩) hS.2.2 dX11_missing_13
abbrev w0_c_X11_taken (cI : ClassId) (h0 : Nat) (r : Nat → Nat) (p0 : Int32) : va_W := [(h0, .inr (11, [.ref (r 0), .ref (r 1), .ref (r 2), .ref (r 3), .ref (r 4), .ref (r 5), .ref (r 6), .ref (r 7), .ref (r 8), .ref (r 9), .ref (r 10), .ref (r 11), .ref (r 12), .ref (r 13), .int 1])), ((r 10), .inr (9, [.ref (r 26), .ref (r 27), .ref (r 28), .ref (r 29), .ref (r 30), .ref (r 31), .int 0, .int 0, .int 0, .int 0, .int 0]))]
set_option maxHeartbeats 4000000 in
set_option maxRecDepth 100000 in
theorem c_X11_taken (l : Launch) (dC : Nat → ClassId) (dI : Nat → Nat → Nat) (cI cJ : ClassId) (h0 : Nat) (r : Nat → Nat) (p0 : Int32) (sz : Nat) : Met l yX11_taken wsX11_taken ({ frames := 2, cells := 0, slots := 0, locals := 81 }) (va_Pc [.ref h0, .int p0] (mPre dC dI cI cJ sz (w0_c_X11_taken cI h0 r p0))) (va_Qi (fun (r : Int32) (u : Unit) => r = -1) (fun _ _ => True) (va_A (w0_c_X11_taken cI h0 r p0) sz)) 0 0 (va_A (w0_c_X11_taken cI h0 r p0) sz) := by
  refine Met.ofW (cc := cX11_taken) (maxL := 2) (ret := (some .int)) (by decide) rfl ?_
  intro p e s m args below meth c s₁ B hml hv
  obtain ⟨rfl, hsz, hP, hK, hD0, hN⟩ := hv
  have hx := B.exec
  have hb := B.bytes
  have hr := B.returns
  have hts := atoms_spec (ws := wsX11_taken) B.pre
  have hown : s.vm.findClass RX11 = some m.cls := findClass_of_methodNamed B.named
  have hlocks := B.notSynchronized
  have h_in_X11 : ∀ w ∈ wsX110, w ∈ wsX11_taken := fun w h => List.mem_cons_of_mem _ (List.mem_append_left _ (List.mem_append_left _ (List.mem_append_right _ h)))
  have h_in_X5 : ∀ w ∈ wsX50, w ∈ wsX11_taken := fun w h => List.mem_cons_of_mem _ (List.mem_append_left _ (List.mem_append_right _ h))
  have h_in_X9 : ∀ w ∈ wsX90, w ∈ wsX11_taken := fun w h => List.mem_cons_of_mem _ (List.mem_append_right _ h)
  subst hsz
  have hD := hD0.self (sz := s.heap.size)
  generalize hAe : va_A (w0_c_X11_taken cI h0 r p0) s.heap.size = A at hD ⊢
  have hA : ∀ q : Nat, s.heap.size ≤ q → A q := fun q h => by rw [← hAe]; exact Or.inr h
  have hS : va_S A s.heap s.heap [] := va_S.rf
  have hP : va_P (dC, dI) vwCl [(h0, .inr (11, [.ref (r 0), .ref (r 1), .ref (r 2), .ref (r 3), .ref (r 4), .ref (r 5), .ref (r 6), .ref (r 7), .ref (r 8), .ref (r 9), .ref (r 10), .ref (r 11), .ref (r 12), .ref (r 13), .int 1])), ((r 10), .inr (9, [.ref (r 26), .ref (r 27), .ref (r 28), .ref (r 29), .ref (r 30), .ref (r 31), .int 0, .int 0, .int 0, .int 0, .int 0]))] s.heap := hP
  have hD : va_D A [(h0, .inr (11, [.ref (r 0), .ref (r 1), .ref (r 2), .ref (r 3), .ref (r 4), .ref (r 5), .ref (r 6), .ref (r 7), .ref (r 8), .ref (r 9), .ref (r 10), .ref (r 11), .ref (r 12), .ref (r 13), .int 1])), ((r 10), .inr (9, [.ref (r 26), .ref (r 27), .ref (r 28), .ref (r 29), .ref (r 30), .ref (r 31), .int 0, .int 0, .int 0, .int 0, .int 0]))] := hD
  have hl := lv_entry ([.ref h0, .int p0]) (n := 2) (Nat.le_of_ble_eq_true rfl)
  rw [lg_entry_eq]
  generalize (lg_sl ([.ref h0, .int p0]) ++ List.replicate (2 - (lg_sl ([.ref h0, .int p0])).length) Slot.unset).toArray = ls at hl ⊢
  have hl : lv_has ls 2 [(0, .ref h0), (1, .int p0)] := hl
  refine lv_aload_n hx hb dX11_taken_0 rfl (lv_at hl 0 rfl) ?_
  refine va_get (D := (dC, dI)) (ci := 11) (v := .ref (r 10)) (C := RX11) (T := TX11) (N := 15) hx hb hts h_in_X11 hown hK hP 0 rfl rfl 10 (by decide) (hts (.fieldLink RX11 71 "MatchTrees" "table" "LMatchTrees$Table;") (by decide +kernel)) (fun _ h9 => h9) rfl dX11_taken_1 ?_
  refine lv_iload_n hx hb dX11_taken_4 rfl (lv_at hl 1 rfl) ?_
  have hPc := hP.sub (ws' := [((r 10), .inr (9, [.ref (r 26), .ref (r 27), .ref (r 28), .ref (r 29), .ref (r 30), .ref (r 31), .int 0, .int 0, .int 0, .int 0, .int 0]))]) [1] rfl
  have hDc := hD.sub (ws' := [((r 10), .inr (9, [.ref (r 26), .ref (r 27), .ref (r 28), .ref (r 29), .ref (r 30), .ref (r 31), .int 0, .int 0, .int 0, .int 0, .int 0]))]) [1] (by decide) rfl
  have hFc := va_free (wc := [((r 10), .inr (9, [.ref (r 26), .ref (r 27), .ref (r 28), .ref (r 29), .ref (r 30), .ref (r 31), .int 0, .int 0, .int 0, .int 0, .int 0]))]) hD hS hA [1] rfl
  refine va_calli (va_runV (As := [.int p0]) (rest := []) ⟨hx, hb, hml, hown, hts⟩ (c_X9_isRow l dC dI cI cJ h0 r p0 s.heap.size) (cwV 1 hts gX11_taken_X9_isRow rfl rfl rfl (by decide +kernel) ⟨Nat.le_of_ble_eq_true rfl, Nat.le_of_ble_eq_true rfl⟩) ⟨mBlind, va_recv hK hPc (ci := 9) (q0 := 0) rfl rfl, mGo hPc hK hDc hN⟩ rfl rfl hl.1 rfl (lv_room (Nat.le_of_ble_eq_true rfl)) dX11_taken_5 ⟨Nat.le_of_ble_eq_true rfl, Nat.le_of_ble_eq_true rfl⟩) hS (fun q _ h => hFc q h) hFc (fun r_1 u t H1 locs ht hvm hw hB hz1 hk1 hS => ?_)
  obtain ⟨hP1, hD1⟩ := hB
  obtain rfl : r_1 = 0 := hw
  rw [ht] at hP1
  obtain ⟨hP, hD⟩ := va_join (wr := [(h0, .inr (11, [.ref (r 0), .ref (r 1), .ref (r 2), .ref (r 3), .ref (r 4), .ref (r 5), .ref (r 6), .ref (r 7), .ref (r 8), .ref (r 9), .ref (r 10), .ref (r 11), .ref (r 12), .ref (r 13), .int 1]))]) (w1 := [((r 10), .inr (9, [.ref (r 26), .ref (r 27), .ref (r 28), .ref (r 29), .ref (r 30), .ref (r 31), .int 0, .int 0, .int 0, .int 0, .int 0]))]) hP hD [1] [0] rfl rfl (by decide) (by decide) hk1 hFc hP1 hD1
  generalize H1 = H at hP hS ⊢
  have hP : va_P (dC, dI) vwCl [(h0, .inr (11, [.ref (r 0), .ref (r 1), .ref (r 2), .ref (r 3), .ref (r 4), .ref (r 5), .ref (r 6), .ref (r 7), .ref (r 8), .ref (r 9), .ref (r 10), .ref (r 11), .ref (r 12), .ref (r 13), .int 1])), ((r 10), .inr (9, [.ref (r 26), .ref (r 27), .ref (r 28), .ref (r 29), .ref (r 30), .ref (r 31), .int 0, .int 0, .int 0, .int 0, .int 0]))] H := hP
  have hD : va_D A [(h0, .inr (11, [.ref (r 0), .ref (r 1), .ref (r 2), .ref (r 3), .ref (r 4), .ref (r 5), .ref (r 6), .ref (r 7), .ref (r 8), .ref (r 9), .ref (r 10), .ref (r 11), .ref (r 12), .ref (r 13), .int 1])), ((r 10), .inr (9, [.ref (r 26), .ref (r 27), .ref (r 28), .ref (r 29), .ref (r 30), .ref (r 31), .int 0, .int 0, .int 0, .int 0, .int 0]))] := hD
  refine lv_if_ne (tgt := 13) hx hb dX11_taken_8 (by decide) (fun c => absurd c (by decide)) (fun _ => ?_)
  refine lv_iconst (v := (-1)) hx hb dX11_taken_11 (by decide) ?_
  exact W.iret (v := (-1)) hx hb hr (fun t ht hW => ⟨⟨(-1), (), rfl, rfl, trivial⟩, hS.F ht⟩) hS.2.2 dX11_taken_12
abbrev w0_c_X11_text (cI : ClassId) (h0 : Nat) (r : Nat → Nat) (p0 : Int32) : va_W := [(h0, .inr (11, [.ref (r 0), .ref (r 1), .ref (r 2), .ref (r 3), .ref (r 4), .ref (r 5), .ref (r 6), .ref (r 7), .ref (r 8), .ref (r 9), .ref (r 10), .ref (r 11), .ref (r 12), .ref (r 13), .int 1])), ((r 10), .inr (9, [.ref (r 26), .ref (r 27), .ref (r 28), .ref (r 29), .ref (r 30), .ref (r 31), .int 0, .int 0, .int 0, .int 0, .int 0]))]
set_option maxHeartbeats 4000000 in
set_option maxRecDepth 100000 in
theorem c_X11_text (l : Launch) (dC : Nat → ClassId) (dI : Nat → Nat → Nat) (cI cJ : ClassId) (h0 : Nat) (r : Nat → Nat) (p0 : Int32) (sz : Nat) : Met l yX11_text wsX11_text ({ frames := 2, cells := 0, slots := 0, locals := 81 }) (va_Pc [.ref h0, .int p0] (mPre dC dI cI cJ sz (w0_c_X11_text cI h0 r p0))) (va_Qi (fun (r : Int32) (u : Unit) => r = -1) (fun _ _ => True) (va_A (w0_c_X11_text cI h0 r p0) sz)) 0 0 (va_A (w0_c_X11_text cI h0 r p0) sz) := by
  refine Met.ofW (cc := cX11_text) (maxL := 3) (ret := (some .int)) (by decide) rfl ?_
  intro p e s m args below meth c s₁ B hml hv
  obtain ⟨rfl, hsz, hP, hK, hD0, hN⟩ := hv
  have hx := B.exec
  have hb := B.bytes
  have hr := B.returns
  have hts := atoms_spec (ws := wsX11_text) B.pre
  have hown : s.vm.findClass RX11 = some m.cls := findClass_of_methodNamed B.named
  have hlocks := B.notSynchronized
  have h_in_X11 : ∀ w ∈ wsX110, w ∈ wsX11_text := fun w h => List.mem_cons_of_mem _ (List.mem_append_left _ (List.mem_append_left _ (List.mem_append_left _ (List.mem_append_right _ h))))
  have h_in_X1 : ∀ w ∈ wsX10, w ∈ wsX11_text := fun w h => List.mem_cons_of_mem _ (List.mem_append_left _ (List.mem_append_left _ (List.mem_append_right _ h)))
  have h_in_X9 : ∀ w ∈ wsX90, w ∈ wsX11_text := fun w h => List.mem_cons_of_mem _ (List.mem_append_left _ (List.mem_append_right _ h))
  have h_in_X3 : ∀ w ∈ wsX30, w ∈ wsX11_text := fun w h => List.mem_cons_of_mem _ (List.mem_append_right _ h)
  subst hsz
  have hD := hD0.self (sz := s.heap.size)
  generalize hAe : va_A (w0_c_X11_text cI h0 r p0) s.heap.size = A at hD ⊢
  have hA : ∀ q : Nat, s.heap.size ≤ q → A q := fun q h => by rw [← hAe]; exact Or.inr h
  have hS : va_S A s.heap s.heap [] := va_S.rf
  have hP : va_P (dC, dI) vwCl [(h0, .inr (11, [.ref (r 0), .ref (r 1), .ref (r 2), .ref (r 3), .ref (r 4), .ref (r 5), .ref (r 6), .ref (r 7), .ref (r 8), .ref (r 9), .ref (r 10), .ref (r 11), .ref (r 12), .ref (r 13), .int 1])), ((r 10), .inr (9, [.ref (r 26), .ref (r 27), .ref (r 28), .ref (r 29), .ref (r 30), .ref (r 31), .int 0, .int 0, .int 0, .int 0, .int 0]))] s.heap := hP
  have hD : va_D A [(h0, .inr (11, [.ref (r 0), .ref (r 1), .ref (r 2), .ref (r 3), .ref (r 4), .ref (r 5), .ref (r 6), .ref (r 7), .ref (r 8), .ref (r 9), .ref (r 10), .ref (r 11), .ref (r 12), .ref (r 13), .int 1])), ((r 10), .inr (9, [.ref (r 26), .ref (r 27), .ref (r 28), .ref (r 29), .ref (r 30), .ref (r 31), .int 0, .int 0, .int 0, .int 0, .int 0]))] := hD
  have hl := lv_entry ([.ref h0, .int p0]) (n := 3) (Nat.le_of_ble_eq_true rfl)
  rw [lg_entry_eq]
  generalize (lg_sl ([.ref h0, .int p0]) ++ List.replicate (3 - (lg_sl ([.ref h0, .int p0])).length) Slot.unset).toArray = ls at hl ⊢
  have hl : lv_has ls 3 [(0, .ref h0), (1, .int p0)] := hl
  refine lv_aload_n hx hb dX11_text_0 rfl (lv_at hl 0 rfl) ?_
  refine va_get (D := (dC, dI)) (ci := 11) (v := .ref (r 10)) (C := RX11) (T := TX11) (N := 15) hx hb hts h_in_X11 hown hK hP 0 rfl rfl 10 (by decide) (hts (.fieldLink RX11 71 "MatchTrees" "table" "LMatchTrees$Table;") (by decide +kernel)) (fun _ h9 => h9) rfl dX11_text_1 ?_
  refine lv_iload_n hx hb dX11_text_4 rfl (lv_at hl 1 rfl) ?_
  have hPc := hP.sub (ws' := [((r 10), .inr (9, [.ref (r 26), .ref (r 27), .ref (r 28), .ref (r 29), .ref (r 30), .ref (r 31), .int 0, .int 0, .int 0, .int 0, .int 0]))]) [1] rfl
  have hDc := hD.sub (ws' := [((r 10), .inr (9, [.ref (r 26), .ref (r 27), .ref (r 28), .ref (r 29), .ref (r 30), .ref (r 31), .int 0, .int 0, .int 0, .int 0, .int 0]))]) [1] (by decide) rfl
  have hFc := va_free (wc := [((r 10), .inr (9, [.ref (r 26), .ref (r 27), .ref (r 28), .ref (r 29), .ref (r 30), .ref (r 31), .int 0, .int 0, .int 0, .int 0, .int 0]))]) hD hS hA [1] rfl
  refine va_calli (va_runV (As := [.int p0]) (rest := []) ⟨hx, hb, hml, hown, hts⟩ (c_X9_isRow l dC dI cI cJ h0 r p0 s.heap.size) (cwV 1 hts gX11_text_X9_isRow rfl rfl rfl (by decide +kernel) ⟨Nat.le_of_ble_eq_true rfl, Nat.le_of_ble_eq_true rfl⟩) ⟨mBlind, va_recv hK hPc (ci := 9) (q0 := 0) rfl rfl, mGo hPc hK hDc hN⟩ rfl rfl hl.1 rfl (lv_room (Nat.le_of_ble_eq_true rfl)) dX11_text_5 ⟨Nat.le_of_ble_eq_true rfl, Nat.le_of_ble_eq_true rfl⟩) hS (fun q _ h => hFc q h) hFc (fun r_1 u t H1 locs ht hvm hw hB hz1 hk1 hS => ?_)
  obtain ⟨hP1, hD1⟩ := hB
  obtain rfl : r_1 = 0 := hw
  rw [ht] at hP1
  obtain ⟨hP, hD⟩ := va_join (wr := [(h0, .inr (11, [.ref (r 0), .ref (r 1), .ref (r 2), .ref (r 3), .ref (r 4), .ref (r 5), .ref (r 6), .ref (r 7), .ref (r 8), .ref (r 9), .ref (r 10), .ref (r 11), .ref (r 12), .ref (r 13), .int 1]))]) (w1 := [((r 10), .inr (9, [.ref (r 26), .ref (r 27), .ref (r 28), .ref (r 29), .ref (r 30), .ref (r 31), .int 0, .int 0, .int 0, .int 0, .int 0]))]) hP hD [1] [0] rfl rfl (by decide) (by decide) hk1 hFc hP1 hD1
  generalize H1 = H at hP hS ⊢
  have hP : va_P (dC, dI) vwCl [(h0, .inr (11, [.ref (r 0), .ref (r 1), .ref (r 2), .ref (r 3), .ref (r 4), .ref (r 5), .ref (r 6), .ref (r 7), .ref (r 8), .ref (r 9), .ref (r 10), .ref (r 11), .ref (r 12), .ref (r 13), .int 1])), ((r 10), .inr (9, [.ref (r 26), .ref (r 27), .ref (r 28), .ref (r 29), .ref (r 30), .ref (r 31), .int 0, .int 0, .int 0, .int 0, .int 0]))] H := hP
  have hD : va_D A [(h0, .inr (11, [.ref (r 0), .ref (r 1), .ref (r 2), .ref (r 3), .ref (r 4), .ref (r 5), .ref (r 6), .ref (r 7), .ref (r 8), .ref (r 9), .ref (r 10), .ref (r 11), .ref (r 12), .ref (r 13), .int 1])), ((r 10), .inr (9, [.ref (r 26), .ref (r 27), .ref (r 28), .ref (r 29), .ref (r 30), .ref (r 31), .int 0, .int 0, .int 0, .int 0, .int 0]))] := hD
  refine lv_if_ne (tgt := 13) hx hb dX11_text_8 (by decide) (fun c => absurd c (by decide)) (fun _ => ?_)
  refine lv_iconst (v := (-1)) hx hb dX11_text_11 (by decide) ?_
  exact W.iret (v := (-1)) hx hb hr (fun t ht hW => ⟨⟨(-1), (), rfl, rfl, trivial⟩, hS.F ht⟩) hS.2.2 dX11_text_12
abbrev w0_c_X11_octet (cI : ClassId) (h0 : Nat) (r : Nat → Nat) (p0 : Int32) : va_W := [(h0, .inr (11, [.ref (r 0), .ref (r 1), .ref (r 2), .ref (r 3), .ref (r 4), .ref (r 5), .ref (r 6), .ref (r 7), .ref (r 8), .ref (r 9), .ref (r 10), .ref (r 11), .ref (r 12), .ref (r 13), .int 1])), ((r 1), .inr (1, [.ref (r 15), .int 0]))]
set_option maxHeartbeats 4000000 in
set_option maxRecDepth 100000 in
theorem c_X11_octet (l : Launch) (dC : Nat → ClassId) (dI : Nat → Nat → Nat) (cI cJ : ClassId) (h0 : Nat) (r : Nat → Nat) (p0 : Int32) (sz : Nat) : Met l yX11_octet wsX11_octet ({ frames := 2, cells := 0, slots := 0, locals := 81 }) (va_Pc [.ref h0, .int p0] (mPre dC dI cI cJ sz (w0_c_X11_octet cI h0 r p0))) (va_Qi (fun (r : Int32) (u : Unit) => r = -1) (fun _ _ => True) (va_A (w0_c_X11_octet cI h0 r p0) sz)) 0 0 (va_A (w0_c_X11_octet cI h0 r p0) sz) := by
  refine Met.ofW (cc := cX11_octet) (maxL := 2) (ret := (some .int)) (by decide) rfl ?_
  intro p e s m args below meth c s₁ B hml hv
  obtain ⟨rfl, hsz, hP, hK, hD0, hN⟩ := hv
  have hx := B.exec
  have hb := B.bytes
  have hr := B.returns
  have hts := atoms_spec (ws := wsX11_octet) B.pre
  have hown : s.vm.findClass RX11 = some m.cls := findClass_of_methodNamed B.named
  have hlocks := B.notSynchronized
  have h_in_X11 : ∀ w ∈ wsX110, w ∈ wsX11_octet := fun w h => List.mem_cons_of_mem _ (List.mem_append_left _ (List.mem_append_right _ h))
  have h_in_X1 : ∀ w ∈ wsX10, w ∈ wsX11_octet := fun w h => List.mem_cons_of_mem _ (List.mem_append_right _ h)
  subst hsz
  have hD := hD0.self (sz := s.heap.size)
  generalize hAe : va_A (w0_c_X11_octet cI h0 r p0) s.heap.size = A at hD ⊢
  have hA : ∀ q : Nat, s.heap.size ≤ q → A q := fun q h => by rw [← hAe]; exact Or.inr h
  have hS : va_S A s.heap s.heap [] := va_S.rf
  have hP : va_P (dC, dI) vwCl [(h0, .inr (11, [.ref (r 0), .ref (r 1), .ref (r 2), .ref (r 3), .ref (r 4), .ref (r 5), .ref (r 6), .ref (r 7), .ref (r 8), .ref (r 9), .ref (r 10), .ref (r 11), .ref (r 12), .ref (r 13), .int 1])), ((r 1), .inr (1, [.ref (r 15), .int 0]))] s.heap := hP
  have hD : va_D A [(h0, .inr (11, [.ref (r 0), .ref (r 1), .ref (r 2), .ref (r 3), .ref (r 4), .ref (r 5), .ref (r 6), .ref (r 7), .ref (r 8), .ref (r 9), .ref (r 10), .ref (r 11), .ref (r 12), .ref (r 13), .int 1])), ((r 1), .inr (1, [.ref (r 15), .int 0]))] := hD
  have hl := lv_entry ([.ref h0, .int p0]) (n := 2) (Nat.le_of_ble_eq_true rfl)
  rw [lg_entry_eq]
  generalize (lg_sl ([.ref h0, .int p0]) ++ List.replicate (2 - (lg_sl ([.ref h0, .int p0])).length) Slot.unset).toArray = ls at hl ⊢
  have hl : lv_has ls 2 [(0, .ref h0), (1, .int p0)] := hl
  refine lv_aload_n hx hb dX11_octet_0 rfl (lv_at hl 0 rfl) ?_
  refine va_get (D := (dC, dI)) (ci := 11) (v := .ref (r 1)) (C := RX11) (T := TX11) (N := 15) hx hb hts h_in_X11 hown hK hP 0 rfl rfl 1 (by decide) (hts (.fieldLink RX11 18 "MatchTrees" "written" "LMatchTrees$Bytes;") (by decide +kernel)) (fun _ h9 => h9) rfl dX11_octet_1 ?_
  refine lv_iload_n hx hb dX11_octet_4 rfl (lv_at hl 1 rfl) ?_
  have hPc := hP.sub (ws' := [((r 1), .inr (1, [.ref (r 15), .int 0]))]) [1] rfl
  have hDc := hD.sub (ws' := [((r 1), .inr (1, [.ref (r 15), .int 0]))]) [1] (by decide) rfl
  have hFc := va_free (wc := [((r 1), .inr (1, [.ref (r 15), .int 0]))]) hD hS hA [1] rfl
  refine va_calli (va_runV (As := [.int p0]) (rest := []) ⟨hx, hb, hml, hown, hts⟩ (c_X1_byteAt l dC dI cI cJ h0 r p0 s.heap.size) (cwV 1 hts gX11_octet_X1_byteAt rfl rfl rfl (by decide +kernel) ⟨Nat.le_of_ble_eq_true rfl, Nat.le_of_ble_eq_true rfl⟩) ⟨mBlind, va_recv hK hPc (ci := 1) (q0 := 0) rfl rfl, mGo hPc hK hDc hN⟩ rfl rfl hl.1 rfl (lv_room (Nat.le_of_ble_eq_true rfl)) dX11_octet_5 ⟨Nat.le_of_ble_eq_true rfl, Nat.le_of_ble_eq_true rfl⟩) hS (fun q _ h => hFc q h) hFc (fun r_1 u t H1 locs ht hvm hw hB hz1 hk1 hS => ?_)
  obtain ⟨hP1, hD1⟩ := hB
  obtain rfl : r_1 = (-1) := hw
  rw [ht] at hP1
  obtain ⟨hP, hD⟩ := va_join (wr := [(h0, .inr (11, [.ref (r 0), .ref (r 1), .ref (r 2), .ref (r 3), .ref (r 4), .ref (r 5), .ref (r 6), .ref (r 7), .ref (r 8), .ref (r 9), .ref (r 10), .ref (r 11), .ref (r 12), .ref (r 13), .int 1]))]) (w1 := [((r 1), .inr (1, [.ref (r 15), .int 0]))]) hP hD [1] [0] rfl rfl (by decide) (by decide) hk1 hFc hP1 hD1
  generalize H1 = H at hP hS ⊢
  have hP : va_P (dC, dI) vwCl [(h0, .inr (11, [.ref (r 0), .ref (r 1), .ref (r 2), .ref (r 3), .ref (r 4), .ref (r 5), .ref (r 6), .ref (r 7), .ref (r 8), .ref (r 9), .ref (r 10), .ref (r 11), .ref (r 12), .ref (r 13), .int 1])), ((r 1), .inr (1, [.ref (r 15), .int 0]))] H := hP
  have hD : va_D A [(h0, .inr (11, [.ref (r 0), .ref (r 1), .ref (r 2), .ref (r 3), .ref (r 4), .ref (r 5), .ref (r 6), .ref (r 7), .ref (r 8), .ref (r 9), .ref (r 10), .ref (r 11), .ref (r 12), .ref (r 13), .int 1])), ((r 1), .inr (1, [.ref (r 15), .int 0]))] := hD
  exact W.iret (v := (-1)) hx hb hr (fun t ht hW => ⟨⟨(-1), (), rfl, rfl, trivial⟩, hS.F ht⟩) hS.2.2 dX11_octet_8
abbrev w0_c_X11_tree (cI : ClassId) (h0 : Nat) (r : Nat → Nat) (p0 p1 : Int32) : va_W := [(h0, .inr (11, [.ref (r 0), .ref (r 1), .ref (r 2), .ref (r 3), .ref (r 4), .ref (r 5), .ref (r 6), .ref (r 7), .ref (r 8), .ref (r 9), .ref (r 10), .ref (r 11), .ref (r 12), .ref (r 13), .int 1])), ((r 10), .inr (9, [.ref (r 26), .ref (r 27), .ref (r 28), .ref (r 29), .ref (r 30), .ref (r 31), .int 0, .int 0, .int 0, .int 0, .int 0]))]
set_option maxHeartbeats 4000000 in
set_option maxRecDepth 100000 in
theorem c_X11_tree (l : Launch) (dC : Nat → ClassId) (dI : Nat → Nat → Nat) (cI cJ : ClassId) (h0 : Nat) (r : Nat → Nat) (p0 p1 : Int32) (sz : Nat) : Met l yX11_tree wsX11_tree ({ frames := 2, cells := 0, slots := 0, locals := 80 }) (va_Pc [.ref h0, .int p0, .int p1] (mPre dC dI cI cJ sz (w0_c_X11_tree cI h0 r p0 p1))) (va_Qi (fun (r : Int32) (u : Unit) => r = -1) (fun _ _ => True) (va_A (w0_c_X11_tree cI h0 r p0 p1) sz)) 0 0 (va_A (w0_c_X11_tree cI h0 r p0 p1) sz) := by
  refine Met.ofW (cc := cX11_tree) (maxL := 5) (ret := (some .int)) (by decide) rfl ?_
  intro p e s m args below meth c s₁ B hml hv
  obtain ⟨rfl, hsz, hP, hK, hD0, hN⟩ := hv
  have hx := B.exec
  have hb := B.bytes
  have hr := B.returns
  have hts := atoms_spec (ws := wsX11_tree) B.pre
  have hown : s.vm.findClass RX11 = some m.cls := findClass_of_methodNamed B.named
  have hlocks := B.notSynchronized
  have h_in_X11 : ∀ w ∈ wsX110, w ∈ wsX11_tree := fun w h => List.mem_cons_of_mem _ (List.mem_append_left _ (List.mem_append_left _ (List.mem_append_left _ (List.mem_append_left _ (List.mem_append_left _ (List.mem_append_right _ h))))))
  have h_in_X10 : ∀ w ∈ wsX100, w ∈ wsX11_tree := fun w h => List.mem_cons_of_mem _ (List.mem_append_left _ (List.mem_append_left _ (List.mem_append_left _ (List.mem_append_left _ (List.mem_append_right _ h)))))
  have h_in_X9 : ∀ w ∈ wsX90, w ∈ wsX11_tree := fun w h => List.mem_cons_of_mem _ (List.mem_append_left _ (List.mem_append_left _ (List.mem_append_left _ (List.mem_append_right _ h))))
  have h_in_X5 : ∀ w ∈ wsX50, w ∈ wsX11_tree := fun w h => List.mem_cons_of_mem _ (List.mem_append_left _ (List.mem_append_left _ (List.mem_append_right _ h)))
  have h_in_X2 : ∀ w ∈ wsX20, w ∈ wsX11_tree := fun w h => List.mem_cons_of_mem _ (List.mem_append_left _ (List.mem_append_right _ h))
  have h_in_X4 : ∀ w ∈ wsX40, w ∈ wsX11_tree := fun w h => List.mem_cons_of_mem _ (List.mem_append_right _ h)
  subst hsz
  have hD := hD0.self (sz := s.heap.size)
  generalize hAe : va_A (w0_c_X11_tree cI h0 r p0 p1) s.heap.size = A at hD ⊢
  have hA : ∀ q : Nat, s.heap.size ≤ q → A q := fun q h => by rw [← hAe]; exact Or.inr h
  have hS : va_S A s.heap s.heap [] := va_S.rf
  have hP : va_P (dC, dI) vwCl [(h0, .inr (11, [.ref (r 0), .ref (r 1), .ref (r 2), .ref (r 3), .ref (r 4), .ref (r 5), .ref (r 6), .ref (r 7), .ref (r 8), .ref (r 9), .ref (r 10), .ref (r 11), .ref (r 12), .ref (r 13), .int 1])), ((r 10), .inr (9, [.ref (r 26), .ref (r 27), .ref (r 28), .ref (r 29), .ref (r 30), .ref (r 31), .int 0, .int 0, .int 0, .int 0, .int 0]))] s.heap := hP
  have hD : va_D A [(h0, .inr (11, [.ref (r 0), .ref (r 1), .ref (r 2), .ref (r 3), .ref (r 4), .ref (r 5), .ref (r 6), .ref (r 7), .ref (r 8), .ref (r 9), .ref (r 10), .ref (r 11), .ref (r 12), .ref (r 13), .int 1])), ((r 10), .inr (9, [.ref (r 26), .ref (r 27), .ref (r 28), .ref (r 29), .ref (r 30), .ref (r 31), .int 0, .int 0, .int 0, .int 0, .int 0]))] := hD
  have hl := lv_entry ([.ref h0, .int p0, .int p1]) (n := 5) (Nat.le_of_ble_eq_true rfl)
  rw [lg_entry_eq]
  generalize (lg_sl ([.ref h0, .int p0, .int p1]) ++ List.replicate (5 - (lg_sl ([.ref h0, .int p0, .int p1])).length) Slot.unset).toArray = ls at hl ⊢
  have hl : lv_has ls 5 [(0, .ref h0), (1, .int p0), (2, .int p1)] := hl
  refine lv_aload_n hx hb dX11_tree_0 rfl (lv_at hl 0 rfl) ?_
  have hPc := hP.sub (ws' := [(h0, .inr (11, [.ref (r 0), .ref (r 1), .ref (r 2), .ref (r 3), .ref (r 4), .ref (r 5), .ref (r 6), .ref (r 7), .ref (r 8), .ref (r 9), .ref (r 10), .ref (r 11), .ref (r 12), .ref (r 13), .int 1])), ((r 10), .inr (9, [.ref (r 26), .ref (r 27), .ref (r 28), .ref (r 29), .ref (r 30), .ref (r 31), .int 0, .int 0, .int 0, .int 0, .int 0]))]) [0, 1] rfl
  have hDc := hD.sub (ws' := [(h0, .inr (11, [.ref (r 0), .ref (r 1), .ref (r 2), .ref (r 3), .ref (r 4), .ref (r 5), .ref (r 6), .ref (r 7), .ref (r 8), .ref (r 9), .ref (r 10), .ref (r 11), .ref (r 12), .ref (r 13), .int 1])), ((r 10), .inr (9, [.ref (r 26), .ref (r 27), .ref (r 28), .ref (r 29), .ref (r 30), .ref (r 31), .int 0, .int 0, .int 0, .int 0, .int 0]))]) [0, 1] (by decide) rfl
  have hFc := va_free (wc := [(h0, .inr (11, [.ref (r 0), .ref (r 1), .ref (r 2), .ref (r 3), .ref (r 4), .ref (r 5), .ref (r 6), .ref (r 7), .ref (r 8), .ref (r 9), .ref (r 10), .ref (r 11), .ref (r 12), .ref (r 13), .int 1])), ((r 10), .inr (9, [.ref (r 26), .ref (r 27), .ref (r 28), .ref (r 29), .ref (r 30), .ref (r 31), .int 0, .int 0, .int 0, .int 0, .int 0]))]) hD hS hA [0, 1] rfl
  refine va_calli (va_runV (As := []) (rest := []) ⟨hx, hb, hml, hown, hts⟩ (c_X11_matched l dC dI cI cJ h0 r s.heap.size) (cwV 0 hts gX11_tree_X11_matched rfl rfl rfl (by decide +kernel) ⟨Nat.le_of_ble_eq_true rfl, Nat.le_of_ble_eq_true rfl⟩) ⟨mBlind, va_recv hK hPc (ci := 11) (q0 := 0) rfl rfl, mGo hPc hK hDc hN⟩ rfl rfl hl.1 rfl (lv_room (Nat.le_of_ble_eq_true rfl)) dX11_tree_1 ⟨Nat.le_of_ble_eq_true rfl, Nat.le_of_ble_eq_true rfl⟩) hS (fun q _ h => hFc q h) hFc (fun r_1 u t H1 locs ht hvm hw hB hz1 hk1 hS => ?_)
  obtain ⟨hP1, hD1⟩ := hB
  obtain rfl : r_1 = 0 := hw
  rw [ht] at hP1
  obtain ⟨hP, hD⟩ := va_join (wr := []) (w1 := [(h0, .inr (11, [.ref (r 0), .ref (r 1), .ref (r 2), .ref (r 3), .ref (r 4), .ref (r 5), .ref (r 6), .ref (r 7), .ref (r 8), .ref (r 9), .ref (r 10), .ref (r 11), .ref (r 12), .ref (r 13), .int 1])), ((r 10), .inr (9, [.ref (r 26), .ref (r 27), .ref (r 28), .ref (r 29), .ref (r 30), .ref (r 31), .int 0, .int 0, .int 0, .int 0, .int 0]))]) hP hD [0, 1] [] rfl rfl (by decide) (by decide) hk1 hFc hP1 hD1
  generalize H1 = H at hP hS ⊢
  have hP : va_P (dC, dI) vwCl [(h0, .inr (11, [.ref (r 0), .ref (r 1), .ref (r 2), .ref (r 3), .ref (r 4), .ref (r 5), .ref (r 6), .ref (r 7), .ref (r 8), .ref (r 9), .ref (r 10), .ref (r 11), .ref (r 12), .ref (r 13), .int 1])), ((r 10), .inr (9, [.ref (r 26), .ref (r 27), .ref (r 28), .ref (r 29), .ref (r 30), .ref (r 31), .int 0, .int 0, .int 0, .int 0, .int 0]))] H := hP
  have hD : va_D A [(h0, .inr (11, [.ref (r 0), .ref (r 1), .ref (r 2), .ref (r 3), .ref (r 4), .ref (r 5), .ref (r 6), .ref (r 7), .ref (r 8), .ref (r 9), .ref (r 10), .ref (r 11), .ref (r 12), .ref (r 13), .int 1])), ((r 10), .inr (9, [.ref (r 26), .ref (r 27), .ref (r 28), .ref (r 29), .ref (r 30), .ref (r 31), .int 0, .int 0, .int 0, .int 0, .int 0]))] := hD
  refine lv_if_eq (tgt := 14) hx hb dX11_tree_4 (by decide) (fun _ => ?_) (fun c => absurd (by decide) c)
  refine lv_iconst (v := (-1)) hx hb dX11_tree_14 (by decide) ?_
  exact W.iret (v := (-1)) hx hb hr (fun t ht hW => ⟨⟨(-1), (), rfl, rfl, trivial⟩, hS.F ht⟩) hS.2.2 dX11_tree_15
abbrev w0_c_X11_first (cI : ClassId) (h0 : Nat) (r : Nat → Nat) (p0 : Int32) : va_W := [(h0, .inr (11, [.ref (r 0), .ref (r 1), .ref (r 2), .ref (r 3), .ref (r 4), .ref (r 5), .ref (r 6), .ref (r 7), .ref (r 8), .ref (r 9), .ref (r 10), .ref (r 11), .ref (r 12), .ref (r 13), .int 1])), ((r 10), .inr (9, [.ref (r 26), .ref (r 27), .ref (r 28), .ref (r 29), .ref (r 30), .ref (r 31), .int 0, .int 0, .int 0, .int 0, .int 0]))]
set_option maxHeartbeats 4000000 in
set_option maxRecDepth 100000 in
theorem c_X11_first (l : Launch) (dC : Nat → ClassId) (dI : Nat → Nat → Nat) (cI cJ : ClassId) (h0 : Nat) (r : Nat → Nat) (p0 : Int32) (sz : Nat) : Met l yX11_first wsX11_first ({ frames := 2, cells := 0, slots := 0, locals := 80 }) (va_Pc [.ref h0, .int p0] (mPre dC dI cI cJ sz (w0_c_X11_first cI h0 r p0))) (va_Qi (fun (r : Int32) (u : Unit) => r = -1) (fun _ _ => True) (va_A (w0_c_X11_first cI h0 r p0) sz)) 0 0 (va_A (w0_c_X11_first cI h0 r p0) sz) := by
  refine Met.ofW (cc := cX11_first) (maxL := 2) (ret := (some .int)) (by decide) rfl ?_
  intro p e s m args below meth c s₁ B hml hv
  obtain ⟨rfl, hsz, hP, hK, hD0, hN⟩ := hv
  have hx := B.exec
  have hb := B.bytes
  have hr := B.returns
  have hts := atoms_spec (ws := wsX11_first) B.pre
  have hown : s.vm.findClass RX11 = some m.cls := findClass_of_methodNamed B.named
  have hlocks := B.notSynchronized
  have h_in_X11 : ∀ w ∈ wsX110, w ∈ wsX11_first := fun w h => List.mem_cons_of_mem _ (List.mem_append_left _ (List.mem_append_left _ (List.mem_append_left _ (List.mem_append_left _ (List.mem_append_left _ (List.mem_append_right _ h))))))
  have h_in_X9 : ∀ w ∈ wsX90, w ∈ wsX11_first := fun w h => List.mem_cons_of_mem _ (List.mem_append_left _ (List.mem_append_left _ (List.mem_append_left _ (List.mem_append_left _ (List.mem_append_right _ h)))))
  have h_in_X10 : ∀ w ∈ wsX100, w ∈ wsX11_first := fun w h => List.mem_cons_of_mem _ (List.mem_append_left _ (List.mem_append_left _ (List.mem_append_left _ (List.mem_append_right _ h))))
  have h_in_X5 : ∀ w ∈ wsX50, w ∈ wsX11_first := fun w h => List.mem_cons_of_mem _ (List.mem_append_left _ (List.mem_append_left _ (List.mem_append_right _ h)))
  have h_in_X2 : ∀ w ∈ wsX20, w ∈ wsX11_first := fun w h => List.mem_cons_of_mem _ (List.mem_append_left _ (List.mem_append_right _ h))
  have h_in_X4 : ∀ w ∈ wsX40, w ∈ wsX11_first := fun w h => List.mem_cons_of_mem _ (List.mem_append_right _ h)
  subst hsz
  have hD := hD0.self (sz := s.heap.size)
  generalize hAe : va_A (w0_c_X11_first cI h0 r p0) s.heap.size = A at hD ⊢
  have hA : ∀ q : Nat, s.heap.size ≤ q → A q := fun q h => by rw [← hAe]; exact Or.inr h
  have hS : va_S A s.heap s.heap [] := va_S.rf
  have hP : va_P (dC, dI) vwCl [(h0, .inr (11, [.ref (r 0), .ref (r 1), .ref (r 2), .ref (r 3), .ref (r 4), .ref (r 5), .ref (r 6), .ref (r 7), .ref (r 8), .ref (r 9), .ref (r 10), .ref (r 11), .ref (r 12), .ref (r 13), .int 1])), ((r 10), .inr (9, [.ref (r 26), .ref (r 27), .ref (r 28), .ref (r 29), .ref (r 30), .ref (r 31), .int 0, .int 0, .int 0, .int 0, .int 0]))] s.heap := hP
  have hD : va_D A [(h0, .inr (11, [.ref (r 0), .ref (r 1), .ref (r 2), .ref (r 3), .ref (r 4), .ref (r 5), .ref (r 6), .ref (r 7), .ref (r 8), .ref (r 9), .ref (r 10), .ref (r 11), .ref (r 12), .ref (r 13), .int 1])), ((r 10), .inr (9, [.ref (r 26), .ref (r 27), .ref (r 28), .ref (r 29), .ref (r 30), .ref (r 31), .int 0, .int 0, .int 0, .int 0, .int 0]))] := hD
  have hl := lv_entry ([.ref h0, .int p0]) (n := 2) (Nat.le_of_ble_eq_true rfl)
  rw [lg_entry_eq]
  generalize (lg_sl ([.ref h0, .int p0]) ++ List.replicate (2 - (lg_sl ([.ref h0, .int p0])).length) Slot.unset).toArray = ls at hl ⊢
  have hl : lv_has ls 2 [(0, .ref h0), (1, .int p0)] := hl
  refine lv_aload_n hx hb dX11_first_0 rfl (lv_at hl 0 rfl) ?_
  have hPc := hP.sub (ws' := [(h0, .inr (11, [.ref (r 0), .ref (r 1), .ref (r 2), .ref (r 3), .ref (r 4), .ref (r 5), .ref (r 6), .ref (r 7), .ref (r 8), .ref (r 9), .ref (r 10), .ref (r 11), .ref (r 12), .ref (r 13), .int 1])), ((r 10), .inr (9, [.ref (r 26), .ref (r 27), .ref (r 28), .ref (r 29), .ref (r 30), .ref (r 31), .int 0, .int 0, .int 0, .int 0, .int 0]))]) [0, 1] rfl
  have hDc := hD.sub (ws' := [(h0, .inr (11, [.ref (r 0), .ref (r 1), .ref (r 2), .ref (r 3), .ref (r 4), .ref (r 5), .ref (r 6), .ref (r 7), .ref (r 8), .ref (r 9), .ref (r 10), .ref (r 11), .ref (r 12), .ref (r 13), .int 1])), ((r 10), .inr (9, [.ref (r 26), .ref (r 27), .ref (r 28), .ref (r 29), .ref (r 30), .ref (r 31), .int 0, .int 0, .int 0, .int 0, .int 0]))]) [0, 1] (by decide) rfl
  have hFc := va_free (wc := [(h0, .inr (11, [.ref (r 0), .ref (r 1), .ref (r 2), .ref (r 3), .ref (r 4), .ref (r 5), .ref (r 6), .ref (r 7), .ref (r 8), .ref (r 9), .ref (r 10), .ref (r 11), .ref (r 12), .ref (r 13), .int 1])), ((r 10), .inr (9, [.ref (r 26), .ref (r 27), .ref (r 28), .ref (r 29), .ref (r 30), .ref (r 31), .int 0, .int 0, .int 0, .int 0, .int 0]))]) hD hS hA [0, 1] rfl
  refine va_calli (va_runV (As := []) (rest := []) ⟨hx, hb, hml, hown, hts⟩ (c_X11_matched l dC dI cI cJ h0 r s.heap.size) (cwV 0 hts gX11_first_X11_matched rfl rfl rfl (by decide +kernel) ⟨Nat.le_of_ble_eq_true rfl, Nat.le_of_ble_eq_true rfl⟩) ⟨mBlind, va_recv hK hPc (ci := 11) (q0 := 0) rfl rfl, mGo hPc hK hDc hN⟩ rfl rfl hl.1 rfl (lv_room (Nat.le_of_ble_eq_true rfl)) dX11_first_1 ⟨Nat.le_of_ble_eq_true rfl, Nat.le_of_ble_eq_true rfl⟩) hS (fun q _ h => hFc q h) hFc (fun r_1 u t H1 locs ht hvm hw hB hz1 hk1 hS => ?_)
  obtain ⟨hP1, hD1⟩ := hB
  obtain rfl : r_1 = 0 := hw
  rw [ht] at hP1
  obtain ⟨hP, hD⟩ := va_join (wr := []) (w1 := [(h0, .inr (11, [.ref (r 0), .ref (r 1), .ref (r 2), .ref (r 3), .ref (r 4), .ref (r 5), .ref (r 6), .ref (r 7), .ref (r 8), .ref (r 9), .ref (r 10), .ref (r 11), .ref (r 12), .ref (r 13), .int 1])), ((r 10), .inr (9, [.ref (r 26), .ref (r 27), .ref (r 28), .ref (r 29), .ref (r 30), .ref (r 31), .int 0, .int 0, .int 0, .int 0, .int 0]))]) hP hD [0, 1] [] rfl rfl (by decide) (by decide) hk1 hFc hP1 hD1
  generalize H1 = H at hP hS ⊢
  have hP : va_P (dC, dI) vwCl [(h0, .inr (11, [.ref (r 0), .ref (r 1), .ref (r 2), .ref (r 3), .ref (r 4), .ref (r 5), .ref (r 6), .ref (r 7), .ref (r 8), .ref (r 9), .ref (r 10), .ref (r 11), .ref (r 12), .ref (r 13), .int 1])), ((r 10), .inr (9, [.ref (r 26), .ref (r 27), .ref (r 28), .ref (r 29), .ref (r 30), .ref (r 31), .int 0, .int 0, .int 0, .int 0, .int 0]))] H := hP
  have hD : va_D A [(h0, .inr (11, [.ref (r 0), .ref (r 1), .ref (r 2), .ref (r 3), .ref (r 4), .ref (r 5), .ref (r 6), .ref (r 7), .ref (r 8), .ref (r 9), .ref (r 10), .ref (r 11), .ref (r 12), .ref (r 13), .int 1])), ((r 10), .inr (9, [.ref (r 26), .ref (r 27), .ref (r 28), .ref (r 29), .ref (r 30), .ref (r 31), .int 0, .int 0, .int 0, .int 0, .int 0]))] := hD
  refine lv_if_eq (tgt := 14) hx hb dX11_first_4 (by decide) (fun _ => ?_) (fun c => absurd (by decide) c)
  refine lv_iconst (v := (-1)) hx hb dX11_first_14 (by decide) ?_
  exact W.iret (v := (-1)) hx hb hr (fun t ht hW => ⟨⟨(-1), (), rfl, rfl, trivial⟩, hS.F ht⟩) hS.2.2 dX11_first_15
abbrev w0_c_X11_scopes (cI : ClassId) (h0 : Nat) (r : Nat → Nat) (p0 p1 p2 : Int32) : va_W := [(h0, .inr (11, [.ref (r 0), .ref (r 1), .ref (r 2), .ref (r 3), .ref (r 4), .ref (r 5), .ref (r 6), .ref (r 7), .ref (r 8), .ref (r 9), .ref (r 10), .ref (r 11), .ref (r 12), .ref (r 13), .int 1])), ((r 10), .inr (9, [.ref (r 26), .ref (r 27), .ref (r 28), .ref (r 29), .ref (r 30), .ref (r 31), .int 0, .int 0, .int 0, .int 0, .int 0]))]
set_option maxHeartbeats 4000000 in
set_option maxRecDepth 100000 in
theorem c_X11_scopes (l : Launch) (dC : Nat → ClassId) (dI : Nat → Nat → Nat) (cI cJ : ClassId) (h0 : Nat) (r : Nat → Nat) (p0 p1 p2 : Int32) (sz : Nat) : Met l yX11_scopes wsX11_scopes ({ frames := 2, cells := 0, slots := 0, locals := 80 }) (va_Pc [.ref h0, .int p0, .int p1, .int p2] (mPre dC dI cI cJ sz (w0_c_X11_scopes cI h0 r p0 p1 p2))) (va_Qi (fun (r : Int32) (u : Unit) => r = -1) (fun _ _ => True) (va_A (w0_c_X11_scopes cI h0 r p0 p1 p2) sz)) 0 0 (va_A (w0_c_X11_scopes cI h0 r p0 p1 p2) sz) := by
  refine Met.ofW (cc := cX11_scopes) (maxL := 4) (ret := (some .int)) (by decide) rfl ?_
  intro p e s m args below meth c s₁ B hml hv
  obtain ⟨rfl, hsz, hP, hK, hD0, hN⟩ := hv
  have hx := B.exec
  have hb := B.bytes
  have hr := B.returns
  have hts := atoms_spec (ws := wsX11_scopes) B.pre
  have hown : s.vm.findClass RX11 = some m.cls := findClass_of_methodNamed B.named
  have hlocks := B.notSynchronized
  have h_in_X11 : ∀ w ∈ wsX110, w ∈ wsX11_scopes := fun w h => List.mem_cons_of_mem _ (List.mem_append_left _ (List.mem_append_left _ (List.mem_append_left _ (List.mem_append_left _ (List.mem_append_left _ (List.mem_append_right _ h))))))
  have h_in_X10 : ∀ w ∈ wsX100, w ∈ wsX11_scopes := fun w h => List.mem_cons_of_mem _ (List.mem_append_left _ (List.mem_append_left _ (List.mem_append_left _ (List.mem_append_left _ (List.mem_append_right _ h)))))
  have h_in_X9 : ∀ w ∈ wsX90, w ∈ wsX11_scopes := fun w h => List.mem_cons_of_mem _ (List.mem_append_left _ (List.mem_append_left _ (List.mem_append_left _ (List.mem_append_right _ h))))
  have h_in_X5 : ∀ w ∈ wsX50, w ∈ wsX11_scopes := fun w h => List.mem_cons_of_mem _ (List.mem_append_left _ (List.mem_append_left _ (List.mem_append_right _ h)))
  have h_in_X2 : ∀ w ∈ wsX20, w ∈ wsX11_scopes := fun w h => List.mem_cons_of_mem _ (List.mem_append_left _ (List.mem_append_right _ h))
  have h_in_X4 : ∀ w ∈ wsX40, w ∈ wsX11_scopes := fun w h => List.mem_cons_of_mem _ (List.mem_append_right _ h)
  subst hsz
  have hD := hD0.self (sz := s.heap.size)
  generalize hAe : va_A (w0_c_X11_scopes cI h0 r p0 p1 p2) s.heap.size = A at hD ⊢
  have hA : ∀ q : Nat, s.heap.size ≤ q → A q := fun q h => by rw [← hAe]; exact Or.inr h
  have hS : va_S A s.heap s.heap [] := va_S.rf
  have hP : va_P (dC, dI) vwCl [(h0, .inr (11, [.ref (r 0), .ref (r 1), .ref (r 2), .ref (r 3), .ref (r 4), .ref (r 5), .ref (r 6), .ref (r 7), .ref (r 8), .ref (r 9), .ref (r 10), .ref (r 11), .ref (r 12), .ref (r 13), .int 1])), ((r 10), .inr (9, [.ref (r 26), .ref (r 27), .ref (r 28), .ref (r 29), .ref (r 30), .ref (r 31), .int 0, .int 0, .int 0, .int 0, .int 0]))] s.heap := hP
  have hD : va_D A [(h0, .inr (11, [.ref (r 0), .ref (r 1), .ref (r 2), .ref (r 3), .ref (r 4), .ref (r 5), .ref (r 6), .ref (r 7), .ref (r 8), .ref (r 9), .ref (r 10), .ref (r 11), .ref (r 12), .ref (r 13), .int 1])), ((r 10), .inr (9, [.ref (r 26), .ref (r 27), .ref (r 28), .ref (r 29), .ref (r 30), .ref (r 31), .int 0, .int 0, .int 0, .int 0, .int 0]))] := hD
  have hl := lv_entry ([.ref h0, .int p0, .int p1, .int p2]) (n := 4) (Nat.le_of_ble_eq_true rfl)
  rw [lg_entry_eq]
  generalize (lg_sl ([.ref h0, .int p0, .int p1, .int p2]) ++ List.replicate (4 - (lg_sl ([.ref h0, .int p0, .int p1, .int p2])).length) Slot.unset).toArray = ls at hl ⊢
  have hl : lv_has ls 4 [(0, .ref h0), (1, .int p0), (2, .int p1), (3, .int p2)] := hl
  refine lv_aload_n hx hb dX11_scopes_0 rfl (lv_at hl 0 rfl) ?_
  have hPc := hP.sub (ws' := [(h0, .inr (11, [.ref (r 0), .ref (r 1), .ref (r 2), .ref (r 3), .ref (r 4), .ref (r 5), .ref (r 6), .ref (r 7), .ref (r 8), .ref (r 9), .ref (r 10), .ref (r 11), .ref (r 12), .ref (r 13), .int 1])), ((r 10), .inr (9, [.ref (r 26), .ref (r 27), .ref (r 28), .ref (r 29), .ref (r 30), .ref (r 31), .int 0, .int 0, .int 0, .int 0, .int 0]))]) [0, 1] rfl
  have hDc := hD.sub (ws' := [(h0, .inr (11, [.ref (r 0), .ref (r 1), .ref (r 2), .ref (r 3), .ref (r 4), .ref (r 5), .ref (r 6), .ref (r 7), .ref (r 8), .ref (r 9), .ref (r 10), .ref (r 11), .ref (r 12), .ref (r 13), .int 1])), ((r 10), .inr (9, [.ref (r 26), .ref (r 27), .ref (r 28), .ref (r 29), .ref (r 30), .ref (r 31), .int 0, .int 0, .int 0, .int 0, .int 0]))]) [0, 1] (by decide) rfl
  have hFc := va_free (wc := [(h0, .inr (11, [.ref (r 0), .ref (r 1), .ref (r 2), .ref (r 3), .ref (r 4), .ref (r 5), .ref (r 6), .ref (r 7), .ref (r 8), .ref (r 9), .ref (r 10), .ref (r 11), .ref (r 12), .ref (r 13), .int 1])), ((r 10), .inr (9, [.ref (r 26), .ref (r 27), .ref (r 28), .ref (r 29), .ref (r 30), .ref (r 31), .int 0, .int 0, .int 0, .int 0, .int 0]))]) hD hS hA [0, 1] rfl
  refine va_calli (va_runV (As := []) (rest := []) ⟨hx, hb, hml, hown, hts⟩ (c_X11_matched l dC dI cI cJ h0 r s.heap.size) (cwV 0 hts gX11_scopes_X11_matched rfl rfl rfl (by decide +kernel) ⟨Nat.le_of_ble_eq_true rfl, Nat.le_of_ble_eq_true rfl⟩) ⟨mBlind, va_recv hK hPc (ci := 11) (q0 := 0) rfl rfl, mGo hPc hK hDc hN⟩ rfl rfl hl.1 rfl (lv_room (Nat.le_of_ble_eq_true rfl)) dX11_scopes_1 ⟨Nat.le_of_ble_eq_true rfl, Nat.le_of_ble_eq_true rfl⟩) hS (fun q _ h => hFc q h) hFc (fun r_1 u t H1 locs ht hvm hw hB hz1 hk1 hS => ?_)
  obtain ⟨hP1, hD1⟩ := hB
  obtain rfl : r_1 = 0 := hw
  rw [ht] at hP1
  obtain ⟨hP, hD⟩ := va_join (wr := []) (w1 := [(h0, .inr (11, [.ref (r 0), .ref (r 1), .ref (r 2), .ref (r 3), .ref (r 4), .ref (r 5), .ref (r 6), .ref (r 7), .ref (r 8), .ref (r 9), .ref (r 10), .ref (r 11), .ref (r 12), .ref (r 13), .int 1])), ((r 10), .inr (9, [.ref (r 26), .ref (r 27), .ref (r 28), .ref (r 29), .ref (r 30), .ref (r 31), .int 0, .int 0, .int 0, .int 0, .int 0]))]) hP hD [0, 1] [] rfl rfl (by decide) (by decide) hk1 hFc hP1 hD1
  generalize H1 = H at hP hS ⊢
  have hP : va_P (dC, dI) vwCl [(h0, .inr (11, [.ref (r 0), .ref (r 1), .ref (r 2), .ref (r 3), .ref (r 4), .ref (r 5), .ref (r 6), .ref (r 7), .ref (r 8), .ref (r 9), .ref (r 10), .ref (r 11), .ref (r 12), .ref (r 13), .int 1])), ((r 10), .inr (9, [.ref (r 26), .ref (r 27), .ref (r 28), .ref (r 29), .ref (r 30), .ref (r 31), .int 0, .int 0, .int 0, .int 0, .int 0]))] H := hP
  have hD : va_D A [(h0, .inr (11, [.ref (r 0), .ref (r 1), .ref (r 2), .ref (r 3), .ref (r 4), .ref (r 5), .ref (r 6), .ref (r 7), .ref (r 8), .ref (r 9), .ref (r 10), .ref (r 11), .ref (r 12), .ref (r 13), .int 1])), ((r 10), .inr (9, [.ref (r 26), .ref (r 27), .ref (r 28), .ref (r 29), .ref (r 30), .ref (r 31), .int 0, .int 0, .int 0, .int 0, .int 0]))] := hD
  refine lv_if_eq (tgt := 14) hx hb dX11_scopes_4 (by decide) (fun _ => ?_) (fun c => absurd (by decide) c)
  refine lv_iconst (v := (-1)) hx hb dX11_scopes_14 (by decide) ?_
  exact W.iret (v := (-1)) hx hb hr (fun t ht hW => ⟨⟨(-1), (), rfl, rfl, trivial⟩, hS.F ht⟩) hS.2.2 dX11_scopes_15
abbrev w0_c_X11_safe (cI : ClassId) (h0 : Nat) (r : Nat → Nat) (p0 p1 : Int32) : va_W := [(h0, .inr (11, [.ref (r 0), .ref (r 1), .ref (r 2), .ref (r 3), .ref (r 4), .ref (r 5), .ref (r 6), .ref (r 7), .ref (r 8), .ref (r 9), .ref (r 10), .ref (r 11), .ref (r 12), .ref (r 13), .int 1])), ((r 5), .inr (5, [.ref (r 16), .int 0, .int 0, .int 0]))]
set_option maxHeartbeats 4000000 in
set_option maxRecDepth 100000 in
theorem c_X11_safe (l : Launch) (dC : Nat → ClassId) (dI : Nat → Nat → Nat) (cI cJ : ClassId) (h0 : Nat) (r : Nat → Nat) (p0 p1 : Int32) (sz : Nat) : Met l yX11_safe wsX11_safe ({ frames := 2, cells := 0, slots := 0, locals := 81 }) (va_Pc [.ref h0, .int p0, .int p1] (mPre dC dI cI cJ sz (w0_c_X11_safe cI h0 r p0 p1))) (va_Qi (fun (r : Int32) (u : Unit) => r = -1) (fun _ _ => True) (va_A (w0_c_X11_safe cI h0 r p0 p1) sz)) 0 0 (va_A (w0_c_X11_safe cI h0 r p0 p1) sz) := by
  refine Met.ofW (cc := cX11_safe) (maxL := 3) (ret := (some .int)) (by decide) rfl ?_
  intro p e s m args below meth c s₁ B hml hv
  obtain ⟨rfl, hsz, hP, hK, hD0, hN⟩ := hv
  have hx := B.exec
  have hb := B.bytes
  have hr := B.returns
  have hts := atoms_spec (ws := wsX11_safe) B.pre
  have hown : s.vm.findClass RX11 = some m.cls := findClass_of_methodNamed B.named
  have hlocks := B.notSynchronized
  have h_in_X11 : ∀ w ∈ wsX110, w ∈ wsX11_safe := fun w h => List.mem_cons_of_mem _ (List.mem_append_left _ (List.mem_append_left _ (List.mem_append_left _ (List.mem_append_right _ h))))
  have h_in_X5 : ∀ w ∈ wsX50, w ∈ wsX11_safe := fun w h => List.mem_cons_of_mem _ (List.mem_append_left _ (List.mem_append_left _ (List.mem_append_right _ h)))
  have h_in_X2 : ∀ w ∈ wsX20, w ∈ wsX11_safe := fun w h => List.mem_cons_of_mem _ (List.mem_append_left _ (List.mem_append_right _ h))
  have h_in_X9 : ∀ w ∈ wsX90, w ∈ wsX11_safe := fun w h => List.mem_cons_of_mem _ (List.mem_append_right _ h)
  subst hsz
  have hD := hD0.self (sz := s.heap.size)
  generalize hAe : va_A (w0_c_X11_safe cI h0 r p0 p1) s.heap.size = A at hD ⊢
  have hA : ∀ q : Nat, s.heap.size ≤ q → A q := fun q h => by rw [← hAe]; exact Or.inr h
  have hS : va_S A s.heap s.heap [] := va_S.rf
  have hP : va_P (dC, dI) vwCl [(h0, .inr (11, [.ref (r 0), .ref (r 1), .ref (r 2), .ref (r 3), .ref (r 4), .ref (r 5), .ref (r 6), .ref (r 7), .ref (r 8), .ref (r 9), .ref (r 10), .ref (r 11), .ref (r 12), .ref (r 13), .int 1])), ((r 5), .inr (5, [.ref (r 16), .int 0, .int 0, .int 0]))] s.heap := hP
  have hD : va_D A [(h0, .inr (11, [.ref (r 0), .ref (r 1), .ref (r 2), .ref (r 3), .ref (r 4), .ref (r 5), .ref (r 6), .ref (r 7), .ref (r 8), .ref (r 9), .ref (r 10), .ref (r 11), .ref (r 12), .ref (r 13), .int 1])), ((r 5), .inr (5, [.ref (r 16), .int 0, .int 0, .int 0]))] := hD
  have hl := lv_entry ([.ref h0, .int p0, .int p1]) (n := 3) (Nat.le_of_ble_eq_true rfl)
  rw [lg_entry_eq]
  generalize (lg_sl ([.ref h0, .int p0, .int p1]) ++ List.replicate (3 - (lg_sl ([.ref h0, .int p0, .int p1])).length) Slot.unset).toArray = ls at hl ⊢
  have hl : lv_has ls 3 [(0, .ref h0), (1, .int p0), (2, .int p1)] := hl
  refine lv_aload_n hx hb dX11_safe_0 rfl (lv_at hl 0 rfl) ?_
  refine va_get (D := (dC, dI)) (ci := 11) (v := .ref (r 5)) (C := RX11) (T := TX11) (N := 15) hx hb hts h_in_X11 hown hK hP 0 rfl rfl 5 (by decide) (hts (.fieldLink RX11 43 "MatchTrees" "order" "LMatchTrees$Order;") (by decide +kernel)) (fun _ h9 => h9) rfl dX11_safe_1 ?_
  refine lv_iload_n hx hb dX11_safe_4 rfl (lv_at hl 1 rfl) ?_
  have hPc := hP.sub (ws' := [((r 5), .inr (5, [.ref (r 16), .int 0, .int 0, .int 0]))]) [1] rfl
  have hDc := hD.sub (ws' := [((r 5), .inr (5, [.ref (r 16), .int 0, .int 0, .int 0]))]) [1] (by decide) rfl
  have hFc := va_free (wc := [((r 5), .inr (5, [.ref (r 16), .int 0, .int 0, .int 0]))]) hD hS hA [1] rfl
  refine va_calli (va_runV (As := [.int p0]) (rest := []) ⟨hx, hb, hml, hown, hts⟩ (c_X5_isPlace l dC dI cI cJ h0 r p0 s.heap.size) (cwV 1 hts gX11_safe_X5_isPlace rfl rfl rfl (by decide +kernel) ⟨Nat.le_of_ble_eq_true rfl, Nat.le_of_ble_eq_true rfl⟩) ⟨mBlind, va_recv hK hPc (ci := 5) (q0 := 0) rfl rfl, mGo hPc hK hDc hN⟩ rfl rfl hl.1 rfl (lv_room (Nat.le_of_ble_eq_true rfl)) dX11_safe_5 ⟨Nat.le_of_ble_eq_true rfl, Nat.le_of_ble_eq_true rfl⟩) hS (fun q _ h => hFc q h) hFc (fun r_1 u t H1 locs ht hvm hw hB hz1 hk1 hS => ?_)
  obtain ⟨hP1, hD1⟩ := hB
  obtain rfl : r_1 = 0 := hw
  rw [ht] at hP1
  obtain ⟨hP, hD⟩ := va_join (wr := [(h0, .inr (11, [.ref (r 0), .ref (r 1), .ref (r 2), .ref (r 3), .ref (r 4), .ref (r 5), .ref (r 6), .ref (r 7), .ref (r 8), .ref (r 9), .ref (r 10), .ref (r 11), .ref (r 12), .ref (r 13), .int 1]))]) (w1 := [((r 5), .inr (5, [.ref (r 16), .int 0, .int 0, .int 0]))]) hP hD [1] [0] rfl rfl (by decide) (by decide) hk1 hFc hP1 hD1
  generalize H1 = H at hP hS ⊢
  have hP : va_P (dC, dI) vwCl [(h0, .inr (11, [.ref (r 0), .ref (r 1), .ref (r 2), .ref (r 3), .ref (r 4), .ref (r 5), .ref (r 6), .ref (r 7), .ref (r 8), .ref (r 9), .ref (r 10), .ref (r 11), .ref (r 12), .ref (r 13), .int 1])), ((r 5), .inr (5, [.ref (r 16), .int 0, .int 0, .int 0]))] H := hP
  have hD : va_D A [(h0, .inr (11, [.ref (r 0), .ref (r 1), .ref (r 2), .ref (r 3), .ref (r 4), .ref (r 5), .ref (r 6), .ref (r 7), .ref (r 8), .ref (r 9), .ref (r 10), .ref (r 11), .ref (r 12), .ref (r 13), .int 1])), ((r 5), .inr (5, [.ref (r 16), .int 0, .int 0, .int 0]))] := hD
  refine lv_if_eq (tgt := 22) hx hb dX11_safe_8 (by decide) (fun _ => ?_) (fun c => absurd (by decide) c)
  refine lv_iconst (v := (-1)) hx hb dX11_safe_22 (by decide) ?_
  exact W.iret (v := (-1)) hx hb hr (fun t ht hW => ⟨⟨(-1), (), rfl, rfl, trivial⟩, hS.F ht⟩) hS.2.2 dX11_safe_23
abbrev w0_c_X11_best (cI : ClassId) (h0 : Nat) (r : Nat → Nat) (p0 : Int32) : va_W := [(h0, .inr (11, [.ref (r 0), .ref (r 1), .ref (r 2), .ref (r 3), .ref (r 4), .ref (r 5), .ref (r 6), .ref (r 7), .ref (r 8), .ref (r 9), .ref (r 10), .ref (r 11), .ref (r 12), .ref (r 13), .int 1])), ((r 10), .inr (9, [.ref (r 26), .ref (r 27), .ref (r 28), .ref (r 29), .ref (r 30), .ref (r 31), .int 0, .int 0, .int 0, .int 0, .int 0]))]
set_option maxHeartbeats 4000000 in
set_option maxRecDepth 100000 in
theorem c_X11_best (l : Launch) (dC : Nat → ClassId) (dI : Nat → Nat → Nat) (cI cJ : ClassId) (h0 : Nat) (r : Nat → Nat) (p0 : Int32) (sz : Nat) : Met l yX11_best wsX11_best ({ frames := 2, cells := 0, slots := 0, locals := 80 }) (va_Pc [.ref h0, .int p0] (mPre dC dI cI cJ sz (w0_c_X11_best cI h0 r p0))) (va_Qi (fun (r : Int32) (u : Unit) => r = -1) (fun _ _ => True) (va_A (w0_c_X11_best cI h0 r p0) sz)) 0 0 (va_A (w0_c_X11_best cI h0 r p0) sz) := by
  refine Met.ofW (cc := cX11_best) (maxL := 6) (ret := (some .int)) (by decide) rfl ?_
  intro p e s m args below meth c s₁ B hml hv
  obtain ⟨rfl, hsz, hP, hK, hD0, hN⟩ := hv
  have hx := B.exec
  have hb := B.bytes
  have hr := B.returns
  have hts := atoms_spec (ws := wsX11_best) B.pre
  have hown : s.vm.findClass RX11 = some m.cls := findClass_of_methodNamed B.named
  have hlocks := B.notSynchronized
  have h_in_X11 : ∀ w ∈ wsX110, w ∈ wsX11_best := fun w h => List.mem_cons_of_mem _ (List.mem_append_left _ (List.mem_append_left _ (List.mem_append_left _ (List.mem_append_left _ (List.mem_append_left _ (List.mem_append_right _ h))))))
  have h_in_X5 : ∀ w ∈ wsX50, w ∈ wsX11_best := fun w h => List.mem_cons_of_mem _ (List.mem_append_left _ (List.mem_append_left _ (List.mem_append_left _ (List.mem_append_left _ (List.mem_append_right _ h)))))
  have h_in_X9 : ∀ w ∈ wsX90, w ∈ wsX11_best := fun w h => List.mem_cons_of_mem _ (List.mem_append_left _ (List.mem_append_left _ (List.mem_append_left _ (List.mem_append_right _ h))))
  have h_in_X10 : ∀ w ∈ wsX100, w ∈ wsX11_best := fun w h => List.mem_cons_of_mem _ (List.mem_append_left _ (List.mem_append_left _ (List.mem_append_right _ h)))
  have h_in_X2 : ∀ w ∈ wsX20, w ∈ wsX11_best := fun w h => List.mem_cons_of_mem _ (List.mem_append_left _ (List.mem_append_right _ h))
  have h_in_X4 : ∀ w ∈ wsX40, w ∈ wsX11_best := fun w h => List.mem_cons_of_mem _ (List.mem_append_right _ h)
  subst hsz
  have hD := hD0.self (sz := s.heap.size)
  generalize hAe : va_A (w0_c_X11_best cI h0 r p0) s.heap.size = A at hD ⊢
  have hA : ∀ q : Nat, s.heap.size ≤ q → A q := fun q h => by rw [← hAe]; exact Or.inr h
  have hS : va_S A s.heap s.heap [] := va_S.rf
  have hP : va_P (dC, dI) vwCl [(h0, .inr (11, [.ref (r 0), .ref (r 1), .ref (r 2), .ref (r 3), .ref (r 4), .ref (r 5), .ref (r 6), .ref (r 7), .ref (r 8), .ref (r 9), .ref (r 10), .ref (r 11), .ref (r 12), .ref (r 13), .int 1])), ((r 10), .inr (9, [.ref (r 26), .ref (r 27), .ref (r 28), .ref (r 29), .ref (r 30), .ref (r 31), .int 0, .int 0, .int 0, .int 0, .int 0]))] s.heap := hP
  have hD : va_D A [(h0, .inr (11, [.ref (r 0), .ref (r 1), .ref (r 2), .ref (r 3), .ref (r 4), .ref (r 5), .ref (r 6), .ref (r 7), .ref (r 8), .ref (r 9), .ref (r 10), .ref (r 11), .ref (r 12), .ref (r 13), .int 1])), ((r 10), .inr (9, [.ref (r 26), .ref (r 27), .ref (r 28), .ref (r 29), .ref (r 30), .ref (r 31), .int 0, .int 0, .int 0, .int 0, .int 0]))] := hD
  have hl := lv_entry ([.ref h0, .int p0]) (n := 6) (Nat.le_of_ble_eq_true rfl)
  rw [lg_entry_eq]
  generalize (lg_sl ([.ref h0, .int p0]) ++ List.replicate (6 - (lg_sl ([.ref h0, .int p0])).length) Slot.unset).toArray = ls at hl ⊢
  have hl : lv_has ls 6 [(0, .ref h0), (1, .int p0)] := hl
  refine lv_aload_n hx hb dX11_best_0 rfl (lv_at hl 0 rfl) ?_
  have hPc := hP.sub (ws' := [(h0, .inr (11, [.ref (r 0), .ref (r 1), .ref (r 2), .ref (r 3), .ref (r 4), .ref (r 5), .ref (r 6), .ref (r 7), .ref (r 8), .ref (r 9), .ref (r 10), .ref (r 11), .ref (r 12), .ref (r 13), .int 1])), ((r 10), .inr (9, [.ref (r 26), .ref (r 27), .ref (r 28), .ref (r 29), .ref (r 30), .ref (r 31), .int 0, .int 0, .int 0, .int 0, .int 0]))]) [0, 1] rfl
  have hDc := hD.sub (ws' := [(h0, .inr (11, [.ref (r 0), .ref (r 1), .ref (r 2), .ref (r 3), .ref (r 4), .ref (r 5), .ref (r 6), .ref (r 7), .ref (r 8), .ref (r 9), .ref (r 10), .ref (r 11), .ref (r 12), .ref (r 13), .int 1])), ((r 10), .inr (9, [.ref (r 26), .ref (r 27), .ref (r 28), .ref (r 29), .ref (r 30), .ref (r 31), .int 0, .int 0, .int 0, .int 0, .int 0]))]) [0, 1] (by decide) rfl
  have hFc := va_free (wc := [(h0, .inr (11, [.ref (r 0), .ref (r 1), .ref (r 2), .ref (r 3), .ref (r 4), .ref (r 5), .ref (r 6), .ref (r 7), .ref (r 8), .ref (r 9), .ref (r 10), .ref (r 11), .ref (r 12), .ref (r 13), .int 1])), ((r 10), .inr (9, [.ref (r 26), .ref (r 27), .ref (r 28), .ref (r 29), .ref (r 30), .ref (r 31), .int 0, .int 0, .int 0, .int 0, .int 0]))]) hD hS hA [0, 1] rfl
  refine va_calli (va_runV (As := []) (rest := []) ⟨hx, hb, hml, hown, hts⟩ (c_X11_matched l dC dI cI cJ h0 r s.heap.size) (cwV 0 hts gX11_best_X11_matched rfl rfl rfl (by decide +kernel) ⟨Nat.le_of_ble_eq_true rfl, Nat.le_of_ble_eq_true rfl⟩) ⟨mBlind, va_recv hK hPc (ci := 11) (q0 := 0) rfl rfl, mGo hPc hK hDc hN⟩ rfl rfl hl.1 rfl (lv_room (Nat.le_of_ble_eq_true rfl)) dX11_best_1 ⟨Nat.le_of_ble_eq_true rfl, Nat.le_of_ble_eq_true rfl⟩) hS (fun q _ h => hFc q h) hFc (fun r_1 u t H1 locs ht hvm hw hB hz1 hk1 hS => ?_)
  obtain ⟨hP1, hD1⟩ := hB
  obtain rfl : r_1 = 0 := hw
  rw [ht] at hP1
  obtain ⟨hP, hD⟩ := va_join (wr := []) (w1 := [(h0, .inr (11, [.ref (r 0), .ref (r 1), .ref (r 2), .ref (r 3), .ref (r 4), .ref (r 5), .ref (r 6), .ref (r 7), .ref (r 8), .ref (r 9), .ref (r 10), .ref (r 11), .ref (r 12), .ref (r 13), .int 1])), ((r 10), .inr (9, [.ref (r 26), .ref (r 27), .ref (r 28), .ref (r 29), .ref (r 30), .ref (r 31), .int 0, .int 0, .int 0, .int 0, .int 0]))]) hP hD [0, 1] [] rfl rfl (by decide) (by decide) hk1 hFc hP1 hD1
  generalize H1 = H at hP hS ⊢
  have hP : va_P (dC, dI) vwCl [(h0, .inr (11, [.ref (r 0), .ref (r 1), .ref (r 2), .ref (r 3), .ref (r 4), .ref (r 5), .ref (r 6), .ref (r 7), .ref (r 8), .ref (r 9), .ref (r 10), .ref (r 11), .ref (r 12), .ref (r 13), .int 1])), ((r 10), .inr (9, [.ref (r 26), .ref (r 27), .ref (r 28), .ref (r 29), .ref (r 30), .ref (r 31), .int 0, .int 0, .int 0, .int 0, .int 0]))] H := hP
  have hD : va_D A [(h0, .inr (11, [.ref (r 0), .ref (r 1), .ref (r 2), .ref (r 3), .ref (r 4), .ref (r 5), .ref (r 6), .ref (r 7), .ref (r 8), .ref (r 9), .ref (r 10), .ref (r 11), .ref (r 12), .ref (r 13), .int 1])), ((r 10), .inr (9, [.ref (r 26), .ref (r 27), .ref (r 28), .ref (r 29), .ref (r 30), .ref (r 31), .int 0, .int 0, .int 0, .int 0, .int 0]))] := hD
  refine lv_if_eq (tgt := 16) hx hb dX11_best_4 (by decide) (fun _ => ?_) (fun c => absurd (by decide) c)
  refine lv_iconst (v := (-1)) hx hb dX11_best_16 (by decide) ?_
  exact W.iret (v := (-1)) hx hb hr (fun t ht hW => ⟨⟨(-1), (), rfl, rfl, trivial⟩, hS.F ht⟩) hS.2.2 dX11_best_17
abbrev w0_c_X11_see (cI : ClassId) (h0 : Nat) (r : Nat → Nat) : va_W := [(h0, .inr (11, [.ref (r 0), .ref (r 1), .ref (r 2), .ref (r 3), .ref (r 4), .ref (r 5), .ref (r 6), .ref (r 7), .ref (r 8), .ref (r 9), .ref (r 10), .ref (r 11), .ref (r 12), .ref (r 13), .int 1])), ((r 10), .inr (9, [.ref (r 26), .ref (r 27), .ref (r 28), .ref (r 29), .ref (r 30), .ref (r 31), .int 0, .int 0, .int 0, .int 0, .int 0])), ((r 0), .inr (1, [.ref (r 14), .int 0])), ((r 9), .inl (cI, 6, .inl (fun _ => 0)))]
set_option maxHeartbeats 4000000 in
set_option maxRecDepth 100000 in
theorem c_X11_see (l : Launch) (dC : Nat → ClassId) (dI : Nat → Nat → Nat) (cI cJ : ClassId) (h0 : Nat) (r : Nat → Nat) (sz : Nat) : Met l yX11_see wsX11_see ({ frames := 2, cells := 0, slots := 0, locals := 81 }) (va_Pc [.ref h0] (mPre dC dI cI cJ sz (w0_c_X11_see cI h0 r))) (va_Qi (fun (r : Int32) (u : Unit) => r = -1) (fun _ _ => True) (va_A (w0_c_X11_see cI h0 r) sz)) 0 0 (va_A (w0_c_X11_see cI h0 r) sz) := by
  refine Met.ofW (cc := cX11_see) (maxL := 2) (ret := (some .int)) (by decide) rfl ?_
  intro p e s m args below meth c s₁ B hml hv
  obtain ⟨rfl, hsz, hP, hK, hD0, hN⟩ := hv
  have hx := B.exec
  have hb := B.bytes
  have hr := B.returns
  have hts := atoms_spec (ws := wsX11_see) B.pre
  have hown : s.vm.findClass RX11 = some m.cls := findClass_of_methodNamed B.named
  have hlocks := B.notSynchronized
  have h_in_X11 : ∀ w ∈ wsX110, w ∈ wsX11_see := fun w h => List.mem_cons_of_mem _ (List.mem_append_left _ (List.mem_append_left _ (List.mem_append_left _ (List.mem_append_left _ (List.mem_append_right _ h)))))
  have h_in_X1 : ∀ w ∈ wsX10, w ∈ wsX11_see := fun w h => List.mem_cons_of_mem _ (List.mem_append_left _ (List.mem_append_left _ (List.mem_append_left _ (List.mem_append_right _ h))))
  have h_in_X8 : ∀ w ∈ wsX80, w ∈ wsX11_see := fun w h => List.mem_cons_of_mem _ (List.mem_append_left _ (List.mem_append_left _ (List.mem_append_right _ h)))
  have h_in_X9 : ∀ w ∈ wsX90, w ∈ wsX11_see := fun w h => List.mem_cons_of_mem _ (List.mem_append_left _ (List.mem_append_right _ h))
  have h_in_X5 : ∀ w ∈ wsX50, w ∈ wsX11_see := fun w h => List.mem_cons_of_mem _ (List.mem_append_right _ h)
  subst hsz
  have hD := hD0.self (sz := s.heap.size)
  generalize hAe : va_A (w0_c_X11_see cI h0 r) s.heap.size = A at hD ⊢
  have hA : ∀ q : Nat, s.heap.size ≤ q → A q := fun q h => by rw [← hAe]; exact Or.inr h
  have hS : va_S A s.heap s.heap [] := va_S.rf
  have hP : va_P (dC, dI) vwCl [(h0, .inr (11, [.ref (r 0), .ref (r 1), .ref (r 2), .ref (r 3), .ref (r 4), .ref (r 5), .ref (r 6), .ref (r 7), .ref (r 8), .ref (r 9), .ref (r 10), .ref (r 11), .ref (r 12), .ref (r 13), .int 1])), ((r 10), .inr (9, [.ref (r 26), .ref (r 27), .ref (r 28), .ref (r 29), .ref (r 30), .ref (r 31), .int 0, .int 0, .int 0, .int 0, .int 0])), ((r 0), .inr (1, [.ref (r 14), .int 0])), ((r 9), .inl (cI, 6, .inl (fun _ => 0)))] s.heap := hP
  have hD : va_D A [(h0, .inr (11, [.ref (r 0), .ref (r 1), .ref (r 2), .ref (r 3), .ref (r 4), .ref (r 5), .ref (r 6), .ref (r 7), .ref (r 8), .ref (r 9), .ref (r 10), .ref (r 11), .ref (r 12), .ref (r 13), .int 1])), ((r 10), .inr (9, [.ref (r 26), .ref (r 27), .ref (r 28), .ref (r 29), .ref (r 30), .ref (r 31), .int 0, .int 0, .int 0, .int 0, .int 0])), ((r 0), .inr (1, [.ref (r 14), .int 0])), ((r 9), .inl (cI, 6, .inl (fun _ => 0)))] := hD
  have hl := lv_entry ([.ref h0]) (n := 2) (Nat.le_of_ble_eq_true rfl)
  rw [lg_entry_eq]
  generalize (lg_sl ([.ref h0]) ++ List.replicate (2 - (lg_sl ([.ref h0])).length) Slot.unset).toArray = ls at hl ⊢
  have hl : lv_has ls 2 [(0, .ref h0)] := hl
  refine lv_aload_n hx hb dX11_see_0 rfl (lv_at hl 0 rfl) ?_
  have hPc := hP.sub (ws' := [(h0, .inr (11, [.ref (r 0), .ref (r 1), .ref (r 2), .ref (r 3), .ref (r 4), .ref (r 5), .ref (r 6), .ref (r 7), .ref (r 8), .ref (r 9), .ref (r 10), .ref (r 11), .ref (r 12), .ref (r 13), .int 1])), ((r 10), .inr (9, [.ref (r 26), .ref (r 27), .ref (r 28), .ref (r 29), .ref (r 30), .ref (r 31), .int 0, .int 0, .int 0, .int 0, .int 0]))]) [0, 1] rfl
  have hDc := hD.sub (ws' := [(h0, .inr (11, [.ref (r 0), .ref (r 1), .ref (r 2), .ref (r 3), .ref (r 4), .ref (r 5), .ref (r 6), .ref (r 7), .ref (r 8), .ref (r 9), .ref (r 10), .ref (r 11), .ref (r 12), .ref (r 13), .int 1])), ((r 10), .inr (9, [.ref (r 26), .ref (r 27), .ref (r 28), .ref (r 29), .ref (r 30), .ref (r 31), .int 0, .int 0, .int 0, .int 0, .int 0]))]) [0, 1] (by decide) rfl
  have hFc := va_free (wc := [(h0, .inr (11, [.ref (r 0), .ref (r 1), .ref (r 2), .ref (r 3), .ref (r 4), .ref (r 5), .ref (r 6), .ref (r 7), .ref (r 8), .ref (r 9), .ref (r 10), .ref (r 11), .ref (r 12), .ref (r 13), .int 1])), ((r 10), .inr (9, [.ref (r 26), .ref (r 27), .ref (r 28), .ref (r 29), .ref (r 30), .ref (r 31), .int 0, .int 0, .int 0, .int 0, .int 0]))]) hD hS hA [0, 1] rfl
  refine va_calli (va_runV (As := []) (rest := []) ⟨hx, hb, hml, hown, hts⟩ (c_X11_matched l dC dI cI cJ h0 r s.heap.size) (cwV 0 hts gX11_see_X11_matched rfl rfl rfl (by decide +kernel) ⟨Nat.le_of_ble_eq_true rfl, Nat.le_of_ble_eq_true rfl⟩) ⟨mBlind, va_recv hK hPc (ci := 11) (q0 := 0) rfl rfl, mGo hPc hK hDc hN⟩ rfl rfl hl.1 rfl (lv_room (Nat.le_of_ble_eq_true rfl)) dX11_see_1 ⟨Nat.le_of_ble_eq_true rfl, Nat.le_of_ble_eq_true rfl⟩) hS (fun q _ h => hFc q h) hFc (fun r_1 u t H1 locs ht hvm hw hB hz1 hk1 hS => ?_)
  obtain ⟨hP1, hD1⟩ := hB
  obtain rfl : r_1 = 0 := hw
  rw [ht] at hP1
  obtain ⟨hP, hD⟩ := va_join (wr := [((r 0), .inr (1, [.ref (r 14), .int 0])), ((r 9), .inl (cI, 6, .inl (fun _ => 0)))]) (w1 := [(h0, .inr (11, [.ref (r 0), .ref (r 1), .ref (r 2), .ref (r 3), .ref (r 4), .ref (r 5), .ref (r 6), .ref (r 7), .ref (r 8), .ref (r 9), .ref (r 10), .ref (r 11), .ref (r 12), .ref (r 13), .int 1])), ((r 10), .inr (9, [.ref (r 26), .ref (r 27), .ref (r 28), .ref (r 29), .ref (r 30), .ref (r 31), .int 0, .int 0, .int 0, .int 0, .int 0]))]) hP hD [0, 1] [2, 3] rfl rfl (by decide) (by decide) hk1 hFc hP1 hD1
  generalize H1 = H at hP hS ⊢
  have hP : va_P (dC, dI) vwCl [((r 0), .inr (1, [.ref (r 14), .int 0])), ((r 9), .inl (cI, 6, .inl (fun _ => 0))), (h0, .inr (11, [.ref (r 0), .ref (r 1), .ref (r 2), .ref (r 3), .ref (r 4), .ref (r 5), .ref (r 6), .ref (r 7), .ref (r 8), .ref (r 9), .ref (r 10), .ref (r 11), .ref (r 12), .ref (r 13), .int 1])), ((r 10), .inr (9, [.ref (r 26), .ref (r 27), .ref (r 28), .ref (r 29), .ref (r 30), .ref (r 31), .int 0, .int 0, .int 0, .int 0, .int 0]))] H := hP
  have hD : va_D A [((r 0), .inr (1, [.ref (r 14), .int 0])), ((r 9), .inl (cI, 6, .inl (fun _ => 0))), (h0, .inr (11, [.ref (r 0), .ref (r 1), .ref (r 2), .ref (r 3), .ref (r 4), .ref (r 5), .ref (r 6), .ref (r 7), .ref (r 8), .ref (r 9), .ref (r 10), .ref (r 11), .ref (r 12), .ref (r 13), .int 1])), ((r 10), .inr (9, [.ref (r 26), .ref (r 27), .ref (r 28), .ref (r 29), .ref (r 30), .ref (r 31), .int 0, .int 0, .int 0, .int 0, .int 0]))] := hD
  refine lv_if_eq (tgt := 33) hx hb dX11_see_4 (by decide) (fun _ => ?_) (fun c => absurd (by decide) c)
  refine lv_iconst (v := 0) hx hb dX11_see_33 (by decide) ?_
  refine lv_istore_n (lv' := [(1, .int 0), (0, .ref h0)]) hx hb dX11_see_34 rfl hl (by decide) rfl (fun ls hl => ?_)
  refine lv_aload_n hx hb dX11_see_35 rfl (lv_at hl 1 rfl) ?_
  refine va_get (D := (dC, dI)) (ci := 11) (v := .ref (r 0)) (C := RX11) (T := TX11) (N := 15) hx hb hts h_in_X11 hown hK hP 2 rfl rfl 0 (by decide) (hts (.fieldLink RX11 14 "MatchTrees" "tape" "LMatchTrees$Bytes;") (by decide +kernel)) (fun _ h9 => h9) rfl dX11_see_36 ?_
  refine lv_iconst (v := 0) hx hb dX11_see_39 (by decide) ?_
  refine va_put (D := (dC, dI)) (ci := 1) (v := .int 0) (ty := .int) (C := RX1) (T := TX1) (N := 2) hx hb hts h_in_X1 tyX1 tyX1_ok nmX1 hown hK hP hD hS 0 rfl rfl 1 (by decide) (hts (.fieldLink RX11 100 "MatchTrees$Bytes" "length" "I") (by decide +kernel)) (fun _ h9 => h9) rfl (by decide +kernel) rfl rfl (Nat.le_of_ble_eq_true rfl) dX11_see_40 (fun H locs hP hD hS => ?_)
  have hP : va_P (dC, dI) vwCl [((r 0), .inr (1, [.ref (r 14), .int 0])), ((r 9), .inl (cI, 6, .inl (fun _ => 0))), (h0, .inr (11, [.ref (r 0), .ref (r 1), .ref (r 2), .ref (r 3), .ref (r 4), .ref (r 5), .ref (r 6), .ref (r 7), .ref (r 8), .ref (r 9), .ref (r 10), .ref (r 11), .ref (r 12), .ref (r 13), .int 1])), ((r 10), .inr (9, [.ref (r 26), .ref (r 27), .ref (r 28), .ref (r 29), .ref (r 30), .ref (r 31), .int 0, .int 0, .int 0, .int 0, .int 0]))] H := hP
  have hD : va_D A [((r 0), .inr (1, [.ref (r 14), .int 0])), ((r 9), .inl (cI, 6, .inl (fun _ => 0))), (h0, .inr (11, [.ref (r 0), .ref (r 1), .ref (r 2), .ref (r 3), .ref (r 4), .ref (r 5), .ref (r 6), .ref (r 7), .ref (r 8), .ref (r 9), .ref (r 10), .ref (r 11), .ref (r 12), .ref (r 13), .int 1])), ((r 10), .inr (9, [.ref (r 26), .ref (r 27), .ref (r 28), .ref (r 29), .ref (r 30), .ref (r 31), .int 0, .int 0, .int 0, .int 0, .int 0]))] := hD
  refine lv_iload_n hx hb dX11_see_43 rfl (lv_at hl 0 rfl) ?_
  refine lv_if_ne (tgt := 55) hx hb dX11_see_44 (by decide) (fun c => absurd c (by decide)) (fun _ => ?_)
  refine lv_aload_n hx hb dX11_see_47 rfl (lv_at hl 1 rfl) ?_
  refine lv_iconst (v := 5) hx hb dX11_see_48 (by decide) ?_
  have hPc := hP.sub (ws' := [(h0, .inr (11, [.ref (r 0), .ref (r 1), .ref (r 2), .ref (r 3), .ref (r 4), .ref (r 5), .ref (r 6), .ref (r 7), .ref (r 8), .ref (r 9), .ref (r 10), .ref (r 11), .ref (r 12), .ref (r 13), .int 1])), ((r 9), .inl (cI, 6, .inl (fun _ => 0)))]) [2, 1] rfl
  have hDc := hD.sub (ws' := [(h0, .inr (11, [.ref (r 0), .ref (r 1), .ref (r 2), .ref (r 3), .ref (r 4), .ref (r 5), .ref (r 6), .ref (r 7), .ref (r 8), .ref (r 9), .ref (r 10), .ref (r 11), .ref (r 12), .ref (r 13), .int 1])), ((r 9), .inl (cI, 6, .inl (fun _ => 0)))]) [2, 1] (by decide) rfl
  have hFc := va_free (wc := [(h0, .inr (11, [.ref (r 0), .ref (r 1), .ref (r 2), .ref (r 3), .ref (r 4), .ref (r 5), .ref (r 6), .ref (r 7), .ref (r 8), .ref (r 9), .ref (r 10), .ref (r 11), .ref (r 12), .ref (r 13), .int 1])), ((r 9), .inl (cI, 6, .inl (fun _ => 0)))]) hD hS hA [2, 1] rfl
  refine va_calli (va_runV (As := [.int 5]) (rest := []) ⟨hx, hb, hml, hown, hts⟩ (c_X11_refuse_5 l dC dI cI cJ h0 r H.size) (cwV 1 hts gX11_see_X11_refuse rfl rfl rfl (by decide +kernel) ⟨Nat.le_of_ble_eq_true rfl, Nat.le_of_ble_eq_true rfl⟩) ⟨mBlind, va_recv hK hPc (ci := 11) (q0 := 0) rfl rfl, mGo hPc hK hDc hN⟩ rfl rfl hl.1 rfl (lv_room (Nat.le_of_ble_eq_true rfl)) dX11_see_49 ⟨Nat.le_of_ble_eq_true rfl, Nat.le_of_ble_eq_true rfl⟩) hS (fun q _ h => hFc q h) hFc (fun r_2 u t H1 locs ht hvm hw hB hz1 hk1 hS => ?_)
  obtain ⟨g_3, hP1, hD1⟩ := hB
  obtain rfl : r_2 = 0 := hw
  rw [ht] at hP1
  obtain ⟨hP, hD⟩ := va_join (wr := [((r 0), .inr (1, [.ref (r 14), .int 0])), ((r 10), .inr (9, [.ref (r 26), .ref (r 27), .ref (r 28), .ref (r 29), .ref (r 30), .ref (r 31), .int 0, .int 0, .int 0, .int 0, .int 0]))]) (w1 := [(h0, .inr (11, [.ref (r 0), .ref (r 1), .ref (r 2), .ref (r 3), .ref (r 4), .ref (r 5), .ref (r 6), .ref (r 7), .ref (r 8), .ref (r 9), .ref (r 10), .ref (r 11), .ref (r 12), .ref (r 13), .int 1])), ((r 9), .inl (cI, 6, .inl g_3))]) hP hD [2, 1] [0, 3] rfl rfl (by decide) (by decide) hk1 hFc hP1 hD1
  generalize H1 = H at hP hS ⊢
  have hP : va_P (dC, dI) vwCl [((r 0), .inr (1, [.ref (r 14), .int 0])), ((r 10), .inr (9, [.ref (r 26), .ref (r 27), .ref (r 28), .ref (r 29), .ref (r 30), .ref (r 31), .int 0, .int 0, .int 0, .int 0, .int 0])), (h0, .inr (11, [.ref (r 0), .ref (r 1), .ref (r 2), .ref (r 3), .ref (r 4), .ref (r 5), .ref (r 6), .ref (r 7), .ref (r 8), .ref (r 9), .ref (r 10), .ref (r 11), .ref (r 12), .ref (r 13), .int 1])), ((r 9), .inl (cI, 6, .inl g_3))] H := hP
  have hD : va_D A [((r 0), .inr (1, [.ref (r 14), .int 0])), ((r 10), .inr (9, [.ref (r 26), .ref (r 27), .ref (r 28), .ref (r 29), .ref (r 30), .ref (r 31), .int 0, .int 0, .int 0, .int 0, .int 0])), (h0, .inr (11, [.ref (r 0), .ref (r 1), .ref (r 2), .ref (r 3), .ref (r 4), .ref (r 5), .ref (r 6), .ref (r 7), .ref (r 8), .ref (r 9), .ref (r 10), .ref (r 11), .ref (r 12), .ref (r 13), .int 1])), ((r 9), .inl (cI, 6, .inl g_3))] := hD
  refine lv_pop hx hb dX11_see_52 rfl ?_
  refine lv_iconst (v := (-1)) hx hb dX11_see_53 (by decide) ?_
  exact W.iret (v := (-1)) hx hb hr (fun t ht hW => ⟨⟨(-1), (), rfl, rfl, trivial⟩, hS.F ht⟩) hS.2.2 dX11_see_54
abbrev w0_c_X11_sets (cI : ClassId) (h0 : Nat) (r : Nat → Nat) (p0 : Int32) : va_W := [(h0, .inr (11, [.ref (r 0), .ref (r 1), .ref (r 2), .ref (r 3), .ref (r 4), .ref (r 5), .ref (r 6), .ref (r 7), .ref (r 8), .ref (r 9), .ref (r 10), .ref (r 11), .ref (r 12), .ref (r 13), .int 1])), ((r 10), .inr (9, [.ref (r 26), .ref (r 27), .ref (r 28), .ref (r 29), .ref (r 30), .ref (r 31), .int 0, .int 0, .int 0, .int 0, .int 0]))]
set_option maxHeartbeats 4000000 in
set_option maxRecDepth 100000 in
theorem c_X11_sets (l : Launch) (dC : Nat → ClassId) (dI : Nat → Nat → Nat) (cI cJ : ClassId) (h0 : Nat) (r : Nat → Nat) (p0 : Int32) (sz : Nat) : Met l yX11_sets wsX11_sets ({ frames := 2, cells := 0, slots := 0, locals := 80 }) (va_Pc [.ref h0, .int p0] (mPre dC dI cI cJ sz (w0_c_X11_sets cI h0 r p0))) (va_Qi (fun (r : Int32) (u : Unit) => r = -1) (fun _ _ => True) (va_A (w0_c_X11_sets cI h0 r p0) sz)) 0 0 (va_A (w0_c_X11_sets cI h0 r p0) sz) := by
  refine Met.ofW (cc := cX11_sets) (maxL := 2) (ret := (some .int)) (by decide) rfl ?_
  intro p e s m args below meth c s₁ B hml hv
  obtain ⟨rfl, hsz, hP, hK, hD0, hN⟩ := hv
  have hx := B.exec
  have hb := B.bytes
  have hr := B.returns
  have hts := atoms_spec (ws := wsX11_sets) B.pre
  have hown : s.vm.findClass RX11 = some m.cls := findClass_of_methodNamed B.named
  have hlocks := B.notSynchronized
  have h_in_X11 : ∀ w ∈ wsX110, w ∈ wsX11_sets := fun w h => List.mem_cons_of_mem _ (List.mem_append_left _ (List.mem_append_left _ (List.mem_append_left _ (List.mem_append_right _ h))))
  have h_in_X8 : ∀ w ∈ wsX80, w ∈ wsX11_sets := fun w h => List.mem_cons_of_mem _ (List.mem_append_left _ (List.mem_append_left _ (List.mem_append_right _ h)))
  have h_in_X9 : ∀ w ∈ wsX90, w ∈ wsX11_sets := fun w h => List.mem_cons_of_mem _ (List.mem_append_left _ (List.mem_append_right _ h))
  have h_in_X5 : ∀ w ∈ wsX50, w ∈ wsX11_sets := fun w h => List.mem_cons_of_mem _ (List.mem_append_right _ h)
  subst hsz
  have hD := hD0.self (sz := s.heap.size)
  generalize hAe : va_A (w0_c_X11_sets cI h0 r p0) s.heap.size = A at hD ⊢
  have hA : ∀ q : Nat, s.heap.size ≤ q → A q := fun q h => by rw [← hAe]; exact Or.inr h
  have hS : va_S A s.heap s.heap [] := va_S.rf
  have hP : va_P (dC, dI) vwCl [(h0, .inr (11, [.ref (r 0), .ref (r 1), .ref (r 2), .ref (r 3), .ref (r 4), .ref (r 5), .ref (r 6), .ref (r 7), .ref (r 8), .ref (r 9), .ref (r 10), .ref (r 11), .ref (r 12), .ref (r 13), .int 1])), ((r 10), .inr (9, [.ref (r 26), .ref (r 27), .ref (r 28), .ref (r 29), .ref (r 30), .ref (r 31), .int 0, .int 0, .int 0, .int 0, .int 0]))] s.heap := hP
  have hD : va_D A [(h0, .inr (11, [.ref (r 0), .ref (r 1), .ref (r 2), .ref (r 3), .ref (r 4), .ref (r 5), .ref (r 6), .ref (r 7), .ref (r 8), .ref (r 9), .ref (r 10), .ref (r 11), .ref (r 12), .ref (r 13), .int 1])), ((r 10), .inr (9, [.ref (r 26), .ref (r 27), .ref (r 28), .ref (r 29), .ref (r 30), .ref (r 31), .int 0, .int 0, .int 0, .int 0, .int 0]))] := hD
  have hl := lv_entry ([.ref h0, .int p0]) (n := 2) (Nat.le_of_ble_eq_true rfl)
  rw [lg_entry_eq]
  generalize (lg_sl ([.ref h0, .int p0]) ++ List.replicate (2 - (lg_sl ([.ref h0, .int p0])).length) Slot.unset).toArray = ls at hl ⊢
  have hl : lv_has ls 2 [(0, .ref h0), (1, .int p0)] := hl
  refine lv_aload_n hx hb dX11_sets_0 rfl (lv_at hl 0 rfl) ?_
  have hPc := hP.sub (ws' := [(h0, .inr (11, [.ref (r 0), .ref (r 1), .ref (r 2), .ref (r 3), .ref (r 4), .ref (r 5), .ref (r 6), .ref (r 7), .ref (r 8), .ref (r 9), .ref (r 10), .ref (r 11), .ref (r 12), .ref (r 13), .int 1])), ((r 10), .inr (9, [.ref (r 26), .ref (r 27), .ref (r 28), .ref (r 29), .ref (r 30), .ref (r 31), .int 0, .int 0, .int 0, .int 0, .int 0]))]) [0, 1] rfl
  have hDc := hD.sub (ws' := [(h0, .inr (11, [.ref (r 0), .ref (r 1), .ref (r 2), .ref (r 3), .ref (r 4), .ref (r 5), .ref (r 6), .ref (r 7), .ref (r 8), .ref (r 9), .ref (r 10), .ref (r 11), .ref (r 12), .ref (r 13), .int 1])), ((r 10), .inr (9, [.ref (r 26), .ref (r 27), .ref (r 28), .ref (r 29), .ref (r 30), .ref (r 31), .int 0, .int 0, .int 0, .int 0, .int 0]))]) [0, 1] (by decide) rfl
  have hFc := va_free (wc := [(h0, .inr (11, [.ref (r 0), .ref (r 1), .ref (r 2), .ref (r 3), .ref (r 4), .ref (r 5), .ref (r 6), .ref (r 7), .ref (r 8), .ref (r 9), .ref (r 10), .ref (r 11), .ref (r 12), .ref (r 13), .int 1])), ((r 10), .inr (9, [.ref (r 26), .ref (r 27), .ref (r 28), .ref (r 29), .ref (r 30), .ref (r 31), .int 0, .int 0, .int 0, .int 0, .int 0]))]) hD hS hA [0, 1] rfl
  refine va_calli (va_runV (As := []) (rest := []) ⟨hx, hb, hml, hown, hts⟩ (c_X11_matched l dC dI cI cJ h0 r s.heap.size) (cwV 0 hts gX11_sets_X11_matched rfl rfl rfl (by decide +kernel) ⟨Nat.le_of_ble_eq_true rfl, Nat.le_of_ble_eq_true rfl⟩) ⟨mBlind, va_recv hK hPc (ci := 11) (q0 := 0) rfl rfl, mGo hPc hK hDc hN⟩ rfl rfl hl.1 rfl (lv_room (Nat.le_of_ble_eq_true rfl)) dX11_sets_1 ⟨Nat.le_of_ble_eq_true rfl, Nat.le_of_ble_eq_true rfl⟩) hS (fun q _ h => hFc q h) hFc (fun r_1 u t H1 locs ht hvm hw hB hz1 hk1 hS => ?_)
  obtain ⟨hP1, hD1⟩ := hB
  obtain rfl : r_1 = 0 := hw
  rw [ht] at hP1
  obtain ⟨hP, hD⟩ := va_join (wr := []) (w1 := [(h0, .inr (11, [.ref (r 0), .ref (r 1), .ref (r 2), .ref (r 3), .ref (r 4), .ref (r 5), .ref (r 6), .ref (r 7), .ref (r 8), .ref (r 9), .ref (r 10), .ref (r 11), .ref (r 12), .ref (r 13), .int 1])), ((r 10), .inr (9, [.ref (r 26), .ref (r 27), .ref (r 28), .ref (r 29), .ref (r 30), .ref (r 31), .int 0, .int 0, .int 0, .int 0, .int 0]))]) hP hD [0, 1] [] rfl rfl (by decide) (by decide) hk1 hFc hP1 hD1
  generalize H1 = H at hP hS ⊢
  have hP : va_P (dC, dI) vwCl [(h0, .inr (11, [.ref (r 0), .ref (r 1), .ref (r 2), .ref (r 3), .ref (r 4), .ref (r 5), .ref (r 6), .ref (r 7), .ref (r 8), .ref (r 9), .ref (r 10), .ref (r 11), .ref (r 12), .ref (r 13), .int 1])), ((r 10), .inr (9, [.ref (r 26), .ref (r 27), .ref (r 28), .ref (r 29), .ref (r 30), .ref (r 31), .int 0, .int 0, .int 0, .int 0, .int 0]))] H := hP
  have hD : va_D A [(h0, .inr (11, [.ref (r 0), .ref (r 1), .ref (r 2), .ref (r 3), .ref (r 4), .ref (r 5), .ref (r 6), .ref (r 7), .ref (r 8), .ref (r 9), .ref (r 10), .ref (r 11), .ref (r 12), .ref (r 13), .int 1])), ((r 10), .inr (9, [.ref (r 26), .ref (r 27), .ref (r 28), .ref (r 29), .ref (r 30), .ref (r 31), .int 0, .int 0, .int 0, .int 0, .int 0]))] := hD
  refine lv_if_eq (tgt := 12) hx hb dX11_sets_4 (by decide) (fun _ => ?_) (fun c => absurd (by decide) c)
  refine lv_iconst (v := (-1)) hx hb dX11_sets_12 (by decide) ?_
  exact W.iret (v := (-1)) hx hb hr (fun t ht hW => ⟨⟨(-1), (), rfl, rfl, trivial⟩, hS.F ht⟩) hS.2.2 dX11_sets_13
abbrev w0_c_X11_tells (cI : ClassId) (h0 : Nat) (r : Nat → Nat) (p0 : Int32) : va_W := [(h0, .inr (11, [.ref (r 0), .ref (r 1), .ref (r 2), .ref (r 3), .ref (r 4), .ref (r 5), .ref (r 6), .ref (r 7), .ref (r 8), .ref (r 9), .ref (r 10), .ref (r 11), .ref (r 12), .ref (r 13), .int 1])), ((r 10), .inr (9, [.ref (r 26), .ref (r 27), .ref (r 28), .ref (r 29), .ref (r 30), .ref (r 31), .int 0, .int 0, .int 0, .int 0, .int 0]))]
set_option maxHeartbeats 4000000 in
set_option maxRecDepth 100000 in
theorem c_X11_tells (l : Launch) (dC : Nat → ClassId) (dI : Nat → Nat → Nat) (cI cJ : ClassId) (h0 : Nat) (r : Nat → Nat) (p0 : Int32) (sz : Nat) : Met l yX11_tells wsX11_tells ({ frames := 2, cells := 0, slots := 0, locals := 80 }) (va_Pc [.ref h0, .int p0] (mPre dC dI cI cJ sz (w0_c_X11_tells cI h0 r p0))) (va_Qi (fun (r : Int32) (u : Unit) => r = -1) (fun _ _ => True) (va_A (w0_c_X11_tells cI h0 r p0) sz)) 0 0 (va_A (w0_c_X11_tells cI h0 r p0) sz) := by
  refine Met.ofW (cc := cX11_tells) (maxL := 7) (ret := (some .int)) (by decide) rfl ?_
  intro p e s m args below meth c s₁ B hml hv
  obtain ⟨rfl, hsz, hP, hK, hD0, hN⟩ := hv
  have hx := B.exec
  have hb := B.bytes
  have hr := B.returns
  have hts := atoms_spec (ws := wsX11_tells) B.pre
  have hown : s.vm.findClass RX11 = some m.cls := findClass_of_methodNamed B.named
  have hlocks := B.notSynchronized
  have h_in_X11 : ∀ w ∈ wsX110, w ∈ wsX11_tells := fun w h => List.mem_cons_of_mem _ (List.mem_append_left _ (List.mem_append_left _ (List.mem_append_left _ (List.mem_append_left _ (List.mem_append_right _ h)))))
  have h_in_X8 : ∀ w ∈ wsX80, w ∈ wsX11_tells := fun w h => List.mem_cons_of_mem _ (List.mem_append_left _ (List.mem_append_left _ (List.mem_append_left _ (List.mem_append_right _ h))))
  have h_in_X9 : ∀ w ∈ wsX90, w ∈ wsX11_tells := fun w h => List.mem_cons_of_mem _ (List.mem_append_left _ (List.mem_append_left _ (List.mem_append_right _ h)))
  have h_in_X5 : ∀ w ∈ wsX50, w ∈ wsX11_tells := fun w h => List.mem_cons_of_mem _ (List.mem_append_left _ (List.mem_append_right _ h))
  have h_in_X4 : ∀ w ∈ wsX40, w ∈ wsX11_tells := fun w h => List.mem_cons_of_mem _ (List.mem_append_right _ h)
  subst hsz
  have hD := hD0.self (sz := s.heap.size)
  generalize hAe : va_A (w0_c_X11_tells cI h0 r p0) s.heap.size = A at hD ⊢
  have hA : ∀ q : Nat, s.heap.size ≤ q → A q := fun q h => by rw [← hAe]; exact Or.inr h
  have hS : va_S A s.heap s.heap [] := va_S.rf
  have hP : va_P (dC, dI) vwCl [(h0, .inr (11, [.ref (r 0), .ref (r 1), .ref (r 2), .ref (r 3), .ref (r 4), .ref (r 5), .ref (r 6), .ref (r 7), .ref (r 8), .ref (r 9), .ref (r 10), .ref (r 11), .ref (r 12), .ref (r 13), .int 1])), ((r 10), .inr (9, [.ref (r 26), .ref (r 27), .ref (r 28), .ref (r 29), .ref (r 30), .ref (r 31), .int 0, .int 0, .int 0, .int 0, .int 0]))] s.heap := hP
  have hD : va_D A [(h0, .inr (11, [.ref (r 0), .ref (r 1), .ref (r 2), .ref (r 3), .ref (r 4), .ref (r 5), .ref (r 6), .ref (r 7), .ref (r 8), .ref (r 9), .ref (r 10), .ref (r 11), .ref (r 12), .ref (r 13), .int 1])), ((r 10), .inr (9, [.ref (r 26), .ref (r 27), .ref (r 28), .ref (r 29), .ref (r 30), .ref (r 31), .int 0, .int 0, .int 0, .int 0, .int 0]))] := hD
  have hl := lv_entry ([.ref h0, .int p0]) (n := 7) (Nat.le_of_ble_eq_true rfl)
  rw [lg_entry_eq]
  generalize (lg_sl ([.ref h0, .int p0]) ++ List.replicate (7 - (lg_sl ([.ref h0, .int p0])).length) Slot.unset).toArray = ls at hl ⊢
  have hl : lv_has ls 7 [(0, .ref h0), (1, .int p0)] := hl
  refine lv_aload_n hx hb dX11_tells_0 rfl (lv_at hl 0 rfl) ?_
  have hPc := hP.sub (ws' := [(h0, .inr (11, [.ref (r 0), .ref (r 1), .ref (r 2), .ref (r 3), .ref (r 4), .ref (r 5), .ref (r 6), .ref (r 7), .ref (r 8), .ref (r 9), .ref (r 10), .ref (r 11), .ref (r 12), .ref (r 13), .int 1])), ((r 10), .inr (9, [.ref (r 26), .ref (r 27), .ref (r 28), .ref (r 29), .ref (r 30), .ref (r 31), .int 0, .int 0, .int 0, .int 0, .int 0]))]) [0, 1] rfl
  have hDc := hD.sub (ws' := [(h0, .inr (11, [.ref (r 0), .ref (r 1), .ref (r 2), .ref (r 3), .ref (r 4), .ref (r 5), .ref (r 6), .ref (r 7), .ref (r 8), .ref (r 9), .ref (r 10), .ref (r 11), .ref (r 12), .ref (r 13), .int 1])), ((r 10), .inr (9, [.ref (r 26), .ref (r 27), .ref (r 28), .ref (r 29), .ref (r 30), .ref (r 31), .int 0, .int 0, .int 0, .int 0, .int 0]))]) [0, 1] (by decide) rfl
  have hFc := va_free (wc := [(h0, .inr (11, [.ref (r 0), .ref (r 1), .ref (r 2), .ref (r 3), .ref (r 4), .ref (r 5), .ref (r 6), .ref (r 7), .ref (r 8), .ref (r 9), .ref (r 10), .ref (r 11), .ref (r 12), .ref (r 13), .int 1])), ((r 10), .inr (9, [.ref (r 26), .ref (r 27), .ref (r 28), .ref (r 29), .ref (r 30), .ref (r 31), .int 0, .int 0, .int 0, .int 0, .int 0]))]) hD hS hA [0, 1] rfl
  refine va_calli (va_runV (As := []) (rest := []) ⟨hx, hb, hml, hown, hts⟩ (c_X11_matched l dC dI cI cJ h0 r s.heap.size) (cwV 0 hts gX11_tells_X11_matched rfl rfl rfl (by decide +kernel) ⟨Nat.le_of_ble_eq_true rfl, Nat.le_of_ble_eq_true rfl⟩) ⟨mBlind, va_recv hK hPc (ci := 11) (q0 := 0) rfl rfl, mGo hPc hK hDc hN⟩ rfl rfl hl.1 rfl (lv_room (Nat.le_of_ble_eq_true rfl)) dX11_tells_1 ⟨Nat.le_of_ble_eq_true rfl, Nat.le_of_ble_eq_true rfl⟩) hS (fun q _ h => hFc q h) hFc (fun r_1 u t H1 locs ht hvm hw hB hz1 hk1 hS => ?_)
  obtain ⟨hP1, hD1⟩ := hB
  obtain rfl : r_1 = 0 := hw
  rw [ht] at hP1
  obtain ⟨hP, hD⟩ := va_join (wr := []) (w1 := [(h0, .inr (11, [.ref (r 0), .ref (r 1), .ref (r 2), .ref (r 3), .ref (r 4), .ref (r 5), .ref (r 6), .ref (r 7), .ref (r 8), .ref (r 9), .ref (r 10), .ref (r 11), .ref (r 12), .ref (r 13), .int 1])), ((r 10), .inr (9, [.ref (r 26), .ref (r 27), .ref (r 28), .ref (r 29), .ref (r 30), .ref (r 31), .int 0, .int 0, .int 0, .int 0, .int 0]))]) hP hD [0, 1] [] rfl rfl (by decide) (by decide) hk1 hFc hP1 hD1
  generalize H1 = H at hP hS ⊢
  have hP : va_P (dC, dI) vwCl [(h0, .inr (11, [.ref (r 0), .ref (r 1), .ref (r 2), .ref (r 3), .ref (r 4), .ref (r 5), .ref (r 6), .ref (r 7), .ref (r 8), .ref (r 9), .ref (r 10), .ref (r 11), .ref (r 12), .ref (r 13), .int 1])), ((r 10), .inr (9, [.ref (r 26), .ref (r 27), .ref (r 28), .ref (r 29), .ref (r 30), .ref (r 31), .int 0, .int 0, .int 0, .int 0, .int 0]))] H := hP
  have hD : va_D A [(h0, .inr (11, [.ref (r 0), .ref (r 1), .ref (r 2), .ref (r 3), .ref (r 4), .ref (r 5), .ref (r 6), .ref (r 7), .ref (r 8), .ref (r 9), .ref (r 10), .ref (r 11), .ref (r 12), .ref (r 13), .int 1])), ((r 10), .inr (9, [.ref (r 26), .ref (r 27), .ref (r 28), .ref (r 29), .ref (r 30), .ref (r 31), .int 0, .int 0, .int 0, .int 0, .int 0]))] := hD
  refine lv_if_eq (tgt := 16) hx hb dX11_tells_4 (by decide) (fun _ => ?_) (fun c => absurd (by decide) c)
  refine lv_iconst (v := (-1)) hx hb dX11_tells_16 (by decide) ?_
  exact W.iret (v := (-1)) hx hb hr (fun t ht hW => ⟨⟨(-1), (), rfl, rfl, trivial⟩, hS.F ht⟩) hS.2.2 dX11_tells_17
abbrev w0_c_X11_run (cI : ClassId) (h0 : Nat) (r : Nat → Nat) (p0 : Int32) : va_W := [(h0, .inr (11, [.ref (r 0), .ref (r 1), .ref (r 2), .ref (r 3), .ref (r 4), .ref (r 5), .ref (r 6), .ref (r 7), .ref (r 8), .ref (r 9), .ref (r 10), .ref (r 11), .ref (r 12), .ref (r 13), .int 1])), ((r 10), .inr (9, [.ref (r 26), .ref (r 27), .ref (r 28), .ref (r 29), .ref (r 30), .ref (r 31), .int 0, .int 0, .int 0, .int 0, .int 0])), ((r 9), .inl (cI, 6, .inl (fun _ => 0)))]
set_option maxHeartbeats 4000000 in
set_option maxRecDepth 100000 in
theorem c_X11_run (l : Launch) (dC : Nat → ClassId) (dI : Nat → Nat → Nat) (cI cJ : ClassId) (h0 : Nat) (r : Nat → Nat) (p0 : Int32) (sz : Nat) : Met l yX11_run wsX11_run ({ frames := 2, cells := 0, slots := 0, locals := 81 }) (va_Pc [.ref h0, .int p0] (mPre dC dI cI cJ sz (w0_c_X11_run cI h0 r p0))) (va_Qi (fun (r : Int32) (u : Unit) => r = -1) (fun _ _ => True) (va_A (w0_c_X11_run cI h0 r p0) sz)) 0 0 (va_A (w0_c_X11_run cI h0 r p0) sz) := by
  refine Met.ofW (cc := cX11_run) (maxL := 2) (ret := (some .int)) (by decide) rfl ?_
  intro p e s m args below meth c s₁ B hml hv
  obtain ⟨rfl, hsz, hP, hK, hD0, hN⟩ := hv
  have hx := B.exec
  have hb := B.bytes
  have hr := B.returns
  have hts := atoms_spec (ws := wsX11_run) B.pre
  have hown : s.vm.findClass RX11 = some m.cls := findClass_of_methodNamed B.named
  have hlocks := B.notSynchronized
  have h_in_X11 : ∀ w ∈ wsX110, w ∈ wsX11_run := fun w h => List.mem_cons_of_mem _ (List.mem_append_left _ (List.mem_append_left _ (List.mem_append_left _ (List.mem_append_left _ (List.mem_append_left _ (List.mem_append_left _ (List.mem_append_right _ h)))))))
  have h_in_X9 : ∀ w ∈ wsX90, w ∈ wsX11_run := fun w h => List.mem_cons_of_mem _ (List.mem_append_left _ (List.mem_append_left _ (List.mem_append_left _ (List.mem_append_left _ (List.mem_append_left _ (List.mem_append_right _ h))))))
  have h_in_X0 : ∀ w ∈ wsX00, w ∈ wsX11_run := fun w h => List.mem_cons_of_mem _ (List.mem_append_left _ (List.mem_append_left _ (List.mem_append_left _ (List.mem_append_left _ (List.mem_append_right _ h)))))
  have h_in_X5 : ∀ w ∈ wsX50, w ∈ wsX11_run := fun w h => List.mem_cons_of_mem _ (List.mem_append_left _ (List.mem_append_left _ (List.mem_append_left _ (List.mem_append_right _ h))))
  have h_in_X10 : ∀ w ∈ wsX100, w ∈ wsX11_run := fun w h => List.mem_cons_of_mem _ (List.mem_append_left _ (List.mem_append_left _ (List.mem_append_right _ h)))
  have h_in_X2 : ∀ w ∈ wsX20, w ∈ wsX11_run := fun w h => List.mem_cons_of_mem _ (List.mem_append_left _ (List.mem_append_right _ h))
  have h_in_X4 : ∀ w ∈ wsX40, w ∈ wsX11_run := fun w h => List.mem_cons_of_mem _ (List.mem_append_right _ h)
  subst hsz
  have hD := hD0.self (sz := s.heap.size)
  generalize hAe : va_A (w0_c_X11_run cI h0 r p0) s.heap.size = A at hD ⊢
  have hA : ∀ q : Nat, s.heap.size ≤ q → A q := fun q h => by rw [← hAe]; exact Or.inr h
  have hS : va_S A s.heap s.heap [] := va_S.rf
  have hP : va_P (dC, dI) vwCl [(h0, .inr (11, [.ref (r 0), .ref (r 1), .ref (r 2), .ref (r 3), .ref (r 4), .ref (r 5), .ref (r 6), .ref (r 7), .ref (r 8), .ref (r 9), .ref (r 10), .ref (r 11), .ref (r 12), .ref (r 13), .int 1])), ((r 10), .inr (9, [.ref (r 26), .ref (r 27), .ref (r 28), .ref (r 29), .ref (r 30), .ref (r 31), .int 0, .int 0, .int 0, .int 0, .int 0])), ((r 9), .inl (cI, 6, .inl (fun _ => 0)))] s.heap := hP
  have hD : va_D A [(h0, .inr (11, [.ref (r 0), .ref (r 1), .ref (r 2), .ref (r 3), .ref (r 4), .ref (r 5), .ref (r 6), .ref (r 7), .ref (r 8), .ref (r 9), .ref (r 10), .ref (r 11), .ref (r 12), .ref (r 13), .int 1])), ((r 10), .inr (9, [.ref (r 26), .ref (r 27), .ref (r 28), .ref (r 29), .ref (r 30), .ref (r 31), .int 0, .int 0, .int 0, .int 0, .int 0])), ((r 9), .inl (cI, 6, .inl (fun _ => 0)))] := hD
  have hl := lv_entry ([.ref h0, .int p0]) (n := 2) (Nat.le_of_ble_eq_true rfl)
  rw [lg_entry_eq]
  generalize (lg_sl ([.ref h0, .int p0]) ++ List.replicate (2 - (lg_sl ([.ref h0, .int p0])).length) Slot.unset).toArray = ls at hl ⊢
  have hl : lv_has ls 2 [(0, .ref h0), (1, .int p0)] := hl
  refine lv_aload_n hx hb dX11_run_0 rfl (lv_at hl 0 rfl) ?_
  refine va_get (D := (dC, dI)) (ci := 11) (v := .ref (r 10)) (C := RX11) (T := TX11) (N := 15) hx hb hts h_in_X11 hown hK hP 0 rfl rfl 10 (by decide) (hts (.fieldLink RX11 71 "MatchTrees" "table" "LMatchTrees$Table;") (by decide +kernel)) (fun _ h9 => h9) rfl dX11_run_1 ?_
  refine lv_iload_n hx hb dX11_run_4 rfl (lv_at hl 1 rfl) ?_
  have hPc := hP.sub (ws' := [((r 10), .inr (9, [.ref (r 26), .ref (r 27), .ref (r 28), .ref (r 29), .ref (r 30), .ref (r 31), .int 0, .int 0, .int 0, .int 0, .int 0]))]) [1] rfl
  have hDc := hD.sub (ws' := [((r 10), .inr (9, [.ref (r 26), .ref (r 27), .ref (r 28), .ref (r 29), .ref (r 30), .ref (r 31), .int 0, .int 0, .int 0, .int 0, .int 0]))]) [1] (by decide) rfl
  have hFc := va_free (wc := [((r 10), .inr (9, [.ref (r 26), .ref (r 27), .ref (r 28), .ref (r 29), .ref (r 30), .ref (r 31), .int 0, .int 0, .int 0, .int 0, .int 0]))]) hD hS hA [1] rfl
  refine va_calli (va_runV (As := [.int p0]) (rest := []) ⟨hx, hb, hml, hown, hts⟩ (c_X9_isRow l dC dI cI cJ h0 r p0 s.heap.size) (cwV 1 hts gX11_run_X9_isRow rfl rfl rfl (by decide +kernel) ⟨Nat.le_of_ble_eq_true rfl, Nat.le_of_ble_eq_true rfl⟩) ⟨mBlind, va_recv hK hPc (ci := 9) (q0 := 0) rfl rfl, mGo hPc hK hDc hN⟩ rfl rfl hl.1 rfl (lv_room (Nat.le_of_ble_eq_true rfl)) dX11_run_5 ⟨Nat.le_of_ble_eq_true rfl, Nat.le_of_ble_eq_true rfl⟩) hS (fun q _ h => hFc q h) hFc (fun r_1 u t H1 locs ht hvm hw hB hz1 hk1 hS => ?_)
  obtain ⟨hP1, hD1⟩ := hB
  obtain rfl : r_1 = 0 := hw
  rw [ht] at hP1
  obtain ⟨hP, hD⟩ := va_join (wr := [(h0, .inr (11, [.ref (r 0), .ref (r 1), .ref (r 2), .ref (r 3), .ref (r 4), .ref (r 5), .ref (r 6), .ref (r 7), .ref (r 8), .ref (r 9), .ref (r 10), .ref (r 11), .ref (r 12), .ref (r 13), .int 1])), ((r 9), .inl (cI, 6, .inl (fun _ => 0)))]) (w1 := [((r 10), .inr (9, [.ref (r 26), .ref (r 27), .ref (r 28), .ref (r 29), .ref (r 30), .ref (r 31), .int 0, .int 0, .int 0, .int 0, .int 0]))]) hP hD [1] [0, 2] rfl rfl (by decide) (by decide) hk1 hFc hP1 hD1
  generalize H1 = H at hP hS ⊢
  have hP : va_P (dC, dI) vwCl [(h0, .inr (11, [.ref (r 0), .ref (r 1), .ref (r 2), .ref (r 3), .ref (r 4), .ref (r 5), .ref (r 6), .ref (r 7), .ref (r 8), .ref (r 9), .ref (r 10), .ref (r 11), .ref (r 12), .ref (r 13), .int 1])), ((r 9), .inl (cI, 6, .inl (fun _ => 0))), ((r 10), .inr (9, [.ref (r 26), .ref (r 27), .ref (r 28), .ref (r 29), .ref (r 30), .ref (r 31), .int 0, .int 0, .int 0, .int 0, .int 0]))] H := hP
  have hD : va_D A [(h0, .inr (11, [.ref (r 0), .ref (r 1), .ref (r 2), .ref (r 3), .ref (r 4), .ref (r 5), .ref (r 6), .ref (r 7), .ref (r 8), .ref (r 9), .ref (r 10), .ref (r 11), .ref (r 12), .ref (r 13), .int 1])), ((r 9), .inl (cI, 6, .inl (fun _ => 0))), ((r 10), .inr (9, [.ref (r 26), .ref (r 27), .ref (r 28), .ref (r 29), .ref (r 30), .ref (r 31), .int 0, .int 0, .int 0, .int 0, .int 0]))] := hD
  refine lv_if_ne (tgt := 19) hx hb dX11_run_8 (by decide) (fun c => absurd c (by decide)) (fun _ => ?_)
  refine lv_aload_n hx hb dX11_run_11 rfl (lv_at hl 0 rfl) ?_
  refine lv_iconst (v := 2) hx hb dX11_run_12 (by decide) ?_
  have hPc := hP.sub (ws' := [(h0, .inr (11, [.ref (r 0), .ref (r 1), .ref (r 2), .ref (r 3), .ref (r 4), .ref (r 5), .ref (r 6), .ref (r 7), .ref (r 8), .ref (r 9), .ref (r 10), .ref (r 11), .ref (r 12), .ref (r 13), .int 1])), ((r 9), .inl (cI, 6, .inl (fun _ => 0)))]) [0, 1] rfl
  have hDc := hD.sub (ws' := [(h0, .inr (11, [.ref (r 0), .ref (r 1), .ref (r 2), .ref (r 3), .ref (r 4), .ref (r 5), .ref (r 6), .ref (r 7), .ref (r 8), .ref (r 9), .ref (r 10), .ref (r 11), .ref (r 12), .ref (r 13), .int 1])), ((r 9), .inl (cI, 6, .inl (fun _ => 0)))]) [0, 1] (by decide) rfl
  have hFc := va_free (wc := [(h0, .inr (11, [.ref (r 0), .ref (r 1), .ref (r 2), .ref (r 3), .ref (r 4), .ref (r 5), .ref (r 6), .ref (r 7), .ref (r 8), .ref (r 9), .ref (r 10), .ref (r 11), .ref (r 12), .ref (r 13), .int 1])), ((r 9), .inl (cI, 6, .inl (fun _ => 0)))]) hD hS hA [0, 1] rfl
  refine va_calli (va_runV (As := [.int 2]) (rest := []) ⟨hx, hb, hml, hown, hts⟩ (c_X11_refuse_2 l dC dI cI cJ h0 r H.size) (cwV 1 hts gX11_run_X11_refuse rfl rfl rfl (by decide +kernel) ⟨Nat.le_of_ble_eq_true rfl, Nat.le_of_ble_eq_true rfl⟩) ⟨mBlind, va_recv hK hPc (ci := 11) (q0 := 0) rfl rfl, mGo hPc hK hDc hN⟩ rfl rfl hl.1 rfl (lv_room (Nat.le_of_ble_eq_true rfl)) dX11_run_13 ⟨Nat.le_of_ble_eq_true rfl, Nat.le_of_ble_eq_true rfl⟩) hS (fun q _ h => hFc q h) hFc (fun r_2 u t H1 locs ht hvm hw hB hz1 hk1 hS => ?_)
  obtain ⟨g_3, hP1, hD1⟩ := hB
  obtain rfl : r_2 = 0 := hw
  rw [ht] at hP1
  obtain ⟨hP, hD⟩ := va_join (wr := [((r 10), .inr (9, [.ref (r 26), .ref (r 27), .ref (r 28), .ref (r 29), .ref (r 30), .ref (r 31), .int 0, .int 0, .int 0, .int 0, .int 0]))]) (w1 := [(h0, .inr (11, [.ref (r 0), .ref (r 1), .ref (r 2), .ref (r 3), .ref (r 4), .ref (r 5), .ref (r 6), .ref (r 7), .ref (r 8), .ref (r 9), .ref (r 10), .ref (r 11), .ref (r 12), .ref (r 13), .int 1])), ((r 9), .inl (cI, 6, .inl g_3))]) hP hD [0, 1] [2] rfl rfl (by decide) (by decide) hk1 hFc hP1 hD1
  generalize H1 = H at hP hS ⊢
  have hP : va_P (dC, dI) vwCl [((r 10), .inr (9, [.ref (r 26), .ref (r 27), .ref (r 28), .ref (r 29), .ref (r 30), .ref (r 31), .int 0, .int 0, .int 0, .int 0, .int 0])), (h0, .inr (11, [.ref (r 0), .ref (r 1), .ref (r 2), .ref (r 3), .ref (r 4), .ref (r 5), .ref (r 6), .ref (r 7), .ref (r 8), .ref (r 9), .ref (r 10), .ref (r 11), .ref (r 12), .ref (r 13), .int 1])), ((r 9), .inl (cI, 6, .inl g_3))] H := hP
  have hD : va_D A [((r 10), .inr (9, [.ref (r 26), .ref (r 27), .ref (r 28), .ref (r 29), .ref (r 30), .ref (r 31), .int 0, .int 0, .int 0, .int 0, .int 0])), (h0, .inr (11, [.ref (r 0), .ref (r 1), .ref (r 2), .ref (r 3), .ref (r 4), .ref (r 5), .ref (r 6), .ref (r 7), .ref (r 8), .ref (r 9), .ref (r 10), .ref (r 11), .ref (r 12), .ref (r 13), .int 1])), ((r 9), .inl (cI, 6, .inl g_3))] := hD
  refine lv_pop hx hb dX11_run_16 rfl ?_
  refine lv_iconst (v := (-1)) hx hb dX11_run_17 (by decide) ?_
  exact W.iret (v := (-1)) hx hb hr (fun t ht hW => ⟨⟨(-1), (), rfl, rfl, trivial⟩, hS.F ht⟩) hS.2.2 dX11_run_18
abbrev w0_c_X11_chance (cI : ClassId) (h0 : Nat) (r : Nat → Nat) (p0 : Int32) : va_W := [(h0, .inr (11, [.ref (r 0), .ref (r 1), .ref (r 2), .ref (r 3), .ref (r 4), .ref (r 5), .ref (r 6), .ref (r 7), .ref (r 8), .ref (r 9), .ref (r 10), .ref (r 11), .ref (r 12), .ref (r 13), .int 1])), ((r 10), .inr (9, [.ref (r 26), .ref (r 27), .ref (r 28), .ref (r 29), .ref (r 30), .ref (r 31), .int 0, .int 0, .int 0, .int 0, .int 0])), ((r 9), .inl (cI, 6, .inl (fun _ => 0)))]
set_option maxHeartbeats 4000000 in
set_option maxRecDepth 100000 in
theorem c_X11_chance (l : Launch) (dC : Nat → ClassId) (dI : Nat → Nat → Nat) (cI cJ : ClassId) (h0 : Nat) (r : Nat → Nat) (p0 : Int32) (sz : Nat) : Met l yX11_chance wsX11_chance ({ frames := 2, cells := 0, slots := 0, locals := 81 }) (va_Pc [.ref h0, .int p0] (mPre dC dI cI cJ sz (w0_c_X11_chance cI h0 r p0))) (va_Qi (fun (r : Int32) (u : Unit) => r = -1) (fun _ _ => True) (va_A (w0_c_X11_chance cI h0 r p0) sz)) 0 0 (va_A (w0_c_X11_chance cI h0 r p0) sz) := by
  refine Met.ofW (cc := cX11_chance) (maxL := 4) (ret := (some .int)) (by decide) rfl ?_
  intro p e s m args below meth c s₁ B hml hv
  obtain ⟨rfl, hsz, hP, hK, hD0, hN⟩ := hv
  have hx := B.exec
  have hb := B.bytes
  have hr := B.returns
  have hts := atoms_spec (ws := wsX11_chance) B.pre
  have hown : s.vm.findClass RX11 = some m.cls := findClass_of_methodNamed B.named
  have hlocks := B.notSynchronized
  have h_in_X11 : ∀ w ∈ wsX110, w ∈ wsX11_chance := fun w h => List.mem_cons_of_mem _ (List.mem_append_left _ (List.mem_append_left _ (List.mem_append_left _ (List.mem_append_left _ (List.mem_append_left _ (List.mem_append_left _ (List.mem_append_right _ h)))))))
  have h_in_X9 : ∀ w ∈ wsX90, w ∈ wsX11_chance := fun w h => List.mem_cons_of_mem _ (List.mem_append_left _ (List.mem_append_left _ (List.mem_append_left _ (List.mem_append_left _ (List.mem_append_left _ (List.mem_append_right _ h))))))
  have h_in_X0 : ∀ w ∈ wsX00, w ∈ wsX11_chance := fun w h => List.mem_cons_of_mem _ (List.mem_append_left _ (List.mem_append_left _ (List.mem_append_left _ (List.mem_append_left _ (List.mem_append_right _ h)))))
  have h_in_X5 : ∀ w ∈ wsX50, w ∈ wsX11_chance := fun w h => List.mem_cons_of_mem _ (List.mem_append_left _ (List.mem_append_left _ (List.mem_append_left _ (List.mem_append_right _ h))))
  have h_in_X10 : ∀ w ∈ wsX100, w ∈ wsX11_chance := fun w h => List.mem_cons_of_mem _ (List.mem_append_left _ (List.mem_append_left _ (List.mem_append_right _ h)))
  have h_in_X2 : ∀ w ∈ wsX20, w ∈ wsX11_chance := fun w h => List.mem_cons_of_mem _ (List.mem_append_left _ (List.mem_append_right _ h))
  have h_in_X4 : ∀ w ∈ wsX40, w ∈ wsX11_chance := fun w h => List.mem_cons_of_mem _ (List.mem_append_right _ h)
  subst hsz
  have hD := hD0.self (sz := s.heap.size)
  generalize hAe : va_A (w0_c_X11_chance cI h0 r p0) s.heap.size = A at hD ⊢
  have hA : ∀ q : Nat, s.heap.size ≤ q → A q := fun q h => by rw [← hAe]; exact Or.inr h
  have hS : va_S A s.heap s.heap [] := va_S.rf
  have hP : va_P (dC, dI) vwCl [(h0, .inr (11, [.ref (r 0), .ref (r 1), .ref (r 2), .ref (r 3), .ref (r 4), .ref (r 5), .ref (r 6), .ref (r 7), .ref (r 8), .ref (r 9), .ref (r 10), .ref (r 11), .ref (r 12), .ref (r 13), .int 1])), ((r 10), .inr (9, [.ref (r 26), .ref (r 27), .ref (r 28), .ref (r 29), .ref (r 30), .ref (r 31), .int 0, .int 0, .int 0, .int 0, .int 0])), ((r 9), .inl (cI, 6, .inl (fun _ => 0)))] s.heap := hP
  have hD : va_D A [(h0, .inr (11, [.ref (r 0), .ref (r 1), .ref (r 2), .ref (r 3), .ref (r 4), .ref (r 5), .ref (r 6), .ref (r 7), .ref (r 8), .ref (r 9), .ref (r 10), .ref (r 11), .ref (r 12), .ref (r 13), .int 1])), ((r 10), .inr (9, [.ref (r 26), .ref (r 27), .ref (r 28), .ref (r 29), .ref (r 30), .ref (r 31), .int 0, .int 0, .int 0, .int 0, .int 0])), ((r 9), .inl (cI, 6, .inl (fun _ => 0)))] := hD
  have hl := lv_entry ([.ref h0, .int p0]) (n := 4) (Nat.le_of_ble_eq_true rfl)
  rw [lg_entry_eq]
  generalize (lg_sl ([.ref h0, .int p0]) ++ List.replicate (4 - (lg_sl ([.ref h0, .int p0])).length) Slot.unset).toArray = ls at hl ⊢
  have hl : lv_has ls 4 [(0, .ref h0), (1, .int p0)] := hl
  refine lv_aload_n hx hb dX11_chance_0 rfl (lv_at hl 0 rfl) ?_
  have hPc := hP.sub (ws' := [(h0, .inr (11, [.ref (r 0), .ref (r 1), .ref (r 2), .ref (r 3), .ref (r 4), .ref (r 5), .ref (r 6), .ref (r 7), .ref (r 8), .ref (r 9), .ref (r 10), .ref (r 11), .ref (r 12), .ref (r 13), .int 1])), ((r 10), .inr (9, [.ref (r 26), .ref (r 27), .ref (r 28), .ref (r 29), .ref (r 30), .ref (r 31), .int 0, .int 0, .int 0, .int 0, .int 0]))]) [0, 1] rfl
  have hDc := hD.sub (ws' := [(h0, .inr (11, [.ref (r 0), .ref (r 1), .ref (r 2), .ref (r 3), .ref (r 4), .ref (r 5), .ref (r 6), .ref (r 7), .ref (r 8), .ref (r 9), .ref (r 10), .ref (r 11), .ref (r 12), .ref (r 13), .int 1])), ((r 10), .inr (9, [.ref (r 26), .ref (r 27), .ref (r 28), .ref (r 29), .ref (r 30), .ref (r 31), .int 0, .int 0, .int 0, .int 0, .int 0]))]) [0, 1] (by decide) rfl
  have hFc := va_free (wc := [(h0, .inr (11, [.ref (r 0), .ref (r 1), .ref (r 2), .ref (r 3), .ref (r 4), .ref (r 5), .ref (r 6), .ref (r 7), .ref (r 8), .ref (r 9), .ref (r 10), .ref (r 11), .ref (r 12), .ref (r 13), .int 1])), ((r 10), .inr (9, [.ref (r 26), .ref (r 27), .ref (r 28), .ref (r 29), .ref (r 30), .ref (r 31), .int 0, .int 0, .int 0, .int 0, .int 0]))]) hD hS hA [0, 1] rfl
  refine va_calli (va_runV (As := []) (rest := []) ⟨hx, hb, hml, hown, hts⟩ (c_X11_matched l dC dI cI cJ h0 r s.heap.size) (cwV 0 hts gX11_chance_X11_matched rfl rfl rfl (by decide +kernel) ⟨Nat.le_of_ble_eq_true rfl, Nat.le_of_ble_eq_true rfl⟩) ⟨mBlind, va_recv hK hPc (ci := 11) (q0 := 0) rfl rfl, mGo hPc hK hDc hN⟩ rfl rfl hl.1 rfl (lv_room (Nat.le_of_ble_eq_true rfl)) dX11_chance_1 ⟨Nat.le_of_ble_eq_true rfl, Nat.le_of_ble_eq_true rfl⟩) hS (fun q _ h => hFc q h) hFc (fun r_1 u t H1 locs ht hvm hw hB hz1 hk1 hS => ?_)
  obtain ⟨hP1, hD1⟩ := hB
  obtain rfl : r_1 = 0 := hw
  rw [ht] at hP1
  obtain ⟨hP, hD⟩ := va_join (wr := [((r 9), .inl (cI, 6, .inl (fun _ => 0)))]) (w1 := [(h0, .inr (11, [.ref (r 0), .ref (r 1), .ref (r 2), .ref (r 3), .ref (r 4), .ref (r 5), .ref (r 6), .ref (r 7), .ref (r 8), .ref (r 9), .ref (r 10), .ref (r 11), .ref (r 12), .ref (r 13), .int 1])), ((r 10), .inr (9, [.ref (r 26), .ref (r 27), .ref (r 28), .ref (r 29), .ref (r 30), .ref (r 31), .int 0, .int 0, .int 0, .int 0, .int 0]))]) hP hD [0, 1] [2] rfl rfl (by decide) (by decide) hk1 hFc hP1 hD1
  generalize H1 = H at hP hS ⊢
  have hP : va_P (dC, dI) vwCl [((r 9), .inl (cI, 6, .inl (fun _ => 0))), (h0, .inr (11, [.ref (r 0), .ref (r 1), .ref (r 2), .ref (r 3), .ref (r 4), .ref (r 5), .ref (r 6), .ref (r 7), .ref (r 8), .ref (r 9), .ref (r 10), .ref (r 11), .ref (r 12), .ref (r 13), .int 1])), ((r 10), .inr (9, [.ref (r 26), .ref (r 27), .ref (r 28), .ref (r 29), .ref (r 30), .ref (r 31), .int 0, .int 0, .int 0, .int 0, .int 0]))] H := hP
  have hD : va_D A [((r 9), .inl (cI, 6, .inl (fun _ => 0))), (h0, .inr (11, [.ref (r 0), .ref (r 1), .ref (r 2), .ref (r 3), .ref (r 4), .ref (r 5), .ref (r 6), .ref (r 7), .ref (r 8), .ref (r 9), .ref (r 10), .ref (r 11), .ref (r 12), .ref (r 13), .int 1])), ((r 10), .inr (9, [.ref (r 26), .ref (r 27), .ref (r 28), .ref (r 29), .ref (r 30), .ref (r 31), .int 0, .int 0, .int 0, .int 0, .int 0]))] := hD
  refine lv_if_eq (tgt := 18) hx hb dX11_chance_4 (by decide) (fun _ => ?_) (fun c => absurd (by decide) c)
  refine lv_aload_n hx hb dX11_chance_18 rfl (lv_at hl 0 rfl) ?_
  refine lv_iconst (v := 2) hx hb dX11_chance_19 (by decide) ?_
  have hPc := hP.sub (ws' := [(h0, .inr (11, [.ref (r 0), .ref (r 1), .ref (r 2), .ref (r 3), .ref (r 4), .ref (r 5), .ref (r 6), .ref (r 7), .ref (r 8), .ref (r 9), .ref (r 10), .ref (r 11), .ref (r 12), .ref (r 13), .int 1])), ((r 9), .inl (cI, 6, .inl (fun _ => 0)))]) [1, 0] rfl
  have hDc := hD.sub (ws' := [(h0, .inr (11, [.ref (r 0), .ref (r 1), .ref (r 2), .ref (r 3), .ref (r 4), .ref (r 5), .ref (r 6), .ref (r 7), .ref (r 8), .ref (r 9), .ref (r 10), .ref (r 11), .ref (r 12), .ref (r 13), .int 1])), ((r 9), .inl (cI, 6, .inl (fun _ => 0)))]) [1, 0] (by decide) rfl
  have hFc := va_free (wc := [(h0, .inr (11, [.ref (r 0), .ref (r 1), .ref (r 2), .ref (r 3), .ref (r 4), .ref (r 5), .ref (r 6), .ref (r 7), .ref (r 8), .ref (r 9), .ref (r 10), .ref (r 11), .ref (r 12), .ref (r 13), .int 1])), ((r 9), .inl (cI, 6, .inl (fun _ => 0)))]) hD hS hA [1, 0] rfl
  refine va_calli (va_runV (As := [.int 2]) (rest := []) ⟨hx, hb, hml, hown, hts⟩ (c_X11_refuse_2 l dC dI cI cJ h0 r H.size) (cwV 1 hts gX11_chance_X11_refuse rfl rfl rfl (by decide +kernel) ⟨Nat.le_of_ble_eq_true rfl, Nat.le_of_ble_eq_true rfl⟩) ⟨mBlind, va_recv hK hPc (ci := 11) (q0 := 0) rfl rfl, mGo hPc hK hDc hN⟩ rfl rfl hl.1 rfl (lv_room (Nat.le_of_ble_eq_true rfl)) dX11_chance_20 ⟨Nat.le_of_ble_eq_true rfl, Nat.le_of_ble_eq_true rfl⟩) hS (fun q _ h => hFc q h) hFc (fun r_2 u t H1 locs ht hvm hw hB hz1 hk1 hS => ?_)
  obtain ⟨g_3, hP1, hD1⟩ := hB
  obtain rfl : r_2 = 0 := hw
  rw [ht] at hP1
  obtain ⟨hP, hD⟩ := va_join (wr := [((r 10), .inr (9, [.ref (r 26), .ref (r 27), .ref (r 28), .ref (r 29), .ref (r 30), .ref (r 31), .int 0, .int 0, .int 0, .int 0, .int 0]))]) (w1 := [(h0, .inr (11, [.ref (r 0), .ref (r 1), .ref (r 2), .ref (r 3), .ref (r 4), .ref (r 5), .ref (r 6), .ref (r 7), .ref (r 8), .ref (r 9), .ref (r 10), .ref (r 11), .ref (r 12), .ref (r 13), .int 1])), ((r 9), .inl (cI, 6, .inl g_3))]) hP hD [1, 0] [2] rfl rfl (by decide) (by decide) hk1 hFc hP1 hD1
  generalize H1 = H at hP hS ⊢
  have hP : va_P (dC, dI) vwCl [((r 10), .inr (9, [.ref (r 26), .ref (r 27), .ref (r 28), .ref (r 29), .ref (r 30), .ref (r 31), .int 0, .int 0, .int 0, .int 0, .int 0])), (h0, .inr (11, [.ref (r 0), .ref (r 1), .ref (r 2), .ref (r 3), .ref (r 4), .ref (r 5), .ref (r 6), .ref (r 7), .ref (r 8), .ref (r 9), .ref (r 10), .ref (r 11), .ref (r 12), .ref (r 13), .int 1])), ((r 9), .inl (cI, 6, .inl g_3))] H := hP
  have hD : va_D A [((r 10), .inr (9, [.ref (r 26), .ref (r 27), .ref (r 28), .ref (r 29), .ref (r 30), .ref (r 31), .int 0, .int 0, .int 0, .int 0, .int 0])), (h0, .inr (11, [.ref (r 0), .ref (r 1), .ref (r 2), .ref (r 3), .ref (r 4), .ref (r 5), .ref (r 6), .ref (r 7), .ref (r 8), .ref (r 9), .ref (r 10), .ref (r 11), .ref (r 12), .ref (r 13), .int 1])), ((r 9), .inl (cI, 6, .inl g_3))] := hD
  refine lv_pop hx hb dX11_chance_23 rfl ?_
  refine lv_iconst (v := (-1)) hx hb dX11_chance_24 (by decide) ?_
  exact W.iret (v := (-1)) hx hb hr (fun t ht hW => ⟨⟨(-1), (), rfl, rfl, trivial⟩, hS.F ht⟩) hS.2.2 dX11_chance_25
abbrev w0_c_X11_swap (cI : ClassId) (h0 : Nat) (r : Nat → Nat) (p0 p1 : Int32) : va_W := [(h0, .inr (11, [.ref (r 0), .ref (r 1), .ref (r 2), .ref (r 3), .ref (r 4), .ref (r 5), .ref (r 6), .ref (r 7), .ref (r 8), .ref (r 9), .ref (r 10), .ref (r 11), .ref (r 12), .ref (r 13), .int 1])), ((r 5), .inr (5, [.ref (r 16), .int 0, .int 0, .int 0])), ((r 9), .inl (cI, 6, .inl (fun _ => 0)))]
set_option maxHeartbeats 4000000 in
set_option maxRecDepth 100000 in
theorem c_X11_swap (l : Launch) (dC : Nat → ClassId) (dI : Nat → Nat → Nat) (cI cJ : ClassId) (h0 : Nat) (r : Nat → Nat) (p0 p1 : Int32) (sz : Nat) : Met l yX11_swap wsX11_swap ({ frames := 2, cells := 0, slots := 0, locals := 81 }) (va_Pc [.ref h0, .int p0, .int p1] (mPre dC dI cI cJ sz (w0_c_X11_swap cI h0 r p0 p1))) (va_Qi (fun (r : Int32) (u : Unit) => r = 0) (fun _ _ => True) (va_A (w0_c_X11_swap cI h0 r p0 p1) sz)) 0 0 (va_A (w0_c_X11_swap cI h0 r p0 p1) sz) := by
  refine Met.ofW (cc := cX11_swap) (maxL := 3) (ret := (some .boolean)) (by decide) rfl ?_
  intro p e s m args below meth c s₁ B hml hv
  obtain ⟨rfl, hsz, hP, hK, hD0, hN⟩ := hv
  have hx := B.exec
  have hb := B.bytes
  have hr := B.returns
  have hts := atoms_spec (ws := wsX11_swap) B.pre
  have hown : s.vm.findClass RX11 = some m.cls := findClass_of_methodNamed B.named
  have hlocks := B.notSynchronized
  have h_in_X11 : ∀ w ∈ wsX110, w ∈ wsX11_swap := fun w h => List.mem_cons_of_mem _ (List.mem_append_left _ (List.mem_append_left _ (List.mem_append_right _ h)))
  have h_in_X5 : ∀ w ∈ wsX50, w ∈ wsX11_swap := fun w h => List.mem_cons_of_mem _ (List.mem_append_left _ (List.mem_append_right _ h))
  have h_in_X0 : ∀ w ∈ wsX00, w ∈ wsX11_swap := fun w h => List.mem_cons_of_mem _ (List.mem_append_right _ h)
  subst hsz
  have hD := hD0.self (sz := s.heap.size)
  generalize hAe : va_A (w0_c_X11_swap cI h0 r p0 p1) s.heap.size = A at hD ⊢
  have hA : ∀ q : Nat, s.heap.size ≤ q → A q := fun q h => by rw [← hAe]; exact Or.inr h
  have hS : va_S A s.heap s.heap [] := va_S.rf
  have hP : va_P (dC, dI) vwCl [(h0, .inr (11, [.ref (r 0), .ref (r 1), .ref (r 2), .ref (r 3), .ref (r 4), .ref (r 5), .ref (r 6), .ref (r 7), .ref (r 8), .ref (r 9), .ref (r 10), .ref (r 11), .ref (r 12), .ref (r 13), .int 1])), ((r 5), .inr (5, [.ref (r 16), .int 0, .int 0, .int 0])), ((r 9), .inl (cI, 6, .inl (fun _ => 0)))] s.heap := hP
  have hD : va_D A [(h0, .inr (11, [.ref (r 0), .ref (r 1), .ref (r 2), .ref (r 3), .ref (r 4), .ref (r 5), .ref (r 6), .ref (r 7), .ref (r 8), .ref (r 9), .ref (r 10), .ref (r 11), .ref (r 12), .ref (r 13), .int 1])), ((r 5), .inr (5, [.ref (r 16), .int 0, .int 0, .int 0])), ((r 9), .inl (cI, 6, .inl (fun _ => 0)))] := hD
  have hl := lv_entry ([.ref h0, .int p0, .int p1]) (n := 3) (Nat.le_of_ble_eq_true rfl)
  rw [lg_entry_eq]
  generalize (lg_sl ([.ref h0, .int p0, .int p1]) ++ List.replicate (3 - (lg_sl ([.ref h0, .int p0, .int p1])).length) Slot.unset).toArray = ls at hl ⊢
  have hl : lv_has ls 3 [(0, .ref h0), (1, .int p0), (2, .int p1)] := hl
  refine lv_iload_n hx hb dX11_swap_0 rfl (lv_at hl 1 rfl) ?_
  refine lv_iload_n hx hb dX11_swap_1 rfl (lv_at hl 2 rfl) ?_
  refine lv_icmp_eq (tgt := 27) hx hb dX11_swap_2 (by decide) (fun c_1 => ?_) (fun c_1 => ?_)
  · refine lv_aload_n hx hb dX11_swap_27 rfl (lv_at hl 0 rfl) ?_
    refine lv_iconst (v := 3) hx hb dX11_swap_28 (by decide) ?_
    have hPc := hP.sub (ws' := [(h0, .inr (11, [.ref (r 0), .ref (r 1), .ref (r 2), .ref (r 3), .ref (r 4), .ref (r 5), .ref (r 6), .ref (r 7), .ref (r 8), .ref (r 9), .ref (r 10), .ref (r 11), .ref (r 12), .ref (r 13), .int 1])), ((r 9), .inl (cI, 6, .inl (fun _ => 0)))]) [0, 2] rfl
    have hDc := hD.sub (ws' := [(h0, .inr (11, [.ref (r 0), .ref (r 1), .ref (r 2), .ref (r 3), .ref (r 4), .ref (r 5), .ref (r 6), .ref (r 7), .ref (r 8), .ref (r 9), .ref (r 10), .ref (r 11), .ref (r 12), .ref (r 13), .int 1])), ((r 9), .inl (cI, 6, .inl (fun _ => 0)))]) [0, 2] (by decide) rfl
    have hFc := va_free (wc := [(h0, .inr (11, [.ref (r 0), .ref (r 1), .ref (r 2), .ref (r 3), .ref (r 4), .ref (r 5), .ref (r 6), .ref (r 7), .ref (r 8), .ref (r 9), .ref (r 10), .ref (r 11), .ref (r 12), .ref (r 13), .int 1])), ((r 9), .inl (cI, 6, .inl (fun _ => 0)))]) hD hS hA [0, 2] rfl
    refine va_calli (va_runV (As := [.int 3]) (rest := []) ⟨hx, hb, hml, hown, hts⟩ (c_X11_refuse_3 l dC dI cI cJ h0 r s.heap.size) (cwV 1 hts gX11_swap_X11_refuse rfl rfl rfl (by decide +kernel) ⟨Nat.le_of_ble_eq_true rfl, Nat.le_of_ble_eq_true rfl⟩) ⟨mBlind, va_recv hK hPc (ci := 11) (q0 := 0) rfl rfl, mGo hPc hK hDc hN⟩ rfl rfl hl.1 rfl (lv_room (Nat.le_of_ble_eq_true rfl)) dX11_swap_29 ⟨Nat.le_of_ble_eq_true rfl, Nat.le_of_ble_eq_true rfl⟩) hS (fun q _ h => hFc q h) hFc (fun r_2 u t H1 locs ht hvm hw hB hz1 hk1 hS => ?_)
    obtain ⟨g_3, hP1, hD1⟩ := hB
    obtain rfl : r_2 = 0 := hw
    rw [ht] at hP1
    obtain ⟨hP, hD⟩ := va_join (wr := [((r 5), .inr (5, [.ref (r 16), .int 0, .int 0, .int 0]))]) (w1 := [(h0, .inr (11, [.ref (r 0), .ref (r 1), .ref (r 2), .ref (r 3), .ref (r 4), .ref (r 5), .ref (r 6), .ref (r 7), .ref (r 8), .ref (r 9), .ref (r 10), .ref (r 11), .ref (r 12), .ref (r 13), .int 1])), ((r 9), .inl (cI, 6, .inl g_3))]) hP hD [0, 2] [1] rfl rfl (by decide) (by decide) hk1 hFc hP1 hD1
    generalize H1 = H at hP hS ⊢
    have hP : va_P (dC, dI) vwCl [((r 5), .inr (5, [.ref (r 16), .int 0, .int 0, .int 0])), (h0, .inr (11, [.ref (r 0), .ref (r 1), .ref (r 2), .ref (r 3), .ref (r 4), .ref (r 5), .ref (r 6), .ref (r 7), .ref (r 8), .ref (r 9), .ref (r 10), .ref (r 11), .ref (r 12), .ref (r 13), .int 1])), ((r 9), .inl (cI, 6, .inl g_3))] H := hP
    have hD : va_D A [((r 5), .inr (5, [.ref (r 16), .int 0, .int 0, .int 0])), (h0, .inr (11, [.ref (r 0), .ref (r 1), .ref (r 2), .ref (r 3), .ref (r 4), .ref (r 5), .ref (r 6), .ref (r 7), .ref (r 8), .ref (r 9), .ref (r 10), .ref (r 11), .ref (r 12), .ref (r 13), .int 1])), ((r 9), .inl (cI, 6, .inl g_3))] := hD
    exact W.zret (v := 0) hx hb hr rfl (fun t ht hW => ⟨⟨0, (), rfl, rfl, trivial⟩, hS.F ht⟩) hS.2.2 dX11_swap_32
  · refine lv_aload_n hx hb dX11_swap_5 rfl (lv_at hl 0 rfl) ?_
    refine va_get (D := (dC, dI)) (ci := 11) (v := .ref (r 5)) (C := RX11) (T := TX11) (N := 15) hx hb hts h_in_X11 hown hK hP 0 rfl rfl 5 (by decide) (hts (.fieldLink RX11 43 "MatchTrees" "order" "LMatchTrees$Order;") (by decide +kernel)) (fun _ h9 => h9) rfl dX11_swap_6 ?_
    refine lv_iload_n hx hb dX11_swap_9 rfl (lv_at hl 1 rfl) ?_
    have hPc := hP.sub (ws' := [((r 5), .inr (5, [.ref (r 16), .int 0, .int 0, .int 0]))]) [1] rfl
    have hDc := hD.sub (ws' := [((r 5), .inr (5, [.ref (r 16), .int 0, .int 0, .int 0]))]) [1] (by decide) rfl
    have hFc := va_free (wc := [((r 5), .inr (5, [.ref (r 16), .int 0, .int 0, .int 0]))]) hD hS hA [1] rfl
    refine va_calli (va_runV (As := [.int p0]) (rest := []) ⟨hx, hb, hml, hown, hts⟩ (c_X5_isPlace l dC dI cI cJ h0 r p0 s.heap.size) (cwV 1 hts gX11_swap_X5_isPlace rfl rfl rfl (by decide +kernel) ⟨Nat.le_of_ble_eq_true rfl, Nat.le_of_ble_eq_true rfl⟩) ⟨mBlind, va_recv hK hPc (ci := 5) (q0 := 0) rfl rfl, mGo hPc hK hDc hN⟩ rfl rfl hl.1 rfl (lv_room (Nat.le_of_ble_eq_true rfl)) dX11_swap_10 ⟨Nat.le_of_ble_eq_true rfl, Nat.le_of_ble_eq_true rfl⟩) hS (fun q _ h => hFc q h) hFc (fun r_4 u t H1 locs ht hvm hw hB hz1 hk1 hS => ?_)
    obtain ⟨hP1, hD1⟩ := hB
    obtain rfl : r_4 = 0 := hw
    rw [ht] at hP1
    obtain ⟨hP, hD⟩ := va_join (wr := [(h0, .inr (11, [.ref (r 0), .ref (r 1), .ref (r 2), .ref (r 3), .ref (r 4), .ref (r 5), .ref (r 6), .ref (r 7), .ref (r 8), .ref (r 9), .ref (r 10), .ref (r 11), .ref (r 12), .ref (r 13), .int 1])), ((r 9), .inl (cI, 6, .inl (fun _ => 0)))]) (w1 := [((r 5), .inr (5, [.ref (r 16), .int 0, .int 0, .int 0]))]) hP hD [1] [0, 2] rfl rfl (by decide) (by decide) hk1 hFc hP1 hD1
    generalize H1 = H at hP hS ⊢
    have hP : va_P (dC, dI) vwCl [(h0, .inr (11, [.ref (r 0), .ref (r 1), .ref (r 2), .ref (r 3), .ref (r 4), .ref (r 5), .ref (r 6), .ref (r 7), .ref (r 8), .ref (r 9), .ref (r 10), .ref (r 11), .ref (r 12), .ref (r 13), .int 1])), ((r 9), .inl (cI, 6, .inl (fun _ => 0))), ((r 5), .inr (5, [.ref (r 16), .int 0, .int 0, .int 0]))] H := hP
    have hD : va_D A [(h0, .inr (11, [.ref (r 0), .ref (r 1), .ref (r 2), .ref (r 3), .ref (r 4), .ref (r 5), .ref (r 6), .ref (r 7), .ref (r 8), .ref (r 9), .ref (r 10), .ref (r 11), .ref (r 12), .ref (r 13), .int 1])), ((r 9), .inl (cI, 6, .inl (fun _ => 0))), ((r 5), .inr (5, [.ref (r 16), .int 0, .int 0, .int 0]))] := hD
    refine lv_if_eq (tgt := 27) hx hb dX11_swap_13 (by decide) (fun _ => ?_) (fun c => absurd (by decide) c)
    refine lv_aload_n hx hb dX11_swap_27 rfl (lv_at hl 0 rfl) ?_
    refine lv_iconst (v := 3) hx hb dX11_swap_28 (by decide) ?_
    have hPc := hP.sub (ws' := [(h0, .inr (11, [.ref (r 0), .ref (r 1), .ref (r 2), .ref (r 3), .ref (r 4), .ref (r 5), .ref (r 6), .ref (r 7), .ref (r 8), .ref (r 9), .ref (r 10), .ref (r 11), .ref (r 12), .ref (r 13), .int 1])), ((r 9), .inl (cI, 6, .inl (fun _ => 0)))]) [0, 1] rfl
    have hDc := hD.sub (ws' := [(h0, .inr (11, [.ref (r 0), .ref (r 1), .ref (r 2), .ref (r 3), .ref (r 4), .ref (r 5), .ref (r 6), .ref (r 7), .ref (r 8), .ref (r 9), .ref (r 10), .ref (r 11), .ref (r 12), .ref (r 13), .int 1])), ((r 9), .inl (cI, 6, .inl (fun _ => 0)))]) [0, 1] (by decide) rfl
    have hFc := va_free (wc := [(h0, .inr (11, [.ref (r 0), .ref (r 1), .ref (r 2), .ref (r 3), .ref (r 4), .ref (r 5), .ref (r 6), .ref (r 7), .ref (r 8), .ref (r 9), .ref (r 10), .ref (r 11), .ref (r 12), .ref (r 13), .int 1])), ((r 9), .inl (cI, 6, .inl (fun _ => 0)))]) hD hS hA [0, 1] rfl
    refine va_calli (va_runV (As := [.int 3]) (rest := []) ⟨hx, hb, hml, hown, hts⟩ (c_X11_refuse_3 l dC dI cI cJ h0 r H.size) (cwV 1 hts gX11_swap_X11_refuse rfl rfl rfl (by decide +kernel) ⟨Nat.le_of_ble_eq_true rfl, Nat.le_of_ble_eq_true rfl⟩) ⟨mBlind, va_recv hK hPc (ci := 11) (q0 := 0) rfl rfl, mGo hPc hK hDc hN⟩ rfl rfl hl.1 rfl (lv_room (Nat.le_of_ble_eq_true rfl)) dX11_swap_29 ⟨Nat.le_of_ble_eq_true rfl, Nat.le_of_ble_eq_true rfl⟩) hS (fun q _ h => hFc q h) hFc (fun r_5 u t H1 locs ht hvm hw hB hz1 hk1 hS => ?_)
    obtain ⟨g_6, hP1, hD1⟩ := hB
    obtain rfl : r_5 = 0 := hw
    rw [ht] at hP1
    obtain ⟨hP, hD⟩ := va_join (wr := [((r 5), .inr (5, [.ref (r 16), .int 0, .int 0, .int 0]))]) (w1 := [(h0, .inr (11, [.ref (r 0), .ref (r 1), .ref (r 2), .ref (r 3), .ref (r 4), .ref (r 5), .ref (r 6), .ref (r 7), .ref (r 8), .ref (r 9), .ref (r 10), .ref (r 11), .ref (r 12), .ref (r 13), .int 1])), ((r 9), .inl (cI, 6, .inl g_6))]) hP hD [0, 1] [2] rfl rfl (by decide) (by decide) hk1 hFc hP1 hD1
    generalize H1 = H at hP hS ⊢
    have hP : va_P (dC, dI) vwCl [((r 5), .inr (5, [.ref (r 16), .int 0, .int 0, .int 0])), (h0, .inr (11, [.ref (r 0), .ref (r 1), .ref (r 2), .ref (r 3), .ref (r 4), .ref (r 5), .ref (r 6), .ref (r 7), .ref (r 8), .ref (r 9), .ref (r 10), .ref (r 11), .ref (r 12), .ref (r 13), .int 1])), ((r 9), .inl (cI, 6, .inl g_6))] H := hP
    have hD : va_D A [((r 5), .inr (5, [.ref (r 16), .int 0, .int 0, .int 0])), (h0, .inr (11, [.ref (r 0), .ref (r 1), .ref (r 2), .ref (r 3), .ref (r 4), .ref (r 5), .ref (r 6), .ref (r 7), .ref (r 8), .ref (r 9), .ref (r 10), .ref (r 11), .ref (r 12), .ref (r 13), .int 1])), ((r 9), .inl (cI, 6, .inl g_6))] := hD
    exact W.zret (v := 0) hx hb hr rfl (fun t ht hW => ⟨⟨0, (), rfl, rfl, trivial⟩, hS.F ht⟩) hS.2.2 dX11_swap_32
abbrev w0_c_X11_drop (cI : ClassId) (h0 : Nat) (r : Nat → Nat) (p0 : Int32) : va_W := [(h0, .inr (11, [.ref (r 0), .ref (r 1), .ref (r 2), .ref (r 3), .ref (r 4), .ref (r 5), .ref (r 6), .ref (r 7), .ref (r 8), .ref (r 9), .ref (r 10), .ref (r 11), .ref (r 12), .ref (r 13), .int 1])), ((r 5), .inr (5, [.ref (r 16), .int 0, .int 0, .int 0])), ((r 9), .inl (cI, 6, .inl (fun _ => 0)))]
set_option maxHeartbeats 4000000 in
set_option maxRecDepth 100000 in
theorem c_X11_drop (l : Launch) (dC : Nat → ClassId) (dI : Nat → Nat → Nat) (cI cJ : ClassId) (h0 : Nat) (r : Nat → Nat) (p0 : Int32) (sz : Nat) : Met l yX11_drop wsX11_drop ({ frames := 2, cells := 0, slots := 0, locals := 81 }) (va_Pc [.ref h0, .int p0] (mPre dC dI cI cJ sz (w0_c_X11_drop cI h0 r p0))) (va_Qi (fun (r : Int32) (u : Unit) => r = 0) (fun _ _ => True) (va_A (w0_c_X11_drop cI h0 r p0) sz)) 0 0 (va_A (w0_c_X11_drop cI h0 r p0) sz) := by
  refine Met.ofW (cc := cX11_drop) (maxL := 2) (ret := (some .boolean)) (by decide) rfl ?_
  intro p e s m args below meth c s₁ B hml hv
  obtain ⟨rfl, hsz, hP, hK, hD0, hN⟩ := hv
  have hx := B.exec
  have hb := B.bytes
  have hr := B.returns
  have hts := atoms_spec (ws := wsX11_drop) B.pre
  have hown : s.vm.findClass RX11 = some m.cls := findClass_of_methodNamed B.named
  have hlocks := B.notSynchronized
  have h_in_X11 : ∀ w ∈ wsX110, w ∈ wsX11_drop := fun w h => List.mem_cons_of_mem _ (List.mem_append_left _ (List.mem_append_left _ (List.mem_append_right _ h)))
  have h_in_X5 : ∀ w ∈ wsX50, w ∈ wsX11_drop := fun w h => List.mem_cons_of_mem _ (List.mem_append_left _ (List.mem_append_right _ h))
  have h_in_X0 : ∀ w ∈ wsX00, w ∈ wsX11_drop := fun w h => List.mem_cons_of_mem _ (List.mem_append_right _ h)
  subst hsz
  have hD := hD0.self (sz := s.heap.size)
  generalize hAe : va_A (w0_c_X11_drop cI h0 r p0) s.heap.size = A at hD ⊢
  have hA : ∀ q : Nat, s.heap.size ≤ q → A q := fun q h => by rw [← hAe]; exact Or.inr h
  have hS : va_S A s.heap s.heap [] := va_S.rf
  have hP : va_P (dC, dI) vwCl [(h0, .inr (11, [.ref (r 0), .ref (r 1), .ref (r 2), .ref (r 3), .ref (r 4), .ref (r 5), .ref (r 6), .ref (r 7), .ref (r 8), .ref (r 9), .ref (r 10), .ref (r 11), .ref (r 12), .ref (r 13), .int 1])), ((r 5), .inr (5, [.ref (r 16), .int 0, .int 0, .int 0])), ((r 9), .inl (cI, 6, .inl (fun _ => 0)))] s.heap := hP
  have hD : va_D A [(h0, .inr (11, [.ref (r 0), .ref (r 1), .ref (r 2), .ref (r 3), .ref (r 4), .ref (r 5), .ref (r 6), .ref (r 7), .ref (r 8), .ref (r 9), .ref (r 10), .ref (r 11), .ref (r 12), .ref (r 13), .int 1])), ((r 5), .inr (5, [.ref (r 16), .int 0, .int 0, .int 0])), ((r 9), .inl (cI, 6, .inl (fun _ => 0)))] := hD
  have hl := lv_entry ([.ref h0, .int p0]) (n := 2) (Nat.le_of_ble_eq_true rfl)
  rw [lg_entry_eq]
  generalize (lg_sl ([.ref h0, .int p0]) ++ List.replicate (2 - (lg_sl ([.ref h0, .int p0])).length) Slot.unset).toArray = ls at hl ⊢
  have hl : lv_has ls 2 [(0, .ref h0), (1, .int p0)] := hl
  refine lv_aload_n hx hb dX11_drop_0 rfl (lv_at hl 0 rfl) ?_
  refine va_get (D := (dC, dI)) (ci := 11) (v := .ref (r 5)) (C := RX11) (T := TX11) (N := 15) hx hb hts h_in_X11 hown hK hP 0 rfl rfl 5 (by decide) (hts (.fieldLink RX11 43 "MatchTrees" "order" "LMatchTrees$Order;") (by decide +kernel)) (fun _ h9 => h9) rfl dX11_drop_1 ?_
  refine lv_iload_n hx hb dX11_drop_4 rfl (lv_at hl 1 rfl) ?_
  have hPc := hP.sub (ws' := [((r 5), .inr (5, [.ref (r 16), .int 0, .int 0, .int 0]))]) [1] rfl
  have hDc := hD.sub (ws' := [((r 5), .inr (5, [.ref (r 16), .int 0, .int 0, .int 0]))]) [1] (by decide) rfl
  have hFc := va_free (wc := [((r 5), .inr (5, [.ref (r 16), .int 0, .int 0, .int 0]))]) hD hS hA [1] rfl
  refine va_calli (va_runV (As := [.int p0]) (rest := []) ⟨hx, hb, hml, hown, hts⟩ (c_X5_isPlace l dC dI cI cJ h0 r p0 s.heap.size) (cwV 1 hts gX11_drop_X5_isPlace rfl rfl rfl (by decide +kernel) ⟨Nat.le_of_ble_eq_true rfl, Nat.le_of_ble_eq_true rfl⟩) ⟨mBlind, va_recv hK hPc (ci := 5) (q0 := 0) rfl rfl, mGo hPc hK hDc hN⟩ rfl rfl hl.1 rfl (lv_room (Nat.le_of_ble_eq_true rfl)) dX11_drop_5 ⟨Nat.le_of_ble_eq_true rfl, Nat.le_of_ble_eq_true rfl⟩) hS (fun q _ h => hFc q h) hFc (fun r_1 u t H1 locs ht hvm hw hB hz1 hk1 hS => ?_)
  obtain ⟨hP1, hD1⟩ := hB
  obtain rfl : r_1 = 0 := hw
  rw [ht] at hP1
  obtain ⟨hP, hD⟩ := va_join (wr := [(h0, .inr (11, [.ref (r 0), .ref (r 1), .ref (r 2), .ref (r 3), .ref (r 4), .ref (r 5), .ref (r 6), .ref (r 7), .ref (r 8), .ref (r 9), .ref (r 10), .ref (r 11), .ref (r 12), .ref (r 13), .int 1])), ((r 9), .inl (cI, 6, .inl (fun _ => 0)))]) (w1 := [((r 5), .inr (5, [.ref (r 16), .int 0, .int 0, .int 0]))]) hP hD [1] [0, 2] rfl rfl (by decide) (by decide) hk1 hFc hP1 hD1
  generalize H1 = H at hP hS ⊢
  have hP : va_P (dC, dI) vwCl [(h0, .inr (11, [.ref (r 0), .ref (r 1), .ref (r 2), .ref (r 3), .ref (r 4), .ref (r 5), .ref (r 6), .ref (r 7), .ref (r 8), .ref (r 9), .ref (r 10), .ref (r 11), .ref (r 12), .ref (r 13), .int 1])), ((r 9), .inl (cI, 6, .inl (fun _ => 0))), ((r 5), .inr (5, [.ref (r 16), .int 0, .int 0, .int 0]))] H := hP
  have hD : va_D A [(h0, .inr (11, [.ref (r 0), .ref (r 1), .ref (r 2), .ref (r 3), .ref (r 4), .ref (r 5), .ref (r 6), .ref (r 7), .ref (r 8), .ref (r 9), .ref (r 10), .ref (r 11), .ref (r 12), .ref (r 13), .int 1])), ((r 9), .inl (cI, 6, .inl (fun _ => 0))), ((r 5), .inr (5, [.ref (r 16), .int 0, .int 0, .int 0]))] := hD
  refine lv_if_ne (tgt := 17) hx hb dX11_drop_8 (by decide) (fun c => absurd c (by decide)) (fun _ => ?_)
  refine lv_aload_n hx hb dX11_drop_11 rfl (lv_at hl 0 rfl) ?_
  refine lv_iconst (v := 3) hx hb dX11_drop_12 (by decide) ?_
  have hPc := hP.sub (ws' := [(h0, .inr (11, [.ref (r 0), .ref (r 1), .ref (r 2), .ref (r 3), .ref (r 4), .ref (r 5), .ref (r 6), .ref (r 7), .ref (r 8), .ref (r 9), .ref (r 10), .ref (r 11), .ref (r 12), .ref (r 13), .int 1])), ((r 9), .inl (cI, 6, .inl (fun _ => 0)))]) [0, 1] rfl
  have hDc := hD.sub (ws' := [(h0, .inr (11, [.ref (r 0), .ref (r 1), .ref (r 2), .ref (r 3), .ref (r 4), .ref (r 5), .ref (r 6), .ref (r 7), .ref (r 8), .ref (r 9), .ref (r 10), .ref (r 11), .ref (r 12), .ref (r 13), .int 1])), ((r 9), .inl (cI, 6, .inl (fun _ => 0)))]) [0, 1] (by decide) rfl
  have hFc := va_free (wc := [(h0, .inr (11, [.ref (r 0), .ref (r 1), .ref (r 2), .ref (r 3), .ref (r 4), .ref (r 5), .ref (r 6), .ref (r 7), .ref (r 8), .ref (r 9), .ref (r 10), .ref (r 11), .ref (r 12), .ref (r 13), .int 1])), ((r 9), .inl (cI, 6, .inl (fun _ => 0)))]) hD hS hA [0, 1] rfl
  refine va_calli (va_runV (As := [.int 3]) (rest := []) ⟨hx, hb, hml, hown, hts⟩ (c_X11_refuse_3 l dC dI cI cJ h0 r H.size) (cwV 1 hts gX11_drop_X11_refuse rfl rfl rfl (by decide +kernel) ⟨Nat.le_of_ble_eq_true rfl, Nat.le_of_ble_eq_true rfl⟩) ⟨mBlind, va_recv hK hPc (ci := 11) (q0 := 0) rfl rfl, mGo hPc hK hDc hN⟩ rfl rfl hl.1 rfl (lv_room (Nat.le_of_ble_eq_true rfl)) dX11_drop_13 ⟨Nat.le_of_ble_eq_true rfl, Nat.le_of_ble_eq_true rfl⟩) hS (fun q _ h => hFc q h) hFc (fun r_2 u t H1 locs ht hvm hw hB hz1 hk1 hS => ?_)
  obtain ⟨g_3, hP1, hD1⟩ := hB
  obtain rfl : r_2 = 0 := hw
  rw [ht] at hP1
  obtain ⟨hP, hD⟩ := va_join (wr := [((r 5), .inr (5, [.ref (r 16), .int 0, .int 0, .int 0]))]) (w1 := [(h0, .inr (11, [.ref (r 0), .ref (r 1), .ref (r 2), .ref (r 3), .ref (r 4), .ref (r 5), .ref (r 6), .ref (r 7), .ref (r 8), .ref (r 9), .ref (r 10), .ref (r 11), .ref (r 12), .ref (r 13), .int 1])), ((r 9), .inl (cI, 6, .inl g_3))]) hP hD [0, 1] [2] rfl rfl (by decide) (by decide) hk1 hFc hP1 hD1
  generalize H1 = H at hP hS ⊢
  have hP : va_P (dC, dI) vwCl [((r 5), .inr (5, [.ref (r 16), .int 0, .int 0, .int 0])), (h0, .inr (11, [.ref (r 0), .ref (r 1), .ref (r 2), .ref (r 3), .ref (r 4), .ref (r 5), .ref (r 6), .ref (r 7), .ref (r 8), .ref (r 9), .ref (r 10), .ref (r 11), .ref (r 12), .ref (r 13), .int 1])), ((r 9), .inl (cI, 6, .inl g_3))] H := hP
  have hD : va_D A [((r 5), .inr (5, [.ref (r 16), .int 0, .int 0, .int 0])), (h0, .inr (11, [.ref (r 0), .ref (r 1), .ref (r 2), .ref (r 3), .ref (r 4), .ref (r 5), .ref (r 6), .ref (r 7), .ref (r 8), .ref (r 9), .ref (r 10), .ref (r 11), .ref (r 12), .ref (r 13), .int 1])), ((r 9), .inl (cI, 6, .inl g_3))] := hD
  exact W.zret (v := 0) hx hb hr rfl (fun t ht hW => ⟨⟨0, (), rfl, rfl, trivial⟩, hS.F ht⟩) hS.2.2 dX11_drop_16
abbrev w0_c_X11_turn (cI : ClassId) (h0 : Nat) (r : Nat → Nat) (p0 : Int32) : va_W := [(h0, .inr (11, [.ref (r 0), .ref (r 1), .ref (r 2), .ref (r 3), .ref (r 4), .ref (r 5), .ref (r 6), .ref (r 7), .ref (r 8), .ref (r 9), .ref (r 10), .ref (r 11), .ref (r 12), .ref (r 13), .int 1])), ((r 10), .inr (9, [.ref (r 26), .ref (r 27), .ref (r 28), .ref (r 29), .ref (r 30), .ref (r 31), .int 0, .int 0, .int 0, .int 0, .int 0])), ((r 9), .inl (cI, 6, .inl (fun _ => 0)))]
set_option maxHeartbeats 4000000 in
set_option maxRecDepth 100000 in
theorem c_X11_turn (l : Launch) (dC : Nat → ClassId) (dI : Nat → Nat → Nat) (cI cJ : ClassId) (h0 : Nat) (r : Nat → Nat) (p0 : Int32) (sz : Nat) : Met l yX11_turn wsX11_turn ({ frames := 2, cells := 0, slots := 0, locals := 81 }) (va_Pc [.ref h0, .int p0] (mPre dC dI cI cJ sz (w0_c_X11_turn cI h0 r p0))) (va_Qi (fun (r : Int32) (u : Unit) => r = -1) (fun _ _ => True) (va_A (w0_c_X11_turn cI h0 r p0) sz)) 0 0 (va_A (w0_c_X11_turn cI h0 r p0) sz) := by
  refine Met.ofW (cc := cX11_turn) (maxL := 2) (ret := (some .int)) (by decide) rfl ?_
  intro p e s m args below meth c s₁ B hml hv
  obtain ⟨rfl, hsz, hP, hK, hD0, hN⟩ := hv
  have hx := B.exec
  have hb := B.bytes
  have hr := B.returns
  have hts := atoms_spec (ws := wsX11_turn) B.pre
  have hown : s.vm.findClass RX11 = some m.cls := findClass_of_methodNamed B.named
  have hlocks := B.notSynchronized
  have h_in_X11 : ∀ w ∈ wsX110, w ∈ wsX11_turn := fun w h => List.mem_cons_of_mem _ (List.mem_append_left _ (List.mem_append_left _ (List.mem_append_left _ (List.mem_append_right _ h))))
  have h_in_X5 : ∀ w ∈ wsX50, w ∈ wsX11_turn := fun w h => List.mem_cons_of_mem _ (List.mem_append_left _ (List.mem_append_left _ (List.mem_append_right _ h)))
  have h_in_X9 : ∀ w ∈ wsX90, w ∈ wsX11_turn := fun w h => List.mem_cons_of_mem _ (List.mem_append_left _ (List.mem_append_right _ h))
  have h_in_X0 : ∀ w ∈ wsX00, w ∈ wsX11_turn := fun w h => List.mem_cons_of_mem _ (List.mem_append_right _ h)
  subst hsz
  have hD := hD0.self (sz := s.heap.size)
  generalize hAe : va_A (w0_c_X11_turn cI h0 r p0) s.heap.size = A at hD ⊢
  have hA : ∀ q : Nat, s.heap.size ≤ q → A q := fun q h => by rw [← hAe]; exact Or.inr h
  have hS : va_S A s.heap s.heap [] := va_S.rf
  have hP : va_P (dC, dI) vwCl [(h0, .inr (11, [.ref (r 0), .ref (r 1), .ref (r 2), .ref (r 3), .ref (r 4), .ref (r 5), .ref (r 6), .ref (r 7), .ref (r 8), .ref (r 9), .ref (r 10), .ref (r 11), .ref (r 12), .ref (r 13), .int 1])), ((r 10), .inr (9, [.ref (r 26), .ref (r 27), .ref (r 28), .ref (r 29), .ref (r 30), .ref (r 31), .int 0, .int 0, .int 0, .int 0, .int 0])), ((r 9), .inl (cI, 6, .inl (fun _ => 0)))] s.heap := hP
  have hD : va_D A [(h0, .inr (11, [.ref (r 0), .ref (r 1), .ref (r 2), .ref (r 3), .ref (r 4), .ref (r 5), .ref (r 6), .ref (r 7), .ref (r 8), .ref (r 9), .ref (r 10), .ref (r 11), .ref (r 12), .ref (r 13), .int 1])), ((r 10), .inr (9, [.ref (r 26), .ref (r 27), .ref (r 28), .ref (r 29), .ref (r 30), .ref (r 31), .int 0, .int 0, .int 0, .int 0, .int 0])), ((r 9), .inl (cI, 6, .inl (fun _ => 0)))] := hD
  have hl := lv_entry ([.ref h0, .int p0]) (n := 2) (Nat.le_of_ble_eq_true rfl)
  rw [lg_entry_eq]
  generalize (lg_sl ([.ref h0, .int p0]) ++ List.replicate (2 - (lg_sl ([.ref h0, .int p0])).length) Slot.unset).toArray = ls at hl ⊢
  have hl : lv_has ls 2 [(0, .ref h0), (1, .int p0)] := hl
  refine lv_aload_n hx hb dX11_turn_0 rfl (lv_at hl 0 rfl) ?_
  have hPc := hP.sub (ws' := [(h0, .inr (11, [.ref (r 0), .ref (r 1), .ref (r 2), .ref (r 3), .ref (r 4), .ref (r 5), .ref (r 6), .ref (r 7), .ref (r 8), .ref (r 9), .ref (r 10), .ref (r 11), .ref (r 12), .ref (r 13), .int 1])), ((r 10), .inr (9, [.ref (r 26), .ref (r 27), .ref (r 28), .ref (r 29), .ref (r 30), .ref (r 31), .int 0, .int 0, .int 0, .int 0, .int 0]))]) [0, 1] rfl
  have hDc := hD.sub (ws' := [(h0, .inr (11, [.ref (r 0), .ref (r 1), .ref (r 2), .ref (r 3), .ref (r 4), .ref (r 5), .ref (r 6), .ref (r 7), .ref (r 8), .ref (r 9), .ref (r 10), .ref (r 11), .ref (r 12), .ref (r 13), .int 1])), ((r 10), .inr (9, [.ref (r 26), .ref (r 27), .ref (r 28), .ref (r 29), .ref (r 30), .ref (r 31), .int 0, .int 0, .int 0, .int 0, .int 0]))]) [0, 1] (by decide) rfl
  have hFc := va_free (wc := [(h0, .inr (11, [.ref (r 0), .ref (r 1), .ref (r 2), .ref (r 3), .ref (r 4), .ref (r 5), .ref (r 6), .ref (r 7), .ref (r 8), .ref (r 9), .ref (r 10), .ref (r 11), .ref (r 12), .ref (r 13), .int 1])), ((r 10), .inr (9, [.ref (r 26), .ref (r 27), .ref (r 28), .ref (r 29), .ref (r 30), .ref (r 31), .int 0, .int 0, .int 0, .int 0, .int 0]))]) hD hS hA [0, 1] rfl
  refine va_calli (va_runV (As := []) (rest := []) ⟨hx, hb, hml, hown, hts⟩ (c_X11_matched l dC dI cI cJ h0 r s.heap.size) (cwV 0 hts gX11_turn_X11_matched rfl rfl rfl (by decide +kernel) ⟨Nat.le_of_ble_eq_true rfl, Nat.le_of_ble_eq_true rfl⟩) ⟨mBlind, va_recv hK hPc (ci := 11) (q0 := 0) rfl rfl, mGo hPc hK hDc hN⟩ rfl rfl hl.1 rfl (lv_room (Nat.le_of_ble_eq_true rfl)) dX11_turn_1 ⟨Nat.le_of_ble_eq_true rfl, Nat.le_of_ble_eq_true rfl⟩) hS (fun q _ h => hFc q h) hFc (fun r_1 u t H1 locs ht hvm hw hB hz1 hk1 hS => ?_)
  obtain ⟨hP1, hD1⟩ := hB
  obtain rfl : r_1 = 0 := hw
  rw [ht] at hP1
  obtain ⟨hP, hD⟩ := va_join (wr := [((r 9), .inl (cI, 6, .inl (fun _ => 0)))]) (w1 := [(h0, .inr (11, [.ref (r 0), .ref (r 1), .ref (r 2), .ref (r 3), .ref (r 4), .ref (r 5), .ref (r 6), .ref (r 7), .ref (r 8), .ref (r 9), .ref (r 10), .ref (r 11), .ref (r 12), .ref (r 13), .int 1])), ((r 10), .inr (9, [.ref (r 26), .ref (r 27), .ref (r 28), .ref (r 29), .ref (r 30), .ref (r 31), .int 0, .int 0, .int 0, .int 0, .int 0]))]) hP hD [0, 1] [2] rfl rfl (by decide) (by decide) hk1 hFc hP1 hD1
  generalize H1 = H at hP hS ⊢
  have hP : va_P (dC, dI) vwCl [((r 9), .inl (cI, 6, .inl (fun _ => 0))), (h0, .inr (11, [.ref (r 0), .ref (r 1), .ref (r 2), .ref (r 3), .ref (r 4), .ref (r 5), .ref (r 6), .ref (r 7), .ref (r 8), .ref (r 9), .ref (r 10), .ref (r 11), .ref (r 12), .ref (r 13), .int 1])), ((r 10), .inr (9, [.ref (r 26), .ref (r 27), .ref (r 28), .ref (r 29), .ref (r 30), .ref (r 31), .int 0, .int 0, .int 0, .int 0, .int 0]))] H := hP
  have hD : va_D A [((r 9), .inl (cI, 6, .inl (fun _ => 0))), (h0, .inr (11, [.ref (r 0), .ref (r 1), .ref (r 2), .ref (r 3), .ref (r 4), .ref (r 5), .ref (r 6), .ref (r 7), .ref (r 8), .ref (r 9), .ref (r 10), .ref (r 11), .ref (r 12), .ref (r 13), .int 1])), ((r 10), .inr (9, [.ref (r 26), .ref (r 27), .ref (r 28), .ref (r 29), .ref (r 30), .ref (r 31), .int 0, .int 0, .int 0, .int 0, .int 0]))] := hD
  refine lv_if_eq (tgt := 17) hx hb dX11_turn_4 (by decide) (fun _ => ?_) (fun c => absurd (by decide) c)
  refine lv_aload_n hx hb dX11_turn_17 rfl (lv_at hl 0 rfl) ?_
  refine lv_iconst (v := 3) hx hb dX11_turn_18 (by decide) ?_
  have hPc := hP.sub (ws' := [(h0, .inr (11, [.ref (r 0), .ref (r 1), .ref (r 2), .ref (r 3), .ref (r 4), .ref (r 5), .ref (r 6), .ref (r 7), .ref (r 8), .ref (r 9), .ref (r 10), .ref (r 11), .ref (r 12), .ref (r 13), .int 1])), ((r 9), .inl (cI, 6, .inl (fun _ => 0)))]) [1, 0] rfl
  have hDc := hD.sub (ws' := [(h0, .inr (11, [.ref (r 0), .ref (r 1), .ref (r 2), .ref (r 3), .ref (r 4), .ref (r 5), .ref (r 6), .ref (r 7), .ref (r 8), .ref (r 9), .ref (r 10), .ref (r 11), .ref (r 12), .ref (r 13), .int 1])), ((r 9), .inl (cI, 6, .inl (fun _ => 0)))]) [1, 0] (by decide) rfl
  have hFc := va_free (wc := [(h0, .inr (11, [.ref (r 0), .ref (r 1), .ref (r 2), .ref (r 3), .ref (r 4), .ref (r 5), .ref (r 6), .ref (r 7), .ref (r 8), .ref (r 9), .ref (r 10), .ref (r 11), .ref (r 12), .ref (r 13), .int 1])), ((r 9), .inl (cI, 6, .inl (fun _ => 0)))]) hD hS hA [1, 0] rfl
  refine va_calli (va_runV (As := [.int 3]) (rest := []) ⟨hx, hb, hml, hown, hts⟩ (c_X11_refuse_3 l dC dI cI cJ h0 r H.size) (cwV 1 hts gX11_turn_X11_refuse rfl rfl rfl (by decide +kernel) ⟨Nat.le_of_ble_eq_true rfl, Nat.le_of_ble_eq_true rfl⟩) ⟨mBlind, va_recv hK hPc (ci := 11) (q0 := 0) rfl rfl, mGo hPc hK hDc hN⟩ rfl rfl hl.1 rfl (lv_room (Nat.le_of_ble_eq_true rfl)) dX11_turn_19 ⟨Nat.le_of_ble_eq_true rfl, Nat.le_of_ble_eq_true rfl⟩) hS (fun q _ h => hFc q h) hFc (fun r_2 u t H1 locs ht hvm hw hB hz1 hk1 hS => ?_)
  obtain ⟨g_3, hP1, hD1⟩ := hB
  obtain rfl : r_2 = 0 := hw
  rw [ht] at hP1
  obtain ⟨hP, hD⟩ := va_join (wr := [((r 10), .inr (9, [.ref (r 26), .ref (r 27), .ref (r 28), .ref (r 29), .ref (r 30), .ref (r 31), .int 0, .int 0, .int 0, .int 0, .int 0]))]) (w1 := [(h0, .inr (11, [.ref (r 0), .ref (r 1), .ref (r 2), .ref (r 3), .ref (r 4), .ref (r 5), .ref (r 6), .ref (r 7), .ref (r 8), .ref (r 9), .ref (r 10), .ref (r 11), .ref (r 12), .ref (r 13), .int 1])), ((r 9), .inl (cI, 6, .inl g_3))]) hP hD [1, 0] [2] rfl rfl (by decide) (by decide) hk1 hFc hP1 hD1
  generalize H1 = H at hP hS ⊢
  have hP : va_P (dC, dI) vwCl [((r 10), .inr (9, [.ref (r 26), .ref (r 27), .ref (r 28), .ref (r 29), .ref (r 30), .ref (r 31), .int 0, .int 0, .int 0, .int 0, .int 0])), (h0, .inr (11, [.ref (r 0), .ref (r 1), .ref (r 2), .ref (r 3), .ref (r 4), .ref (r 5), .ref (r 6), .ref (r 7), .ref (r 8), .ref (r 9), .ref (r 10), .ref (r 11), .ref (r 12), .ref (r 13), .int 1])), ((r 9), .inl (cI, 6, .inl g_3))] H := hP
  have hD : va_D A [((r 10), .inr (9, [.ref (r 26), .ref (r 27), .ref (r 28), .ref (r 29), .ref (r 30), .ref (r 31), .int 0, .int 0, .int 0, .int 0, .int 0])), (h0, .inr (11, [.ref (r 0), .ref (r 1), .ref (r 2), .ref (r 3), .ref (r 4), .ref (r 5), .ref (r 6), .ref (r 7), .ref (r 8), .ref (r 9), .ref (r 10), .ref (r 11), .ref (r 12), .ref (r 13), .int 1])), ((r 9), .inl (cI, 6, .inl g_3))] := hD
  refine lv_pop hx hb dX11_turn_22 rfl ?_
  refine lv_iconst (v := (-1)) hx hb dX11_turn_23 (by decide) ?_
  exact W.iret (v := (-1)) hx hb hr (fun t ht hW => ⟨⟨(-1), (), rfl, rfl, trivial⟩, hS.F ht⟩) hS.2.2 dX11_turn_24
abbrev w0_c_X11_choose (cI : ClassId) (h0 : Nat) (r : Nat → Nat) (p0 : Int32) : va_W := [(h0, .inr (11, [.ref (r 0), .ref (r 1), .ref (r 2), .ref (r 3), .ref (r 4), .ref (r 5), .ref (r 6), .ref (r 7), .ref (r 8), .ref (r 9), .ref (r 10), .ref (r 11), .ref (r 12), .ref (r 13), .int 1])), ((r 10), .inr (9, [.ref (r 26), .ref (r 27), .ref (r 28), .ref (r 29), .ref (r 30), .ref (r 31), .int 0, .int 0, .int 0, .int 0, .int 0])), ((r 9), .inl (cI, 6, .inl (fun _ => 0)))]
set_option maxHeartbeats 4000000 in
set_option maxRecDepth 100000 in
theorem c_X11_choose (l : Launch) (dC : Nat → ClassId) (dI : Nat → Nat → Nat) (cI cJ : ClassId) (h0 : Nat) (r : Nat → Nat) (p0 : Int32) (sz : Nat) : Met l yX11_choose wsX11_choose ({ frames := 2, cells := 0, slots := 0, locals := 81 }) (va_Pc [.ref h0, .int p0] (mPre dC dI cI cJ sz (w0_c_X11_choose cI h0 r p0))) (va_Qi (fun (r : Int32) (u : Unit) => r = 0) (fun _ _ => True) (va_A (w0_c_X11_choose cI h0 r p0) sz)) 0 0 (va_A (w0_c_X11_choose cI h0 r p0) sz) := by
  refine Met.ofW (cc := cX11_choose) (maxL := 2) (ret := (some .boolean)) (by decide) rfl ?_
  intro p e s m args below meth c s₁ B hml hv
  obtain ⟨rfl, hsz, hP, hK, hD0, hN⟩ := hv
  have hx := B.exec
  have hb := B.bytes
  have hr := B.returns
  have hts := atoms_spec (ws := wsX11_choose) B.pre
  have hown : s.vm.findClass RX11 = some m.cls := findClass_of_methodNamed B.named
  have hlocks := B.notSynchronized
  have h_in_X11 : ∀ w ∈ wsX110, w ∈ wsX11_choose := fun w h => List.mem_cons_of_mem _ (List.mem_append_left _ (List.mem_append_left _ (List.mem_append_left _ (List.mem_append_right _ h))))
  have h_in_X5 : ∀ w ∈ wsX50, w ∈ wsX11_choose := fun w h => List.mem_cons_of_mem _ (List.mem_append_left _ (List.mem_append_left _ (List.mem_append_right _ h)))
  have h_in_X9 : ∀ w ∈ wsX90, w ∈ wsX11_choose := fun w h => List.mem_cons_of_mem _ (List.mem_append_left _ (List.mem_append_right _ h))
  have h_in_X0 : ∀ w ∈ wsX00, w ∈ wsX11_choose := fun w h => List.mem_cons_of_mem _ (List.mem_append_right _ h)
  subst hsz
  have hD := hD0.self (sz := s.heap.size)
  generalize hAe : va_A (w0_c_X11_choose cI h0 r p0) s.heap.size = A at hD ⊢
  have hA : ∀ q : Nat, s.heap.size ≤ q → A q := fun q h => by rw [← hAe]; exact Or.inr h
  have hS : va_S A s.heap s.heap [] := va_S.rf
  have hP : va_P (dC, dI) vwCl [(h0, .inr (11, [.ref (r 0), .ref (r 1), .ref (r 2), .ref (r 3), .ref (r 4), .ref (r 5), .ref (r 6), .ref (r 7), .ref (r 8), .ref (r 9), .ref (r 10), .ref (r 11), .ref (r 12), .ref (r 13), .int 1])), ((r 10), .inr (9, [.ref (r 26), .ref (r 27), .ref (r 28), .ref (r 29), .ref (r 30), .ref (r 31), .int 0, .int 0, .int 0, .int 0, .int 0])), ((r 9), .inl (cI, 6, .inl (fun _ => 0)))] s.heap := hP
  have hD : va_D A [(h0, .inr (11, [.ref (r 0), .ref (r 1), .ref (r 2), .ref (r 3), .ref (r 4), .ref (r 5), .ref (r 6), .ref (r 7), .ref (r 8), .ref (r 9), .ref (r 10), .ref (r 11), .ref (r 12), .ref (r 13), .int 1])), ((r 10), .inr (9, [.ref (r 26), .ref (r 27), .ref (r 28), .ref (r 29), .ref (r 30), .ref (r 31), .int 0, .int 0, .int 0, .int 0, .int 0])), ((r 9), .inl (cI, 6, .inl (fun _ => 0)))] := hD
  have hl := lv_entry ([.ref h0, .int p0]) (n := 2) (Nat.le_of_ble_eq_true rfl)
  rw [lg_entry_eq]
  generalize (lg_sl ([.ref h0, .int p0]) ++ List.replicate (2 - (lg_sl ([.ref h0, .int p0])).length) Slot.unset).toArray = ls at hl ⊢
  have hl : lv_has ls 2 [(0, .ref h0), (1, .int p0)] := hl
  refine lv_aload_n hx hb dX11_choose_0 rfl (lv_at hl 0 rfl) ?_
  have hPc := hP.sub (ws' := [(h0, .inr (11, [.ref (r 0), .ref (r 1), .ref (r 2), .ref (r 3), .ref (r 4), .ref (r 5), .ref (r 6), .ref (r 7), .ref (r 8), .ref (r 9), .ref (r 10), .ref (r 11), .ref (r 12), .ref (r 13), .int 1])), ((r 10), .inr (9, [.ref (r 26), .ref (r 27), .ref (r 28), .ref (r 29), .ref (r 30), .ref (r 31), .int 0, .int 0, .int 0, .int 0, .int 0]))]) [0, 1] rfl
  have hDc := hD.sub (ws' := [(h0, .inr (11, [.ref (r 0), .ref (r 1), .ref (r 2), .ref (r 3), .ref (r 4), .ref (r 5), .ref (r 6), .ref (r 7), .ref (r 8), .ref (r 9), .ref (r 10), .ref (r 11), .ref (r 12), .ref (r 13), .int 1])), ((r 10), .inr (9, [.ref (r 26), .ref (r 27), .ref (r 28), .ref (r 29), .ref (r 30), .ref (r 31), .int 0, .int 0, .int 0, .int 0, .int 0]))]) [0, 1] (by decide) rfl
  have hFc := va_free (wc := [(h0, .inr (11, [.ref (r 0), .ref (r 1), .ref (r 2), .ref (r 3), .ref (r 4), .ref (r 5), .ref (r 6), .ref (r 7), .ref (r 8), .ref (r 9), .ref (r 10), .ref (r 11), .ref (r 12), .ref (r 13), .int 1])), ((r 10), .inr (9, [.ref (r 26), .ref (r 27), .ref (r 28), .ref (r 29), .ref (r 30), .ref (r 31), .int 0, .int 0, .int 0, .int 0, .int 0]))]) hD hS hA [0, 1] rfl
  refine va_calli (va_runV (As := []) (rest := []) ⟨hx, hb, hml, hown, hts⟩ (c_X11_matched l dC dI cI cJ h0 r s.heap.size) (cwV 0 hts gX11_choose_X11_matched rfl rfl rfl (by decide +kernel) ⟨Nat.le_of_ble_eq_true rfl, Nat.le_of_ble_eq_true rfl⟩) ⟨mBlind, va_recv hK hPc (ci := 11) (q0 := 0) rfl rfl, mGo hPc hK hDc hN⟩ rfl rfl hl.1 rfl (lv_room (Nat.le_of_ble_eq_true rfl)) dX11_choose_1 ⟨Nat.le_of_ble_eq_true rfl, Nat.le_of_ble_eq_true rfl⟩) hS (fun q _ h => hFc q h) hFc (fun r_1 u t H1 locs ht hvm hw hB hz1 hk1 hS => ?_)
  obtain ⟨hP1, hD1⟩ := hB
  obtain rfl : r_1 = 0 := hw
  rw [ht] at hP1
  obtain ⟨hP, hD⟩ := va_join (wr := [((r 9), .inl (cI, 6, .inl (fun _ => 0)))]) (w1 := [(h0, .inr (11, [.ref (r 0), .ref (r 1), .ref (r 2), .ref (r 3), .ref (r 4), .ref (r 5), .ref (r 6), .ref (r 7), .ref (r 8), .ref (r 9), .ref (r 10), .ref (r 11), .ref (r 12), .ref (r 13), .int 1])), ((r 10), .inr (9, [.ref (r 26), .ref (r 27), .ref (r 28), .ref (r 29), .ref (r 30), .ref (r 31), .int 0, .int 0, .int 0, .int 0, .int 0]))]) hP hD [0, 1] [2] rfl rfl (by decide) (by decide) hk1 hFc hP1 hD1
  generalize H1 = H at hP hS ⊢
  have hP : va_P (dC, dI) vwCl [((r 9), .inl (cI, 6, .inl (fun _ => 0))), (h0, .inr (11, [.ref (r 0), .ref (r 1), .ref (r 2), .ref (r 3), .ref (r 4), .ref (r 5), .ref (r 6), .ref (r 7), .ref (r 8), .ref (r 9), .ref (r 10), .ref (r 11), .ref (r 12), .ref (r 13), .int 1])), ((r 10), .inr (9, [.ref (r 26), .ref (r 27), .ref (r 28), .ref (r 29), .ref (r 30), .ref (r 31), .int 0, .int 0, .int 0, .int 0, .int 0]))] H := hP
  have hD : va_D A [((r 9), .inl (cI, 6, .inl (fun _ => 0))), (h0, .inr (11, [.ref (r 0), .ref (r 1), .ref (r 2), .ref (r 3), .ref (r 4), .ref (r 5), .ref (r 6), .ref (r 7), .ref (r 8), .ref (r 9), .ref (r 10), .ref (r 11), .ref (r 12), .ref (r 13), .int 1])), ((r 10), .inr (9, [.ref (r 26), .ref (r 27), .ref (r 28), .ref (r 29), .ref (r 30), .ref (r 31), .int 0, .int 0, .int 0, .int 0, .int 0]))] := hD
  refine lv_if_eq (tgt := 25) hx hb dX11_choose_4 (by decide) (fun _ => ?_) (fun c => absurd (by decide) c)
  refine lv_aload_n hx hb dX11_choose_25 rfl (lv_at hl 0 rfl) ?_
  refine lv_iconst (v := 3) hx hb dX11_choose_26 (by decide) ?_
  have hPc := hP.sub (ws' := [(h0, .inr (11, [.ref (r 0), .ref (r 1), .ref (r 2), .ref (r 3), .ref (r 4), .ref (r 5), .ref (r 6), .ref (r 7), .ref (r 8), .ref (r 9), .ref (r 10), .ref (r 11), .ref (r 12), .ref (r 13), .int 1])), ((r 9), .inl (cI, 6, .inl (fun _ => 0)))]) [1, 0] rfl
  have hDc := hD.sub (ws' := [(h0, .inr (11, [.ref (r 0), .ref (r 1), .ref (r 2), .ref (r 3), .ref (r 4), .ref (r 5), .ref (r 6), .ref (r 7), .ref (r 8), .ref (r 9), .ref (r 10), .ref (r 11), .ref (r 12), .ref (r 13), .int 1])), ((r 9), .inl (cI, 6, .inl (fun _ => 0)))]) [1, 0] (by decide) rfl
  have hFc := va_free (wc := [(h0, .inr (11, [.ref (r 0), .ref (r 1), .ref (r 2), .ref (r 3), .ref (r 4), .ref (r 5), .ref (r 6), .ref (r 7), .ref (r 8), .ref (r 9), .ref (r 10), .ref (r 11), .ref (r 12), .ref (r 13), .int 1])), ((r 9), .inl (cI, 6, .inl (fun _ => 0)))]) hD hS hA [1, 0] rfl
  refine va_calli (va_runV (As := [.int 3]) (rest := []) ⟨hx, hb, hml, hown, hts⟩ (c_X11_refuse_3 l dC dI cI cJ h0 r H.size) (cwV 1 hts gX11_choose_X11_refuse rfl rfl rfl (by decide +kernel) ⟨Nat.le_of_ble_eq_true rfl, Nat.le_of_ble_eq_true rfl⟩) ⟨mBlind, va_recv hK hPc (ci := 11) (q0 := 0) rfl rfl, mGo hPc hK hDc hN⟩ rfl rfl hl.1 rfl (lv_room (Nat.le_of_ble_eq_true rfl)) dX11_choose_27 ⟨Nat.le_of_ble_eq_true rfl, Nat.le_of_ble_eq_true rfl⟩) hS (fun q _ h => hFc q h) hFc (fun r_2 u t H1 locs ht hvm hw hB hz1 hk1 hS => ?_)
  obtain ⟨g_3, hP1, hD1⟩ := hB
  obtain rfl : r_2 = 0 := hw
  rw [ht] at hP1
  obtain ⟨hP, hD⟩ := va_join (wr := [((r 10), .inr (9, [.ref (r 26), .ref (r 27), .ref (r 28), .ref (r 29), .ref (r 30), .ref (r 31), .int 0, .int 0, .int 0, .int 0, .int 0]))]) (w1 := [(h0, .inr (11, [.ref (r 0), .ref (r 1), .ref (r 2), .ref (r 3), .ref (r 4), .ref (r 5), .ref (r 6), .ref (r 7), .ref (r 8), .ref (r 9), .ref (r 10), .ref (r 11), .ref (r 12), .ref (r 13), .int 1])), ((r 9), .inl (cI, 6, .inl g_3))]) hP hD [1, 0] [2] rfl rfl (by decide) (by decide) hk1 hFc hP1 hD1
  generalize H1 = H at hP hS ⊢
  have hP : va_P (dC, dI) vwCl [((r 10), .inr (9, [.ref (r 26), .ref (r 27), .ref (r 28), .ref (r 29), .ref (r 30), .ref (r 31), .int 0, .int 0, .int 0, .int 0, .int 0])), (h0, .inr (11, [.ref (r 0), .ref (r 1), .ref (r 2), .ref (r 3), .ref (r 4), .ref (r 5), .ref (r 6), .ref (r 7), .ref (r 8), .ref (r 9), .ref (r 10), .ref (r 11), .ref (r 12), .ref (r 13), .int 1])), ((r 9), .inl (cI, 6, .inl g_3))] H := hP
  have hD : va_D A [((r 10), .inr (9, [.ref (r 26), .ref (r 27), .ref (r 28), .ref (r 29), .ref (r 30), .ref (r 31), .int 0, .int 0, .int 0, .int 0, .int 0])), (h0, .inr (11, [.ref (r 0), .ref (r 1), .ref (r 2), .ref (r 3), .ref (r 4), .ref (r 5), .ref (r 6), .ref (r 7), .ref (r 8), .ref (r 9), .ref (r 10), .ref (r 11), .ref (r 12), .ref (r 13), .int 1])), ((r 9), .inl (cI, 6, .inl g_3))] := hD
  exact W.zret (v := 0) hx hb hr rfl (fun t ht hW => ⟨⟨0, (), rfl, rfl, trivial⟩, hS.F ht⟩) hS.2.2 dX11_choose_30
abbrev w0_c_X11_undo (cI : ClassId) (h0 : Nat) (r : Nat → Nat) : va_W := [(h0, .inr (11, [.ref (r 0), .ref (r 1), .ref (r 2), .ref (r 3), .ref (r 4), .ref (r 5), .ref (r 6), .ref (r 7), .ref (r 8), .ref (r 9), .ref (r 10), .ref (r 11), .ref (r 12), .ref (r 13), .int 1])), ((r 7), .inr (0, [.ref (r 17), .ref (r 18), .ref (r 19), .ref (r 20), .ref (r 21), .int 0, .int 0, .int 0])), ((r 9), .inl (cI, 6, .inl (fun _ => 0)))]
set_option maxHeartbeats 4000000 in
set_option maxRecDepth 100000 in
theorem c_X11_undo (l : Launch) (dC : Nat → ClassId) (dI : Nat → Nat → Nat) (cI cJ : ClassId) (h0 : Nat) (r : Nat → Nat) (sz : Nat) : Met l yX11_undo wsX11_undo ({ frames := 2, cells := 0, slots := 0, locals := 81 }) (va_Pc [.ref h0] (mPre dC dI cI cJ sz (w0_c_X11_undo cI h0 r))) (va_Qi (fun (r : Int32) (u : Unit) => r = 0) (fun _ _ => True) (va_A (w0_c_X11_undo cI h0 r) sz)) 0 0 (va_A (w0_c_X11_undo cI h0 r) sz) := by
  refine Met.ofW (cc := cX11_undo) (maxL := 1) (ret := (some .boolean)) (by decide) rfl ?_
  intro p e s m args below meth c s₁ B hml hv
  obtain ⟨rfl, hsz, hP, hK, hD0, hN⟩ := hv
  have hx := B.exec
  have hb := B.bytes
  have hr := B.returns
  have hts := atoms_spec (ws := wsX11_undo) B.pre
  have hown : s.vm.findClass RX11 = some m.cls := findClass_of_methodNamed B.named
  have hlocks := B.notSynchronized
  have h_in_X11 : ∀ w ∈ wsX110, w ∈ wsX11_undo := fun w h => List.mem_cons_of_mem _ (List.mem_append_left _ (List.mem_append_left _ (List.mem_append_right _ h)))
  have h_in_X0 : ∀ w ∈ wsX00, w ∈ wsX11_undo := fun w h => List.mem_cons_of_mem _ (List.mem_append_left _ (List.mem_append_right _ h))
  have h_in_X5 : ∀ w ∈ wsX50, w ∈ wsX11_undo := fun w h => List.mem_cons_of_mem _ (List.mem_append_right _ h)
  subst hsz
  have hD := hD0.self (sz := s.heap.size)
  generalize hAe : va_A (w0_c_X11_undo cI h0 r) s.heap.size = A at hD ⊢
  have hA : ∀ q : Nat, s.heap.size ≤ q → A q := fun q h => by rw [← hAe]; exact Or.inr h
  have hS : va_S A s.heap s.heap [] := va_S.rf
  have hP : va_P (dC, dI) vwCl [(h0, .inr (11, [.ref (r 0), .ref (r 1), .ref (r 2), .ref (r 3), .ref (r 4), .ref (r 5), .ref (r 6), .ref (r 7), .ref (r 8), .ref (r 9), .ref (r 10), .ref (r 11), .ref (r 12), .ref (r 13), .int 1])), ((r 7), .inr (0, [.ref (r 17), .ref (r 18), .ref (r 19), .ref (r 20), .ref (r 21), .int 0, .int 0, .int 0])), ((r 9), .inl (cI, 6, .inl (fun _ => 0)))] s.heap := hP
  have hD : va_D A [(h0, .inr (11, [.ref (r 0), .ref (r 1), .ref (r 2), .ref (r 3), .ref (r 4), .ref (r 5), .ref (r 6), .ref (r 7), .ref (r 8), .ref (r 9), .ref (r 10), .ref (r 11), .ref (r 12), .ref (r 13), .int 1])), ((r 7), .inr (0, [.ref (r 17), .ref (r 18), .ref (r 19), .ref (r 20), .ref (r 21), .int 0, .int 0, .int 0])), ((r 9), .inl (cI, 6, .inl (fun _ => 0)))] := hD
  have hl := lv_entry ([.ref h0]) (n := 1) (Nat.le_of_ble_eq_true rfl)
  rw [lg_entry_eq]
  generalize (lg_sl ([.ref h0]) ++ List.replicate (1 - (lg_sl ([.ref h0])).length) Slot.unset).toArray = ls at hl ⊢
  have hl : lv_has ls 1 [(0, .ref h0)] := hl
  refine lv_aload_n hx hb dX11_undo_0 rfl (lv_at hl 0 rfl) ?_
  refine va_get (D := (dC, dI)) (ci := 11) (v := .ref (r 7)) (C := RX11) (T := TX11) (N := 15) hx hb hts h_in_X11 hown hK hP 0 rfl rfl 7 (by decide) (hts (.fieldLink RX11 53 "MatchTrees" "acts" "LMatchTrees$Acts;") (by decide +kernel)) (fun _ h9 => h9) rfl dX11_undo_1 ?_
  refine va_get (D := (dC, dI)) (ci := 0) (v := .int 0) (C := RX0) (T := TX0) (N := 8) hx hb hts h_in_X0 hown hK hP 1 rfl rfl 7 (by decide) (hts (.fieldLink RX11 185 "MatchTrees$Acts" "undoable" "I") (by decide +kernel)) (fun _ h9 => h9) rfl dX11_undo_4 ?_
  refine lv_if_ne (tgt := 16) hx hb dX11_undo_7 (by decide) (fun c => absurd c (by decide)) (fun _ => ?_)
  refine lv_aload_n hx hb dX11_undo_10 rfl (lv_at hl 0 rfl) ?_
  refine lv_iconst (v := 4) hx hb dX11_undo_11 (by decide) ?_
  have hPc := hP.sub (ws' := [(h0, .inr (11, [.ref (r 0), .ref (r 1), .ref (r 2), .ref (r 3), .ref (r 4), .ref (r 5), .ref (r 6), .ref (r 7), .ref (r 8), .ref (r 9), .ref (r 10), .ref (r 11), .ref (r 12), .ref (r 13), .int 1])), ((r 9), .inl (cI, 6, .inl (fun _ => 0)))]) [0, 2] rfl
  have hDc := hD.sub (ws' := [(h0, .inr (11, [.ref (r 0), .ref (r 1), .ref (r 2), .ref (r 3), .ref (r 4), .ref (r 5), .ref (r 6), .ref (r 7), .ref (r 8), .ref (r 9), .ref (r 10), .ref (r 11), .ref (r 12), .ref (r 13), .int 1])), ((r 9), .inl (cI, 6, .inl (fun _ => 0)))]) [0, 2] (by decide) rfl
  have hFc := va_free (wc := [(h0, .inr (11, [.ref (r 0), .ref (r 1), .ref (r 2), .ref (r 3), .ref (r 4), .ref (r 5), .ref (r 6), .ref (r 7), .ref (r 8), .ref (r 9), .ref (r 10), .ref (r 11), .ref (r 12), .ref (r 13), .int 1])), ((r 9), .inl (cI, 6, .inl (fun _ => 0)))]) hD hS hA [0, 2] rfl
  refine va_calli (va_runV (As := [.int 4]) (rest := []) ⟨hx, hb, hml, hown, hts⟩ (c_X11_refuse_4 l dC dI cI cJ h0 r s.heap.size) (cwV 1 hts gX11_undo_X11_refuse rfl rfl rfl (by decide +kernel) ⟨Nat.le_of_ble_eq_true rfl, Nat.le_of_ble_eq_true rfl⟩) ⟨mBlind, va_recv hK hPc (ci := 11) (q0 := 0) rfl rfl, mGo hPc hK hDc hN⟩ rfl rfl hl.1 rfl (lv_room (Nat.le_of_ble_eq_true rfl)) dX11_undo_12 ⟨Nat.le_of_ble_eq_true rfl, Nat.le_of_ble_eq_true rfl⟩) hS (fun q _ h => hFc q h) hFc (fun r_1 u t H1 locs ht hvm hw hB hz1 hk1 hS => ?_)
  obtain ⟨g_2, hP1, hD1⟩ := hB
  obtain rfl : r_1 = 0 := hw
  rw [ht] at hP1
  obtain ⟨hP, hD⟩ := va_join (wr := [((r 7), .inr (0, [.ref (r 17), .ref (r 18), .ref (r 19), .ref (r 20), .ref (r 21), .int 0, .int 0, .int 0]))]) (w1 := [(h0, .inr (11, [.ref (r 0), .ref (r 1), .ref (r 2), .ref (r 3), .ref (r 4), .ref (r 5), .ref (r 6), .ref (r 7), .ref (r 8), .ref (r 9), .ref (r 10), .ref (r 11), .ref (r 12), .ref (r 13), .int 1])), ((r 9), .inl (cI, 6, .inl g_2))]) hP hD [0, 2] [1] rfl rfl (by decide) (by decide) hk1 hFc hP1 hD1
  generalize H1 = H at hP hS ⊢
  have hP : va_P (dC, dI) vwCl [((r 7), .inr (0, [.ref (r 17), .ref (r 18), .ref (r 19), .ref (r 20), .ref (r 21), .int 0, .int 0, .int 0])), (h0, .inr (11, [.ref (r 0), .ref (r 1), .ref (r 2), .ref (r 3), .ref (r 4), .ref (r 5), .ref (r 6), .ref (r 7), .ref (r 8), .ref (r 9), .ref (r 10), .ref (r 11), .ref (r 12), .ref (r 13), .int 1])), ((r 9), .inl (cI, 6, .inl g_2))] H := hP
  have hD : va_D A [((r 7), .inr (0, [.ref (r 17), .ref (r 18), .ref (r 19), .ref (r 20), .ref (r 21), .int 0, .int 0, .int 0])), (h0, .inr (11, [.ref (r 0), .ref (r 1), .ref (r 2), .ref (r 3), .ref (r 4), .ref (r 5), .ref (r 6), .ref (r 7), .ref (r 8), .ref (r 9), .ref (r 10), .ref (r 11), .ref (r 12), .ref (r 13), .int 1])), ((r 9), .inl (cI, 6, .inl g_2))] := hD
  exact W.zret (v := 0) hx hb hr rfl (fun t ht hW => ⟨⟨0, (), rfl, rfl, trivial⟩, hS.F ht⟩) hS.2.2 dX11_undo_15
abbrev w0_c_X11_on (cI : ClassId) (h0 : Nat) (r : Nat → Nat) : va_W := [(h0, .inr (11, [.ref (r 0), .ref (r 1), .ref (r 2), .ref (r 3), .ref (r 4), .ref (r 5), .ref (r 6), .ref (r 7), .ref (r 8), .ref (r 9), .ref (r 10), .ref (r 11), .ref (r 12), .ref (r 13), .int 1])), ((r 10), .inr (9, [.ref (r 26), .ref (r 27), .ref (r 28), .ref (r 29), .ref (r 30), .ref (r 31), .int 0, .int 0, .int 0, .int 0, .int 0])), ((r 0), .inr (1, [.ref (r 14), .int 0])), ((r 9), .inl (cI, 6, .inl (fun _ => 0)))]
set_option maxHeartbeats 4000000 in
set_option maxRecDepth 100000 in
theorem c_X11_on (l : Launch) (dC : Nat → ClassId) (dI : Nat → Nat → Nat) (cI cJ : ClassId) (h0 : Nat) (r : Nat → Nat) (sz : Nat) : Met l yX11_on wsX11_on ({ frames := 2, cells := 0, slots := 0, locals := 81 }) (va_Pc [.ref h0] (mPre dC dI cI cJ sz (w0_c_X11_on cI h0 r))) (va_Qi (fun (r : Int32) (u : Unit) => r = 0) (fun _ _ => True) (va_A (w0_c_X11_on cI h0 r) sz)) 0 0 (va_A (w0_c_X11_on cI h0 r) sz) := by
  refine Met.ofW (cc := cX11_on) (maxL := 2) (ret := (some .boolean)) (by decide) rfl ?_
  intro p e s m args below meth c s₁ B hml hv
  obtain ⟨rfl, hsz, hP, hK, hD0, hN⟩ := hv
  have hx := B.exec
  have hb := B.bytes
  have hr := B.returns
  have hts := atoms_spec (ws := wsX11_on) B.pre
  have hown : s.vm.findClass RX11 = some m.cls := findClass_of_methodNamed B.named
  have hlocks := B.notSynchronized
  have h_in_X11 : ∀ w ∈ wsX110, w ∈ wsX11_on := fun w h => List.mem_cons_of_mem _ (List.mem_append_left _ (List.mem_append_left _ (List.mem_append_left _ (List.mem_append_left _ (List.mem_append_right _ h)))))
  have h_in_X1 : ∀ w ∈ wsX10, w ∈ wsX11_on := fun w h => List.mem_cons_of_mem _ (List.mem_append_left _ (List.mem_append_left _ (List.mem_append_left _ (List.mem_append_right _ h))))
  have h_in_X9 : ∀ w ∈ wsX90, w ∈ wsX11_on := fun w h => List.mem_cons_of_mem _ (List.mem_append_left _ (List.mem_append_left _ (List.mem_append_right _ h)))
  have h_in_X5 : ∀ w ∈ wsX50, w ∈ wsX11_on := fun w h => List.mem_cons_of_mem _ (List.mem_append_left _ (List.mem_append_right _ h))
  have h_in_X0 : ∀ w ∈ wsX00, w ∈ wsX11_on := fun w h => List.mem_cons_of_mem _ (List.mem_append_right _ h)
  subst hsz
  have hD := hD0.self (sz := s.heap.size)
  generalize hAe : va_A (w0_c_X11_on cI h0 r) s.heap.size = A at hD ⊢
  have hA : ∀ q : Nat, s.heap.size ≤ q → A q := fun q h => by rw [← hAe]; exact Or.inr h
  have hS : va_S A s.heap s.heap [] := va_S.rf
  have hP : va_P (dC, dI) vwCl [(h0, .inr (11, [.ref (r 0), .ref (r 1), .ref (r 2), .ref (r 3), .ref (r 4), .ref (r 5), .ref (r 6), .ref (r 7), .ref (r 8), .ref (r 9), .ref (r 10), .ref (r 11), .ref (r 12), .ref (r 13), .int 1])), ((r 10), .inr (9, [.ref (r 26), .ref (r 27), .ref (r 28), .ref (r 29), .ref (r 30), .ref (r 31), .int 0, .int 0, .int 0, .int 0, .int 0])), ((r 0), .inr (1, [.ref (r 14), .int 0])), ((r 9), .inl (cI, 6, .inl (fun _ => 0)))] s.heap := hP
  have hD : va_D A [(h0, .inr (11, [.ref (r 0), .ref (r 1), .ref (r 2), .ref (r 3), .ref (r 4), .ref (r 5), .ref (r 6), .ref (r 7), .ref (r 8), .ref (r 9), .ref (r 10), .ref (r 11), .ref (r 12), .ref (r 13), .int 1])), ((r 10), .inr (9, [.ref (r 26), .ref (r 27), .ref (r 28), .ref (r 29), .ref (r 30), .ref (r 31), .int 0, .int 0, .int 0, .int 0, .int 0])), ((r 0), .inr (1, [.ref (r 14), .int 0])), ((r 9), .inl (cI, 6, .inl (fun _ => 0)))] := hD
  have hl := lv_entry ([.ref h0]) (n := 2) (Nat.le_of_ble_eq_true rfl)
  rw [lg_entry_eq]
  generalize (lg_sl ([.ref h0]) ++ List.replicate (2 - (lg_sl ([.ref h0])).length) Slot.unset).toArray = ls at hl ⊢
  have hl : lv_has ls 2 [(0, .ref h0)] := hl
  refine lv_aload_n hx hb dX11_on_0 rfl (lv_at hl 0 rfl) ?_
  have hPc := hP.sub (ws' := [(h0, .inr (11, [.ref (r 0), .ref (r 1), .ref (r 2), .ref (r 3), .ref (r 4), .ref (r 5), .ref (r 6), .ref (r 7), .ref (r 8), .ref (r 9), .ref (r 10), .ref (r 11), .ref (r 12), .ref (r 13), .int 1])), ((r 10), .inr (9, [.ref (r 26), .ref (r 27), .ref (r 28), .ref (r 29), .ref (r 30), .ref (r 31), .int 0, .int 0, .int 0, .int 0, .int 0]))]) [0, 1] rfl
  have hDc := hD.sub (ws' := [(h0, .inr (11, [.ref (r 0), .ref (r 1), .ref (r 2), .ref (r 3), .ref (r 4), .ref (r 5), .ref (r 6), .ref (r 7), .ref (r 8), .ref (r 9), .ref (r 10), .ref (r 11), .ref (r 12), .ref (r 13), .int 1])), ((r 10), .inr (9, [.ref (r 26), .ref (r 27), .ref (r 28), .ref (r 29), .ref (r 30), .ref (r 31), .int 0, .int 0, .int 0, .int 0, .int 0]))]) [0, 1] (by decide) rfl
  have hFc := va_free (wc := [(h0, .inr (11, [.ref (r 0), .ref (r 1), .ref (r 2), .ref (r 3), .ref (r 4), .ref (r 5), .ref (r 6), .ref (r 7), .ref (r 8), .ref (r 9), .ref (r 10), .ref (r 11), .ref (r 12), .ref (r 13), .int 1])), ((r 10), .inr (9, [.ref (r 26), .ref (r 27), .ref (r 28), .ref (r 29), .ref (r 30), .ref (r 31), .int 0, .int 0, .int 0, .int 0, .int 0]))]) hD hS hA [0, 1] rfl
  refine va_calli (va_runV (As := []) (rest := []) ⟨hx, hb, hml, hown, hts⟩ (c_X11_matched l dC dI cI cJ h0 r s.heap.size) (cwV 0 hts gX11_on_X11_matched rfl rfl rfl (by decide +kernel) ⟨Nat.le_of_ble_eq_true rfl, Nat.le_of_ble_eq_true rfl⟩) ⟨mBlind, va_recv hK hPc (ci := 11) (q0 := 0) rfl rfl, mGo hPc hK hDc hN⟩ rfl rfl hl.1 rfl (lv_room (Nat.le_of_ble_eq_true rfl)) dX11_on_1 ⟨Nat.le_of_ble_eq_true rfl, Nat.le_of_ble_eq_true rfl⟩) hS (fun q _ h => hFc q h) hFc (fun r_1 u t H1 locs ht hvm hw hB hz1 hk1 hS => ?_)
  obtain ⟨hP1, hD1⟩ := hB
  obtain rfl : r_1 = 0 := hw
  rw [ht] at hP1
  obtain ⟨hP, hD⟩ := va_join (wr := [((r 0), .inr (1, [.ref (r 14), .int 0])), ((r 9), .inl (cI, 6, .inl (fun _ => 0)))]) (w1 := [(h0, .inr (11, [.ref (r 0), .ref (r 1), .ref (r 2), .ref (r 3), .ref (r 4), .ref (r 5), .ref (r 6), .ref (r 7), .ref (r 8), .ref (r 9), .ref (r 10), .ref (r 11), .ref (r 12), .ref (r 13), .int 1])), ((r 10), .inr (9, [.ref (r 26), .ref (r 27), .ref (r 28), .ref (r 29), .ref (r 30), .ref (r 31), .int 0, .int 0, .int 0, .int 0, .int 0]))]) hP hD [0, 1] [2, 3] rfl rfl (by decide) (by decide) hk1 hFc hP1 hD1
  generalize H1 = H at hP hS ⊢
  have hP : va_P (dC, dI) vwCl [((r 0), .inr (1, [.ref (r 14), .int 0])), ((r 9), .inl (cI, 6, .inl (fun _ => 0))), (h0, .inr (11, [.ref (r 0), .ref (r 1), .ref (r 2), .ref (r 3), .ref (r 4), .ref (r 5), .ref (r 6), .ref (r 7), .ref (r 8), .ref (r 9), .ref (r 10), .ref (r 11), .ref (r 12), .ref (r 13), .int 1])), ((r 10), .inr (9, [.ref (r 26), .ref (r 27), .ref (r 28), .ref (r 29), .ref (r 30), .ref (r 31), .int 0, .int 0, .int 0, .int 0, .int 0]))] H := hP
  have hD : va_D A [((r 0), .inr (1, [.ref (r 14), .int 0])), ((r 9), .inl (cI, 6, .inl (fun _ => 0))), (h0, .inr (11, [.ref (r 0), .ref (r 1), .ref (r 2), .ref (r 3), .ref (r 4), .ref (r 5), .ref (r 6), .ref (r 7), .ref (r 8), .ref (r 9), .ref (r 10), .ref (r 11), .ref (r 12), .ref (r 13), .int 1])), ((r 10), .inr (9, [.ref (r 26), .ref (r 27), .ref (r 28), .ref (r 29), .ref (r 30), .ref (r 31), .int 0, .int 0, .int 0, .int 0, .int 0]))] := hD
  refine lv_if_eq (tgt := 18) hx hb dX11_on_4 (by decide) (fun _ => ?_) (fun c => absurd (by decide) c)
  refine lv_iconst (v := 0) hx hb dX11_on_18 (by decide) ?_
  refine lv_istore_n (lv' := [(1, .int 0), (0, .ref h0)]) hx hb dX11_on_19 rfl hl (by decide) rfl (fun ls hl => ?_)
  refine lv_iload_n hx hb dX11_on_20 rfl (lv_at hl 0 rfl) ?_
  refine lv_if_eq (tgt := 28) hx hb dX11_on_21 (by decide) (fun _ => ?_) (fun c => absurd (by decide) c)
  refine lv_aload_n hx hb dX11_on_28 rfl (lv_at hl 1 rfl) ?_
  refine va_get (D := (dC, dI)) (ci := 11) (v := .ref (r 0)) (C := RX11) (T := TX11) (N := 15) hx hb hts h_in_X11 hown hK hP 2 rfl rfl 0 (by decide) (hts (.fieldLink RX11 14 "MatchTrees" "tape" "LMatchTrees$Bytes;") (by decide +kernel)) (fun _ h9 => h9) rfl dX11_on_29 ?_
  refine lv_iconst (v := 0) hx hb dX11_on_32 (by decide) ?_
  refine va_put (D := (dC, dI)) (ci := 1) (v := .int 0) (ty := .int) (C := RX1) (T := TX1) (N := 2) hx hb hts h_in_X1 tyX1 tyX1_ok nmX1 hown hK hP hD hS 0 rfl rfl 1 (by decide) (hts (.fieldLink RX11 100 "MatchTrees$Bytes" "length" "I") (by decide +kernel)) (fun _ h9 => h9) rfl (by decide +kernel) rfl rfl (Nat.le_of_ble_eq_true rfl) dX11_on_33 (fun H locs hP hD hS => ?_)
  have hP : va_P (dC, dI) vwCl [((r 0), .inr (1, [.ref (r 14), .int 0])), ((r 9), .inl (cI, 6, .inl (fun _ => 0))), (h0, .inr (11, [.ref (r 0), .ref (r 1), .ref (r 2), .ref (r 3), .ref (r 4), .ref (r 5), .ref (r 6), .ref (r 7), .ref (r 8), .ref (r 9), .ref (r 10), .ref (r 11), .ref (r 12), .ref (r 13), .int 1])), ((r 10), .inr (9, [.ref (r 26), .ref (r 27), .ref (r 28), .ref (r 29), .ref (r 30), .ref (r 31), .int 0, .int 0, .int 0, .int 0, .int 0]))] H := hP
  have hD : va_D A [((r 0), .inr (1, [.ref (r 14), .int 0])), ((r 9), .inl (cI, 6, .inl (fun _ => 0))), (h0, .inr (11, [.ref (r 0), .ref (r 1), .ref (r 2), .ref (r 3), .ref (r 4), .ref (r 5), .ref (r 6), .ref (r 7), .ref (r 8), .ref (r 9), .ref (r 10), .ref (r 11), .ref (r 12), .ref (r 13), .int 1])), ((r 10), .inr (9, [.ref (r 26), .ref (r 27), .ref (r 28), .ref (r 29), .ref (r 30), .ref (r 31), .int 0, .int 0, .int 0, .int 0, .int 0]))] := hD
  refine lv_iload_n hx hb dX11_on_36 rfl (lv_at hl 0 rfl) ?_
  refine lv_if_ne (tgt := 48) hx hb dX11_on_37 (by decide) (fun c => absurd c (by decide)) (fun _ => ?_)
  refine lv_aload_n hx hb dX11_on_40 rfl (lv_at hl 1 rfl) ?_
  refine lv_iconst (v := 5) hx hb dX11_on_41 (by decide) ?_
  have hPc := hP.sub (ws' := [(h0, .inr (11, [.ref (r 0), .ref (r 1), .ref (r 2), .ref (r 3), .ref (r 4), .ref (r 5), .ref (r 6), .ref (r 7), .ref (r 8), .ref (r 9), .ref (r 10), .ref (r 11), .ref (r 12), .ref (r 13), .int 1])), ((r 9), .inl (cI, 6, .inl (fun _ => 0)))]) [2, 1] rfl
  have hDc := hD.sub (ws' := [(h0, .inr (11, [.ref (r 0), .ref (r 1), .ref (r 2), .ref (r 3), .ref (r 4), .ref (r 5), .ref (r 6), .ref (r 7), .ref (r 8), .ref (r 9), .ref (r 10), .ref (r 11), .ref (r 12), .ref (r 13), .int 1])), ((r 9), .inl (cI, 6, .inl (fun _ => 0)))]) [2, 1] (by decide) rfl
  have hFc := va_free (wc := [(h0, .inr (11, [.ref (r 0), .ref (r 1), .ref (r 2), .ref (r 3), .ref (r 4), .ref (r 5), .ref (r 6), .ref (r 7), .ref (r 8), .ref (r 9), .ref (r 10), .ref (r 11), .ref (r 12), .ref (r 13), .int 1])), ((r 9), .inl (cI, 6, .inl (fun _ => 0)))]) hD hS hA [2, 1] rfl
  refine va_calli (va_runV (As := [.int 5]) (rest := []) ⟨hx, hb, hml, hown, hts⟩ (c_X11_refuse_5 l dC dI cI cJ h0 r H.size) (cwV 1 hts gX11_on_X11_refuse rfl rfl rfl (by decide +kernel) ⟨Nat.le_of_ble_eq_true rfl, Nat.le_of_ble_eq_true rfl⟩) ⟨mBlind, va_recv hK hPc (ci := 11) (q0 := 0) rfl rfl, mGo hPc hK hDc hN⟩ rfl rfl hl.1 rfl (lv_room (Nat.le_of_ble_eq_true rfl)) dX11_on_42 ⟨Nat.le_of_ble_eq_true rfl, Nat.le_of_ble_eq_true rfl⟩) hS (fun q _ h => hFc q h) hFc (fun r_2 u t H1 locs ht hvm hw hB hz1 hk1 hS => ?_)
  obtain ⟨g_3, hP1, hD1⟩ := hB
  obtain rfl : r_2 = 0 := hw
  rw [ht] at hP1
  obtain ⟨hP, hD⟩ := va_join (wr := [((r 0), .inr (1, [.ref (r 14), .int 0])), ((r 10), .inr (9, [.ref (r 26), .ref (r 27), .ref (r 28), .ref (r 29), .ref (r 30), .ref (r 31), .int 0, .int 0, .int 0, .int 0, .int 0]))]) (w1 := [(h0, .inr (11, [.ref (r 0), .ref (r 1), .ref (r 2), .ref (r 3), .ref (r 4), .ref (r 5), .ref (r 6), .ref (r 7), .ref (r 8), .ref (r 9), .ref (r 10), .ref (r 11), .ref (r 12), .ref (r 13), .int 1])), ((r 9), .inl (cI, 6, .inl g_3))]) hP hD [2, 1] [0, 3] rfl rfl (by decide) (by decide) hk1 hFc hP1 hD1
  generalize H1 = H at hP hS ⊢
  have hP : va_P (dC, dI) vwCl [((r 0), .inr (1, [.ref (r 14), .int 0])), ((r 10), .inr (9, [.ref (r 26), .ref (r 27), .ref (r 28), .ref (r 29), .ref (r 30), .ref (r 31), .int 0, .int 0, .int 0, .int 0, .int 0])), (h0, .inr (11, [.ref (r 0), .ref (r 1), .ref (r 2), .ref (r 3), .ref (r 4), .ref (r 5), .ref (r 6), .ref (r 7), .ref (r 8), .ref (r 9), .ref (r 10), .ref (r 11), .ref (r 12), .ref (r 13), .int 1])), ((r 9), .inl (cI, 6, .inl g_3))] H := hP
  have hD : va_D A [((r 0), .inr (1, [.ref (r 14), .int 0])), ((r 10), .inr (9, [.ref (r 26), .ref (r 27), .ref (r 28), .ref (r 29), .ref (r 30), .ref (r 31), .int 0, .int 0, .int 0, .int 0, .int 0])), (h0, .inr (11, [.ref (r 0), .ref (r 1), .ref (r 2), .ref (r 3), .ref (r 4), .ref (r 5), .ref (r 6), .ref (r 7), .ref (r 8), .ref (r 9), .ref (r 10), .ref (r 11), .ref (r 12), .ref (r 13), .int 1])), ((r 9), .inl (cI, 6, .inl g_3))] := hD
  refine lv_if_eq (tgt := 52) hx hb dX11_on_45 (by decide) (fun _ => ?_) (fun c => absurd (by decide) c)
  refine lv_iconst (v := 0) hx hb dX11_on_52 (by decide) ?_
  exact W.zret (v := 0) hx hb hr rfl (fun t ht hW => ⟨⟨0, (), rfl, rfl, trivial⟩, hS.F ht⟩) hS.2.2 dX11_on_53
abbrev w0_c_X11_kept (cI : ClassId) (h0 : Nat) (r : Nat → Nat) (p0 p1 : Int32) : va_W := [(h0, .inr (11, [.ref (r 0), .ref (r 1), .ref (r 2), .ref (r 3), .ref (r 4), .ref (r 5), .ref (r 6), .ref (r 7), .ref (r 8), .ref (r 9), .ref (r 10), .ref (r 11), .ref (r 12), .ref (r 13), .int 1])), ((r 7), .inr (0, [.ref (r 17), .ref (r 18), .ref (r 19), .ref (r 20), .ref (r 21), .int 0, .int 0, .int 0]))]
set_option maxHeartbeats 4000000 in
set_option maxRecDepth 100000 in
theorem c_X11_kept (l : Launch) (dC : Nat → ClassId) (dI : Nat → Nat → Nat) (cI cJ : ClassId) (h0 : Nat) (r : Nat → Nat) (p0 p1 : Int32) (sz : Nat) : Met l yX11_kept wsX11_kept ({ frames := 3, cells := 0, slots := 0, locals := 103 }) (va_Pc [.ref h0, .int p0, .int p1] (mPre dC dI cI cJ sz (w0_c_X11_kept cI h0 r p0 p1))) (va_Qi (fun (r : Int32) (u : Unit) => r = -1) (fun _ _ => True) (va_A (w0_c_X11_kept cI h0 r p0 p1) sz)) 0 0 (va_A (w0_c_X11_kept cI h0 r p0 p1) sz) := by
  refine Met.ofW (cc := cX11_kept) (maxL := 3) (ret := (some .int)) (by decide) rfl ?_
  intro p e s m args below meth c s₁ B hml hv
  obtain ⟨rfl, hsz, hP, hK, hD0, hN⟩ := hv
  have hx := B.exec
  have hb := B.bytes
  have hr := B.returns
  have hts := atoms_spec (ws := wsX11_kept) B.pre
  have hown : s.vm.findClass RX11 = some m.cls := findClass_of_methodNamed B.named
  have hlocks := B.notSynchronized
  have h_in_X11 : ∀ w ∈ wsX110, w ∈ wsX11_kept := fun w h => List.mem_cons_of_mem _ (List.mem_append_left _ (List.mem_append_right _ h))
  have h_in_X0 : ∀ w ∈ wsX00, w ∈ wsX11_kept := fun w h => List.mem_cons_of_mem _ (List.mem_append_right _ h)
  subst hsz
  have hD := hD0.self (sz := s.heap.size)
  generalize hAe : va_A (w0_c_X11_kept cI h0 r p0 p1) s.heap.size = A at hD ⊢
  have hA : ∀ q : Nat, s.heap.size ≤ q → A q := fun q h => by rw [← hAe]; exact Or.inr h
  have hS : va_S A s.heap s.heap [] := va_S.rf
  have hP : va_P (dC, dI) vwCl [(h0, .inr (11, [.ref (r 0), .ref (r 1), .ref (r 2), .ref (r 3), .ref (r 4), .ref (r 5), .ref (r 6), .ref (r 7), .ref (r 8), .ref (r 9), .ref (r 10), .ref (r 11), .ref (r 12), .ref (r 13), .int 1])), ((r 7), .inr (0, [.ref (r 17), .ref (r 18), .ref (r 19), .ref (r 20), .ref (r 21), .int 0, .int 0, .int 0]))] s.heap := hP
  have hD : va_D A [(h0, .inr (11, [.ref (r 0), .ref (r 1), .ref (r 2), .ref (r 3), .ref (r 4), .ref (r 5), .ref (r 6), .ref (r 7), .ref (r 8), .ref (r 9), .ref (r 10), .ref (r 11), .ref (r 12), .ref (r 13), .int 1])), ((r 7), .inr (0, [.ref (r 17), .ref (r 18), .ref (r 19), .ref (r 20), .ref (r 21), .int 0, .int 0, .int 0]))] := hD
  have hl := lv_entry ([.ref h0, .int p0, .int p1]) (n := 3) (Nat.le_of_ble_eq_true rfl)
  rw [lg_entry_eq]
  generalize (lg_sl ([.ref h0, .int p0, .int p1]) ++ List.replicate (3 - (lg_sl ([.ref h0, .int p0, .int p1])).length) Slot.unset).toArray = ls at hl ⊢
  have hl : lv_has ls 3 [(0, .ref h0), (1, .int p0), (2, .int p1)] := hl
  refine lv_aload_n hx hb dX11_kept_0 rfl (lv_at hl 0 rfl) ?_
  refine va_get (D := (dC, dI)) (ci := 11) (v := .ref (r 7)) (C := RX11) (T := TX11) (N := 15) hx hb hts h_in_X11 hown hK hP 0 rfl rfl 7 (by decide) (hts (.fieldLink RX11 53 "MatchTrees" "acts" "LMatchTrees$Acts;") (by decide +kernel)) (fun _ h9 => h9) rfl dX11_kept_1 ?_
  refine lv_iload_n hx hb dX11_kept_4 rfl (lv_at hl 1 rfl) ?_
  refine lv_iload_n hx hb dX11_kept_5 rfl (lv_at hl 2 rfl) ?_
  have hPc := hP.sub (ws' := [((r 7), .inr (0, [.ref (r 17), .ref (r 18), .ref (r 19), .ref (r 20), .ref (r 21), .int 0, .int 0, .int 0]))]) [1] rfl
  have hDc := hD.sub (ws' := [((r 7), .inr (0, [.ref (r 17), .ref (r 18), .ref (r 19), .ref (r 20), .ref (r 21), .int 0, .int 0, .int 0]))]) [1] (by decide) rfl
  have hFc := va_free (wc := [((r 7), .inr (0, [.ref (r 17), .ref (r 18), .ref (r 19), .ref (r 20), .ref (r 21), .int 0, .int 0, .int 0]))]) hD hS hA [1] rfl
  refine va_calli (va_runV (As := [.int p0, .int p1]) (rest := []) ⟨hx, hb, hml, hown, hts⟩ (c_X0_tellKept l dC dI cI cJ h0 r p0 p1 s.heap.size) (cwV 2 hts gX11_kept_X0_tellKept rfl rfl rfl (by decide +kernel) ⟨Nat.le_of_ble_eq_true rfl, Nat.le_of_ble_eq_true rfl⟩) ⟨mBlind, va_recv hK hPc (ci := 0) (q0 := 0) rfl rfl, mGo hPc hK hDc hN⟩ rfl rfl hl.1 rfl (lv_room (Nat.le_of_ble_eq_true rfl)) dX11_kept_6 ⟨Nat.le_of_ble_eq_true rfl, Nat.le_of_ble_eq_true rfl⟩) hS (fun q _ h => hFc q h) hFc (fun r_1 u t H1 locs ht hvm hw hB hz1 hk1 hS => ?_)
  obtain ⟨hP1, hD1⟩ := hB
  obtain rfl : r_1 = (-1) := hw
  rw [ht] at hP1
  obtain ⟨hP, hD⟩ := va_join (wr := [(h0, .inr (11, [.ref (r 0), .ref (r 1), .ref (r 2), .ref (r 3), .ref (r 4), .ref (r 5), .ref (r 6), .ref (r 7), .ref (r 8), .ref (r 9), .ref (r 10), .ref (r 11), .ref (r 12), .ref (r 13), .int 1]))]) (w1 := [((r 7), .inr (0, [.ref (r 17), .ref (r 18), .ref (r 19), .ref (r 20), .ref (r 21), .int 0, .int 0, .int 0]))]) hP hD [1] [0] rfl rfl (by decide) (by decide) hk1 hFc hP1 hD1
  generalize H1 = H at hP hS ⊢
  have hP : va_P (dC, dI) vwCl [(h0, .inr (11, [.ref (r 0), .ref (r 1), .ref (r 2), .ref (r 3), .ref (r 4), .ref (r 5), .ref (r 6), .ref (r 7), .ref (r 8), .ref (r 9), .ref (r 10), .ref (r 11), .ref (r 12), .ref (r 13), .int 1])), ((r 7), .inr (0, [.ref (r 17), .ref (r 18), .ref (r 19), .ref (r 20), .ref (r 21), .int 0, .int 0, .int 0]))] H := hP
  have hD : va_D A [(h0, .inr (11, [.ref (r 0), .ref (r 1), .ref (r 2), .ref (r 3), .ref (r 4), .ref (r 5), .ref (r 6), .ref (r 7), .ref (r 8), .ref (r 9), .ref (r 10), .ref (r 11), .ref (r 12), .ref (r 13), .int 1])), ((r 7), .inr (0, [.ref (r 17), .ref (r 18), .ref (r 19), .ref (r 20), .ref (r 21), .int 0, .int 0, .int 0]))] := hD
  exact W.iret (v := (-1)) hx hb hr (fun t ht hW => ⟨⟨(-1), (), rfl, rfl, trivial⟩, hS.F ht⟩) hS.2.2 dX11_kept_9
abbrev w0_c_X11_fault (cI : ClassId) (h0 : Nat) (r : Nat → Nat) (p0 : Int32) : va_W := [(h0, .inr (11, [.ref (r 0), .ref (r 1), .ref (r 2), .ref (r 3), .ref (r 4), .ref (r 5), .ref (r 6), .ref (r 7), .ref (r 8), .ref (r 9), .ref (r 10), .ref (r 11), .ref (r 12), .ref (r 13), .int 1])), ((r 12), .inr (6, [.ref (r 56), .ref (r 57), .ref (r 10), .int 0, .int (-1)]))]
set_option maxHeartbeats 4000000 in
set_option maxRecDepth 100000 in
theorem c_X11_fault (l : Launch) (dC : Nat → ClassId) (dI : Nat → Nat → Nat) (cI cJ : ClassId) (h0 : Nat) (r : Nat → Nat) (p0 : Int32) (sz : Nat) : Met l yX11_fault wsX11_fault ({ frames := 1, cells := 0, slots := 0, locals := 60 }) (va_Pc [.ref h0, .int p0] (mPre dC dI cI cJ sz (w0_c_X11_fault cI h0 r p0))) (va_Qi (fun (r : Int32) (u : Unit) => r = (if p0 = 0 then 0 else ((-1)))) (fun _ _ => True) (va_A (w0_c_X11_fault cI h0 r p0) sz)) 0 0 (va_A (w0_c_X11_fault cI h0 r p0) sz) := by
  refine Met.ofW (cc := cX11_fault) (maxL := 2) (ret := (some .int)) (by decide) rfl ?_
  intro p e s m args below meth c s₁ B hml hv
  obtain ⟨rfl, hsz, hP, hK, hD0, hN⟩ := hv
  have hx := B.exec
  have hb := B.bytes
  have hr := B.returns
  have hts := atoms_spec (ws := wsX11_fault) B.pre
  have hown : s.vm.findClass RX11 = some m.cls := findClass_of_methodNamed B.named
  have hlocks := B.notSynchronized
  have h_in_X11 : ∀ w ∈ wsX110, w ∈ wsX11_fault := fun w h => List.mem_cons_of_mem _ (List.mem_append_left _ (List.mem_append_right _ h))
  have h_in_X6 : ∀ w ∈ wsX60, w ∈ wsX11_fault := fun w h => List.mem_cons_of_mem _ (List.mem_append_right _ h)
  subst hsz
  have hD := hD0.self (sz := s.heap.size)
  generalize hAe : va_A (w0_c_X11_fault cI h0 r p0) s.heap.size = A at hD ⊢
  have hA : ∀ q : Nat, s.heap.size ≤ q → A q := fun q h => by rw [← hAe]; exact Or.inr h
  have hS : va_S A s.heap s.heap [] := va_S.rf
  have hP : va_P (dC, dI) vwCl [(h0, .inr (11, [.ref (r 0), .ref (r 1), .ref (r 2), .ref (r 3), .ref (r 4), .ref (r 5), .ref (r 6), .ref (r 7), .ref (r 8), .ref (r 9), .ref (r 10), .ref (r 11), .ref (r 12), .ref (r 13), .int 1])), ((r 12), .inr (6, [.ref (r 56), .ref (r 57), .ref (r 10), .int 0, .int (-1)]))] s.heap := hP
  have hD : va_D A [(h0, .inr (11, [.ref (r 0), .ref (r 1), .ref (r 2), .ref (r 3), .ref (r 4), .ref (r 5), .ref (r 6), .ref (r 7), .ref (r 8), .ref (r 9), .ref (r 10), .ref (r 11), .ref (r 12), .ref (r 13), .int 1])), ((r 12), .inr (6, [.ref (r 56), .ref (r 57), .ref (r 10), .int 0, .int (-1)]))] := hD
  have hl := lv_entry ([.ref h0, .int p0]) (n := 2) (Nat.le_of_ble_eq_true rfl)
  rw [lg_entry_eq]
  generalize (lg_sl ([.ref h0, .int p0]) ++ List.replicate (2 - (lg_sl ([.ref h0, .int p0])).length) Slot.unset).toArray = ls at hl ⊢
  have hl : lv_has ls 2 [(0, .ref h0), (1, .int p0)] := hl
  refine lv_iload_n hx hb dX11_fault_0 rfl (lv_at hl 1 rfl) ?_
  refine lv_if_ne (tgt := 12) hx hb dX11_fault_1 (by decide) (fun c_1 => ?_) (fun c_1 => ?_)
  · refine lv_iload_n hx hb dX11_fault_12 rfl (lv_at hl 1 rfl) ?_
    refine lv_iconst (v := 1) hx hb dX11_fault_13 (by decide) ?_
    refine lv_icmp_ne (tgt := 27) hx hb dX11_fault_14 (by decide) (fun c_2 => ?_) (fun c_2 => ?_)
    · refine lv_iconst (v := (-1)) hx hb dX11_fault_27 (by decide) ?_
      exact W.iret (v := (-1)) hx hb hr (fun t ht hW => ⟨⟨(-1), (), rfl, (by rw [if_neg c_1]), trivial⟩, hS.F ht⟩) hS.2.2 dX11_fault_28
    · refine lv_aload_n hx hb dX11_fault_17 rfl (lv_at hl 0 rfl) ?_
      refine va_get (D := (dC, dI)) (ci := 11) (v := .ref (r 12)) (C := RX11) (T := TX11) (N := 15) hx hb hts h_in_X11 hown hK hP 0 rfl rfl 12 (by decide) (hts (.fieldLink RX11 83 "MatchTrees" "reader" "LMatchTrees$Reader;") (by decide +kernel)) (fun _ h9 => h9) rfl dX11_fault_18 ?_
      refine va_get (D := (dC, dI)) (ci := 6) (v := .int (-1)) (C := RX6) (T := TX6) (N := 5) hx hb hts h_in_X6 hown hK hP 1 rfl rfl 4 (by decide) (hts (.fieldLink RX11 159 "MatchTrees$Reader" "place" "I") (by decide +kernel)) (fun _ h9 => h9) rfl dX11_fault_21 ?_
      refine lv_goto (tgt := 28) hx hb dX11_fault_24 (by decide) ?_
      exact W.iret (v := (-1)) hx hb hr (fun t ht hW => ⟨⟨(-1), (), rfl, (by rw [if_neg c_1]), trivial⟩, hS.F ht⟩) hS.2.2 dX11_fault_28
  · refine lv_aload_n hx hb dX11_fault_4 rfl (lv_at hl 0 rfl) ?_
    refine va_get (D := (dC, dI)) (ci := 11) (v := .ref (r 12)) (C := RX11) (T := TX11) (N := 15) hx hb hts h_in_X11 hown hK hP 0 rfl rfl 12 (by decide) (hts (.fieldLink RX11 83 "MatchTrees" "reader" "LMatchTrees$Reader;") (by decide +kernel)) (fun _ h9 => h9) rfl dX11_fault_5 ?_
    refine va_get (D := (dC, dI)) (ci := 6) (v := .int 0) (C := RX6) (T := TX6) (N := 5) hx hb hts h_in_X6 hown hK hP 1 rfl rfl 3 (by decide) (hts (.fieldLink RX11 156 "MatchTrees$Reader" "fault" "I") (by decide +kernel)) (fun _ h9 => h9) rfl dX11_fault_8 ?_
    exact W.iret (v := 0) hx hb hr (fun t ht hW => ⟨⟨0, (), rfl, (by rw [if_pos c_1]), trivial⟩, hS.F ht⟩) hS.2.2 dX11_fault_11
abbrev w0_c_X11_end (cI : ClassId) (h0 : Nat) (r : Nat → Nat) (p0 : Int32) : va_W := [(h0, .inr (11, [.ref (r 0), .ref (r 1), .ref (r 2), .ref (r 3), .ref (r 4), .ref (r 5), .ref (r 6), .ref (r 7), .ref (r 8), .ref (r 9), .ref (r 10), .ref (r 11), .ref (r 12), .ref (r 13), .int 1])), ((r 0), .inr (1, [.ref (r 14), .int 0])), ((r 9), .inl (cI, 6, .inl (fun _ => 0)))]
set_option maxHeartbeats 4000000 in
set_option maxRecDepth 100000 in
theorem c_X11_end (l : Launch) (dC : Nat → ClassId) (dI : Nat → Nat → Nat) (cI cJ : ClassId) (h0 : Nat) (r : Nat → Nat) (p0 : Int32) (sz : Nat) : Met l yX11_end wsX11_end ({ frames := 2, cells := 0, slots := 0, locals := 81 }) (va_Pc [.ref h0, .int p0] (mPre dC dI cI cJ sz (w0_c_X11_end cI h0 r p0))) (va_Qi (fun (r : Int32) (u : Unit) => r = (if p0 = 0 then 1 else 0)) (fun _ _ => True) (va_A (w0_c_X11_end cI h0 r p0) sz)) 0 0 (va_A (w0_c_X11_end cI h0 r p0) sz) := by
  refine Met.ofW (cc := cX11_end) (maxL := 2) (ret := (some .boolean)) (by decide) rfl ?_
  intro p e s m args below meth c s₁ B hml hv
  obtain ⟨rfl, hsz, hP, hK, hD0, hN⟩ := hv
  have hx := B.exec
  have hb := B.bytes
  have hr := B.returns
  have hts := atoms_spec (ws := wsX11_end) B.pre
  have hown : s.vm.findClass RX11 = some m.cls := findClass_of_methodNamed B.named
  have hlocks := B.notSynchronized
  have h_in_X11 : ∀ w ∈ wsX110, w ∈ wsX11_end := fun w h => List.mem_cons_of_mem _ (List.mem_append_left _ (List.mem_append_right _ h))
  have h_in_X1 : ∀ w ∈ wsX10, w ∈ wsX11_end := fun w h => List.mem_cons_of_mem _ (List.mem_append_right _ h)
  subst hsz
  have hD := hD0.self (sz := s.heap.size)
  generalize hAe : va_A (w0_c_X11_end cI h0 r p0) s.heap.size = A at hD ⊢
  have hA : ∀ q : Nat, s.heap.size ≤ q → A q := fun q h => by rw [← hAe]; exact Or.inr h
  have hS : va_S A s.heap s.heap [] := va_S.rf
  have hP : va_P (dC, dI) vwCl [(h0, .inr (11, [.ref (r 0), .ref (r 1), .ref (r 2), .ref (r 3), .ref (r 4), .ref (r 5), .ref (r 6), .ref (r 7), .ref (r 8), .ref (r 9), .ref (r 10), .ref (r 11), .ref (r 12), .ref (r 13), .int 1])), ((r 0), .inr (1, [.ref (r 14), .int 0])), ((r 9), .inl (cI, 6, .inl (fun _ => 0)))] s.heap := hP
  have hD : va_D A [(h0, .inr (11, [.ref (r 0), .ref (r 1), .ref (r 2), .ref (r 3), .ref (r 4), .ref (r 5), .ref (r 6), .ref (r 7), .ref (r 8), .ref (r 9), .ref (r 10), .ref (r 11), .ref (r 12), .ref (r 13), .int 1])), ((r 0), .inr (1, [.ref (r 14), .int 0])), ((r 9), .inl (cI, 6, .inl (fun _ => 0)))] := hD
  have hl := lv_entry ([.ref h0, .int p0]) (n := 2) (Nat.le_of_ble_eq_true rfl)
  rw [lg_entry_eq]
  generalize (lg_sl ([.ref h0, .int p0]) ++ List.replicate (2 - (lg_sl ([.ref h0, .int p0])).length) Slot.unset).toArray = ls at hl ⊢
  have hl : lv_has ls 2 [(0, .ref h0), (1, .int p0)] := hl
  refine lv_iload_n hx hb dX11_end_0 rfl (lv_at hl 1 rfl) ?_
  refine lv_if_lt (tgt := 15) hx hb dX11_end_1 (by decide) (fun c_1 => ?_) (fun c_1 => ?_)
  · refine lv_aload_n hx hb dX11_end_15 rfl (lv_at hl 0 rfl) ?_
    refine lv_iconst (v := 0) hx hb dX11_end_16 (by decide) ?_
    have hPc := hP.sub (ws' := [(h0, .inr (11, [.ref (r 0), .ref (r 1), .ref (r 2), .ref (r 3), .ref (r 4), .ref (r 5), .ref (r 6), .ref (r 7), .ref (r 8), .ref (r 9), .ref (r 10), .ref (r 11), .ref (r 12), .ref (r 13), .int 1])), ((r 9), .inl (cI, 6, .inl (fun _ => 0)))]) [0, 2] rfl
    have hDc := hD.sub (ws' := [(h0, .inr (11, [.ref (r 0), .ref (r 1), .ref (r 2), .ref (r 3), .ref (r 4), .ref (r 5), .ref (r 6), .ref (r 7), .ref (r 8), .ref (r 9), .ref (r 10), .ref (r 11), .ref (r 12), .ref (r 13), .int 1])), ((r 9), .inl (cI, 6, .inl (fun _ => 0)))]) [0, 2] (by decide) rfl
    have hFc := va_free (wc := [(h0, .inr (11, [.ref (r 0), .ref (r 1), .ref (r 2), .ref (r 3), .ref (r 4), .ref (r 5), .ref (r 6), .ref (r 7), .ref (r 8), .ref (r 9), .ref (r 10), .ref (r 11), .ref (r 12), .ref (r 13), .int 1])), ((r 9), .inl (cI, 6, .inl (fun _ => 0)))]) hD hS hA [0, 2] rfl
    refine va_calli (va_runV (As := [.int 0]) (rest := []) ⟨hx, hb, hml, hown, hts⟩ (c_X11_refuse_0 l dC dI cI cJ h0 r s.heap.size) (cwV 1 hts gX11_end_X11_refuse rfl rfl rfl (by decide +kernel) ⟨Nat.le_of_ble_eq_true rfl, Nat.le_of_ble_eq_true rfl⟩) ⟨mBlind, va_recv hK hPc (ci := 11) (q0 := 0) rfl rfl, mGo hPc hK hDc hN⟩ rfl rfl hl.1 rfl (lv_room (Nat.le_of_ble_eq_true rfl)) dX11_end_17 ⟨Nat.le_of_ble_eq_true rfl, Nat.le_of_ble_eq_true rfl⟩) hS (fun q _ h => hFc q h) hFc (fun r_2 u t H1 locs ht hvm hw hB hz1 hk1 hS => ?_)
    obtain ⟨g_3, hP1, hD1⟩ := hB
    obtain rfl : r_2 = 0 := hw
    rw [ht] at hP1
    obtain ⟨hP, hD⟩ := va_join (wr := [((r 0), .inr (1, [.ref (r 14), .int 0]))]) (w1 := [(h0, .inr (11, [.ref (r 0), .ref (r 1), .ref (r 2), .ref (r 3), .ref (r 4), .ref (r 5), .ref (r 6), .ref (r 7), .ref (r 8), .ref (r 9), .ref (r 10), .ref (r 11), .ref (r 12), .ref (r 13), .int 1])), ((r 9), .inl (cI, 6, .inl g_3))]) hP hD [0, 2] [1] rfl rfl (by decide) (by decide) hk1 hFc hP1 hD1
    generalize H1 = H at hP hS ⊢
    have hP : va_P (dC, dI) vwCl [((r 0), .inr (1, [.ref (r 14), .int 0])), (h0, .inr (11, [.ref (r 0), .ref (r 1), .ref (r 2), .ref (r 3), .ref (r 4), .ref (r 5), .ref (r 6), .ref (r 7), .ref (r 8), .ref (r 9), .ref (r 10), .ref (r 11), .ref (r 12), .ref (r 13), .int 1])), ((r 9), .inl (cI, 6, .inl g_3))] H := hP
    have hD : va_D A [((r 0), .inr (1, [.ref (r 14), .int 0])), (h0, .inr (11, [.ref (r 0), .ref (r 1), .ref (r 2), .ref (r 3), .ref (r 4), .ref (r 5), .ref (r 6), .ref (r 7), .ref (r 8), .ref (r 9), .ref (r 10), .ref (r 11), .ref (r 12), .ref (r 13), .int 1])), ((r 9), .inl (cI, 6, .inl g_3))] := hD
    exact W.zret (v := 0) hx hb hr rfl (fun t ht hW => ⟨⟨0, (), rfl, (by rw [if_neg (by have e0 : (0 : Int32).toInt = 0 := (by decide); rw [Int32.lt_iff_toInt_lt] at c_1; rw [← Int32.toInt_inj]; omega)]), trivial⟩, hS.F ht⟩) hS.2.2 dX11_end_20
  · refine lv_iload_n hx hb dX11_end_4 rfl (lv_at hl 1 rfl) ?_
    refine lv_aload_n hx hb dX11_end_5 rfl (lv_at hl 0 rfl) ?_
    refine va_get (D := (dC, dI)) (ci := 11) (v := .ref (r 0)) (C := RX11) (T := TX11) (N := 15) hx hb hts h_in_X11 hown hK hP 0 rfl rfl 0 (by decide) (hts (.fieldLink RX11 14 "MatchTrees" "tape" "LMatchTrees$Bytes;") (by decide +kernel)) (fun _ h9 => h9) rfl dX11_end_6 ?_
    refine va_get (D := (dC, dI)) (ci := 1) (v := .int 0) (C := RX1) (T := TX1) (N := 2) hx hb hts h_in_X1 hown hK hP 1 rfl rfl 1 (by decide) (hts (.fieldLink RX11 100 "MatchTrees$Bytes" "length" "I") (by decide +kernel)) (fun _ h9 => h9) rfl dX11_end_9 ?_
    refine lv_icmp_le (tgt := 21) hx hb dX11_end_12 (by decide) (fun c_4 => ?_) (fun c_4 => ?_)
    · refine lv_aload_n hx hb dX11_end_21 rfl (lv_at hl 0 rfl) ?_
      refine va_get (D := (dC, dI)) (ci := 11) (v := .ref (r 0)) (C := RX11) (T := TX11) (N := 15) hx hb hts h_in_X11 hown hK hP 0 rfl rfl 0 (by decide) (hts (.fieldLink RX11 14 "MatchTrees" "tape" "LMatchTrees$Bytes;") (by decide +kernel)) (fun _ h9 => h9) rfl dX11_end_22 ?_
      refine lv_iload_n hx hb dX11_end_25 rfl (lv_at hl 1 rfl) ?_
      refine va_put (D := (dC, dI)) (ci := 1) (v := .int p0) (ty := .int) (C := RX1) (T := TX1) (N := 2) hx hb hts h_in_X1 tyX1 tyX1_ok nmX1 hown hK hP hD hS 1 rfl rfl 1 (by decide) (hts (.fieldLink RX11 100 "MatchTrees$Bytes" "length" "I") (by decide +kernel)) (fun _ h9 => h9) rfl (by decide +kernel) rfl rfl (Nat.le_of_ble_eq_true rfl) dX11_end_26 (fun H locs hP hD hS => ?_)
      have hP : va_P (dC, dI) vwCl [(h0, .inr (11, [.ref (r 0), .ref (r 1), .ref (r 2), .ref (r 3), .ref (r 4), .ref (r 5), .ref (r 6), .ref (r 7), .ref (r 8), .ref (r 9), .ref (r 10), .ref (r 11), .ref (r 12), .ref (r 13), .int 1])), ((r 0), .inr (1, [.ref (r 14), .int p0])), ((r 9), .inl (cI, 6, .inl (fun _ => 0)))] H := hP
      have hD : va_D A [(h0, .inr (11, [.ref (r 0), .ref (r 1), .ref (r 2), .ref (r 3), .ref (r 4), .ref (r 5), .ref (r 6), .ref (r 7), .ref (r 8), .ref (r 9), .ref (r 10), .ref (r 11), .ref (r 12), .ref (r 13), .int 1])), ((r 0), .inr (1, [.ref (r 14), .int p0])), ((r 9), .inl (cI, 6, .inl (fun _ => 0)))] := hD
      refine lv_iconst (v := 1) hx hb dX11_end_29 (by decide) ?_
      exact W.zret (v := 1) hx hb hr rfl (fun t ht hW => ⟨⟨1, (), rfl, (by rw [if_pos (by have e0 : (0 : Int32).toInt = 0 := (by decide); rw [Int32.lt_iff_toInt_lt] at c_1; rw [Int32.le_iff_toInt_le] at c_4; rw [← Int32.toInt_inj]; omega)]), trivial⟩, hS.F ht⟩) hS.2.2 dX11_end_30
    · refine lv_aload_n hx hb dX11_end_15 rfl (lv_at hl 0 rfl) ?_
      refine lv_iconst (v := 0) hx hb dX11_end_16 (by decide) ?_
      have hPc := hP.sub (ws' := [(h0, .inr (11, [.ref (r 0), .ref (r 1), .ref (r 2), .ref (r 3), .ref (r 4), .ref (r 5), .ref (r 6), .ref (r 7), .ref (r 8), .ref (r 9), .ref (r 10), .ref (r 11), .ref (r 12), .ref (r 13), .int 1])), ((r 9), .inl (cI, 6, .inl (fun _ => 0)))]) [0, 2] rfl
      have hDc := hD.sub (ws' := [(h0, .inr (11, [.ref (r 0), .ref (r 1), .ref (r 2), .ref (r 3), .ref (r 4), .ref (r 5), .ref (r 6), .ref (r 7), .ref (r 8), .ref (r 9), .ref (r 10), .ref (r 11), .ref (r 12), .ref (r 13), .int 1])), ((r 9), .inl (cI, 6, .inl (fun _ => 0)))]) [0, 2] (by decide) rfl
      have hFc := va_free (wc := [(h0, .inr (11, [.ref (r 0), .ref (r 1), .ref (r 2), .ref (r 3), .ref (r 4), .ref (r 5), .ref (r 6), .ref (r 7), .ref (r 8), .ref (r 9), .ref (r 10), .ref (r 11), .ref (r 12), .ref (r 13), .int 1])), ((r 9), .inl (cI, 6, .inl (fun _ => 0)))]) hD hS hA [0, 2] rfl
      refine va_calli (va_runV (As := [.int 0]) (rest := []) ⟨hx, hb, hml, hown, hts⟩ (c_X11_refuse_0 l dC dI cI cJ h0 r s.heap.size) (cwV 1 hts gX11_end_X11_refuse rfl rfl rfl (by decide +kernel) ⟨Nat.le_of_ble_eq_true rfl, Nat.le_of_ble_eq_true rfl⟩) ⟨mBlind, va_recv hK hPc (ci := 11) (q0 := 0) rfl rfl, mGo hPc hK hDc hN⟩ rfl rfl hl.1 rfl (lv_room (Nat.le_of_ble_eq_true rfl)) dX11_end_17 ⟨Nat.le_of_ble_eq_true rfl, Nat.le_of_ble_eq_true rfl⟩) hS (fun q _ h => hFc q h) hFc (fun r_5 u t H1 locs ht hvm hw hB hz1 hk1 hS => ?_)
      obtain ⟨g_6, hP1, hD1⟩ := hB
      obtain rfl : r_5 = 0 := hw
      rw [ht] at hP1
      obtain ⟨hP, hD⟩ := va_join (wr := [((r 0), .inr (1, [.ref (r 14), .int 0]))]) (w1 := [(h0, .inr (11, [.ref (r 0), .ref (r 1), .ref (r 2), .ref (r 3), .ref (r 4), .ref (r 5), .ref (r 6), .ref (r 7), .ref (r 8), .ref (r 9), .ref (r 10), .ref (r 11), .ref (r 12), .ref (r 13), .int 1])), ((r 9), .inl (cI, 6, .inl g_6))]) hP hD [0, 2] [1] rfl rfl (by decide) (by decide) hk1 hFc hP1 hD1
      generalize H1 = H at hP hS ⊢
      have hP : va_P (dC, dI) vwCl [((r 0), .inr (1, [.ref (r 14), .int 0])), (h0, .inr (11, [.ref (r 0), .ref (r 1), .ref (r 2), .ref (r 3), .ref (r 4), .ref (r 5), .ref (r 6), .ref (r 7), .ref (r 8), .ref (r 9), .ref (r 10), .ref (r 11), .ref (r 12), .ref (r 13), .int 1])), ((r 9), .inl (cI, 6, .inl g_6))] H := hP
      have hD : va_D A [((r 0), .inr (1, [.ref (r 14), .int 0])), (h0, .inr (11, [.ref (r 0), .ref (r 1), .ref (r 2), .ref (r 3), .ref (r 4), .ref (r 5), .ref (r 6), .ref (r 7), .ref (r 8), .ref (r 9), .ref (r 10), .ref (r 11), .ref (r 12), .ref (r 13), .int 1])), ((r 9), .inl (cI, 6, .inl g_6))] := hD
      exact W.zret (v := 0) hx hb hr rfl (fun t ht hW => ⟨⟨0, (), rfl, (by rw [if_neg (by have e0 : (0 : Int32).toInt = 0 := (by decide); rw [Int32.lt_iff_toInt_lt] at c_1; rw [Int32.le_iff_toInt_le] at c_4; rw [← Int32.toInt_inj]; omega)]), trivial⟩, hS.F ht⟩) hS.2.2 dX11_end_20
abbrev w0_c_X11_seed (cI : ClassId) (h0 : Nat) (r : Nat → Nat) (p0 : Int32) : va_W := [(h0, .inr (11, [.ref (r 0), .ref (r 1), .ref (r 2), .ref (r 3), .ref (r 4), .ref (r 5), .ref (r 6), .ref (r 7), .ref (r 8), .ref (r 9), .ref (r 10), .ref (r 11), .ref (r 12), .ref (r 13), .int 1])), ((r 9), .inl (cI, 6, .inl (fun _ => 0)))]
set_option maxHeartbeats 4000000 in
set_option maxRecDepth 100000 in
theorem c_X11_seed (l : Launch) (dC : Nat → ClassId) (dI : Nat → Nat → Nat) (cI cJ : ClassId) (h0 : Nat) (r : Nat → Nat) (p0 : Int32) (sz : Nat) : Met l yX11_seed wsX11_seed ({ frames := 2, cells := 0, slots := 0, locals := 81 }) (va_Pc [.ref h0, .int p0] (mPre dC dI cI cJ sz (w0_c_X11_seed cI h0 r p0))) (va_Qi (fun (r : Int32) (u : Unit) => r = (if p0 < 0 then 0 else 1)) (fun _ _ => True) (va_A (w0_c_X11_seed cI h0 r p0) sz)) 0 0 (va_A (w0_c_X11_seed cI h0 r p0) sz) := by
  refine Met.ofW (cc := cX11_seed) (maxL := 2) (ret := (some .boolean)) (by decide) rfl ?_
  intro p e s m args below meth c s₁ B hml hv
  obtain ⟨rfl, hsz, hP, hK, hD0, hN⟩ := hv
  have hx := B.exec
  have hb := B.bytes
  have hr := B.returns
  have hts := atoms_spec (ws := wsX11_seed) B.pre
  have hown : s.vm.findClass RX11 = some m.cls := findClass_of_methodNamed B.named
  have hlocks := B.notSynchronized
  have h_in_X11 : ∀ w ∈ wsX110, w ∈ wsX11_seed := fun w h => List.mem_cons_of_mem _ (List.mem_append_right _ h)
  subst hsz
  have hD := hD0.self (sz := s.heap.size)
  generalize hAe : va_A (w0_c_X11_seed cI h0 r p0) s.heap.size = A at hD ⊢
  have hA : ∀ q : Nat, s.heap.size ≤ q → A q := fun q h => by rw [← hAe]; exact Or.inr h
  have hS : va_S A s.heap s.heap [] := va_S.rf
  have hP : va_P (dC, dI) vwCl [(h0, .inr (11, [.ref (r 0), .ref (r 1), .ref (r 2), .ref (r 3), .ref (r 4), .ref (r 5), .ref (r 6), .ref (r 7), .ref (r 8), .ref (r 9), .ref (r 10), .ref (r 11), .ref (r 12), .ref (r 13), .int 1])), ((r 9), .inl (cI, 6, .inl (fun _ => 0)))] s.heap := hP
  have hD : va_D A [(h0, .inr (11, [.ref (r 0), .ref (r 1), .ref (r 2), .ref (r 3), .ref (r 4), .ref (r 5), .ref (r 6), .ref (r 7), .ref (r 8), .ref (r 9), .ref (r 10), .ref (r 11), .ref (r 12), .ref (r 13), .int 1])), ((r 9), .inl (cI, 6, .inl (fun _ => 0)))] := hD
  have hl := lv_entry ([.ref h0, .int p0]) (n := 2) (Nat.le_of_ble_eq_true rfl)
  rw [lg_entry_eq]
  generalize (lg_sl ([.ref h0, .int p0]) ++ List.replicate (2 - (lg_sl ([.ref h0, .int p0])).length) Slot.unset).toArray = ls at hl ⊢
  have hl : lv_has ls 2 [(0, .ref h0), (1, .int p0)] := hl
  refine lv_iload_n hx hb dX11_seed_0 rfl (lv_at hl 1 rfl) ?_
  refine lv_if_ge (tgt := 10) hx hb dX11_seed_1 (by decide) (fun c_1 => ?_) (fun c_1 => ?_)
  · refine lv_aload_n hx hb dX11_seed_10 rfl (lv_at hl 0 rfl) ?_
    refine lv_iload_n hx hb dX11_seed_11 rfl (lv_at hl 1 rfl) ?_
    refine va_put (D := (dC, dI)) (ci := 11) (v := .int p0) (ty := .int) (C := RX11) (T := TX11) (N := 15) hx hb hts h_in_X11 tyX11 tyX11_ok nmX11 hown hK hP hD hS 0 rfl rfl 14 (by decide) (hts (.fieldLink RX11 96 "MatchTrees" "seedNow" "I") (by decide +kernel)) (fun _ h9 => h9) rfl (by decide +kernel) rfl rfl (Nat.le_of_ble_eq_true rfl) dX11_seed_12 (fun H locs hP hD hS => ?_)
    have hP : va_P (dC, dI) vwCl [(h0, .inr (11, [.ref (r 0), .ref (r 1), .ref (r 2), .ref (r 3), .ref (r 4), .ref (r 5), .ref (r 6), .ref (r 7), .ref (r 8), .ref (r 9), .ref (r 10), .ref (r 11), .ref (r 12), .ref (r 13), .int p0])), ((r 9), .inl (cI, 6, .inl (fun _ => 0)))] H := hP
    have hD : va_D A [(h0, .inr (11, [.ref (r 0), .ref (r 1), .ref (r 2), .ref (r 3), .ref (r 4), .ref (r 5), .ref (r 6), .ref (r 7), .ref (r 8), .ref (r 9), .ref (r 10), .ref (r 11), .ref (r 12), .ref (r 13), .int p0])), ((r 9), .inl (cI, 6, .inl (fun _ => 0)))] := hD
    refine lv_iconst (v := 1) hx hb dX11_seed_15 (by decide) ?_
    exact W.zret (v := 1) hx hb hr rfl (fun t ht hW => ⟨⟨1, (), rfl, (by rw [if_neg (by have e0 : (0 : Int32).toInt = 0 := (by decide); rw [Int32.le_iff_toInt_le] at c_1; rw [Int32.lt_iff_toInt_lt]; omega)]), trivial⟩, hS.F ht⟩) hS.2.2 dX11_seed_16
  · refine lv_aload_n hx hb dX11_seed_4 rfl (lv_at hl 0 rfl) ?_
    refine lv_iconst (v := 5) hx hb dX11_seed_5 (by decide) ?_
    have hPc := hP.sub (ws' := [(h0, .inr (11, [.ref (r 0), .ref (r 1), .ref (r 2), .ref (r 3), .ref (r 4), .ref (r 5), .ref (r 6), .ref (r 7), .ref (r 8), .ref (r 9), .ref (r 10), .ref (r 11), .ref (r 12), .ref (r 13), .int 1])), ((r 9), .inl (cI, 6, .inl (fun _ => 0)))]) [0, 1] rfl
    have hDc := hD.sub (ws' := [(h0, .inr (11, [.ref (r 0), .ref (r 1), .ref (r 2), .ref (r 3), .ref (r 4), .ref (r 5), .ref (r 6), .ref (r 7), .ref (r 8), .ref (r 9), .ref (r 10), .ref (r 11), .ref (r 12), .ref (r 13), .int 1])), ((r 9), .inl (cI, 6, .inl (fun _ => 0)))]) [0, 1] (by decide) rfl
    have hFc := va_free (wc := [(h0, .inr (11, [.ref (r 0), .ref (r 1), .ref (r 2), .ref (r 3), .ref (r 4), .ref (r 5), .ref (r 6), .ref (r 7), .ref (r 8), .ref (r 9), .ref (r 10), .ref (r 11), .ref (r 12), .ref (r 13), .int 1])), ((r 9), .inl (cI, 6, .inl (fun _ => 0)))]) hD hS hA [0, 1] rfl
    refine va_calli (va_runV (As := [.int 5]) (rest := []) ⟨hx, hb, hml, hown, hts⟩ (c_X11_refuse_5 l dC dI cI cJ h0 r s.heap.size) (cwV 1 hts gX11_seed_X11_refuse rfl rfl rfl (by decide +kernel) ⟨Nat.le_of_ble_eq_true rfl, Nat.le_of_ble_eq_true rfl⟩) ⟨mBlind, va_recv hK hPc (ci := 11) (q0 := 0) rfl rfl, mGo hPc hK hDc hN⟩ rfl rfl hl.1 rfl (lv_room (Nat.le_of_ble_eq_true rfl)) dX11_seed_6 ⟨Nat.le_of_ble_eq_true rfl, Nat.le_of_ble_eq_true rfl⟩) hS (fun q _ h => hFc q h) hFc (fun r_2 u t H1 locs ht hvm hw hB hz1 hk1 hS => ?_)
    obtain ⟨g_3, hP1, hD1⟩ := hB
    obtain rfl : r_2 = 0 := hw
    rw [ht] at hP1
    obtain ⟨hP, hD⟩ := va_join (wr := []) (w1 := [(h0, .inr (11, [.ref (r 0), .ref (r 1), .ref (r 2), .ref (r 3), .ref (r 4), .ref (r 5), .ref (r 6), .ref (r 7), .ref (r 8), .ref (r 9), .ref (r 10), .ref (r 11), .ref (r 12), .ref (r 13), .int 1])), ((r 9), .inl (cI, 6, .inl g_3))]) hP hD [0, 1] [] rfl rfl (by decide) (by decide) hk1 hFc hP1 hD1
    generalize H1 = H at hP hS ⊢
    have hP : va_P (dC, dI) vwCl [(h0, .inr (11, [.ref (r 0), .ref (r 1), .ref (r 2), .ref (r 3), .ref (r 4), .ref (r 5), .ref (r 6), .ref (r 7), .ref (r 8), .ref (r 9), .ref (r 10), .ref (r 11), .ref (r 12), .ref (r 13), .int 1])), ((r 9), .inl (cI, 6, .inl g_3))] H := hP
    have hD : va_D A [(h0, .inr (11, [.ref (r 0), .ref (r 1), .ref (r 2), .ref (r 3), .ref (r 4), .ref (r 5), .ref (r 6), .ref (r 7), .ref (r 8), .ref (r 9), .ref (r 10), .ref (r 11), .ref (r 12), .ref (r 13), .int 1])), ((r 9), .inl (cI, 6, .inl g_3))] := hD
    exact W.zret (v := 0) hx hb hr rfl (fun t ht hW => ⟨⟨0, (), rfl, (by rw [if_pos (by have e0 : (0 : Int32).toInt = 0 := (by decide); rw [Int32.le_iff_toInt_le] at c_1; rw [Int32.lt_iff_toInt_lt]; omega)]), trivial⟩, hS.F ht⟩) hS.2.2 dX11_seed_9
abbrev w0_c_X11_status (cI : ClassId) (h0 : Nat) (r : Nat → Nat) (p0 : Int32) : va_W := [(h0, .inr (11, [.ref (r 0), .ref (r 1), .ref (r 2), .ref (r 3), .ref (r 4), .ref (r 5), .ref (r 6), .ref (r 7), .ref (r 8), .ref (r 9), .ref (r 10), .ref (r 11), .ref (r 12), .ref (r 13), .int 1])), ((r 9), .inl (cI, 6, .inl (fun _ => 0)))]
set_option maxHeartbeats 4000000 in
set_option maxRecDepth 100000 in
theorem c_X11_status (l : Launch) (dC : Nat → ClassId) (dI : Nat → Nat → Nat) (cI cJ : ClassId) (h0 : Nat) (r : Nat → Nat) (p0 : Int32) (sz : Nat) : Met l yX11_status wsX11_status ({ frames := 1, cells := 0, slots := 0, locals := 60 }) (va_Pc [.ref h0, .int p0] (mPre dC dI cI cJ sz (w0_c_X11_status cI h0 r p0))) (va_Qi (fun (r : Int32) (u : Unit) => r = (if p0 < 0 then -1 else if p0 < 6 then 0 else -1)) (fun _ _ => True) (va_A (w0_c_X11_status cI h0 r p0) sz)) 0 0 (va_A (w0_c_X11_status cI h0 r p0) sz) := by
  refine Met.ofW (cc := cX11_status) (maxL := 2) (ret := (some .int)) (by decide) rfl ?_
  intro p e s m args below meth c s₁ B hml hv
  obtain ⟨rfl, hsz, hP, hK, hD0, hN⟩ := hv
  have hx := B.exec
  have hb := B.bytes
  have hr := B.returns
  have hts := atoms_spec (ws := wsX11_status) B.pre
  have hown : s.vm.findClass RX11 = some m.cls := findClass_of_methodNamed B.named
  have hlocks := B.notSynchronized
  have h_in_X11 : ∀ w ∈ wsX110, w ∈ wsX11_status := fun w h => List.mem_cons_of_mem _ (List.mem_append_right _ h)
  subst hsz
  have hD := hD0.self (sz := s.heap.size)
  generalize hAe : va_A (w0_c_X11_status cI h0 r p0) s.heap.size = A at hD ⊢
  have hA : ∀ q : Nat, s.heap.size ≤ q → A q := fun q h => by rw [← hAe]; exact Or.inr h
  have hS : va_S A s.heap s.heap [] := va_S.rf
  have hP : va_P (dC, dI) vwCl [(h0, .inr (11, [.ref (r 0), .ref (r 1), .ref (r 2), .ref (r 3), .ref (r 4), .ref (r 5), .ref (r 6), .ref (r 7), .ref (r 8), .ref (r 9), .ref (r 10), .ref (r 11), .ref (r 12), .ref (r 13), .int 1])), ((r 9), .inl (cI, 6, .inl (fun _ => 0)))] s.heap := hP
  have hD : va_D A [(h0, .inr (11, [.ref (r 0), .ref (r 1), .ref (r 2), .ref (r 3), .ref (r 4), .ref (r 5), .ref (r 6), .ref (r 7), .ref (r 8), .ref (r 9), .ref (r 10), .ref (r 11), .ref (r 12), .ref (r 13), .int 1])), ((r 9), .inl (cI, 6, .inl (fun _ => 0)))] := hD
  have hl := lv_entry ([.ref h0, .int p0]) (n := 2) (Nat.le_of_ble_eq_true rfl)
  rw [lg_entry_eq]
  generalize (lg_sl ([.ref h0, .int p0]) ++ List.replicate (2 - (lg_sl ([.ref h0, .int p0])).length) Slot.unset).toArray = ls at hl ⊢
  have hl : lv_has ls 2 [(0, .ref h0), (1, .int p0)] := hl
  refine lv_iload_n hx hb dX11_status_0 rfl (lv_at hl 1 rfl) ?_
  refine lv_if_lt (tgt := 19) hx hb dX11_status_1 (by decide) (fun c_1 => ?_) (fun c_1 => ?_)
  · refine lv_iconst (v := (-1)) hx hb dX11_status_19 (by decide) ?_
    exact W.iret (v := (-1)) hx hb hr (fun t ht hW => ⟨⟨(-1), (), rfl, (by rw [if_pos (by have e0 : (0 : Int32).toInt = 0 := (by decide); rw [Int32.lt_iff_toInt_lt] at c_1; rw [Int32.lt_iff_toInt_lt]; omega)]), trivial⟩, hS.F ht⟩) hS.2.2 dX11_status_20
  · refine lv_iload_n hx hb dX11_status_4 rfl (lv_at hl 1 rfl) ?_
    refine lv_bipush (v := 6) hx hb dX11_status_5 (by decide) ?_
    refine lv_icmp_ge (tgt := 19) hx hb dX11_status_7 (by decide) (fun c_2 => ?_) (fun c_2 => ?_)
    · refine lv_iconst (v := (-1)) hx hb dX11_status_19 (by decide) ?_
      exact W.iret (v := (-1)) hx hb hr (fun t ht hW => ⟨⟨(-1), (), rfl, (by rw [if_neg (by have e6 : (6 : Int32).toInt = 6 := (by decide); have e0 : (0 : Int32).toInt = 0 := (by decide); rw [Int32.lt_iff_toInt_lt] at c_1; rw [Int32.le_iff_toInt_le] at c_2; rw [Int32.lt_iff_toInt_lt]; omega), if_neg (by have e6 : (6 : Int32).toInt = 6 := (by decide); have e0 : (0 : Int32).toInt = 0 := (by decide); rw [Int32.lt_iff_toInt_lt] at c_1; rw [Int32.le_iff_toInt_le] at c_2; rw [Int32.lt_iff_toInt_lt]; omega)]), trivial⟩, hS.F ht⟩) hS.2.2 dX11_status_20
    · refine lv_aload_n hx hb dX11_status_10 rfl (lv_at hl 0 rfl) ?_
      refine va_get (D := (dC, dI)) (ci := 11) (v := .ref (r 9)) (C := RX11) (T := TX11) (N := 15) hx hb hts h_in_X11 hown hK hP 0 rfl rfl 9 (by decide) (hts (.fieldLink RX11 64 "MatchTrees" "refused" "[I") (by decide +kernel)) (fun _ h9 => h9) rfl dX11_status_11 ?_
      refine lv_iload_n hx hb dX11_status_14 rfl (lv_at hl 1 rfl) ?_
      refine va_iald hx hb hK hP 1 0 rfl rfl (vp_in_iff.mpr ⟨by have h : (0 : Int32) ≤ p0 := (by have e6 : (6 : Int32).toInt = 6 := (by decide); have e0 : (0 : Int32).toInt = 0 := (by decide); rw [Int32.lt_iff_toInt_lt] at c_1; rw [Int32.le_iff_toInt_le] at c_2; rw [Int32.le_iff_toInt_le]; omega); rw [Int32.le_iff_toInt_le] at h; exact h, by have h : p0 < 6 := (by have e6 : (6 : Int32).toInt = 6 := (by decide); have e0 : (0 : Int32).toInt = 0 := (by decide); rw [Int32.lt_iff_toInt_lt] at c_1; rw [Int32.le_iff_toInt_le] at c_2; rw [Int32.lt_iff_toInt_lt]; omega); rw [Int32.lt_iff_toInt_lt] at h; exact h⟩) dX11_status_15 ?_
      refine lv_topi (fun t9 e9 => ?_)
      obtain rfl : t9 = 0 := e9
      refine lv_goto (tgt := 20) hx hb dX11_status_16 (by decide) ?_
      exact W.iret (v := 0) hx hb hr (fun t ht hW => ⟨⟨0, (), rfl, (by rw [if_neg (by have e6 : (6 : Int32).toInt = 6 := (by decide); have e0 : (0 : Int32).toInt = 0 := (by decide); rw [Int32.lt_iff_toInt_lt] at c_1; rw [Int32.le_iff_toInt_le] at c_2; rw [Int32.lt_iff_toInt_lt]; omega), if_pos (by have e6 : (6 : Int32).toInt = 6 := (by decide); have e0 : (0 : Int32).toInt = 0 := (by decide); rw [Int32.lt_iff_toInt_lt] at c_1; rw [Int32.le_iff_toInt_le] at c_2; rw [Int32.lt_iff_toInt_lt]; omega)]), trivial⟩, hS.F ht⟩) hS.2.2 dX11_status_20
abbrev w0_c_X11_has (cI : ClassId) (h0 : Nat) (r : Nat → Nat) (p0 : Int32) : va_W := [(h0, .inr (11, [.ref (r 0), .ref (r 1), .ref (r 2), .ref (r 3), .ref (r 4), .ref (r 5), .ref (r 6), .ref (r 7), .ref (r 8), .ref (r 9), .ref (r 10), .ref (r 11), .ref (r 12), .ref (r 13), .int 1])), ((r 10), .inr (9, [.ref (r 26), .ref (r 27), .ref (r 28), .ref (r 29), .ref (r 30), .ref (r 31), .int 0, .int 0, .int 0, .int 0, .int 0])), ((r 26), .inr (3, [.ref (r 32), .ref (r 33), .ref (r 34), .ref (r 35), .ref (r 36), .ref (r 37), .ref (r 38), .ref (r 39), .ref (r 40), .int 0, .int 0])), ((r 5), .inr (5, [.ref (r 16), .int 0, .int 0, .int 0])), ((r 7), .inr (0, [.ref (r 17), .ref (r 18), .ref (r 19), .ref (r 20), .ref (r 21), .int 0, .int 0, .int 0])), ((r 8), .inr (8, [.ref (r 22), .ref (r 23), .int 0, .ref (r 24), .int 0, .ref (r 25)]))]
set_option maxHeartbeats 4000000 in
set_option maxRecDepth 100000 in
theorem c_X11_has (l : Launch) (dC : Nat → ClassId) (dI : Nat → Nat → Nat) (cI cJ : ClassId) (h0 : Nat) (r : Nat → Nat) (p0 : Int32) (sz : Nat) : Met l yX11_has wsX11_has ({ frames := 2, cells := 0, slots := 0, locals := 80 }) (va_Pc [.ref h0, .int p0] (mPre dC dI cI cJ sz (w0_c_X11_has cI h0 r p0))) (va_Qi (fun (r : Int32) (u : Unit) => r = hasV p0) (fun _ _ => True) (va_A (w0_c_X11_has cI h0 r p0) sz)) 0 0 (va_A (w0_c_X11_has cI h0 r p0) sz) := by
  refine Met.ofW (cc := cX11_has) (maxL := 2) (ret := (some .int)) (by decide) rfl ?_
  intro p e s m args below meth c s₁ B hml hv
  obtain ⟨rfl, hsz, hP, hK, hD0, hN⟩ := hv
  have hx := B.exec
  have hb := B.bytes
  have hr := B.returns
  have hts := atoms_spec (ws := wsX11_has) B.pre
  have hown : s.vm.findClass RX11 = some m.cls := findClass_of_methodNamed B.named
  have hlocks := B.notSynchronized
  have h_in_X11 : ∀ w ∈ wsX110, w ∈ wsX11_has := fun w h => List.mem_cons_of_mem _ (List.mem_append_left _ (List.mem_append_left _ (List.mem_append_left _ (List.mem_append_left _ (List.mem_append_left _ (List.mem_append_right _ h))))))
  have h_in_X9 : ∀ w ∈ wsX90, w ∈ wsX11_has := fun w h => List.mem_cons_of_mem _ (List.mem_append_left _ (List.mem_append_left _ (List.mem_append_left _ (List.mem_append_left _ (List.mem_append_right _ h)))))
  have h_in_X3 : ∀ w ∈ wsX30, w ∈ wsX11_has := fun w h => List.mem_cons_of_mem _ (List.mem_append_left _ (List.mem_append_left _ (List.mem_append_left _ (List.mem_append_right _ h))))
  have h_in_X5 : ∀ w ∈ wsX50, w ∈ wsX11_has := fun w h => List.mem_cons_of_mem _ (List.mem_append_left _ (List.mem_append_left _ (List.mem_append_right _ h)))
  have h_in_X8 : ∀ w ∈ wsX80, w ∈ wsX11_has := fun w h => List.mem_cons_of_mem _ (List.mem_append_left _ (List.mem_append_right _ h))
  have h_in_X0 : ∀ w ∈ wsX00, w ∈ wsX11_has := fun w h => List.mem_cons_of_mem _ (List.mem_append_right _ h)
  subst hsz
  have hD := hD0.self (sz := s.heap.size)
  generalize hAe : va_A (w0_c_X11_has cI h0 r p0) s.heap.size = A at hD ⊢
  have hA : ∀ q : Nat, s.heap.size ≤ q → A q := fun q h => by rw [← hAe]; exact Or.inr h
  have hS : va_S A s.heap s.heap [] := va_S.rf
  have hP : va_P (dC, dI) vwCl [(h0, .inr (11, [.ref (r 0), .ref (r 1), .ref (r 2), .ref (r 3), .ref (r 4), .ref (r 5), .ref (r 6), .ref (r 7), .ref (r 8), .ref (r 9), .ref (r 10), .ref (r 11), .ref (r 12), .ref (r 13), .int 1])), ((r 10), .inr (9, [.ref (r 26), .ref (r 27), .ref (r 28), .ref (r 29), .ref (r 30), .ref (r 31), .int 0, .int 0, .int 0, .int 0, .int 0])), ((r 26), .inr (3, [.ref (r 32), .ref (r 33), .ref (r 34), .ref (r 35), .ref (r 36), .ref (r 37), .ref (r 38), .ref (r 39), .ref (r 40), .int 0, .int 0])), ((r 5), .inr (5, [.ref (r 16), .int 0, .int 0, .int 0])), ((r 7), .inr (0, [.ref (r 17), .ref (r 18), .ref (r 19), .ref (r 20), .ref (r 21), .int 0, .int 0, .int 0])), ((r 8), .inr (8, [.ref (r 22), .ref (r 23), .int 0, .ref (r 24), .int 0, .ref (r 25)]))] s.heap := hP
  have hD : va_D A [(h0, .inr (11, [.ref (r 0), .ref (r 1), .ref (r 2), .ref (r 3), .ref (r 4), .ref (r 5), .ref (r 6), .ref (r 7), .ref (r 8), .ref (r 9), .ref (r 10), .ref (r 11), .ref (r 12), .ref (r 13), .int 1])), ((r 10), .inr (9, [.ref (r 26), .ref (r 27), .ref (r 28), .ref (r 29), .ref (r 30), .ref (r 31), .int 0, .int 0, .int 0, .int 0, .int 0])), ((r 26), .inr (3, [.ref (r 32), .ref (r 33), .ref (r 34), .ref (r 35), .ref (r 36), .ref (r 37), .ref (r 38), .ref (r 39), .ref (r 40), .int 0, .int 0])), ((r 5), .inr (5, [.ref (r 16), .int 0, .int 0, .int 0])), ((r 7), .inr (0, [.ref (r 17), .ref (r 18), .ref (r 19), .ref (r 20), .ref (r 21), .int 0, .int 0, .int 0])), ((r 8), .inr (8, [.ref (r 22), .ref (r 23), .int 0, .ref (r 24), .int 0, .ref (r 25)]))] := hD
  have hl := lv_entry ([.ref h0, .int p0]) (n := 2) (Nat.le_of_ble_eq_true rfl)
  rw [lg_entry_eq]
  generalize (lg_sl ([.ref h0, .int p0]) ++ List.replicate (2 - (lg_sl ([.ref h0, .int p0])).length) Slot.unset).toArray = ls at hl ⊢
  have hl : lv_has ls 2 [(0, .ref h0), (1, .int p0)] := hl
  refine lv_iload_n hx hb dX11_has_0 rfl (lv_at hl 1 rfl) ?_
  rcases sw_cases p0 11 (by decide) with h_sw | ⟨j_sw, hj_sw, e_sw⟩
  · refine lv_tableOut (tgt := 151) hx hb dX11_has_1 (h_sw.imp id (fun q => q)) (by decide) ?_
    refine lv_iconst (v := (-1)) hx hb dX11_has_151 (by decide) ?_
    exact W.iret (v := (-1)) hx hb hr (fun t ht hW => ⟨⟨(-1), (), rfl, (has_out h_sw), trivial⟩, hS.F ht⟩) hS.2.2 dX11_has_152
  · subst e_sw
    rcases (show j_sw = 0 ∨ j_sw = 1 ∨ j_sw = 2 ∨ j_sw = 3 ∨ j_sw = 4 ∨ j_sw = 5 ∨ j_sw = 6 ∨ j_sw = 7 ∨ j_sw = 8 ∨ j_sw = 9 ∨ j_sw = 10 by omega) with rfl | rfl | rfl | rfl | rfl | rfl | rfl | rfl | rfl | rfl | rfl
    · refine lv_tableIn (tgt := 60) (off := 59) hx hb dX11_has_1 (by decide) (by decide) (by decide) (by decide) ?_
      refine lv_aload_n hx hb dX11_has_60 rfl (lv_at hl 0 rfl) ?_
      refine va_get (D := (dC, dI)) (ci := 11) (v := .ref (r 10)) (C := RX11) (T := TX11) (N := 15) hx hb hts h_in_X11 hown hK hP 0 rfl rfl 10 (by decide) (hts (.fieldLink RX11 71 "MatchTrees" "table" "LMatchTrees$Table;") (by decide +kernel)) (fun _ h9 => h9) rfl dX11_has_61 ?_
      refine va_get (D := (dC, dI)) (ci := 9) (v := .ref (r 26)) (C := RX9) (T := TX9) (N := 11) hx hb hts h_in_X9 hown hK hP 1 rfl rfl 0 (by decide) (hts (.fieldLink RX11 162 "MatchTrees$Table" "kinds" "LMatchTrees$Kinds;") (by decide +kernel)) (fun _ h9 => h9) rfl dX11_has_64 ?_
      refine va_get (D := (dC, dI)) (ci := 3) (v := .int 0) (C := RX3) (T := TX3) (N := 11) hx hb hts h_in_X3 hown hK hP 2 rfl rfl 9 (by decide) (hts (.fieldLink RX11 166 "MatchTrees$Kinds" "kinds" "I") (by decide +kernel)) (fun _ h9 => h9) rfl dX11_has_67 ?_
      exact W.iret (v := 0) hx hb hr (fun t ht hW => ⟨⟨0, (), rfl, (by decide), trivial⟩, hS.F ht⟩) hS.2.2 dX11_has_70
    · refine lv_tableIn (tgt := 71) (off := 70) hx hb dX11_has_1 (by decide) (by decide) (by decide) (by decide) ?_
      refine lv_aload_n hx hb dX11_has_71 rfl (lv_at hl 0 rfl) ?_
      refine va_get (D := (dC, dI)) (ci := 11) (v := .ref (r 10)) (C := RX11) (T := TX11) (N := 15) hx hb hts h_in_X11 hown hK hP 0 rfl rfl 10 (by decide) (hts (.fieldLink RX11 71 "MatchTrees" "table" "LMatchTrees$Table;") (by decide +kernel)) (fun _ h9 => h9) rfl dX11_has_72 ?_
      refine va_get (D := (dC, dI)) (ci := 9) (v := .ref (r 26)) (C := RX9) (T := TX9) (N := 11) hx hb hts h_in_X9 hown hK hP 1 rfl rfl 0 (by decide) (hts (.fieldLink RX11 162 "MatchTrees$Table" "kinds" "LMatchTrees$Kinds;") (by decide +kernel)) (fun _ h9 => h9) rfl dX11_has_75 ?_
      refine va_get (D := (dC, dI)) (ci := 3) (v := .int 0) (C := RX3) (T := TX3) (N := 11) hx hb hts h_in_X3 hown hK hP 2 rfl rfl 10 (by decide) (hts (.fieldLink RX11 170 "MatchTrees$Kinds" "cons" "I") (by decide +kernel)) (fun _ h9 => h9) rfl dX11_has_78 ?_
      exact W.iret (v := 0) hx hb hr (fun t ht hW => ⟨⟨0, (), rfl, (by decide), trivial⟩, hS.F ht⟩) hS.2.2 dX11_has_81
    · refine lv_tableIn (tgt := 82) (off := 81) hx hb dX11_has_1 (by decide) (by decide) (by decide) (by decide) ?_
      refine lv_aload_n hx hb dX11_has_82 rfl (lv_at hl 0 rfl) ?_
      refine va_get (D := (dC, dI)) (ci := 11) (v := .ref (r 10)) (C := RX11) (T := TX11) (N := 15) hx hb hts h_in_X11 hown hK hP 0 rfl rfl 10 (by decide) (hts (.fieldLink RX11 71 "MatchTrees" "table" "LMatchTrees$Table;") (by decide +kernel)) (fun _ h9 => h9) rfl dX11_has_83 ?_
      refine va_get (D := (dC, dI)) (ci := 9) (v := .int 0) (C := RX9) (T := TX9) (N := 11) hx hb hts h_in_X9 hown hK hP 1 rfl rfl 6 (by decide) (hts (.fieldLink RX11 130 "MatchTrees$Table" "columns" "I") (by decide +kernel)) (fun _ h9 => h9) rfl dX11_has_86 ?_
      exact W.iret (v := 0) hx hb hr (fun t ht hW => ⟨⟨0, (), rfl, (by decide), trivial⟩, hS.F ht⟩) hS.2.2 dX11_has_89
    · refine lv_tableIn (tgt := 90) (off := 89) hx hb dX11_has_1 (by decide) (by decide) (by decide) (by decide) ?_
      refine lv_aload_n hx hb dX11_has_90 rfl (lv_at hl 0 rfl) ?_
      refine va_get (D := (dC, dI)) (ci := 11) (v := .ref (r 10)) (C := RX11) (T := TX11) (N := 15) hx hb hts h_in_X11 hown hK hP 0 rfl rfl 10 (by decide) (hts (.fieldLink RX11 71 "MatchTrees" "table" "LMatchTrees$Table;") (by decide +kernel)) (fun _ h9 => h9) rfl dX11_has_91 ?_
      refine va_get (D := (dC, dI)) (ci := 9) (v := .int 0) (C := RX9) (T := TX9) (N := 11) hx hb hts h_in_X9 hown hK hP 1 rfl rfl 7 (by decide) (hts (.fieldLink RX11 173 "MatchTrees$Table" "rows" "I") (by decide +kernel)) (fun _ h9 => h9) rfl dX11_has_94 ?_
      exact W.iret (v := 0) hx hb hr (fun t ht hW => ⟨⟨0, (), rfl, (by decide), trivial⟩, hS.F ht⟩) hS.2.2 dX11_has_97
    · refine lv_tableIn (tgt := 98) (off := 97) hx hb dX11_has_1 (by decide) (by decide) (by decide) (by decide) ?_
      refine lv_aload_n hx hb dX11_has_98 rfl (lv_at hl 0 rfl) ?_
      refine va_get (D := (dC, dI)) (ci := 11) (v := .ref (r 5)) (C := RX11) (T := TX11) (N := 15) hx hb hts h_in_X11 hown hK hP 0 rfl rfl 5 (by decide) (hts (.fieldLink RX11 43 "MatchTrees" "order" "LMatchTrees$Order;") (by decide +kernel)) (fun _ h9 => h9) rfl dX11_has_99 ?_
      refine va_get (D := (dC, dI)) (ci := 5) (v := .int 0) (C := RX5) (T := TX5) (N := 4) hx hb hts h_in_X5 hown hK hP 3 rfl rfl 1 (by decide) (hts (.fieldLink RX11 176 "MatchTrees$Order" "count" "I") (by decide +kernel)) (fun _ h9 => h9) rfl dX11_has_102 ?_
      exact W.iret (v := 0) hx hb hr (fun t ht hW => ⟨⟨0, (), rfl, (by decide), trivial⟩, hS.F ht⟩) hS.2.2 dX11_has_105
    · refine lv_tableIn (tgt := 106) (off := 105) hx hb dX11_has_1 (by decide) (by decide) (by decide) (by decide) ?_
      refine lv_aload_n hx hb dX11_has_106 rfl (lv_at hl 0 rfl) ?_
      refine va_get (D := (dC, dI)) (ci := 11) (v := .ref (r 5)) (C := RX11) (T := TX11) (N := 15) hx hb hts h_in_X11 hown hK hP 0 rfl rfl 5 (by decide) (hts (.fieldLink RX11 43 "MatchTrees" "order" "LMatchTrees$Order;") (by decide +kernel)) (fun _ h9 => h9) rfl dX11_has_107 ?_
      refine va_get (D := (dC, dI)) (ci := 5) (v := .int 0) (C := RX5) (T := TX5) (N := 4) hx hb hts h_in_X5 hown hK hP 3 rfl rfl 2 (by decide) (hts (.fieldLink RX11 177 "MatchTrees$Order" "on" "I") (by decide +kernel)) (fun _ h9 => h9) rfl dX11_has_110 ?_
      exact W.iret (v := 0) hx hb hr (fun t ht hW => ⟨⟨0, (), rfl, (by decide), trivial⟩, hS.F ht⟩) hS.2.2 dX11_has_113
    · refine lv_tableIn (tgt := 114) (off := 113) hx hb dX11_has_1 (by decide) (by decide) (by decide) (by decide) ?_
      refine lv_aload_n hx hb dX11_has_114 rfl (lv_at hl 0 rfl) ?_
      refine va_get (D := (dC, dI)) (ci := 11) (v := .ref (r 5)) (C := RX11) (T := TX11) (N := 15) hx hb hts h_in_X11 hown hK hP 0 rfl rfl 5 (by decide) (hts (.fieldLink RX11 43 "MatchTrees" "order" "LMatchTrees$Order;") (by decide +kernel)) (fun _ h9 => h9) rfl dX11_has_115 ?_
      refine va_get (D := (dC, dI)) (ci := 5) (v := .int 0) (C := RX5) (T := TX5) (N := 4) hx hb hts h_in_X5 hown hK hP 3 rfl rfl 3 (by decide) (hts (.fieldLink RX11 180 "MatchTrees$Order" "rule" "I") (by decide +kernel)) (fun _ h9 => h9) rfl dX11_has_118 ?_
      exact W.iret (v := 0) hx hb hr (fun t ht hW => ⟨⟨0, (), rfl, (by decide), trivial⟩, hS.F ht⟩) hS.2.2 dX11_has_121
    · refine lv_tableIn (tgt := 122) (off := 121) hx hb dX11_has_1 (by decide) (by decide) (by decide) (by decide) ?_
      refine lv_aload_n hx hb dX11_has_122 rfl (lv_at hl 0 rfl) ?_
      refine va_get (D := (dC, dI)) (ci := 11) (v := .ref (r 7)) (C := RX11) (T := TX11) (N := 15) hx hb hts h_in_X11 hown hK hP 0 rfl rfl 7 (by decide) (hts (.fieldLink RX11 53 "MatchTrees" "acts" "LMatchTrees$Acts;") (by decide +kernel)) (fun _ h9 => h9) rfl dX11_has_123 ?_
      have hPc := hP.sub (ws' := [((r 7), .inr (0, [.ref (r 17), .ref (r 18), .ref (r 19), .ref (r 20), .ref (r 21), .int 0, .int 0, .int 0]))]) [4] rfl
      have hDc := hD.sub (ws' := [((r 7), .inr (0, [.ref (r 17), .ref (r 18), .ref (r 19), .ref (r 20), .ref (r 21), .int 0, .int 0, .int 0]))]) [4] (by decide) rfl
      have hFc := va_free (wc := [((r 7), .inr (0, [.ref (r 17), .ref (r 18), .ref (r 19), .ref (r 20), .ref (r 21), .int 0, .int 0, .int 0]))]) hD hS hA [4] rfl
      refine va_calli (va_runV (As := []) (rest := []) ⟨hx, hb, hml, hown, hts⟩ (c_X0_keptTold l dC dI cI cJ h0 r s.heap.size) (cwV 0 hts gX11_has_X0_keptTold rfl rfl rfl (by decide +kernel) ⟨Nat.le_of_ble_eq_true rfl, Nat.le_of_ble_eq_true rfl⟩) ⟨mBlind, va_recv hK hPc (ci := 0) (q0 := 0) rfl rfl, mGo hPc hK hDc hN⟩ rfl rfl hl.1 rfl (lv_room (Nat.le_of_ble_eq_true rfl)) dX11_has_126 ⟨Nat.le_of_ble_eq_true rfl, Nat.le_of_ble_eq_true rfl⟩) hS (fun q _ h => hFc q h) hFc (fun r_1 u t H1 locs ht hvm hw hB hz1 hk1 hS => ?_)
      obtain ⟨hP1, hD1⟩ := hB
      obtain rfl : r_1 = 0 := hw
      rw [ht] at hP1
      obtain ⟨hP, hD⟩ := va_join (wr := [(h0, .inr (11, [.ref (r 0), .ref (r 1), .ref (r 2), .ref (r 3), .ref (r 4), .ref (r 5), .ref (r 6), .ref (r 7), .ref (r 8), .ref (r 9), .ref (r 10), .ref (r 11), .ref (r 12), .ref (r 13), .int 1])), ((r 10), .inr (9, [.ref (r 26), .ref (r 27), .ref (r 28), .ref (r 29), .ref (r 30), .ref (r 31), .int 0, .int 0, .int 0, .int 0, .int 0])), ((r 26), .inr (3, [.ref (r 32), .ref (r 33), .ref (r 34), .ref (r 35), .ref (r 36), .ref (r 37), .ref (r 38), .ref (r 39), .ref (r 40), .int 0, .int 0])), ((r 5), .inr (5, [.ref (r 16), .int 0, .int 0, .int 0])), ((r 8), .inr (8, [.ref (r 22), .ref (r 23), .int 0, .ref (r 24), .int 0, .ref (r 25)]))]) (w1 := [((r 7), .inr (0, [.ref (r 17), .ref (r 18), .ref (r 19), .ref (r 20), .ref (r 21), .int 0, .int 0, .int 0]))]) hP hD [4] [0, 1, 2, 3, 5] rfl rfl (by decide) (by decide) hk1 hFc hP1 hD1
      generalize H1 = H at hP hS ⊢
      have hP : va_P (dC, dI) vwCl [(h0, .inr (11, [.ref (r 0), .ref (r 1), .ref (r 2), .ref (r 3), .ref (r 4), .ref (r 5), .ref (r 6), .ref (r 7), .ref (r 8), .ref (r 9), .ref (r 10), .ref (r 11), .ref (r 12), .ref (r 13), .int 1])), ((r 10), .inr (9, [.ref (r 26), .ref (r 27), .ref (r 28), .ref (r 29), .ref (r 30), .ref (r 31), .int 0, .int 0, .int 0, .int 0, .int 0])), ((r 26), .inr (3, [.ref (r 32), .ref (r 33), .ref (r 34), .ref (r 35), .ref (r 36), .ref (r 37), .ref (r 38), .ref (r 39), .ref (r 40), .int 0, .int 0])), ((r 5), .inr (5, [.ref (r 16), .int 0, .int 0, .int 0])), ((r 8), .inr (8, [.ref (r 22), .ref (r 23), .int 0, .ref (r 24), .int 0, .ref (r 25)])), ((r 7), .inr (0, [.ref (r 17), .ref (r 18), .ref (r 19), .ref (r 20), .ref (r 21), .int 0, .int 0, .int 0]))] H := hP
      have hD : va_D A [(h0, .inr (11, [.ref (r 0), .ref (r 1), .ref (r 2), .ref (r 3), .ref (r 4), .ref (r 5), .ref (r 6), .ref (r 7), .ref (r 8), .ref (r 9), .ref (r 10), .ref (r 11), .ref (r 12), .ref (r 13), .int 1])), ((r 10), .inr (9, [.ref (r 26), .ref (r 27), .ref (r 28), .ref (r 29), .ref (r 30), .ref (r 31), .int 0, .int 0, .int 0, .int 0, .int 0])), ((r 26), .inr (3, [.ref (r 32), .ref (r 33), .ref (r 34), .ref (r 35), .ref (r 36), .ref (r 37), .ref (r 38), .ref (r 39), .ref (r 40), .int 0, .int 0])), ((r 5), .inr (5, [.ref (r 16), .int 0, .int 0, .int 0])), ((r 8), .inr (8, [.ref (r 22), .ref (r 23), .int 0, .ref (r 24), .int 0, .ref (r 25)])), ((r 7), .inr (0, [.ref (r 17), .ref (r 18), .ref (r 19), .ref (r 20), .ref (r 21), .int 0, .int 0, .int 0]))] := hD
      exact W.iret (v := 0) hx hb hr (fun t ht hW => ⟨⟨0, (), rfl, (by decide), trivial⟩, hS.F ht⟩) hS.2.2 dX11_has_129
    · refine lv_tableIn (tgt := 130) (off := 129) hx hb dX11_has_1 (by decide) (by decide) (by decide) (by decide) ?_
      refine lv_aload_n hx hb dX11_has_130 rfl (lv_at hl 0 rfl) ?_
      refine va_get (D := (dC, dI)) (ci := 11) (v := .ref (r 8)) (C := RX11) (T := TX11) (N := 15) hx hb hts h_in_X11 hown hK hP 0 rfl rfl 8 (by decide) (hts (.fieldLink RX11 60 "MatchTrees" "seen" "LMatchTrees$Seen;") (by decide +kernel)) (fun _ h9 => h9) rfl dX11_has_131 ?_
      refine va_get (D := (dC, dI)) (ci := 8) (v := .int 0) (C := RX8) (T := TX8) (N := 6) hx hb hts h_in_X8 hown hK hP 5 rfl rfl 2 (by decide) (hts (.fieldLink RX11 153 "MatchTrees$Seen" "count" "I") (by decide +kernel)) (fun _ h9 => h9) rfl dX11_has_134 ?_
      exact W.iret (v := 0) hx hb hr (fun t ht hW => ⟨⟨0, (), rfl, (by decide), trivial⟩, hS.F ht⟩) hS.2.2 dX11_has_137
    · refine lv_tableIn (tgt := 138) (off := 137) hx hb dX11_has_1 (by decide) (by decide) (by decide) (by decide) ?_
      refine lv_aload_n hx hb dX11_has_138 rfl (lv_at hl 0 rfl) ?_
      refine va_get (D := (dC, dI)) (ci := 11) (v := .ref (r 7)) (C := RX11) (T := TX11) (N := 15) hx hb hts h_in_X11 hown hK hP 0 rfl rfl 7 (by decide) (hts (.fieldLink RX11 53 "MatchTrees" "acts" "LMatchTrees$Acts;") (by decide +kernel)) (fun _ h9 => h9) rfl dX11_has_139 ?_
      refine va_get (D := (dC, dI)) (ci := 0) (v := .int 0) (C := RX0) (T := TX0) (N := 8) hx hb hts h_in_X0 hown hK hP 4 rfl rfl 7 (by decide) (hts (.fieldLink RX11 185 "MatchTrees$Acts" "undoable" "I") (by decide +kernel)) (fun _ h9 => h9) rfl dX11_has_142 ?_
      exact W.iret (v := 0) hx hb hr (fun t ht hW => ⟨⟨0, (), rfl, (by decide), trivial⟩, hS.F ht⟩) hS.2.2 dX11_has_145
    · refine lv_tableIn (tgt := 146) (off := 145) hx hb dX11_has_1 (by decide) (by decide) (by decide) (by decide) ?_
      refine lv_aload_n hx hb dX11_has_146 rfl (lv_at hl 0 rfl) ?_
      refine va_get (D := (dC, dI)) (ci := 11) (v := .int 1) (C := RX11) (T := TX11) (N := 15) hx hb hts h_in_X11 hown hK hP 0 rfl rfl 14 (by decide) (hts (.fieldLink RX11 96 "MatchTrees" "seedNow" "I") (by decide +kernel)) (fun _ h9 => h9) rfl dX11_has_147 ?_
      exact W.iret (v := 1) hx hb hr (fun t ht hW => ⟨⟨1, (), rfl, (by decide), trivial⟩, hS.F ht⟩) hS.2.2 dX11_has_150
abbrev w0_c_X1_add (cI : ClassId) (tp bb k N : Nat) (f : Nat → Int32) (p0 : Int32) : va_W := [(tp, .inr (1, [.ref bb, .int (nI k)])), (bb, .inl (cI, N, .inl f))]
set_option maxHeartbeats 4000000 in
set_option maxRecDepth 100000 in
theorem c_X1_add (l : Launch) (dC : Nat → ClassId) (dI : Nat → Nat → Nat) (cI cJ : ClassId) (tp bb k N : Nat) (f : Nat → Int32) (p0 : Int32) (sz : Nat) (hk : k < N) (hN31 : N < 2 ^ 31) : Met l yX1_add wsX1_add ({ frames := 1, cells := 0, slots := 0, locals := 60 }) (va_Pc [.ref tp, .int p0] (mPre dC dI cI cJ sz (w0_c_X1_add cI tp bb k N f p0))) (va_Qv (fun _ : Unit => True) (fun (u : Unit) (t : State) => ∃ (g : Nat → Int32), va_P (dC, dI) vwCl [(tp, .inr (1, [.ref bb, .int (nI (k + 1))])), (bb, .inl (cI, N, .inl g))] t.heap ∧ va_D (va_A (w0_c_X1_add cI tp bb k N f p0) sz) [(tp, .inr (1, [.ref bb, .int (nI (k + 1))])), (bb, .inl (cI, N, .inl g))]) (va_A (w0_c_X1_add cI tp bb k N f p0) sz)) 0 0 (va_A (w0_c_X1_add cI tp bb k N f p0) sz) := by
  refine Met.ofW (cc := cX1_add) (maxL := 2) (ret := none) (by decide) rfl ?_
  intro p e s m args below meth c s₁ B hml hv
  obtain ⟨rfl, hsz, hP, hK, hD0, hN⟩ := hv
  have hx := B.exec
  have hb := B.bytes
  have hr := B.returns
  have hts := atoms_spec (ws := wsX1_add) B.pre
  have hown : s.vm.findClass RX1 = some m.cls := findClass_of_methodNamed B.named
  have hlocks := B.notSynchronized
  have h_in_X1 : ∀ w ∈ wsX10, w ∈ wsX1_add := fun w h => List.mem_cons_of_mem _ (List.mem_append_right _ h)
  subst hsz
  have hD := hD0.self (sz := s.heap.size)
  generalize hAe : va_A (w0_c_X1_add cI tp bb k N f p0) s.heap.size = A at hD ⊢
  have hA : ∀ q : Nat, s.heap.size ≤ q → A q := fun q h => by rw [← hAe]; exact Or.inr h
  have hS : va_S A s.heap s.heap [] := va_S.rf
  have hP : va_P (dC, dI) vwCl [(tp, .inr (1, [.ref bb, .int (nI k)])), (bb, .inl (cI, N, .inl f))] s.heap := hP
  have hD : va_D A [(tp, .inr (1, [.ref bb, .int (nI k)])), (bb, .inl (cI, N, .inl f))] := hD
  have hl := lv_entry ([.ref tp, .int p0]) (n := 2) (Nat.le_of_ble_eq_true rfl)
  rw [lg_entry_eq]
  generalize (lg_sl ([.ref tp, .int p0]) ++ List.replicate (2 - (lg_sl ([.ref tp, .int p0])).length) Slot.unset).toArray = ls at hl ⊢
  have hl : lv_has ls 2 [(0, .ref tp), (1, .int p0)] := hl
  refine lv_aload_n hx hb dX1_add_0 rfl (lv_at hl 0 rfl) ?_
  refine va_get (D := (dC, dI)) (ci := 1) (v := .int (nI k)) (C := RX1) (T := TX1) (N := 2) hx hb hts h_in_X1 hown hK hP 0 rfl rfl 1 (by decide) (hts (.fieldLink RX1 21 "MatchTrees$Bytes" "length" "I") (by decide +kernel)) (fun _ h9 => h9) rfl dX1_add_1 ?_
  refine lv_if_lt (tgt := 43) hx hb dX1_add_4 (by decide) (fun c => absurd c (nI_pos (by omega))) (fun _ => ?_)
  refine lv_aload_n hx hb dX1_add_7 rfl (lv_at hl 0 rfl) ?_
  refine va_get (D := (dC, dI)) (ci := 1) (v := .int (nI k)) (C := RX1) (T := TX1) (N := 2) hx hb hts h_in_X1 hown hK hP 0 rfl rfl 1 (by decide) (hts (.fieldLink RX1 21 "MatchTrees$Bytes" "length" "I") (by decide +kernel)) (fun _ h9 => h9) rfl dX1_add_8 ?_
  refine lv_aload_n hx hb dX1_add_11 rfl (lv_at hl 0 rfl) ?_
  refine va_get (D := (dC, dI)) (ci := 1) (v := .ref bb) (C := RX1) (T := TX1) (N := 2) hx hb hts h_in_X1 hown hK hP 0 rfl rfl 0 (by decide) (hts (.fieldLink RX1 15 "MatchTrees$Bytes" "bytes" "[I") (by decide +kernel)) (fun _ h9 => h9) rfl dX1_add_12 ?_
  refine va_alen (v := (nI N)) hx hb hK hP 1 0 rfl rfl rfl dX1_add_15 ?_
  refine lv_icmp_ge (tgt := 43) hx hb dX1_add_16 (by decide) (fun c => absurd c (nI_ge hk hN31)) (fun _ => ?_)
  refine lv_aload_n hx hb dX1_add_19 rfl (lv_at hl 0 rfl) ?_
  refine va_get (D := (dC, dI)) (ci := 1) (v := .ref bb) (C := RX1) (T := TX1) (N := 2) hx hb hts h_in_X1 hown hK hP 0 rfl rfl 0 (by decide) (hts (.fieldLink RX1 15 "MatchTrees$Bytes" "bytes" "[I") (by decide +kernel)) (fun _ h9 => h9) rfl dX1_add_20 ?_
  refine lv_aload_n hx hb dX1_add_23 rfl (lv_at hl 0 rfl) ?_
  refine va_get (D := (dC, dI)) (ci := 1) (v := .int (nI k)) (C := RX1) (T := TX1) (N := 2) hx hb hts h_in_X1 hown hK hP 0 rfl rfl 1 (by decide) (hts (.fieldLink RX1 21 "MatchTrees$Bytes" "length" "I") (by decide +kernel)) (fun _ h9 => h9) rfl dX1_add_24 ?_
  refine lv_iload_n hx hb dX1_add_27 rfl (lv_at hl 1 rfl) ?_
  refine lv_sipush (v := 255) hx hb dX1_add_28 (by decide) ?_
  refine lv_iand hx hb dX1_add_31 ?_
  refine lv_topi (fun f_1 e_f_1 => ?_)
  refine va_iast hx hb hK hP hD hS 1 0 rfl rfl (vp_in_nI hk hN31) dX1_add_32 (fun H locs hP hD hS => ?_)
  obtain ⟨g_2, e_g_2⟩ : ∃ y : Nat → Int32, y = upd f ((nI k) : Int32).toNatClampNeg f_1 := ⟨_, rfl⟩
  have hP : va_P (dC, dI) vwCl [(tp, .inr (1, [.ref bb, .int (nI k)])), (bb, .inl (cI, N, .inl g_2))] H := by rw [e_g_2]; exact hP
  have hD : va_D A [(tp, .inr (1, [.ref bb, .int (nI k)])), (bb, .inl (cI, N, .inl g_2))] := by rw [e_g_2]; exact hD
  refine lv_aload_n hx hb dX1_add_33 rfl (lv_at hl 0 rfl) ?_
  refine lv_dup hx hb dX1_add_34 rfl ?_
  refine va_get (D := (dC, dI)) (ci := 1) (v := .int (nI k)) (C := RX1) (T := TX1) (N := 2) hx hb hts h_in_X1 hown hK hP 0 rfl rfl 1 (by decide) (hts (.fieldLink RX1 21 "MatchTrees$Bytes" "length" "I") (by decide +kernel)) (fun _ h9 => h9) rfl dX1_add_35 ?_
  refine lv_iconst (v := 1) hx hb dX1_add_38 (by decide) ?_
  refine k_iadd (v := nI (k + 1)) hx hb (nI_1 k) dX1_add_39 ?_
  refine va_put (D := (dC, dI)) (ci := 1) (v := .int (nI (k + 1))) (ty := .int) (C := RX1) (T := TX1) (N := 2) hx hb hts h_in_X1 tyX1 tyX1_ok nmX1 hown hK hP hD hS 0 rfl rfl 1 (by decide) (hts (.fieldLink RX1 21 "MatchTrees$Bytes" "length" "I") (by decide +kernel)) (fun _ h9 => h9) rfl (by decide +kernel) rfl rfl (Nat.le_of_ble_eq_true rfl) dX1_add_40 (fun H locs hP hD hS => ?_)
  have hP : va_P (dC, dI) vwCl [(tp, .inr (1, [.ref bb, .int (nI (k + 1))])), (bb, .inl (cI, N, .inl g_2))] H := hP
  have hD : va_D A [(tp, .inr (1, [.ref bb, .int (nI (k + 1))])), (bb, .inl (cI, N, .inl g_2))] := hD
  have hP9 := hP.sub (ws' := [(tp, .inr (1, [.ref bb, .int (nI (k + 1))])), (bb, .inl (cI, N, .inl g_2))]) [0, 1] rfl
  have hD9 := hD.sub (ws' := [(tp, .inr (1, [.ref bb, .int (nI (k + 1))])), (bb, .inl (cI, N, .inl g_2))]) [0, 1] (by decide) rfl
  exact W.vret hx hb hr (fun t ht hW => ⟨⟨(), rfl, trivial, g_2, by rw [ht]; exact hP9, hD9⟩, hS.F ht⟩) hS.2.2 dX1_add_43
abbrev w0_c_X1_addFour (cI : ClassId) (tp bb k N : Nat) (f : Nat → Int32) (p0 : Int32) : va_W := [(tp, .inr (1, [.ref bb, .int (nI k)])), (bb, .inl (cI, N, .inl f))]
set_option maxHeartbeats 4000000 in
set_option maxRecDepth 100000 in
theorem c_X1_addFour (l : Launch) (dC : Nat → ClassId) (dI : Nat → Nat → Nat) (cI cJ : ClassId) (tp bb k N : Nat) (f : Nat → Int32) (p0 : Int32) (sz : Nat) (hk : k + 4 ≤ N) (hN31 : N < 2 ^ 31) : Met l yX1_addFour wsX1_addFour ({ frames := 2, cells := 0, slots := 0, locals := 81 }) (va_Pc [.ref tp, .int p0] (mPre dC dI cI cJ sz (w0_c_X1_addFour cI tp bb k N f p0))) (va_Qv (fun _ : Unit => True) (fun (u : Unit) (t : State) => ∃ (g : Nat → Int32), va_P (dC, dI) vwCl [(tp, .inr (1, [.ref bb, .int (nI (k + 4))])), (bb, .inl (cI, N, .inl g))] t.heap ∧ va_D (va_A (w0_c_X1_addFour cI tp bb k N f p0) sz) [(tp, .inr (1, [.ref bb, .int (nI (k + 4))])), (bb, .inl (cI, N, .inl g))]) (va_A (w0_c_X1_addFour cI tp bb k N f p0) sz)) 0 0 (va_A (w0_c_X1_addFour cI tp bb k N f p0) sz) := by
  refine Met.ofW (cc := cX1_addFour) (maxL := 2) (ret := none) (by decide) rfl ?_
  intro p e s m args below meth c s₁ B hml hv
  obtain ⟨rfl, hsz, hP, hK, hD0, hN⟩ := hv
  have hx := B.exec
  have hb := B.bytes
  have hr := B.returns
  have hts := atoms_spec (ws := wsX1_addFour) B.pre
  have hown : s.vm.findClass RX1 = some m.cls := findClass_of_methodNamed B.named
  have hlocks := B.notSynchronized
  have h_in_X1 : ∀ w ∈ wsX10, w ∈ wsX1_addFour := fun w h => List.mem_cons_of_mem _ (List.mem_append_right _ h)
  subst hsz
  have hD := hD0.self (sz := s.heap.size)
  generalize hAe : va_A (w0_c_X1_addFour cI tp bb k N f p0) s.heap.size = A at hD ⊢
  have hA : ∀ q : Nat, s.heap.size ≤ q → A q := fun q h => by rw [← hAe]; exact Or.inr h
  have hS : va_S A s.heap s.heap [] := va_S.rf
  have hP : va_P (dC, dI) vwCl [(tp, .inr (1, [.ref bb, .int (nI k)])), (bb, .inl (cI, N, .inl f))] s.heap := hP
  have hD : va_D A [(tp, .inr (1, [.ref bb, .int (nI k)])), (bb, .inl (cI, N, .inl f))] := hD
  have hl := lv_entry ([.ref tp, .int p0]) (n := 2) (Nat.le_of_ble_eq_true rfl)
  rw [lg_entry_eq]
  generalize (lg_sl ([.ref tp, .int p0]) ++ List.replicate (2 - (lg_sl ([.ref tp, .int p0])).length) Slot.unset).toArray = ls at hl ⊢
  have hl : lv_has ls 2 [(0, .ref tp), (1, .int p0)] := hl
  refine lv_aload_n hx hb dX1_addFour_0 rfl (lv_at hl 0 rfl) ?_
  refine lv_iload_n hx hb dX1_addFour_1 rfl (lv_at hl 1 rfl) ?_
  refine lv_bipush (v := 24) hx hb dX1_addFour_2 (by decide) ?_
  refine lv_ishr hx hb dX1_addFour_4 ?_
  refine lv_topi (fun f_1 e_f_1 => ?_)
  have hPc := hP.sub (ws' := [(tp, .inr (1, [.ref bb, .int (nI k)])), (bb, .inl (cI, N, .inl f))]) [0, 1] rfl
  have hDc := hD.sub (ws' := [(tp, .inr (1, [.ref bb, .int (nI k)])), (bb, .inl (cI, N, .inl f))]) [0, 1] (by decide) rfl
  have hFc := va_free (wc := [(tp, .inr (1, [.ref bb, .int (nI k)])), (bb, .inl (cI, N, .inl f))]) hD hS hA [0, 1] rfl
  refine va_callv (va_runV (As := [.int f_1]) (rest := []) ⟨hx, hb, hml, hown, hts⟩ (c_X1_add l dC dI cI cJ tp bb k N f f_1 s.heap.size (by omega) hN31) (cwV 1 hts gX1_addFour_X1_add rfl rfl rfl (by decide +kernel) ⟨Nat.le_of_ble_eq_true rfl, Nat.le_of_ble_eq_true rfl⟩) ⟨mBlind, va_recv hK hPc (ci := 1) (q0 := 0) rfl rfl, mGo hPc hK hDc hN⟩ rfl rfl hl.1 rfl (lv_room (Nat.le_of_ble_eq_true rfl)) dX1_addFour_5 ⟨Nat.le_of_ble_eq_true rfl, Nat.le_of_ble_eq_true rfl⟩) hS (fun q _ h => hFc q h) hFc (fun u t H1 locs ht hvm hw hB hz1 hk1 hS => ?_)
  obtain ⟨g_3, hP1, hD1⟩ := hB
  rw [ht] at hP1
  obtain ⟨hP, hD⟩ := va_join (wr := []) (w1 := [(tp, .inr (1, [.ref bb, .int (nI (k + 1))])), (bb, .inl (cI, N, .inl g_3))]) hP hD [0, 1] [] rfl rfl (by decide) (by decide) hk1 hFc hP1 hD1
  generalize H1 = H at hP hS ⊢
  have hP : va_P (dC, dI) vwCl [(tp, .inr (1, [.ref bb, .int (nI (k + 1))])), (bb, .inl (cI, N, .inl g_3))] H := hP
  have hD : va_D A [(tp, .inr (1, [.ref bb, .int (nI (k + 1))])), (bb, .inl (cI, N, .inl g_3))] := hD
  refine lv_aload_n hx hb dX1_addFour_8 rfl (lv_at hl 0 rfl) ?_
  refine lv_iload_n hx hb dX1_addFour_9 rfl (lv_at hl 1 rfl) ?_
  refine lv_bipush (v := 16) hx hb dX1_addFour_10 (by decide) ?_
  refine lv_ishr hx hb dX1_addFour_12 ?_
  refine lv_topi (fun f_4 e_f_4 => ?_)
  have hPc := hP.sub (ws' := [(tp, .inr (1, [.ref bb, .int (nI (k + 1))])), (bb, .inl (cI, N, .inl g_3))]) [0, 1] rfl
  have hDc := hD.sub (ws' := [(tp, .inr (1, [.ref bb, .int (nI (k + 1))])), (bb, .inl (cI, N, .inl g_3))]) [0, 1] (by decide) rfl
  have hFc := va_free (wc := [(tp, .inr (1, [.ref bb, .int (nI (k + 1))])), (bb, .inl (cI, N, .inl g_3))]) hD hS hA [0, 1] rfl
  refine va_callv (va_runV (As := [.int f_4]) (rest := []) ⟨hx, hb, hml, hown, hts⟩ (c_X1_add l dC dI cI cJ tp bb (k + 1) N g_3 f_4 H.size (by omega) hN31) (cwV 1 hts gX1_addFour_X1_add rfl rfl rfl (by decide +kernel) ⟨Nat.le_of_ble_eq_true rfl, Nat.le_of_ble_eq_true rfl⟩) ⟨mBlind, va_recv hK hPc (ci := 1) (q0 := 0) rfl rfl, mGo hPc hK hDc hN⟩ rfl rfl hl.1 rfl (lv_room (Nat.le_of_ble_eq_true rfl)) dX1_addFour_13 ⟨Nat.le_of_ble_eq_true rfl, Nat.le_of_ble_eq_true rfl⟩) hS (fun q _ h => hFc q h) hFc (fun u t H1 locs ht hvm hw hB hz1 hk1 hS => ?_)
  obtain ⟨g_6, hP1, hD1⟩ := hB
  rw [ht] at hP1
  obtain ⟨hP, hD⟩ := va_join (wr := []) (w1 := [(tp, .inr (1, [.ref bb, .int (nI ((k + 1) + 1))])), (bb, .inl (cI, N, .inl g_6))]) hP hD [0, 1] [] rfl rfl (by decide) (by decide) hk1 hFc hP1 hD1
  generalize H1 = H at hP hS ⊢
  have hP : va_P (dC, dI) vwCl [(tp, .inr (1, [.ref bb, .int (nI ((k + 1) + 1))])), (bb, .inl (cI, N, .inl g_6))] H := hP
  have hD : va_D A [(tp, .inr (1, [.ref bb, .int (nI ((k + 1) + 1))])), (bb, .inl (cI, N, .inl g_6))] := hD
  refine lv_aload_n hx hb dX1_addFour_16 rfl (lv_at hl 0 rfl) ?_
  refine lv_iload_n hx hb dX1_addFour_17 rfl (lv_at hl 1 rfl) ?_
  refine lv_bipush (v := 8) hx hb dX1_addFour_18 (by decide) ?_
  refine lv_ishr hx hb dX1_addFour_20 ?_
  refine lv_topi (fun f_7 e_f_7 => ?_)
  have hPc := hP.sub (ws' := [(tp, .inr (1, [.ref bb, .int (nI ((k + 1) + 1))])), (bb, .inl (cI, N, .inl g_6))]) [0, 1] rfl
  have hDc := hD.sub (ws' := [(tp, .inr (1, [.ref bb, .int (nI ((k + 1) + 1))])), (bb, .inl (cI, N, .inl g_6))]) [0, 1] (by decide) rfl
  have hFc := va_free (wc := [(tp, .inr (1, [.ref bb, .int (nI ((k + 1) + 1))])), (bb, .inl (cI, N, .inl g_6))]) hD hS hA [0, 1] rfl
  refine va_callv (va_runV (As := [.int f_7]) (rest := []) ⟨hx, hb, hml, hown, hts⟩ (c_X1_add l dC dI cI cJ tp bb (((k + 1) + 1)) N g_6 f_7 H.size (by omega) hN31) (cwV 1 hts gX1_addFour_X1_add rfl rfl rfl (by decide +kernel) ⟨Nat.le_of_ble_eq_true rfl, Nat.le_of_ble_eq_true rfl⟩) ⟨mBlind, va_recv hK hPc (ci := 1) (q0 := 0) rfl rfl, mGo hPc hK hDc hN⟩ rfl rfl hl.1 rfl (lv_room (Nat.le_of_ble_eq_true rfl)) dX1_addFour_21 ⟨Nat.le_of_ble_eq_true rfl, Nat.le_of_ble_eq_true rfl⟩) hS (fun q _ h => hFc q h) hFc (fun u t H1 locs ht hvm hw hB hz1 hk1 hS => ?_)
  obtain ⟨g_9, hP1, hD1⟩ := hB
  rw [ht] at hP1
  obtain ⟨hP, hD⟩ := va_join (wr := []) (w1 := [(tp, .inr (1, [.ref bb, .int (nI (((k + 1) + 1) + 1))])), (bb, .inl (cI, N, .inl g_9))]) hP hD [0, 1] [] rfl rfl (by decide) (by decide) hk1 hFc hP1 hD1
  generalize H1 = H at hP hS ⊢
  have hP : va_P (dC, dI) vwCl [(tp, .inr (1, [.ref bb, .int (nI (((k + 1) + 1) + 1))])), (bb, .inl (cI, N, .inl g_9))] H := hP
  have hD : va_D A [(tp, .inr (1, [.ref bb, .int (nI (((k + 1) + 1) + 1))])), (bb, .inl (cI, N, .inl g_9))] := hD
  refine lv_aload_n hx hb dX1_addFour_24 rfl (lv_at hl 0 rfl) ?_
  refine lv_iload_n hx hb dX1_addFour_25 rfl (lv_at hl 1 rfl) ?_
  have hPc := hP.sub (ws' := [(tp, .inr (1, [.ref bb, .int (nI (((k + 1) + 1) + 1))])), (bb, .inl (cI, N, .inl g_9))]) [0, 1] rfl
  have hDc := hD.sub (ws' := [(tp, .inr (1, [.ref bb, .int (nI (((k + 1) + 1) + 1))])), (bb, .inl (cI, N, .inl g_9))]) [0, 1] (by decide) rfl
  have hFc := va_free (wc := [(tp, .inr (1, [.ref bb, .int (nI (((k + 1) + 1) + 1))])), (bb, .inl (cI, N, .inl g_9))]) hD hS hA [0, 1] rfl
  refine va_callv (va_runV (As := [.int p0]) (rest := []) ⟨hx, hb, hml, hown, hts⟩ (c_X1_add l dC dI cI cJ tp bb ((((k + 1) + 1) + 1)) N g_9 p0 H.size (by omega) hN31) (cwV 1 hts gX1_addFour_X1_add rfl rfl rfl (by decide +kernel) ⟨Nat.le_of_ble_eq_true rfl, Nat.le_of_ble_eq_true rfl⟩) ⟨mBlind, va_recv hK hPc (ci := 1) (q0 := 0) rfl rfl, mGo hPc hK hDc hN⟩ rfl rfl hl.1 rfl (lv_room (Nat.le_of_ble_eq_true rfl)) dX1_addFour_26 ⟨Nat.le_of_ble_eq_true rfl, Nat.le_of_ble_eq_true rfl⟩) hS (fun q _ h => hFc q h) hFc (fun u t H1 locs ht hvm hw hB hz1 hk1 hS => ?_)
  obtain ⟨g_11, hP1, hD1⟩ := hB
  rw [ht] at hP1
  obtain ⟨hP, hD⟩ := va_join (wr := []) (w1 := [(tp, .inr (1, [.ref bb, .int (nI ((((k + 1) + 1) + 1) + 1))])), (bb, .inl (cI, N, .inl g_11))]) hP hD [0, 1] [] rfl rfl (by decide) (by decide) hk1 hFc hP1 hD1
  generalize H1 = H at hP hS ⊢
  have hP : va_P (dC, dI) vwCl [(tp, .inr (1, [.ref bb, .int (nI ((((k + 1) + 1) + 1) + 1))])), (bb, .inl (cI, N, .inl g_11))] H := hP
  have hD : va_D A [(tp, .inr (1, [.ref bb, .int (nI ((((k + 1) + 1) + 1) + 1))])), (bb, .inl (cI, N, .inl g_11))] := hD
  have hP9 := hP.sub (ws' := [(tp, .inr (1, [.ref bb, .int (nI ((((k + 1) + 1) + 1) + 1))])), (bb, .inl (cI, N, .inl g_11))]) [0, 1] rfl
  have hD9 := hD.sub (ws' := [(tp, .inr (1, [.ref bb, .int (nI ((((k + 1) + 1) + 1) + 1))])), (bb, .inl (cI, N, .inl g_11))]) [0, 1] (by decide) rfl
  exact W.vret hx hb hr (fun t ht hW => ⟨⟨(), rfl, trivial, g_11, by rw [ht]; exact hP9, hD9⟩, hS.F ht⟩) hS.2.2 dX1_addFour_29
abbrev w0_c_X1_checkByte (cI : ClassId) (tp bb : Nat) (x : Int32) (f : Nat → Int32) : va_W := [(tp, .inr (1, [.ref bb, .int x])), (bb, .inl (cI, 1024, .inl f))]
set_option maxHeartbeats 4000000 in
set_option maxRecDepth 100000 in
theorem c_X1_checkByte (l : Launch) (dC : Nat → ClassId) (dI : Nat → Nat → Nat) (cI cJ : ClassId) (tp bb : Nat) (x : Int32) (f : Nat → Int32) (sz : Nat) : Met l yX1_checkByte wsX1_checkByte ({ frames := 1, cells := 0, slots := 0, locals := 60 }) (va_Pc [.ref tp, .int 3] (mPre dC dI cI cJ sz (w0_c_X1_checkByte cI tp bb x f))) (va_Qi (fun (r : Int32) (u : Unit) => True) (fun (u : Unit) (t : State) => va_P (dC, dI) vwCl [(tp, .inr (1, [.ref bb, .int x])), (bb, .inl (cI, 1024, .inl f))] t.heap ∧ va_D (va_A (w0_c_X1_checkByte cI tp bb x f) sz) [(tp, .inr (1, [.ref bb, .int x])), (bb, .inl (cI, 1024, .inl f))]) (va_A (w0_c_X1_checkByte cI tp bb x f) sz)) 0 0 (va_A (w0_c_X1_checkByte cI tp bb x f) sz) := by
  refine Met.ofW (cc := cX1_checkByte) (maxL := 4) (ret := (some .int)) (by decide) rfl ?_
  intro p e s m args below meth c s₁ B hml hv
  obtain ⟨rfl, hsz, hP, hK, hD0, hN⟩ := hv
  have hx := B.exec
  have hb := B.bytes
  have hr := B.returns
  have hts := atoms_spec (ws := wsX1_checkByte) B.pre
  have hown : s.vm.findClass RX1 = some m.cls := findClass_of_methodNamed B.named
  have hlocks := B.notSynchronized
  have h_in_X1 : ∀ w ∈ wsX10, w ∈ wsX1_checkByte := fun w h => List.mem_cons_of_mem _ (List.mem_append_right _ h)
  subst hsz
  have hD := hD0.self (sz := s.heap.size)
  generalize hAe : va_A (w0_c_X1_checkByte cI tp bb x f) s.heap.size = A at hD ⊢
  have hA : ∀ q : Nat, s.heap.size ≤ q → A q := fun q h => by rw [← hAe]; exact Or.inr h
  have hS : va_S A s.heap s.heap [] := va_S.rf
  have hP : va_P (dC, dI) vwCl [(tp, .inr (1, [.ref bb, .int x])), (bb, .inl (cI, 1024, .inl f))] s.heap := hP
  have hD : va_D A [(tp, .inr (1, [.ref bb, .int x])), (bb, .inl (cI, 1024, .inl f))] := hD
  have hl := lv_entry ([.ref tp, .int 3]) (n := 4) (Nat.le_of_ble_eq_true rfl)
  rw [lg_entry_eq]
  generalize (lg_sl ([.ref tp, .int 3]) ++ List.replicate (4 - (lg_sl ([.ref tp, .int 3])).length) Slot.unset).toArray = ls at hl ⊢
  have hl : lv_has ls 4 [(0, .ref tp), (1, .int 3)] := hl
  refine lv_sipush (v := 199) hx hb dX1_checkByte_0 (by decide) ?_
  refine lv_istore_n (lv' := [(2, .int 199), (0, .ref tp), (1, .int 3)]) hx hb dX1_checkByte_3 rfl hl (by decide) rfl (fun ls hl => ?_)
  refine lv_iconst (v := 0) hx hb dX1_checkByte_4 (by decide) ?_
  refine lv_istore_n (lv' := [(3, .int 0), (2, .int 199), (0, .ref tp), (1, .int 3)]) hx hb dX1_checkByte_5 rfl hl (by decide) rfl (fun ls hl => ?_)
  refine lv_iload_n hx hb dX1_checkByte_6 rfl (lv_at hl 0 rfl) ?_
  refine lv_iload_n hx hb dX1_checkByte_7 rfl (lv_at hl 3 rfl) ?_
  refine lv_icmp_ge (tgt := 41) hx hb dX1_checkByte_8 (by decide) (fun c => absurd c (by decide)) (fun _ => ?_)
  refine lv_iload_n hx hb dX1_checkByte_11 rfl (lv_at hl 0 rfl) ?_
  refine lv_aload_n hx hb dX1_checkByte_12 rfl (lv_at hl 2 rfl) ?_
  refine va_get (D := (dC, dI)) (ci := 1) (v := .ref bb) (C := RX1) (T := TX1) (N := 2) hx hb hts h_in_X1 hown hK hP 0 rfl rfl 0 (by decide) (hts (.fieldLink RX1 15 "MatchTrees$Bytes" "bytes" "[I") (by decide +kernel)) (fun _ h9 => h9) rfl dX1_checkByte_13 ?_
  refine va_alen (v := 1024) hx hb hK hP 1 0 rfl rfl (show Int32.ofNat 1024 = 1024 from by decide) dX1_checkByte_16 ?_
  refine lv_icmp_ge (tgt := 41) hx hb dX1_checkByte_17 (by decide) (fun c => absurd c (by decide)) (fun _ => ?_)
  refine lv_iconst (v := 5) hx hb dX1_checkByte_20 (by decide) ?_
  refine lv_iload_n hx hb dX1_checkByte_21 rfl (lv_at hl 1 rfl) ?_
  refine k_imul (v := 995) hx hb (by decide) dX1_checkByte_22 ?_
  refine lv_aload_n hx hb dX1_checkByte_23 rfl (lv_at hl 2 rfl) ?_
  refine va_get (D := (dC, dI)) (ci := 1) (v := .ref bb) (C := RX1) (T := TX1) (N := 2) hx hb hts h_in_X1 hown hK hP 0 rfl rfl 0 (by decide) (hts (.fieldLink RX1 15 "MatchTrees$Bytes" "bytes" "[I") (by decide +kernel)) (fun _ h9 => h9) rfl dX1_checkByte_24 ?_
  refine lv_iload_n hx hb dX1_checkByte_27 rfl (lv_at hl 0 rfl) ?_
  refine va_iald hx hb hK hP 1 0 rfl rfl (vpd (by decide)) dX1_checkByte_28 ?_
  refine lv_topi (fun f_1 e_f_1 => ?_)
  refine lv_iadd hx hb dX1_checkByte_29 ?_
  refine lv_topi (fun f_2 e_f_2 => ?_)
  refine lv_sipush (v := 251) hx hb dX1_checkByte_30 (by decide) ?_
  refine lv_irem hx hb dX1_checkByte_33 (by decide) ?_
  refine lv_topi (fun f_3 e_f_3 => ?_)
  refine lv_istore_n (lv' := [(2, .int f_3), (3, .int 0), (0, .ref tp), (1, .int 3)]) hx hb dX1_checkByte_34 rfl hl (by decide) rfl (fun ls hl => ?_)
  refine lv_iinc (v := 1) (lv' := [(3, .int 1), (2, .int f_3), (0, .ref tp), (1, .int 3)]) hx hb dX1_checkByte_35 hl (k := 1) rfl (by decide) (by decide) rfl (fun ls hl => ?_)
  refine lv_goto (tgt := 6) hx hb dX1_checkByte_38 (by decide) ?_
  refine lv_iload_n hx hb dX1_checkByte_6 rfl (lv_at hl 0 rfl) ?_
  refine lv_iload_n hx hb dX1_checkByte_7 rfl (lv_at hl 3 rfl) ?_
  refine lv_icmp_ge (tgt := 41) hx hb dX1_checkByte_8 (by decide) (fun c => absurd c (by decide)) (fun _ => ?_)
  refine lv_iload_n hx hb dX1_checkByte_11 rfl (lv_at hl 0 rfl) ?_
  refine lv_aload_n hx hb dX1_checkByte_12 rfl (lv_at hl 2 rfl) ?_
  refine va_get (D := (dC, dI)) (ci := 1) (v := .ref bb) (C := RX1) (T := TX1) (N := 2) hx hb hts h_in_X1 hown hK hP 0 rfl rfl 0 (by decide) (hts (.fieldLink RX1 15 "MatchTrees$Bytes" "bytes" "[I") (by decide +kernel)) (fun _ h9 => h9) rfl dX1_checkByte_13 ?_
  refine va_alen (v := 1024) hx hb hK hP 1 0 rfl rfl (show Int32.ofNat 1024 = 1024 from by decide) dX1_checkByte_16 ?_
  refine lv_icmp_ge (tgt := 41) hx hb dX1_checkByte_17 (by decide) (fun c => absurd c (by decide)) (fun _ => ?_)
  refine lv_iconst (v := 5) hx hb dX1_checkByte_20 (by decide) ?_
  refine lv_iload_n hx hb dX1_checkByte_21 rfl (lv_at hl 1 rfl) ?_
  refine lv_imul hx hb dX1_checkByte_22 ?_
  refine lv_topi (fun f_4 e_f_4 => ?_)
  refine lv_aload_n hx hb dX1_checkByte_23 rfl (lv_at hl 2 rfl) ?_
  refine va_get (D := (dC, dI)) (ci := 1) (v := .ref bb) (C := RX1) (T := TX1) (N := 2) hx hb hts h_in_X1 hown hK hP 0 rfl rfl 0 (by decide) (hts (.fieldLink RX1 15 "MatchTrees$Bytes" "bytes" "[I") (by decide +kernel)) (fun _ h9 => h9) rfl dX1_checkByte_24 ?_
  refine lv_iload_n hx hb dX1_checkByte_27 rfl (lv_at hl 0 rfl) ?_
  refine va_iald hx hb hK hP 1 0 rfl rfl (vpd (by decide)) dX1_checkByte_28 ?_
  refine lv_topi (fun f_5 e_f_5 => ?_)
  refine lv_iadd hx hb dX1_checkByte_29 ?_
  refine lv_topi (fun f_6 e_f_6 => ?_)
  refine lv_sipush (v := 251) hx hb dX1_checkByte_30 (by decide) ?_
  refine lv_irem hx hb dX1_checkByte_33 (by decide) ?_
  refine lv_topi (fun f_7 e_f_7 => ?_)
  refine lv_istore_n (lv' := [(2, .int f_7), (3, .int 1), (0, .ref tp), (1, .int 3)]) hx hb dX1_checkByte_34 rfl hl (by decide) rfl (fun ls hl => ?_)
  refine lv_iinc (v := 2) (lv' := [(3, .int 2), (2, .int f_7), (0, .ref tp), (1, .int 3)]) hx hb dX1_checkByte_35 hl (k := 1) rfl (by decide) (by decide) rfl (fun ls hl => ?_)
  refine lv_goto (tgt := 6) hx hb dX1_checkByte_38 (by decide) ?_
  refine lv_iload_n hx hb dX1_checkByte_6 rfl (lv_at hl 0 rfl) ?_
  refine lv_iload_n hx hb dX1_checkByte_7 rfl (lv_at hl 3 rfl) ?_
  refine lv_icmp_ge (tgt := 41) hx hb dX1_checkByte_8 (by decide) (fun c => absurd c (by decide)) (fun _ => ?_)
  refine lv_iload_n hx hb dX1_checkByte_11 rfl (lv_at hl 0 rfl) ?_
  refine lv_aload_n hx hb dX1_checkByte_12 rfl (lv_at hl 2 rfl) ?_
  refine va_get (D := (dC, dI)) (ci := 1) (v := .ref bb) (C := RX1) (T := TX1) (N := 2) hx hb hts h_in_X1 hown hK hP 0 rfl rfl 0 (by decide) (hts (.fieldLink RX1 15 "MatchTrees$Bytes" "bytes" "[I") (by decide +kernel)) (fun _ h9 => h9) rfl dX1_checkByte_13 ?_
  refine va_alen (v := 1024) hx hb hK hP 1 0 rfl rfl (show Int32.ofNat 1024 = 1024 from by decide) dX1_checkByte_16 ?_
  refine lv_icmp_ge (tgt := 41) hx hb dX1_checkByte_17 (by decide) (fun c => absurd c (by decide)) (fun _ => ?_)
  refine lv_iconst (v := 5) hx hb dX1_checkByte_20 (by decide) ?_
  refine lv_iload_n hx hb dX1_checkByte_21 rfl (lv_at hl 1 rfl) ?_
  refine lv_imul hx hb dX1_checkByte_22 ?_
  refine lv_topi (fun f_8 e_f_8 => ?_)
  refine lv_aload_n hx hb dX1_checkByte_23 rfl (lv_at hl 2 rfl) ?_
  refine va_get (D := (dC, dI)) (ci := 1) (v := .ref bb) (C := RX1) (T := TX1) (N := 2) hx hb hts h_in_X1 hown hK hP 0 rfl rfl 0 (by decide) (hts (.fieldLink RX1 15 "MatchTrees$Bytes" "bytes" "[I") (by decide +kernel)) (fun _ h9 => h9) rfl dX1_checkByte_24 ?_
  refine lv_iload_n hx hb dX1_checkByte_27 rfl (lv_at hl 0 rfl) ?_
  refine va_iald hx hb hK hP 1 0 rfl rfl (vpd (by decide)) dX1_checkByte_28 ?_
  refine lv_topi (fun f_9 e_f_9 => ?_)
  refine lv_iadd hx hb dX1_checkByte_29 ?_
  refine lv_topi (fun f_10 e_f_10 => ?_)
  refine lv_sipush (v := 251) hx hb dX1_checkByte_30 (by decide) ?_
  refine lv_irem hx hb dX1_checkByte_33 (by decide) ?_
  refine lv_topi (fun f_11 e_f_11 => ?_)
  refine lv_istore_n (lv' := [(2, .int f_11), (3, .int 2), (0, .ref tp), (1, .int 3)]) hx hb dX1_checkByte_34 rfl hl (by decide) rfl (fun ls hl => ?_)
  refine lv_iinc (v := 3) (lv' := [(3, .int 3), (2, .int f_11), (0, .ref tp), (1, .int 3)]) hx hb dX1_checkByte_35 hl (k := 1) rfl (by decide) (by decide) rfl (fun ls hl => ?_)
  refine lv_goto (tgt := 6) hx hb dX1_checkByte_38 (by decide) ?_
  refine lv_iload_n hx hb dX1_checkByte_6 rfl (lv_at hl 0 rfl) ?_
  refine lv_iload_n hx hb dX1_checkByte_7 rfl (lv_at hl 3 rfl) ?_
  refine lv_icmp_ge (tgt := 41) hx hb dX1_checkByte_8 (by decide) (fun _ => ?_) (fun c => absurd (by decide) c)
  refine lv_iload_n hx hb dX1_checkByte_41 rfl (lv_at hl 1 rfl) ?_
  have hP9 := hP.sub (ws' := [(tp, .inr (1, [.ref bb, .int x])), (bb, .inl (cI, 1024, .inl f))]) [0, 1] rfl
  have hD9 := hD.sub (ws' := [(tp, .inr (1, [.ref bb, .int x])), (bb, .inl (cI, 1024, .inl f))]) [0, 1] (by decide) rfl
  exact W.iret (v := f_11) hx hb hr (fun t ht hW => ⟨⟨f_11, (), rfl, trivial, by rw [ht]; exact hP9, hD9⟩, hS.F ht⟩) hS.2.2 dX1_checkByte_42
abbrev w0_c_X11_feed (cI : ClassId) (h0 : Nat) (r : Nat → Nat) (p0 p1 p2 p3 p4 : Int32) : va_W := [(h0, .inr (11, [.ref (r 0), .ref (r 1), .ref (r 2), .ref (r 3), .ref (r 4), .ref (r 5), .ref (r 6), .ref (r 7), .ref (r 8), .ref (r 9), .ref (r 10), .ref (r 11), .ref (r 12), .ref (r 13), .int 1])), ((r 0), .inr (1, [.ref (r 14), .int 0])), ((r 14), .inl (cI, 1600, .inl (fun _ => 0)))]
set_option maxHeartbeats 4000000 in
set_option maxRecDepth 100000 in
theorem c_X11_feed (l : Launch) (dC : Nat → ClassId) (dI : Nat → Nat → Nat) (cI cJ : ClassId) (h0 : Nat) (r : Nat → Nat) (p0 p1 p2 p3 p4 : Int32) (sz : Nat) : Met l yX11_feed wsX11_feed ({ frames := 3, cells := 0, slots := 0, locals := 102 }) (va_Pc [.ref h0, .int p0, .int p1, .int p2, .int p3, .int p4] (mPre dC dI cI cJ sz (w0_c_X11_feed cI h0 r p0 p1 p2 p3 p4))) (va_Qi (fun (r : Int32) (u : Unit) => r = 20) (fun _ _ => True) (va_A (w0_c_X11_feed cI h0 r p0 p1 p2 p3 p4) sz)) 0 0 (va_A (w0_c_X11_feed cI h0 r p0 p1 p2 p3 p4) sz) := by
  refine Met.ofW (cc := cX11_feed) (maxL := 6) (ret := (some .int)) (by decide) rfl ?_
  intro p e s m args below meth c s₁ B hml hv
  obtain ⟨rfl, hsz, hP, hK, hD0, hN⟩ := hv
  have hx := B.exec
  have hb := B.bytes
  have hr := B.returns
  have hts := atoms_spec (ws := wsX11_feed) B.pre
  have hown : s.vm.findClass RX11 = some m.cls := findClass_of_methodNamed B.named
  have hlocks := B.notSynchronized
  have h_in_X11 : ∀ w ∈ wsX110, w ∈ wsX11_feed := fun w h => List.mem_cons_of_mem _ (List.mem_append_left _ (List.mem_append_right _ h))
  have h_in_X1 : ∀ w ∈ wsX10, w ∈ wsX11_feed := fun w h => List.mem_cons_of_mem _ (List.mem_append_right _ h)
  subst hsz
  have hD := hD0.self (sz := s.heap.size)
  generalize hAe : va_A (w0_c_X11_feed cI h0 r p0 p1 p2 p3 p4) s.heap.size = A at hD ⊢
  have hA : ∀ q : Nat, s.heap.size ≤ q → A q := fun q h => by rw [← hAe]; exact Or.inr h
  have hS : va_S A s.heap s.heap [] := va_S.rf
  have hP : va_P (dC, dI) vwCl [(h0, .inr (11, [.ref (r 0), .ref (r 1), .ref (r 2), .ref (r 3), .ref (r 4), .ref (r 5), .ref (r 6), .ref (r 7), .ref (r 8), .ref (r 9), .ref (r 10), .ref (r 11), .ref (r 12), .ref (r 13), .int 1])), ((r 0), .inr (1, [.ref (r 14), .int 0])), ((r 14), .inl (cI, 1600, .inl (fun _ => 0)))] s.heap := hP
  have hD : va_D A [(h0, .inr (11, [.ref (r 0), .ref (r 1), .ref (r 2), .ref (r 3), .ref (r 4), .ref (r 5), .ref (r 6), .ref (r 7), .ref (r 8), .ref (r 9), .ref (r 10), .ref (r 11), .ref (r 12), .ref (r 13), .int 1])), ((r 0), .inr (1, [.ref (r 14), .int 0])), ((r 14), .inl (cI, 1600, .inl (fun _ => 0)))] := hD
  have hl := lv_entry ([.ref h0, .int p0, .int p1, .int p2, .int p3, .int p4]) (n := 6) (Nat.le_of_ble_eq_true rfl)
  rw [lg_entry_eq]
  generalize (lg_sl ([.ref h0, .int p0, .int p1, .int p2, .int p3, .int p4]) ++ List.replicate (6 - (lg_sl ([.ref h0, .int p0, .int p1, .int p2, .int p3, .int p4])).length) Slot.unset).toArray = ls at hl ⊢
  have hl : lv_has ls 6 [(0, .ref h0), (1, .int p0), (2, .int p1), (3, .int p2), (4, .int p3), (5, .int p4)] := hl
  refine lv_aload_n hx hb dX11_feed_0 rfl (lv_at hl 0 rfl) ?_
  refine va_get (D := (dC, dI)) (ci := 11) (v := .ref (r 0)) (C := RX11) (T := TX11) (N := 15) hx hb hts h_in_X11 hown hK hP 0 rfl rfl 0 (by decide) (hts (.fieldLink RX11 14 "MatchTrees" "tape" "LMatchTrees$Bytes;") (by decide +kernel)) (fun _ h9 => h9) rfl dX11_feed_1 ?_
  refine va_get (D := (dC, dI)) (ci := 1) (v := .int 0) (C := RX1) (T := TX1) (N := 2) hx hb hts h_in_X1 hown hK hP 1 rfl rfl 1 (by decide) (hts (.fieldLink RX11 100 "MatchTrees$Bytes" "length" "I") (by decide +kernel)) (fun _ h9 => h9) rfl dX11_feed_4 ?_
  refine lv_bipush (v := 20) hx hb dX11_feed_7 (by decide) ?_
  refine k_iadd (v := 20) hx hb (by decide) dX11_feed_9 ?_
  refine lv_sipush (v := 1600) hx hb dX11_feed_10 (by decide) ?_
  refine lv_icmp_le (tgt := 24) hx hb dX11_feed_13 (by decide) (fun _ => ?_) (fun c => absurd (by decide) c)
  refine lv_aload_n hx hb dX11_feed_24 rfl (lv_at hl 0 rfl) ?_
  refine va_get (D := (dC, dI)) (ci := 11) (v := .ref (r 0)) (C := RX11) (T := TX11) (N := 15) hx hb hts h_in_X11 hown hK hP 0 rfl rfl 0 (by decide) (hts (.fieldLink RX11 14 "MatchTrees" "tape" "LMatchTrees$Bytes;") (by decide +kernel)) (fun _ h9 => h9) rfl dX11_feed_25 ?_
  refine lv_iload_n hx hb dX11_feed_28 rfl (lv_at hl 1 rfl) ?_
  have hPc := hP.sub (ws' := [((r 0), .inr (1, [.ref (r 14), .int 0])), ((r 14), .inl (cI, 1600, .inl (fun _ => 0)))]) [1, 2] rfl
  have hDc := hD.sub (ws' := [((r 0), .inr (1, [.ref (r 14), .int 0])), ((r 14), .inl (cI, 1600, .inl (fun _ => 0)))]) [1, 2] (by decide) rfl
  have hFc := va_free (wc := [((r 0), .inr (1, [.ref (r 14), .int 0])), ((r 14), .inl (cI, 1600, .inl (fun _ => 0)))]) hD hS hA [1, 2] rfl
  refine va_callv (va_runV (As := [.int p0]) (rest := []) ⟨hx, hb, hml, hown, hts⟩ (c_X1_addFour l dC dI cI cJ (r 0) (r 14) 0 1600 (fun _ => 0) p0 s.heap.size (by omega) (by decide)) (cwV 1 hts gX11_feed_X1_addFour rfl rfl rfl (by decide +kernel) ⟨Nat.le_of_ble_eq_true rfl, Nat.le_of_ble_eq_true rfl⟩) ⟨mBlind, va_recv hK hPc (ci := 1) (q0 := 0) rfl rfl, mGo hPc hK hDc hN⟩ rfl rfl hl.1 rfl (lv_room (Nat.le_of_ble_eq_true rfl)) dX11_feed_29 ⟨Nat.le_of_ble_eq_true rfl, Nat.le_of_ble_eq_true rfl⟩) hS (fun q _ h => hFc q h) hFc (fun u t H1 locs ht hvm hw hB hz1 hk1 hS => ?_)
  obtain ⟨g_2, hP1, hD1⟩ := hB
  rw [ht] at hP1
  obtain ⟨hP, hD⟩ := va_join (wr := [(h0, .inr (11, [.ref (r 0), .ref (r 1), .ref (r 2), .ref (r 3), .ref (r 4), .ref (r 5), .ref (r 6), .ref (r 7), .ref (r 8), .ref (r 9), .ref (r 10), .ref (r 11), .ref (r 12), .ref (r 13), .int 1]))]) (w1 := [((r 0), .inr (1, [.ref (r 14), .int (nI (0 + 4))])), ((r 14), .inl (cI, 1600, .inl g_2))]) hP hD [1, 2] [0] rfl rfl (by decide) (by decide) hk1 hFc hP1 hD1
  generalize H1 = H at hP hS ⊢
  have hP : va_P (dC, dI) vwCl [(h0, .inr (11, [.ref (r 0), .ref (r 1), .ref (r 2), .ref (r 3), .ref (r 4), .ref (r 5), .ref (r 6), .ref (r 7), .ref (r 8), .ref (r 9), .ref (r 10), .ref (r 11), .ref (r 12), .ref (r 13), .int 1])), ((r 0), .inr (1, [.ref (r 14), .int (nI (0 + 4))])), ((r 14), .inl (cI, 1600, .inl g_2))] H := hP
  have hD : va_D A [(h0, .inr (11, [.ref (r 0), .ref (r 1), .ref (r 2), .ref (r 3), .ref (r 4), .ref (r 5), .ref (r 6), .ref (r 7), .ref (r 8), .ref (r 9), .ref (r 10), .ref (r 11), .ref (r 12), .ref (r 13), .int 1])), ((r 0), .inr (1, [.ref (r 14), .int (nI (0 + 4))])), ((r 14), .inl (cI, 1600, .inl g_2))] := hD
  refine lv_aload_n hx hb dX11_feed_32 rfl (lv_at hl 0 rfl) ?_
  refine va_get (D := (dC, dI)) (ci := 11) (v := .ref (r 0)) (C := RX11) (T := TX11) (N := 15) hx hb hts h_in_X11 hown hK hP 0 rfl rfl 0 (by decide) (hts (.fieldLink RX11 14 "MatchTrees" "tape" "LMatchTrees$Bytes;") (by decide +kernel)) (fun _ h9 => h9) rfl dX11_feed_33 ?_
  refine lv_iload_n hx hb dX11_feed_36 rfl (lv_at hl 2 rfl) ?_
  have hPc := hP.sub (ws' := [((r 0), .inr (1, [.ref (r 14), .int (nI (0 + 4))])), ((r 14), .inl (cI, 1600, .inl g_2))]) [1, 2] rfl
  have hDc := hD.sub (ws' := [((r 0), .inr (1, [.ref (r 14), .int (nI (0 + 4))])), ((r 14), .inl (cI, 1600, .inl g_2))]) [1, 2] (by decide) rfl
  have hFc := va_free (wc := [((r 0), .inr (1, [.ref (r 14), .int (nI (0 + 4))])), ((r 14), .inl (cI, 1600, .inl g_2))]) hD hS hA [1, 2] rfl
  refine va_callv (va_runV (As := [.int p1]) (rest := []) ⟨hx, hb, hml, hown, hts⟩ (c_X1_addFour l dC dI cI cJ (r 0) (r 14) (0 + 4) 1600 g_2 p1 H.size (by omega) (by decide)) (cwV 1 hts gX11_feed_X1_addFour rfl rfl rfl (by decide +kernel) ⟨Nat.le_of_ble_eq_true rfl, Nat.le_of_ble_eq_true rfl⟩) ⟨mBlind, va_recv hK hPc (ci := 1) (q0 := 0) rfl rfl, mGo hPc hK hDc hN⟩ rfl rfl hl.1 rfl (lv_room (Nat.le_of_ble_eq_true rfl)) dX11_feed_37 ⟨Nat.le_of_ble_eq_true rfl, Nat.le_of_ble_eq_true rfl⟩) hS (fun q _ h => hFc q h) hFc (fun u t H1 locs ht hvm hw hB hz1 hk1 hS => ?_)
  obtain ⟨g_4, hP1, hD1⟩ := hB
  rw [ht] at hP1
  obtain ⟨hP, hD⟩ := va_join (wr := [(h0, .inr (11, [.ref (r 0), .ref (r 1), .ref (r 2), .ref (r 3), .ref (r 4), .ref (r 5), .ref (r 6), .ref (r 7), .ref (r 8), .ref (r 9), .ref (r 10), .ref (r 11), .ref (r 12), .ref (r 13), .int 1]))]) (w1 := [((r 0), .inr (1, [.ref (r 14), .int (nI ((0 + 4) + 4))])), ((r 14), .inl (cI, 1600, .inl g_4))]) hP hD [1, 2] [0] rfl rfl (by decide) (by decide) hk1 hFc hP1 hD1
  generalize H1 = H at hP hS ⊢
  have hP : va_P (dC, dI) vwCl [(h0, .inr (11, [.ref (r 0), .ref (r 1), .ref (r 2), .ref (r 3), .ref (r 4), .ref (r 5), .ref (r 6), .ref (r 7), .ref (r 8), .ref (r 9), .ref (r 10), .ref (r 11), .ref (r 12), .ref (r 13), .int 1])), ((r 0), .inr (1, [.ref (r 14), .int (nI ((0 + 4) + 4))])), ((r 14), .inl (cI, 1600, .inl g_4))] H := hP
  have hD : va_D A [(h0, .inr (11, [.ref (r 0), .ref (r 1), .ref (r 2), .ref (r 3), .ref (r 4), .ref (r 5), .ref (r 6), .ref (r 7), .ref (r 8), .ref (r 9), .ref (r 10), .ref (r 11), .ref (r 12), .ref (r 13), .int 1])), ((r 0), .inr (1, [.ref (r 14), .int (nI ((0 + 4) + 4))])), ((r 14), .inl (cI, 1600, .inl g_4))] := hD
  refine lv_aload_n hx hb dX11_feed_40 rfl (lv_at hl 0 rfl) ?_
  refine va_get (D := (dC, dI)) (ci := 11) (v := .ref (r 0)) (C := RX11) (T := TX11) (N := 15) hx hb hts h_in_X11 hown hK hP 0 rfl rfl 0 (by decide) (hts (.fieldLink RX11 14 "MatchTrees" "tape" "LMatchTrees$Bytes;") (by decide +kernel)) (fun _ h9 => h9) rfl dX11_feed_41 ?_
  refine lv_iload_n hx hb dX11_feed_44 rfl (lv_at hl 3 rfl) ?_
  have hPc := hP.sub (ws' := [((r 0), .inr (1, [.ref (r 14), .int (nI ((0 + 4) + 4))])), ((r 14), .inl (cI, 1600, .inl g_4))]) [1, 2] rfl
  have hDc := hD.sub (ws' := [((r 0), .inr (1, [.ref (r 14), .int (nI ((0 + 4) + 4))])), ((r 14), .inl (cI, 1600, .inl g_4))]) [1, 2] (by decide) rfl
  have hFc := va_free (wc := [((r 0), .inr (1, [.ref (r 14), .int (nI ((0 + 4) + 4))])), ((r 14), .inl (cI, 1600, .inl g_4))]) hD hS hA [1, 2] rfl
  refine va_callv (va_runV (As := [.int p2]) (rest := []) ⟨hx, hb, hml, hown, hts⟩ (c_X1_addFour l dC dI cI cJ (r 0) (r 14) (((0 + 4) + 4)) 1600 g_4 p2 H.size (by omega) (by decide)) (cwV 1 hts gX11_feed_X1_addFour rfl rfl rfl (by decide +kernel) ⟨Nat.le_of_ble_eq_true rfl, Nat.le_of_ble_eq_true rfl⟩) ⟨mBlind, va_recv hK hPc (ci := 1) (q0 := 0) rfl rfl, mGo hPc hK hDc hN⟩ rfl rfl hl.1 rfl (lv_room (Nat.le_of_ble_eq_true rfl)) dX11_feed_45 ⟨Nat.le_of_ble_eq_true rfl, Nat.le_of_ble_eq_true rfl⟩) hS (fun q _ h => hFc q h) hFc (fun u t H1 locs ht hvm hw hB hz1 hk1 hS => ?_)
  obtain ⟨g_6, hP1, hD1⟩ := hB
  rw [ht] at hP1
  obtain ⟨hP, hD⟩ := va_join (wr := [(h0, .inr (11, [.ref (r 0), .ref (r 1), .ref (r 2), .ref (r 3), .ref (r 4), .ref (r 5), .ref (r 6), .ref (r 7), .ref (r 8), .ref (r 9), .ref (r 10), .ref (r 11), .ref (r 12), .ref (r 13), .int 1]))]) (w1 := [((r 0), .inr (1, [.ref (r 14), .int (nI (((0 + 4) + 4) + 4))])), ((r 14), .inl (cI, 1600, .inl g_6))]) hP hD [1, 2] [0] rfl rfl (by decide) (by decide) hk1 hFc hP1 hD1
  generalize H1 = H at hP hS ⊢
  have hP : va_P (dC, dI) vwCl [(h0, .inr (11, [.ref (r 0), .ref (r 1), .ref (r 2), .ref (r 3), .ref (r 4), .ref (r 5), .ref (r 6), .ref (r 7), .ref (r 8), .ref (r 9), .ref (r 10), .ref (r 11), .ref (r 12), .ref (r 13), .int 1])), ((r 0), .inr (1, [.ref (r 14), .int (nI (((0 + 4) + 4) + 4))])), ((r 14), .inl (cI, 1600, .inl g_6))] H := hP
  have hD : va_D A [(h0, .inr (11, [.ref (r 0), .ref (r 1), .ref (r 2), .ref (r 3), .ref (r 4), .ref (r 5), .ref (r 6), .ref (r 7), .ref (r 8), .ref (r 9), .ref (r 10), .ref (r 11), .ref (r 12), .ref (r 13), .int 1])), ((r 0), .inr (1, [.ref (r 14), .int (nI (((0 + 4) + 4) + 4))])), ((r 14), .inl (cI, 1600, .inl g_6))] := hD
  refine lv_aload_n hx hb dX11_feed_48 rfl (lv_at hl 0 rfl) ?_
  refine va_get (D := (dC, dI)) (ci := 11) (v := .ref (r 0)) (C := RX11) (T := TX11) (N := 15) hx hb hts h_in_X11 hown hK hP 0 rfl rfl 0 (by decide) (hts (.fieldLink RX11 14 "MatchTrees" "tape" "LMatchTrees$Bytes;") (by decide +kernel)) (fun _ h9 => h9) rfl dX11_feed_49 ?_
  refine lv_iload hx hb dX11_feed_52 (lv_at hl 4 rfl) ?_
  have hPc := hP.sub (ws' := [((r 0), .inr (1, [.ref (r 14), .int (nI (((0 + 4) + 4) + 4))])), ((r 14), .inl (cI, 1600, .inl g_6))]) [1, 2] rfl
  have hDc := hD.sub (ws' := [((r 0), .inr (1, [.ref (r 14), .int (nI (((0 + 4) + 4) + 4))])), ((r 14), .inl (cI, 1600, .inl g_6))]) [1, 2] (by decide) rfl
  have hFc := va_free (wc := [((r 0), .inr (1, [.ref (r 14), .int (nI (((0 + 4) + 4) + 4))])), ((r 14), .inl (cI, 1600, .inl g_6))]) hD hS hA [1, 2] rfl
  refine va_callv (va_runV (As := [.int p3]) (rest := []) ⟨hx, hb, hml, hown, hts⟩ (c_X1_addFour l dC dI cI cJ (r 0) (r 14) ((((0 + 4) + 4) + 4)) 1600 g_6 p3 H.size (by omega) (by decide)) (cwV 1 hts gX11_feed_X1_addFour rfl rfl rfl (by decide +kernel) ⟨Nat.le_of_ble_eq_true rfl, Nat.le_of_ble_eq_true rfl⟩) ⟨mBlind, va_recv hK hPc (ci := 1) (q0 := 0) rfl rfl, mGo hPc hK hDc hN⟩ rfl rfl hl.1 rfl (lv_room (Nat.le_of_ble_eq_true rfl)) dX11_feed_54 ⟨Nat.le_of_ble_eq_true rfl, Nat.le_of_ble_eq_true rfl⟩) hS (fun q _ h => hFc q h) hFc (fun u t H1 locs ht hvm hw hB hz1 hk1 hS => ?_)
  obtain ⟨g_8, hP1, hD1⟩ := hB
  rw [ht] at hP1
  obtain ⟨hP, hD⟩ := va_join (wr := [(h0, .inr (11, [.ref (r 0), .ref (r 1), .ref (r 2), .ref (r 3), .ref (r 4), .ref (r 5), .ref (r 6), .ref (r 7), .ref (r 8), .ref (r 9), .ref (r 10), .ref (r 11), .ref (r 12), .ref (r 13), .int 1]))]) (w1 := [((r 0), .inr (1, [.ref (r 14), .int (nI ((((0 + 4) + 4) + 4) + 4))])), ((r 14), .inl (cI, 1600, .inl g_8))]) hP hD [1, 2] [0] rfl rfl (by decide) (by decide) hk1 hFc hP1 hD1
  generalize H1 = H at hP hS ⊢
  have hP : va_P (dC, dI) vwCl [(h0, .inr (11, [.ref (r 0), .ref (r 1), .ref (r 2), .ref (r 3), .ref (r 4), .ref (r 5), .ref (r 6), .ref (r 7), .ref (r 8), .ref (r 9), .ref (r 10), .ref (r 11), .ref (r 12), .ref (r 13), .int 1])), ((r 0), .inr (1, [.ref (r 14), .int (nI ((((0 + 4) + 4) + 4) + 4))])), ((r 14), .inl (cI, 1600, .inl g_8))] H := hP
  have hD : va_D A [(h0, .inr (11, [.ref (r 0), .ref (r 1), .ref (r 2), .ref (r 3), .ref (r 4), .ref (r 5), .ref (r 6), .ref (r 7), .ref (r 8), .ref (r 9), .ref (r 10), .ref (r 11), .ref (r 12), .ref (r 13), .int 1])), ((r 0), .inr (1, [.ref (r 14), .int (nI ((((0 + 4) + 4) + 4) + 4))])), ((r 14), .inl (cI, 1600, .inl g_8))] := hD
  refine lv_aload_n hx hb dX11_feed_57 rfl (lv_at hl 0 rfl) ?_
  refine va_get (D := (dC, dI)) (ci := 11) (v := .ref (r 0)) (C := RX11) (T := TX11) (N := 15) hx hb hts h_in_X11 hown hK hP 0 rfl rfl 0 (by decide) (hts (.fieldLink RX11 14 "MatchTrees" "tape" "LMatchTrees$Bytes;") (by decide +kernel)) (fun _ h9 => h9) rfl dX11_feed_58 ?_
  refine lv_iload hx hb dX11_feed_61 (lv_at hl 5 rfl) ?_
  have hPc := hP.sub (ws' := [((r 0), .inr (1, [.ref (r 14), .int (nI ((((0 + 4) + 4) + 4) + 4))])), ((r 14), .inl (cI, 1600, .inl g_8))]) [1, 2] rfl
  have hDc := hD.sub (ws' := [((r 0), .inr (1, [.ref (r 14), .int (nI ((((0 + 4) + 4) + 4) + 4))])), ((r 14), .inl (cI, 1600, .inl g_8))]) [1, 2] (by decide) rfl
  have hFc := va_free (wc := [((r 0), .inr (1, [.ref (r 14), .int (nI ((((0 + 4) + 4) + 4) + 4))])), ((r 14), .inl (cI, 1600, .inl g_8))]) hD hS hA [1, 2] rfl
  refine va_callv (va_runV (As := [.int p4]) (rest := []) ⟨hx, hb, hml, hown, hts⟩ (c_X1_addFour l dC dI cI cJ (r 0) (r 14) (((((0 + 4) + 4) + 4) + 4)) 1600 g_8 p4 H.size (by omega) (by decide)) (cwV 1 hts gX11_feed_X1_addFour rfl rfl rfl (by decide +kernel) ⟨Nat.le_of_ble_eq_true rfl, Nat.le_of_ble_eq_true rfl⟩) ⟨mBlind, va_recv hK hPc (ci := 1) (q0 := 0) rfl rfl, mGo hPc hK hDc hN⟩ rfl rfl hl.1 rfl (lv_room (Nat.le_of_ble_eq_true rfl)) dX11_feed_63 ⟨Nat.le_of_ble_eq_true rfl, Nat.le_of_ble_eq_true rfl⟩) hS (fun q _ h => hFc q h) hFc (fun u t H1 locs ht hvm hw hB hz1 hk1 hS => ?_)
  obtain ⟨g_10, hP1, hD1⟩ := hB
  rw [ht] at hP1
  obtain ⟨hP, hD⟩ := va_join (wr := [(h0, .inr (11, [.ref (r 0), .ref (r 1), .ref (r 2), .ref (r 3), .ref (r 4), .ref (r 5), .ref (r 6), .ref (r 7), .ref (r 8), .ref (r 9), .ref (r 10), .ref (r 11), .ref (r 12), .ref (r 13), .int 1]))]) (w1 := [((r 0), .inr (1, [.ref (r 14), .int (nI (((((0 + 4) + 4) + 4) + 4) + 4))])), ((r 14), .inl (cI, 1600, .inl g_10))]) hP hD [1, 2] [0] rfl rfl (by decide) (by decide) hk1 hFc hP1 hD1
  generalize H1 = H at hP hS ⊢
  have hP : va_P (dC, dI) vwCl [(h0, .inr (11, [.ref (r 0), .ref (r 1), .ref (r 2), .ref (r 3), .ref (r 4), .ref (r 5), .ref (r 6), .ref (r 7), .ref (r 8), .ref (r 9), .ref (r 10), .ref (r 11), .ref (r 12), .ref (r 13), .int 1])), ((r 0), .inr (1, [.ref (r 14), .int (nI (((((0 + 4) + 4) + 4) + 4) + 4))])), ((r 14), .inl (cI, 1600, .inl g_10))] H := hP
  have hD : va_D A [(h0, .inr (11, [.ref (r 0), .ref (r 1), .ref (r 2), .ref (r 3), .ref (r 4), .ref (r 5), .ref (r 6), .ref (r 7), .ref (r 8), .ref (r 9), .ref (r 10), .ref (r 11), .ref (r 12), .ref (r 13), .int 1])), ((r 0), .inr (1, [.ref (r 14), .int (nI (((((0 + 4) + 4) + 4) + 4) + 4))])), ((r 14), .inl (cI, 1600, .inl g_10))] := hD
  refine lv_aload_n hx hb dX11_feed_66 rfl (lv_at hl 0 rfl) ?_
  refine va_get (D := (dC, dI)) (ci := 11) (v := .ref (r 0)) (C := RX11) (T := TX11) (N := 15) hx hb hts h_in_X11 hown hK hP 0 rfl rfl 0 (by decide) (hts (.fieldLink RX11 14 "MatchTrees" "tape" "LMatchTrees$Bytes;") (by decide +kernel)) (fun _ h9 => h9) rfl dX11_feed_67 ?_
  refine va_get (D := (dC, dI)) (ci := 1) (v := .int (nI (((((0 + 4) + 4) + 4) + 4) + 4))) (C := RX1) (T := TX1) (N := 2) hx hb hts h_in_X1 hown hK hP 1 rfl rfl 1 (by decide) (hts (.fieldLink RX11 100 "MatchTrees$Bytes" "length" "I") (by decide +kernel)) (fun _ h9 => h9) rfl dX11_feed_70 ?_
  exact W.iret (v := (nI (((((0 + 4) + 4) + 4) + 4) + 4))) hx hb hr (fun t ht hW => ⟨⟨(nI (((((0 + 4) + 4) + 4) + 4) + 4)), (), rfl, (by decide), trivial⟩, hS.F ht⟩) hS.2.2 dX11_feed_73
abbrev w0_c_X11_image (cI : ClassId) (h0 : Nat) (r : Nat → Nat) : va_W := [(h0, .inr (11, [.ref (r 0), .ref (r 1), .ref (r 2), .ref (r 3), .ref (r 4), .ref (r 5), .ref (r 6), .ref (r 7), .ref (r 8), .ref (r 9), .ref (r 10), .ref (r 11), .ref (r 12), .ref (r 13), .int 1])), ((r 1), .inr (1, [.ref (r 15), .int 0])), ((r 15), .inl (cI, 1024, .inl (fun _ => 0))), ((r 5), .inr (5, [.ref (r 16), .int 0, .int 0, .int 0]))]
set_option maxHeartbeats 4000000 in
set_option maxRecDepth 100000 in
theorem c_X11_image (l : Launch) (dC : Nat → ClassId) (dI : Nat → Nat → Nat) (cI cJ : ClassId) (h0 : Nat) (r : Nat → Nat) (sz : Nat) : Met l yX11_image wsX11_image ({ frames := 2, cells := 0, slots := 0, locals := 83 }) (va_Pc [.ref h0] (mPre dC dI cI cJ sz (w0_c_X11_image cI h0 r))) (va_Qi (fun (r : Int32) (u : Unit) => r = 4) (fun _ _ => True) (va_A (w0_c_X11_image cI h0 r) sz)) 0 0 (va_A (w0_c_X11_image cI h0 r) sz) := by
  refine Met.ofW (cc := cX11_image) (maxL := 2) (ret := (some .int)) (by decide) rfl ?_
  intro p e s m args below meth c s₁ B hml hv
  obtain ⟨rfl, hsz, hP, hK, hD0, hN⟩ := hv
  have hx := B.exec
  have hb := B.bytes
  have hr := B.returns
  have hts := atoms_spec (ws := wsX11_image) B.pre
  have hown : s.vm.findClass RX11 = some m.cls := findClass_of_methodNamed B.named
  have hlocks := B.notSynchronized
  have h_in_X11 : ∀ w ∈ wsX110, w ∈ wsX11_image := fun w h => List.mem_cons_of_mem _ (List.mem_append_left _ (List.mem_append_left _ (List.mem_append_right _ h)))
  have h_in_X1 : ∀ w ∈ wsX10, w ∈ wsX11_image := fun w h => List.mem_cons_of_mem _ (List.mem_append_left _ (List.mem_append_right _ h))
  have h_in_X5 : ∀ w ∈ wsX50, w ∈ wsX11_image := fun w h => List.mem_cons_of_mem _ (List.mem_append_right _ h)
  subst hsz
  have hD := hD0.self (sz := s.heap.size)
  generalize hAe : va_A (w0_c_X11_image cI h0 r) s.heap.size = A at hD ⊢
  have hA : ∀ q : Nat, s.heap.size ≤ q → A q := fun q h => by rw [← hAe]; exact Or.inr h
  have hS : va_S A s.heap s.heap [] := va_S.rf
  have hP : va_P (dC, dI) vwCl [(h0, .inr (11, [.ref (r 0), .ref (r 1), .ref (r 2), .ref (r 3), .ref (r 4), .ref (r 5), .ref (r 6), .ref (r 7), .ref (r 8), .ref (r 9), .ref (r 10), .ref (r 11), .ref (r 12), .ref (r 13), .int 1])), ((r 1), .inr (1, [.ref (r 15), .int 0])), ((r 15), .inl (cI, 1024, .inl (fun _ => 0))), ((r 5), .inr (5, [.ref (r 16), .int 0, .int 0, .int 0]))] s.heap := hP
  have hD : va_D A [(h0, .inr (11, [.ref (r 0), .ref (r 1), .ref (r 2), .ref (r 3), .ref (r 4), .ref (r 5), .ref (r 6), .ref (r 7), .ref (r 8), .ref (r 9), .ref (r 10), .ref (r 11), .ref (r 12), .ref (r 13), .int 1])), ((r 1), .inr (1, [.ref (r 15), .int 0])), ((r 15), .inl (cI, 1024, .inl (fun _ => 0))), ((r 5), .inr (5, [.ref (r 16), .int 0, .int 0, .int 0]))] := hD
  have hl := lv_entry ([.ref h0]) (n := 2) (Nat.le_of_ble_eq_true rfl)
  rw [lg_entry_eq]
  generalize (lg_sl ([.ref h0]) ++ List.replicate (2 - (lg_sl ([.ref h0])).length) Slot.unset).toArray = ls at hl ⊢
  have hl : lv_has ls 2 [(0, .ref h0)] := hl
  refine lv_aload_n hx hb dX11_image_0 rfl (lv_at hl 0 rfl) ?_
  refine va_get (D := (dC, dI)) (ci := 11) (v := .ref (r 1)) (C := RX11) (T := TX11) (N := 15) hx hb hts h_in_X11 hown hK hP 0 rfl rfl 1 (by decide) (hts (.fieldLink RX11 18 "MatchTrees" "written" "LMatchTrees$Bytes;") (by decide +kernel)) (fun _ h9 => h9) rfl dX11_image_1 ?_
  refine lv_iconst (v := 0) hx hb dX11_image_4 (by decide) ?_
  refine va_put (D := (dC, dI)) (ci := 1) (v := .int 0) (ty := .int) (C := RX1) (T := TX1) (N := 2) hx hb hts h_in_X1 tyX1 tyX1_ok nmX1 hown hK hP hD hS 1 rfl rfl 1 (by decide) (hts (.fieldLink RX11 100 "MatchTrees$Bytes" "length" "I") (by decide +kernel)) (fun _ h9 => h9) rfl (by decide +kernel) rfl rfl (Nat.le_of_ble_eq_true rfl) dX11_image_5 (fun H locs hP hD hS => ?_)
  have hP : va_P (dC, dI) vwCl [(h0, .inr (11, [.ref (r 0), .ref (r 1), .ref (r 2), .ref (r 3), .ref (r 4), .ref (r 5), .ref (r 6), .ref (r 7), .ref (r 8), .ref (r 9), .ref (r 10), .ref (r 11), .ref (r 12), .ref (r 13), .int 1])), ((r 1), .inr (1, [.ref (r 15), .int 0])), ((r 15), .inl (cI, 1024, .inl (fun _ => 0))), ((r 5), .inr (5, [.ref (r 16), .int 0, .int 0, .int 0]))] H := hP
  have hD : va_D A [(h0, .inr (11, [.ref (r 0), .ref (r 1), .ref (r 2), .ref (r 3), .ref (r 4), .ref (r 5), .ref (r 6), .ref (r 7), .ref (r 8), .ref (r 9), .ref (r 10), .ref (r 11), .ref (r 12), .ref (r 13), .int 1])), ((r 1), .inr (1, [.ref (r 15), .int 0])), ((r 15), .inl (cI, 1024, .inl (fun _ => 0))), ((r 5), .inr (5, [.ref (r 16), .int 0, .int 0, .int 0]))] := hD
  refine lv_aload_n hx hb dX11_image_8 rfl (lv_at hl 0 rfl) ?_
  refine va_get (D := (dC, dI)) (ci := 11) (v := .ref (r 1)) (C := RX11) (T := TX11) (N := 15) hx hb hts h_in_X11 hown hK hP 0 rfl rfl 1 (by decide) (hts (.fieldLink RX11 18 "MatchTrees" "written" "LMatchTrees$Bytes;") (by decide +kernel)) (fun _ h9 => h9) rfl dX11_image_9 ?_
  refine lv_aload_n hx hb dX11_image_12 rfl (lv_at hl 0 rfl) ?_
  refine va_get (D := (dC, dI)) (ci := 11) (v := .ref (r 5)) (C := RX11) (T := TX11) (N := 15) hx hb hts h_in_X11 hown hK hP 0 rfl rfl 5 (by decide) (hts (.fieldLink RX11 43 "MatchTrees" "order" "LMatchTrees$Order;") (by decide +kernel)) (fun _ h9 => h9) rfl dX11_image_13 ?_
  refine va_get (D := (dC, dI)) (ci := 5) (v := .int 0) (C := RX5) (T := TX5) (N := 4) hx hb hts h_in_X5 hown hK hP 3 rfl rfl 1 (by decide) (hts (.fieldLink RX11 176 "MatchTrees$Order" "count" "I") (by decide +kernel)) (fun _ h9 => h9) rfl dX11_image_16 ?_
  have hPc := hP.sub (ws' := [((r 1), .inr (1, [.ref (r 15), .int 0])), ((r 15), .inl (cI, 1024, .inl (fun _ => 0)))]) [1, 2] rfl
  have hDc := hD.sub (ws' := [((r 1), .inr (1, [.ref (r 15), .int 0])), ((r 15), .inl (cI, 1024, .inl (fun _ => 0)))]) [1, 2] (by decide) rfl
  have hFc := va_free (wc := [((r 1), .inr (1, [.ref (r 15), .int 0])), ((r 15), .inl (cI, 1024, .inl (fun _ => 0)))]) hD hS hA [1, 2] rfl
  refine va_callv (va_runV (As := [.int 0]) (rest := []) ⟨hx, hb, hml, hown, hts⟩ (c_X1_add l dC dI cI cJ (r 1) (r 15) 0 1024 (fun _ => 0) 0 H.size (by omega) (by decide)) (cwV 1 hts gX11_image_X1_add rfl rfl rfl (by decide +kernel) ⟨Nat.le_of_ble_eq_true rfl, Nat.le_of_ble_eq_true rfl⟩) ⟨mBlind, va_recv hK hPc (ci := 1) (q0 := 0) rfl rfl, mGo hPc hK hDc hN⟩ rfl rfl hl.1 rfl (lv_room (Nat.le_of_ble_eq_true rfl)) dX11_image_19 ⟨Nat.le_of_ble_eq_true rfl, Nat.le_of_ble_eq_true rfl⟩) hS (fun q _ h => hFc q h) hFc (fun u t H1 locs ht hvm hw hB hz1 hk1 hS => ?_)
  obtain ⟨g_2, hP1, hD1⟩ := hB
  rw [ht] at hP1
  obtain ⟨hP, hD⟩ := va_join (wr := [(h0, .inr (11, [.ref (r 0), .ref (r 1), .ref (r 2), .ref (r 3), .ref (r 4), .ref (r 5), .ref (r 6), .ref (r 7), .ref (r 8), .ref (r 9), .ref (r 10), .ref (r 11), .ref (r 12), .ref (r 13), .int 1])), ((r 5), .inr (5, [.ref (r 16), .int 0, .int 0, .int 0]))]) (w1 := [((r 1), .inr (1, [.ref (r 15), .int (nI (0 + 1))])), ((r 15), .inl (cI, 1024, .inl g_2))]) hP hD [1, 2] [0, 3] rfl rfl (by decide) (by decide) hk1 hFc hP1 hD1
  generalize H1 = H at hP hS ⊢
  have hP : va_P (dC, dI) vwCl [(h0, .inr (11, [.ref (r 0), .ref (r 1), .ref (r 2), .ref (r 3), .ref (r 4), .ref (r 5), .ref (r 6), .ref (r 7), .ref (r 8), .ref (r 9), .ref (r 10), .ref (r 11), .ref (r 12), .ref (r 13), .int 1])), ((r 5), .inr (5, [.ref (r 16), .int 0, .int 0, .int 0])), ((r 1), .inr (1, [.ref (r 15), .int (nI (0 + 1))])), ((r 15), .inl (cI, 1024, .inl g_2))] H := hP
  have hD : va_D A [(h0, .inr (11, [.ref (r 0), .ref (r 1), .ref (r 2), .ref (r 3), .ref (r 4), .ref (r 5), .ref (r 6), .ref (r 7), .ref (r 8), .ref (r 9), .ref (r 10), .ref (r 11), .ref (r 12), .ref (r 13), .int 1])), ((r 5), .inr (5, [.ref (r 16), .int 0, .int 0, .int 0])), ((r 1), .inr (1, [.ref (r 15), .int (nI (0 + 1))])), ((r 15), .inl (cI, 1024, .inl g_2))] := hD
  refine lv_iconst (v := 0) hx hb dX11_image_22 (by decide) ?_
  refine lv_istore_n (lv' := [(1, .int 0), (0, .ref h0)]) hx hb dX11_image_23 rfl hl (by decide) rfl (fun ls hl => ?_)
  refine lv_iload_n hx hb dX11_image_24 rfl (lv_at hl 0 rfl) ?_
  refine lv_aload_n hx hb dX11_image_25 rfl (lv_at hl 1 rfl) ?_
  refine va_get (D := (dC, dI)) (ci := 11) (v := .ref (r 5)) (C := RX11) (T := TX11) (N := 15) hx hb hts h_in_X11 hown hK hP 0 rfl rfl 5 (by decide) (hts (.fieldLink RX11 43 "MatchTrees" "order" "LMatchTrees$Order;") (by decide +kernel)) (fun _ h9 => h9) rfl dX11_image_26 ?_
  refine va_get (D := (dC, dI)) (ci := 5) (v := .int 0) (C := RX5) (T := TX5) (N := 4) hx hb hts h_in_X5 hown hK hP 1 rfl rfl 1 (by decide) (hts (.fieldLink RX11 176 "MatchTrees$Order" "count" "I") (by decide +kernel)) (fun _ h9 => h9) rfl dX11_image_29 ?_
  refine lv_icmp_ge (tgt := 57) hx hb dX11_image_32 (by decide) (fun _ => ?_) (fun c => absurd (by decide) c)
  refine lv_aload_n hx hb dX11_image_57 rfl (lv_at hl 1 rfl) ?_
  refine va_get (D := (dC, dI)) (ci := 11) (v := .ref (r 1)) (C := RX11) (T := TX11) (N := 15) hx hb hts h_in_X11 hown hK hP 0 rfl rfl 1 (by decide) (hts (.fieldLink RX11 18 "MatchTrees" "written" "LMatchTrees$Bytes;") (by decide +kernel)) (fun _ h9 => h9) rfl dX11_image_58 ?_
  refine lv_aload_n hx hb dX11_image_61 rfl (lv_at hl 1 rfl) ?_
  refine va_get (D := (dC, dI)) (ci := 11) (v := .ref (r 5)) (C := RX11) (T := TX11) (N := 15) hx hb hts h_in_X11 hown hK hP 0 rfl rfl 5 (by decide) (hts (.fieldLink RX11 43 "MatchTrees" "order" "LMatchTrees$Order;") (by decide +kernel)) (fun _ h9 => h9) rfl dX11_image_62 ?_
  refine va_get (D := (dC, dI)) (ci := 5) (v := .int 0) (C := RX5) (T := TX5) (N := 4) hx hb hts h_in_X5 hown hK hP 1 rfl rfl 2 (by decide) (hts (.fieldLink RX11 177 "MatchTrees$Order" "on" "I") (by decide +kernel)) (fun _ h9 => h9) rfl dX11_image_65 ?_
  have hPc := hP.sub (ws' := [((r 1), .inr (1, [.ref (r 15), .int (nI (0 + 1))])), ((r 15), .inl (cI, 1024, .inl g_2))]) [2, 3] rfl
  have hDc := hD.sub (ws' := [((r 1), .inr (1, [.ref (r 15), .int (nI (0 + 1))])), ((r 15), .inl (cI, 1024, .inl g_2))]) [2, 3] (by decide) rfl
  have hFc := va_free (wc := [((r 1), .inr (1, [.ref (r 15), .int (nI (0 + 1))])), ((r 15), .inl (cI, 1024, .inl g_2))]) hD hS hA [2, 3] rfl
  refine va_callv (va_runV (As := [.int 0]) (rest := []) ⟨hx, hb, hml, hown, hts⟩ (c_X1_add l dC dI cI cJ (r 1) (r 15) (0 + 1) 1024 g_2 0 H.size (by omega) (by decide)) (cwV 1 hts gX11_image_X1_add rfl rfl rfl (by decide +kernel) ⟨Nat.le_of_ble_eq_true rfl, Nat.le_of_ble_eq_true rfl⟩) ⟨mBlind, va_recv hK hPc (ci := 1) (q0 := 0) rfl rfl, mGo hPc hK hDc hN⟩ rfl rfl hl.1 rfl (lv_room (Nat.le_of_ble_eq_true rfl)) dX11_image_68 ⟨Nat.le_of_ble_eq_true rfl, Nat.le_of_ble_eq_true rfl⟩) hS (fun q _ h => hFc q h) hFc (fun u t H1 locs ht hvm hw hB hz1 hk1 hS => ?_)
  obtain ⟨g_4, hP1, hD1⟩ := hB
  rw [ht] at hP1
  obtain ⟨hP, hD⟩ := va_join (wr := [(h0, .inr (11, [.ref (r 0), .ref (r 1), .ref (r 2), .ref (r 3), .ref (r 4), .ref (r 5), .ref (r 6), .ref (r 7), .ref (r 8), .ref (r 9), .ref (r 10), .ref (r 11), .ref (r 12), .ref (r 13), .int 1])), ((r 5), .inr (5, [.ref (r 16), .int 0, .int 0, .int 0]))]) (w1 := [((r 1), .inr (1, [.ref (r 15), .int (nI ((0 + 1) + 1))])), ((r 15), .inl (cI, 1024, .inl g_4))]) hP hD [2, 3] [0, 1] rfl rfl (by decide) (by decide) hk1 hFc hP1 hD1
  generalize H1 = H at hP hS ⊢
  have hP : va_P (dC, dI) vwCl [(h0, .inr (11, [.ref (r 0), .ref (r 1), .ref (r 2), .ref (r 3), .ref (r 4), .ref (r 5), .ref (r 6), .ref (r 7), .ref (r 8), .ref (r 9), .ref (r 10), .ref (r 11), .ref (r 12), .ref (r 13), .int 1])), ((r 5), .inr (5, [.ref (r 16), .int 0, .int 0, .int 0])), ((r 1), .inr (1, [.ref (r 15), .int (nI ((0 + 1) + 1))])), ((r 15), .inl (cI, 1024, .inl g_4))] H := hP
  have hD : va_D A [(h0, .inr (11, [.ref (r 0), .ref (r 1), .ref (r 2), .ref (r 3), .ref (r 4), .ref (r 5), .ref (r 6), .ref (r 7), .ref (r 8), .ref (r 9), .ref (r 10), .ref (r 11), .ref (r 12), .ref (r 13), .int 1])), ((r 5), .inr (5, [.ref (r 16), .int 0, .int 0, .int 0])), ((r 1), .inr (1, [.ref (r 15), .int (nI ((0 + 1) + 1))])), ((r 15), .inl (cI, 1024, .inl g_4))] := hD
  refine lv_aload_n hx hb dX11_image_71 rfl (lv_at hl 1 rfl) ?_
  refine va_get (D := (dC, dI)) (ci := 11) (v := .ref (r 1)) (C := RX11) (T := TX11) (N := 15) hx hb hts h_in_X11 hown hK hP 0 rfl rfl 1 (by decide) (hts (.fieldLink RX11 18 "MatchTrees" "written" "LMatchTrees$Bytes;") (by decide +kernel)) (fun _ h9 => h9) rfl dX11_image_72 ?_
  refine lv_aload_n hx hb dX11_image_75 rfl (lv_at hl 1 rfl) ?_
  refine va_get (D := (dC, dI)) (ci := 11) (v := .ref (r 5)) (C := RX11) (T := TX11) (N := 15) hx hb hts h_in_X11 hown hK hP 0 rfl rfl 5 (by decide) (hts (.fieldLink RX11 43 "MatchTrees" "order" "LMatchTrees$Order;") (by decide +kernel)) (fun _ h9 => h9) rfl dX11_image_76 ?_
  refine va_get (D := (dC, dI)) (ci := 5) (v := .int 0) (C := RX5) (T := TX5) (N := 4) hx hb hts h_in_X5 hown hK hP 1 rfl rfl 3 (by decide) (hts (.fieldLink RX11 180 "MatchTrees$Order" "rule" "I") (by decide +kernel)) (fun _ h9 => h9) rfl dX11_image_79 ?_
  have hPc := hP.sub (ws' := [((r 1), .inr (1, [.ref (r 15), .int (nI ((0 + 1) + 1))])), ((r 15), .inl (cI, 1024, .inl g_4))]) [2, 3] rfl
  have hDc := hD.sub (ws' := [((r 1), .inr (1, [.ref (r 15), .int (nI ((0 + 1) + 1))])), ((r 15), .inl (cI, 1024, .inl g_4))]) [2, 3] (by decide) rfl
  have hFc := va_free (wc := [((r 1), .inr (1, [.ref (r 15), .int (nI ((0 + 1) + 1))])), ((r 15), .inl (cI, 1024, .inl g_4))]) hD hS hA [2, 3] rfl
  refine va_callv (va_runV (As := [.int 0]) (rest := []) ⟨hx, hb, hml, hown, hts⟩ (c_X1_add l dC dI cI cJ (r 1) (r 15) (((0 + 1) + 1)) 1024 g_4 0 H.size (by omega) (by decide)) (cwV 1 hts gX11_image_X1_add rfl rfl rfl (by decide +kernel) ⟨Nat.le_of_ble_eq_true rfl, Nat.le_of_ble_eq_true rfl⟩) ⟨mBlind, va_recv hK hPc (ci := 1) (q0 := 0) rfl rfl, mGo hPc hK hDc hN⟩ rfl rfl hl.1 rfl (lv_room (Nat.le_of_ble_eq_true rfl)) dX11_image_82 ⟨Nat.le_of_ble_eq_true rfl, Nat.le_of_ble_eq_true rfl⟩) hS (fun q _ h => hFc q h) hFc (fun u t H1 locs ht hvm hw hB hz1 hk1 hS => ?_)
  obtain ⟨g_6, hP1, hD1⟩ := hB
  rw [ht] at hP1
  obtain ⟨hP, hD⟩ := va_join (wr := [(h0, .inr (11, [.ref (r 0), .ref (r 1), .ref (r 2), .ref (r 3), .ref (r 4), .ref (r 5), .ref (r 6), .ref (r 7), .ref (r 8), .ref (r 9), .ref (r 10), .ref (r 11), .ref (r 12), .ref (r 13), .int 1])), ((r 5), .inr (5, [.ref (r 16), .int 0, .int 0, .int 0]))]) (w1 := [((r 1), .inr (1, [.ref (r 15), .int (nI (((0 + 1) + 1) + 1))])), ((r 15), .inl (cI, 1024, .inl g_6))]) hP hD [2, 3] [0, 1] rfl rfl (by decide) (by decide) hk1 hFc hP1 hD1
  generalize H1 = H at hP hS ⊢
  have hP : va_P (dC, dI) vwCl [(h0, .inr (11, [.ref (r 0), .ref (r 1), .ref (r 2), .ref (r 3), .ref (r 4), .ref (r 5), .ref (r 6), .ref (r 7), .ref (r 8), .ref (r 9), .ref (r 10), .ref (r 11), .ref (r 12), .ref (r 13), .int 1])), ((r 5), .inr (5, [.ref (r 16), .int 0, .int 0, .int 0])), ((r 1), .inr (1, [.ref (r 15), .int (nI (((0 + 1) + 1) + 1))])), ((r 15), .inl (cI, 1024, .inl g_6))] H := hP
  have hD : va_D A [(h0, .inr (11, [.ref (r 0), .ref (r 1), .ref (r 2), .ref (r 3), .ref (r 4), .ref (r 5), .ref (r 6), .ref (r 7), .ref (r 8), .ref (r 9), .ref (r 10), .ref (r 11), .ref (r 12), .ref (r 13), .int 1])), ((r 5), .inr (5, [.ref (r 16), .int 0, .int 0, .int 0])), ((r 1), .inr (1, [.ref (r 15), .int (nI (((0 + 1) + 1) + 1))])), ((r 15), .inl (cI, 1024, .inl g_6))] := hD
  refine lv_aload_n hx hb dX11_image_85 rfl (lv_at hl 1 rfl) ?_
  refine va_get (D := (dC, dI)) (ci := 11) (v := .ref (r 1)) (C := RX11) (T := TX11) (N := 15) hx hb hts h_in_X11 hown hK hP 0 rfl rfl 1 (by decide) (hts (.fieldLink RX11 18 "MatchTrees" "written" "LMatchTrees$Bytes;") (by decide +kernel)) (fun _ h9 => h9) rfl dX11_image_86 ?_
  refine lv_aload_n hx hb dX11_image_89 rfl (lv_at hl 1 rfl) ?_
  refine va_get (D := (dC, dI)) (ci := 11) (v := .ref (r 1)) (C := RX11) (T := TX11) (N := 15) hx hb hts h_in_X11 hown hK hP 0 rfl rfl 1 (by decide) (hts (.fieldLink RX11 18 "MatchTrees" "written" "LMatchTrees$Bytes;") (by decide +kernel)) (fun _ h9 => h9) rfl dX11_image_90 ?_
  refine lv_aload_n hx hb dX11_image_93 rfl (lv_at hl 1 rfl) ?_
  refine va_get (D := (dC, dI)) (ci := 11) (v := .ref (r 1)) (C := RX11) (T := TX11) (N := 15) hx hb hts h_in_X11 hown hK hP 0 rfl rfl 1 (by decide) (hts (.fieldLink RX11 18 "MatchTrees" "written" "LMatchTrees$Bytes;") (by decide +kernel)) (fun _ h9 => h9) rfl dX11_image_94 ?_
  refine va_get (D := (dC, dI)) (ci := 1) (v := .int (nI (((0 + 1) + 1) + 1))) (C := RX1) (T := TX1) (N := 2) hx hb hts h_in_X1 hown hK hP 2 rfl rfl 1 (by decide) (hts (.fieldLink RX11 100 "MatchTrees$Bytes" "length" "I") (by decide +kernel)) (fun _ h9 => h9) rfl dX11_image_97 ?_
  have hPc := hP.sub (ws' := [((r 1), .inr (1, [.ref (r 15), .int (nI (((0 + 1) + 1) + 1))])), ((r 15), .inl (cI, 1024, .inl g_6))]) [2, 3] rfl
  have hDc := hD.sub (ws' := [((r 1), .inr (1, [.ref (r 15), .int (nI (((0 + 1) + 1) + 1))])), ((r 15), .inl (cI, 1024, .inl g_6))]) [2, 3] (by decide) rfl
  have hFc := va_free (wc := [((r 1), .inr (1, [.ref (r 15), .int (nI (((0 + 1) + 1) + 1))])), ((r 15), .inl (cI, 1024, .inl g_6))]) hD hS hA [2, 3] rfl
  refine va_calli (va_runV (As := [.int (nI (((0 + 1) + 1) + 1))]) (rest := [.ref (r 1)]) ⟨hx, hb, hml, hown, hts⟩ (c_X1_checkByte l dC dI cI cJ (r 1) (r 15) ((nI (((0 + 1) + 1) + 1))) g_6 H.size) (cwV 1 hts gX11_image_X1_checkByte rfl rfl rfl (by decide +kernel) ⟨Nat.le_of_ble_eq_true rfl, Nat.le_of_ble_eq_true rfl⟩) ⟨mBlind, va_recv hK hPc (ci := 1) (q0 := 0) rfl rfl, mGo hPc hK hDc hN⟩ rfl rfl hl.1 rfl (lv_room (Nat.le_of_ble_eq_true rfl)) dX11_image_100 ⟨Nat.le_of_ble_eq_true rfl, Nat.le_of_ble_eq_true rfl⟩) hS (fun q _ h => hFc q h) hFc (fun r_7 u t H1 locs ht hvm hw hB hz1 hk1 hS => ?_)
  obtain ⟨hP1, hD1⟩ := hB
  rw [ht] at hP1
  obtain ⟨hP, hD⟩ := va_join (wr := [(h0, .inr (11, [.ref (r 0), .ref (r 1), .ref (r 2), .ref (r 3), .ref (r 4), .ref (r 5), .ref (r 6), .ref (r 7), .ref (r 8), .ref (r 9), .ref (r 10), .ref (r 11), .ref (r 12), .ref (r 13), .int 1])), ((r 5), .inr (5, [.ref (r 16), .int 0, .int 0, .int 0]))]) (w1 := [((r 1), .inr (1, [.ref (r 15), .int (nI (((0 + 1) + 1) + 1))])), ((r 15), .inl (cI, 1024, .inl g_6))]) hP hD [2, 3] [0, 1] rfl rfl (by decide) (by decide) hk1 hFc hP1 hD1
  generalize H1 = H at hP hS ⊢
  have hP : va_P (dC, dI) vwCl [(h0, .inr (11, [.ref (r 0), .ref (r 1), .ref (r 2), .ref (r 3), .ref (r 4), .ref (r 5), .ref (r 6), .ref (r 7), .ref (r 8), .ref (r 9), .ref (r 10), .ref (r 11), .ref (r 12), .ref (r 13), .int 1])), ((r 5), .inr (5, [.ref (r 16), .int 0, .int 0, .int 0])), ((r 1), .inr (1, [.ref (r 15), .int (nI (((0 + 1) + 1) + 1))])), ((r 15), .inl (cI, 1024, .inl g_6))] H := hP
  have hD : va_D A [(h0, .inr (11, [.ref (r 0), .ref (r 1), .ref (r 2), .ref (r 3), .ref (r 4), .ref (r 5), .ref (r 6), .ref (r 7), .ref (r 8), .ref (r 9), .ref (r 10), .ref (r 11), .ref (r 12), .ref (r 13), .int 1])), ((r 5), .inr (5, [.ref (r 16), .int 0, .int 0, .int 0])), ((r 1), .inr (1, [.ref (r 15), .int (nI (((0 + 1) + 1) + 1))])), ((r 15), .inl (cI, 1024, .inl g_6))] := hD
  have hPc := hP.sub (ws' := [((r 1), .inr (1, [.ref (r 15), .int (nI (((0 + 1) + 1) + 1))])), ((r 15), .inl (cI, 1024, .inl g_6))]) [2, 3] rfl
  have hDc := hD.sub (ws' := [((r 1), .inr (1, [.ref (r 15), .int (nI (((0 + 1) + 1) + 1))])), ((r 15), .inl (cI, 1024, .inl g_6))]) [2, 3] (by decide) rfl
  have hFc := va_free (wc := [((r 1), .inr (1, [.ref (r 15), .int (nI (((0 + 1) + 1) + 1))])), ((r 15), .inl (cI, 1024, .inl g_6))]) hD hS hA [2, 3] rfl
  refine va_callv (va_runV (As := [.int r_7]) (rest := []) ⟨hx, hb, hml, hown, hts⟩ (c_X1_add l dC dI cI cJ (r 1) (r 15) ((((0 + 1) + 1) + 1)) 1024 g_6 r_7 H.size (by omega) (by decide)) (cwV 1 hts gX11_image_X1_add rfl rfl rfl (by decide +kernel) ⟨Nat.le_of_ble_eq_true rfl, Nat.le_of_ble_eq_true rfl⟩) ⟨mBlind, va_recv hK hPc (ci := 1) (q0 := 0) rfl rfl, mGo hPc hK hDc hN⟩ rfl rfl hl.1 rfl (lv_room (Nat.le_of_ble_eq_true rfl)) dX11_image_103 ⟨Nat.le_of_ble_eq_true rfl, Nat.le_of_ble_eq_true rfl⟩) hS (fun q _ h => hFc q h) hFc (fun u t H1 locs ht hvm hw hB hz1 hk1 hS => ?_)
  obtain ⟨g_9, hP1, hD1⟩ := hB
  rw [ht] at hP1
  obtain ⟨hP, hD⟩ := va_join (wr := [(h0, .inr (11, [.ref (r 0), .ref (r 1), .ref (r 2), .ref (r 3), .ref (r 4), .ref (r 5), .ref (r 6), .ref (r 7), .ref (r 8), .ref (r 9), .ref (r 10), .ref (r 11), .ref (r 12), .ref (r 13), .int 1])), ((r 5), .inr (5, [.ref (r 16), .int 0, .int 0, .int 0]))]) (w1 := [((r 1), .inr (1, [.ref (r 15), .int (nI ((((0 + 1) + 1) + 1) + 1))])), ((r 15), .inl (cI, 1024, .inl g_9))]) hP hD [2, 3] [0, 1] rfl rfl (by decide) (by decide) hk1 hFc hP1 hD1
  generalize H1 = H at hP hS ⊢
  have hP : va_P (dC, dI) vwCl [(h0, .inr (11, [.ref (r 0), .ref (r 1), .ref (r 2), .ref (r 3), .ref (r 4), .ref (r 5), .ref (r 6), .ref (r 7), .ref (r 8), .ref (r 9), .ref (r 10), .ref (r 11), .ref (r 12), .ref (r 13), .int 1])), ((r 5), .inr (5, [.ref (r 16), .int 0, .int 0, .int 0])), ((r 1), .inr (1, [.ref (r 15), .int (nI ((((0 + 1) + 1) + 1) + 1))])), ((r 15), .inl (cI, 1024, .inl g_9))] H := hP
  have hD : va_D A [(h0, .inr (11, [.ref (r 0), .ref (r 1), .ref (r 2), .ref (r 3), .ref (r 4), .ref (r 5), .ref (r 6), .ref (r 7), .ref (r 8), .ref (r 9), .ref (r 10), .ref (r 11), .ref (r 12), .ref (r 13), .int 1])), ((r 5), .inr (5, [.ref (r 16), .int 0, .int 0, .int 0])), ((r 1), .inr (1, [.ref (r 15), .int (nI ((((0 + 1) + 1) + 1) + 1))])), ((r 15), .inl (cI, 1024, .inl g_9))] := hD
  refine lv_aload_n hx hb dX11_image_106 rfl (lv_at hl 1 rfl) ?_
  refine va_get (D := (dC, dI)) (ci := 11) (v := .ref (r 1)) (C := RX11) (T := TX11) (N := 15) hx hb hts h_in_X11 hown hK hP 0 rfl rfl 1 (by decide) (hts (.fieldLink RX11 18 "MatchTrees" "written" "LMatchTrees$Bytes;") (by decide +kernel)) (fun _ h9 => h9) rfl dX11_image_107 ?_
  refine va_get (D := (dC, dI)) (ci := 1) (v := .int (nI ((((0 + 1) + 1) + 1) + 1))) (C := RX1) (T := TX1) (N := 2) hx hb hts h_in_X1 hown hK hP 2 rfl rfl 1 (by decide) (hts (.fieldLink RX11 100 "MatchTrees$Bytes" "length" "I") (by decide +kernel)) (fun _ h9 => h9) rfl dX11_image_110 ?_
  exact W.iret (v := (nI ((((0 + 1) + 1) + 1) + 1))) hx hb hr (fun t ht hW => ⟨⟨(nI ((((0 + 1) + 1) + 1) + 1)), (), rfl, (by decide), trivial⟩, hS.F ht⟩) hS.2.2 dX11_image_113
abbrev w0_c_X3_clear (cI : ClassId) (h0 : Nat) (r : Nat → Nat) : va_W := [((r 41), .inr (3, [.ref (r 47), .ref (r 48), .ref (r 49), .ref (r 50), .ref (r 51), .ref (r 52), .ref (r 53), .ref (r 54), .ref (r 55), .int 0, .int 0]))]
set_option maxHeartbeats 4000000 in
set_option maxRecDepth 100000 in
theorem c_X3_clear (l : Launch) (dC : Nat → ClassId) (dI : Nat → Nat → Nat) (cI cJ : ClassId) (h0 : Nat) (r : Nat → Nat) (sz : Nat) : Met l yX3_clear wsX3_clear ({ frames := 1, cells := 0, slots := 0, locals := 60 }) (va_Pc [.ref (r 41)] (mPre dC dI cI cJ sz (w0_c_X3_clear cI h0 r))) (va_Qv (fun _ : Unit => True) (fun (u : Unit) (t : State) => va_P (dC, dI) vwCl [((r 41), .inr (3, [.ref (r 47), .ref (r 48), .ref (r 49), .ref (r 50), .ref (r 51), .ref (r 52), .ref (r 53), .ref (r 54), .ref (r 55), .int 0, .int 0]))] t.heap ∧ va_D (va_A (w0_c_X3_clear cI h0 r) sz) [((r 41), .inr (3, [.ref (r 47), .ref (r 48), .ref (r 49), .ref (r 50), .ref (r 51), .ref (r 52), .ref (r 53), .ref (r 54), .ref (r 55), .int 0, .int 0]))]) (va_A (w0_c_X3_clear cI h0 r) sz)) 0 0 (va_A (w0_c_X3_clear cI h0 r) sz) := by
  refine Met.ofW (cc := cX3_clear) (maxL := 1) (ret := none) (by decide) rfl ?_
  intro p e s m args below meth c s₁ B hml hv
  obtain ⟨rfl, hsz, hP, hK, hD0, hN⟩ := hv
  have hx := B.exec
  have hb := B.bytes
  have hr := B.returns
  have hts := atoms_spec (ws := wsX3_clear) B.pre
  have hown : s.vm.findClass RX3 = some m.cls := findClass_of_methodNamed B.named
  have hlocks := B.notSynchronized
  have h_in_X3 : ∀ w ∈ wsX30, w ∈ wsX3_clear := fun w h => List.mem_cons_of_mem _ (List.mem_append_right _ h)
  subst hsz
  have hD := hD0.self (sz := s.heap.size)
  generalize hAe : va_A (w0_c_X3_clear cI h0 r) s.heap.size = A at hD ⊢
  have hA : ∀ q : Nat, s.heap.size ≤ q → A q := fun q h => by rw [← hAe]; exact Or.inr h
  have hS : va_S A s.heap s.heap [] := va_S.rf
  have hP : va_P (dC, dI) vwCl [((r 41), .inr (3, [.ref (r 47), .ref (r 48), .ref (r 49), .ref (r 50), .ref (r 51), .ref (r 52), .ref (r 53), .ref (r 54), .ref (r 55), .int 0, .int 0]))] s.heap := hP
  have hD : va_D A [((r 41), .inr (3, [.ref (r 47), .ref (r 48), .ref (r 49), .ref (r 50), .ref (r 51), .ref (r 52), .ref (r 53), .ref (r 54), .ref (r 55), .int 0, .int 0]))] := hD
  have hl := lv_entry ([.ref (r 41)]) (n := 1) (Nat.le_of_ble_eq_true rfl)
  rw [lg_entry_eq]
  generalize (lg_sl ([.ref (r 41)]) ++ List.replicate (1 - (lg_sl ([.ref (r 41)])).length) Slot.unset).toArray = ls at hl ⊢
  have hl : lv_has ls 1 [(0, .ref (r 41))] := hl
  refine lv_aload_n hx hb dX3_clear_0 rfl (lv_at hl 0 rfl) ?_
  refine lv_iconst (v := 0) hx hb dX3_clear_1 (by decide) ?_
  refine va_put (D := (dC, dI)) (ci := 3) (v := .int 0) (ty := .int) (C := RX3) (T := TX3) (N := 11) hx hb hts h_in_X3 tyX3 tyX3_ok nmX3 hown hK hP hD hS 0 rfl rfl 9 (by decide) (hts (.fieldLink RX3 39 "MatchTrees$Kinds" "kinds" "I") (by decide +kernel)) (fun _ h9 => h9) rfl (by decide +kernel) rfl rfl (Nat.le_of_ble_eq_true rfl) dX3_clear_2 (fun H locs hP hD hS => ?_)
  have hP : va_P (dC, dI) vwCl [((r 41), .inr (3, [.ref (r 47), .ref (r 48), .ref (r 49), .ref (r 50), .ref (r 51), .ref (r 52), .ref (r 53), .ref (r 54), .ref (r 55), .int 0, .int 0]))] H := hP
  have hD : va_D A [((r 41), .inr (3, [.ref (r 47), .ref (r 48), .ref (r 49), .ref (r 50), .ref (r 51), .ref (r 52), .ref (r 53), .ref (r 54), .ref (r 55), .int 0, .int 0]))] := hD
  refine lv_aload_n hx hb dX3_clear_5 rfl (lv_at hl 0 rfl) ?_
  refine lv_iconst (v := 0) hx hb dX3_clear_6 (by decide) ?_
  refine va_put (D := (dC, dI)) (ci := 3) (v := .int 0) (ty := .int) (C := RX3) (T := TX3) (N := 11) hx hb hts h_in_X3 tyX3 tyX3_ok nmX3 hown hK hP hD hS 0 rfl rfl 10 (by decide) (hts (.fieldLink RX3 43 "MatchTrees$Kinds" "cons" "I") (by decide +kernel)) (fun _ h9 => h9) rfl (by decide +kernel) rfl rfl (Nat.le_of_ble_eq_true rfl) dX3_clear_7 (fun H locs hP hD hS => ?_)
  have hP : va_P (dC, dI) vwCl [((r 41), .inr (3, [.ref (r 47), .ref (r 48), .ref (r 49), .ref (r 50), .ref (r 51), .ref (r 52), .ref (r 53), .ref (r 54), .ref (r 55), .int 0, .int 0]))] H := hP
  have hD : va_D A [((r 41), .inr (3, [.ref (r 47), .ref (r 48), .ref (r 49), .ref (r 50), .ref (r 51), .ref (r 52), .ref (r 53), .ref (r 54), .ref (r 55), .int 0, .int 0]))] := hD
  have hP9 := hP.sub (ws' := [((r 41), .inr (3, [.ref (r 47), .ref (r 48), .ref (r 49), .ref (r 50), .ref (r 51), .ref (r 52), .ref (r 53), .ref (r 54), .ref (r 55), .int 0, .int 0]))]) [0] rfl
  have hD9 := hD.sub (ws' := [((r 41), .inr (3, [.ref (r 47), .ref (r 48), .ref (r 49), .ref (r 50), .ref (r 51), .ref (r 52), .ref (r 53), .ref (r 54), .ref (r 55), .int 0, .int 0]))]) [0] (by decide) rfl
  exact W.vret hx hb hr (fun t ht hW => ⟨⟨(), rfl, trivial, by rw [ht]; exact hP9, hD9⟩, hS.F ht⟩) hS.2.2 dX3_clear_10
abbrev w0_c_X9_clear (cI : ClassId) (h0 : Nat) (r : Nat → Nat) : va_W := [((r 11), .inr (9, [.ref (r 41), .ref (r 42), .ref (r 43), .ref (r 44), .ref (r 45), .ref (r 46), .int 0, .int 0, .int 0, .int 0, .int 0])), ((r 41), .inr (3, [.ref (r 47), .ref (r 48), .ref (r 49), .ref (r 50), .ref (r 51), .ref (r 52), .ref (r 53), .ref (r 54), .ref (r 55), .int 0, .int 0]))]
set_option maxHeartbeats 4000000 in
set_option maxRecDepth 100000 in
theorem c_X9_clear (l : Launch) (dC : Nat → ClassId) (dI : Nat → Nat → Nat) (cI cJ : ClassId) (h0 : Nat) (r : Nat → Nat) (sz : Nat) : Met l yX9_clear wsX9_clear ({ frames := 2, cells := 0, slots := 0, locals := 80 }) (va_Pc [.ref (r 11)] (mPre dC dI cI cJ sz (w0_c_X9_clear cI h0 r))) (va_Qv (fun _ : Unit => True) (fun (u : Unit) (t : State) => va_P (dC, dI) vwCl [((r 11), .inr (9, [.ref (r 41), .ref (r 42), .ref (r 43), .ref (r 44), .ref (r 45), .ref (r 46), .int 0, .int 0, .int 0, .int 0, .int 300])), ((r 41), .inr (3, [.ref (r 47), .ref (r 48), .ref (r 49), .ref (r 50), .ref (r 51), .ref (r 52), .ref (r 53), .ref (r 54), .ref (r 55), .int 0, .int 0]))] t.heap ∧ va_D (va_A (w0_c_X9_clear cI h0 r) sz) [((r 11), .inr (9, [.ref (r 41), .ref (r 42), .ref (r 43), .ref (r 44), .ref (r 45), .ref (r 46), .int 0, .int 0, .int 0, .int 0, .int 300])), ((r 41), .inr (3, [.ref (r 47), .ref (r 48), .ref (r 49), .ref (r 50), .ref (r 51), .ref (r 52), .ref (r 53), .ref (r 54), .ref (r 55), .int 0, .int 0]))]) (va_A (w0_c_X9_clear cI h0 r) sz)) 0 0 (va_A (w0_c_X9_clear cI h0 r) sz) := by
  refine Met.ofW (cc := cX9_clear) (maxL := 1) (ret := none) (by decide) rfl ?_
  intro p e s m args below meth c s₁ B hml hv
  obtain ⟨rfl, hsz, hP, hK, hD0, hN⟩ := hv
  have hx := B.exec
  have hb := B.bytes
  have hr := B.returns
  have hts := atoms_spec (ws := wsX9_clear) B.pre
  have hown : s.vm.findClass RX9 = some m.cls := findClass_of_methodNamed B.named
  have hlocks := B.notSynchronized
  have h_in_X9 : ∀ w ∈ wsX90, w ∈ wsX9_clear := fun w h => List.mem_cons_of_mem _ (List.mem_append_left _ (List.mem_append_right _ h))
  have h_in_X3 : ∀ w ∈ wsX30, w ∈ wsX9_clear := fun w h => List.mem_cons_of_mem _ (List.mem_append_right _ h)
  subst hsz
  have hD := hD0.self (sz := s.heap.size)
  generalize hAe : va_A (w0_c_X9_clear cI h0 r) s.heap.size = A at hD ⊢
  have hA : ∀ q : Nat, s.heap.size ≤ q → A q := fun q h => by rw [← hAe]; exact Or.inr h
  have hS : va_S A s.heap s.heap [] := va_S.rf
  have hP : va_P (dC, dI) vwCl [((r 11), .inr (9, [.ref (r 41), .ref (r 42), .ref (r 43), .ref (r 44), .ref (r 45), .ref (r 46), .int 0, .int 0, .int 0, .int 0, .int 0])), ((r 41), .inr (3, [.ref (r 47), .ref (r 48), .ref (r 49), .ref (r 50), .ref (r 51), .ref (r 52), .ref (r 53), .ref (r 54), .ref (r 55), .int 0, .int 0]))] s.heap := hP
  have hD : va_D A [((r 11), .inr (9, [.ref (r 41), .ref (r 42), .ref (r 43), .ref (r 44), .ref (r 45), .ref (r 46), .int 0, .int 0, .int 0, .int 0, .int 0])), ((r 41), .inr (3, [.ref (r 47), .ref (r 48), .ref (r 49), .ref (r 50), .ref (r 51), .ref (r 52), .ref (r 53), .ref (r 54), .ref (r 55), .int 0, .int 0]))] := hD
  have hl := lv_entry ([.ref (r 11)]) (n := 1) (Nat.le_of_ble_eq_true rfl)
  rw [lg_entry_eq]
  generalize (lg_sl ([.ref (r 11)]) ++ List.replicate (1 - (lg_sl ([.ref (r 11)])).length) Slot.unset).toArray = ls at hl ⊢
  have hl : lv_has ls 1 [(0, .ref (r 11))] := hl
  refine lv_aload_n hx hb dX9_clear_0 rfl (lv_at hl 0 rfl) ?_
  refine va_get (D := (dC, dI)) (ci := 9) (v := .ref (r 41)) (C := RX9) (T := TX9) (N := 11) hx hb hts h_in_X9 hown hK hP 0 rfl rfl 0 (by decide) (hts (.fieldLink RX9 12 "MatchTrees$Table" "kinds" "LMatchTrees$Kinds;") (by decide +kernel)) (fun _ h9 => h9) rfl dX9_clear_1 ?_
  have hPc := hP.sub (ws' := [((r 41), .inr (3, [.ref (r 47), .ref (r 48), .ref (r 49), .ref (r 50), .ref (r 51), .ref (r 52), .ref (r 53), .ref (r 54), .ref (r 55), .int 0, .int 0]))]) [1] rfl
  have hDc := hD.sub (ws' := [((r 41), .inr (3, [.ref (r 47), .ref (r 48), .ref (r 49), .ref (r 50), .ref (r 51), .ref (r 52), .ref (r 53), .ref (r 54), .ref (r 55), .int 0, .int 0]))]) [1] (by decide) rfl
  have hFc := va_free (wc := [((r 41), .inr (3, [.ref (r 47), .ref (r 48), .ref (r 49), .ref (r 50), .ref (r 51), .ref (r 52), .ref (r 53), .ref (r 54), .ref (r 55), .int 0, .int 0]))]) hD hS hA [1] rfl
  refine va_callv (va_runV (As := []) (rest := []) ⟨hx, hb, hml, hown, hts⟩ (c_X3_clear l dC dI cI cJ h0 r s.heap.size) (cwV 0 hts gX9_clear_X3_clear rfl rfl rfl (by decide +kernel) ⟨Nat.le_of_ble_eq_true rfl, Nat.le_of_ble_eq_true rfl⟩) ⟨mBlind, va_recv hK hPc (ci := 3) (q0 := 0) rfl rfl, mGo hPc hK hDc hN⟩ rfl rfl hl.1 rfl (lv_room (Nat.le_of_ble_eq_true rfl)) dX9_clear_4 ⟨Nat.le_of_ble_eq_true rfl, Nat.le_of_ble_eq_true rfl⟩) hS (fun q _ h => hFc q h) hFc (fun u t H1 locs ht hvm hw hB hz1 hk1 hS => ?_)
  obtain ⟨hP1, hD1⟩ := hB
  rw [ht] at hP1
  obtain ⟨hP, hD⟩ := va_join (wr := [((r 11), .inr (9, [.ref (r 41), .ref (r 42), .ref (r 43), .ref (r 44), .ref (r 45), .ref (r 46), .int 0, .int 0, .int 0, .int 0, .int 0]))]) (w1 := [((r 41), .inr (3, [.ref (r 47), .ref (r 48), .ref (r 49), .ref (r 50), .ref (r 51), .ref (r 52), .ref (r 53), .ref (r 54), .ref (r 55), .int 0, .int 0]))]) hP hD [1] [0] rfl rfl (by decide) (by decide) hk1 hFc hP1 hD1
  generalize H1 = H at hP hS ⊢
  have hP : va_P (dC, dI) vwCl [((r 11), .inr (9, [.ref (r 41), .ref (r 42), .ref (r 43), .ref (r 44), .ref (r 45), .ref (r 46), .int 0, .int 0, .int 0, .int 0, .int 0])), ((r 41), .inr (3, [.ref (r 47), .ref (r 48), .ref (r 49), .ref (r 50), .ref (r 51), .ref (r 52), .ref (r 53), .ref (r 54), .ref (r 55), .int 0, .int 0]))] H := hP
  have hD : va_D A [((r 11), .inr (9, [.ref (r 41), .ref (r 42), .ref (r 43), .ref (r 44), .ref (r 45), .ref (r 46), .int 0, .int 0, .int 0, .int 0, .int 0])), ((r 41), .inr (3, [.ref (r 47), .ref (r 48), .ref (r 49), .ref (r 50), .ref (r 51), .ref (r 52), .ref (r 53), .ref (r 54), .ref (r 55), .int 0, .int 0]))] := hD
  refine lv_aload_n hx hb dX9_clear_7 rfl (lv_at hl 0 rfl) ?_
  refine lv_iconst (v := 0) hx hb dX9_clear_8 (by decide) ?_
  refine va_put (D := (dC, dI)) (ci := 9) (v := .int 0) (ty := .int) (C := RX9) (T := TX9) (N := 11) hx hb hts h_in_X9 tyX9 tyX9_ok nmX9 hown hK hP hD hS 0 rfl rfl 6 (by decide) (hts (.fieldLink RX9 39 "MatchTrees$Table" "columns" "I") (by decide +kernel)) (fun _ h9 => h9) rfl (by decide +kernel) rfl rfl (Nat.le_of_ble_eq_true rfl) dX9_clear_9 (fun H locs hP hD hS => ?_)
  have hP : va_P (dC, dI) vwCl [((r 11), .inr (9, [.ref (r 41), .ref (r 42), .ref (r 43), .ref (r 44), .ref (r 45), .ref (r 46), .int 0, .int 0, .int 0, .int 0, .int 0])), ((r 41), .inr (3, [.ref (r 47), .ref (r 48), .ref (r 49), .ref (r 50), .ref (r 51), .ref (r 52), .ref (r 53), .ref (r 54), .ref (r 55), .int 0, .int 0]))] H := hP
  have hD : va_D A [((r 11), .inr (9, [.ref (r 41), .ref (r 42), .ref (r 43), .ref (r 44), .ref (r 45), .ref (r 46), .int 0, .int 0, .int 0, .int 0, .int 0])), ((r 41), .inr (3, [.ref (r 47), .ref (r 48), .ref (r 49), .ref (r 50), .ref (r 51), .ref (r 52), .ref (r 53), .ref (r 54), .ref (r 55), .int 0, .int 0]))] := hD
  refine lv_aload_n hx hb dX9_clear_12 rfl (lv_at hl 0 rfl) ?_
  refine lv_iconst (v := 0) hx hb dX9_clear_13 (by decide) ?_
  refine va_put (D := (dC, dI)) (ci := 9) (v := .int 0) (ty := .int) (C := RX9) (T := TX9) (N := 11) hx hb hts h_in_X9 tyX9 tyX9_ok nmX9 hown hK hP hD hS 0 rfl rfl 7 (by decide) (hts (.fieldLink RX9 43 "MatchTrees$Table" "rows" "I") (by decide +kernel)) (fun _ h9 => h9) rfl (by decide +kernel) rfl rfl (Nat.le_of_ble_eq_true rfl) dX9_clear_14 (fun H locs hP hD hS => ?_)
  have hP : va_P (dC, dI) vwCl [((r 11), .inr (9, [.ref (r 41), .ref (r 42), .ref (r 43), .ref (r 44), .ref (r 45), .ref (r 46), .int 0, .int 0, .int 0, .int 0, .int 0])), ((r 41), .inr (3, [.ref (r 47), .ref (r 48), .ref (r 49), .ref (r 50), .ref (r 51), .ref (r 52), .ref (r 53), .ref (r 54), .ref (r 55), .int 0, .int 0]))] H := hP
  have hD : va_D A [((r 11), .inr (9, [.ref (r 41), .ref (r 42), .ref (r 43), .ref (r 44), .ref (r 45), .ref (r 46), .int 0, .int 0, .int 0, .int 0, .int 0])), ((r 41), .inr (3, [.ref (r 47), .ref (r 48), .ref (r 49), .ref (r 50), .ref (r 51), .ref (r 52), .ref (r 53), .ref (r 54), .ref (r 55), .int 0, .int 0]))] := hD
  refine lv_aload_n hx hb dX9_clear_17 rfl (lv_at hl 0 rfl) ?_
  refine lv_iconst (v := 0) hx hb dX9_clear_18 (by decide) ?_
  refine va_put (D := (dC, dI)) (ci := 9) (v := .int 0) (ty := .int) (C := RX9) (T := TX9) (N := 11) hx hb hts h_in_X9 tyX9 tyX9_ok nmX9 hown hK hP hD hS 0 rfl rfl 8 (by decide) (hts (.fieldLink RX9 46 "MatchTrees$Table" "arms" "I") (by decide +kernel)) (fun _ h9 => h9) rfl (by decide +kernel) rfl rfl (Nat.le_of_ble_eq_true rfl) dX9_clear_19 (fun H locs hP hD hS => ?_)
  have hP : va_P (dC, dI) vwCl [((r 11), .inr (9, [.ref (r 41), .ref (r 42), .ref (r 43), .ref (r 44), .ref (r 45), .ref (r 46), .int 0, .int 0, .int 0, .int 0, .int 0])), ((r 41), .inr (3, [.ref (r 47), .ref (r 48), .ref (r 49), .ref (r 50), .ref (r 51), .ref (r 52), .ref (r 53), .ref (r 54), .ref (r 55), .int 0, .int 0]))] H := hP
  have hD : va_D A [((r 11), .inr (9, [.ref (r 41), .ref (r 42), .ref (r 43), .ref (r 44), .ref (r 45), .ref (r 46), .int 0, .int 0, .int 0, .int 0, .int 0])), ((r 41), .inr (3, [.ref (r 47), .ref (r 48), .ref (r 49), .ref (r 50), .ref (r 51), .ref (r 52), .ref (r 53), .ref (r 54), .ref (r 55), .int 0, .int 0]))] := hD
  refine lv_aload_n hx hb dX9_clear_22 rfl (lv_at hl 0 rfl) ?_
  refine lv_iconst (v := 0) hx hb dX9_clear_23 (by decide) ?_
  refine va_put (D := (dC, dI)) (ci := 9) (v := .int 0) (ty := .int) (C := RX9) (T := TX9) (N := 11) hx hb hts h_in_X9 tyX9 tyX9_ok nmX9 hown hK hP hD hS 0 rfl rfl 9 (by decide) (hts (.fieldLink RX9 49 "MatchTrees$Table" "rule" "I") (by decide +kernel)) (fun _ h9 => h9) rfl (by decide +kernel) rfl rfl (Nat.le_of_ble_eq_true rfl) dX9_clear_24 (fun H locs hP hD hS => ?_)
  have hP : va_P (dC, dI) vwCl [((r 11), .inr (9, [.ref (r 41), .ref (r 42), .ref (r 43), .ref (r 44), .ref (r 45), .ref (r 46), .int 0, .int 0, .int 0, .int 0, .int 0])), ((r 41), .inr (3, [.ref (r 47), .ref (r 48), .ref (r 49), .ref (r 50), .ref (r 51), .ref (r 52), .ref (r 53), .ref (r 54), .ref (r 55), .int 0, .int 0]))] H := hP
  have hD : va_D A [((r 11), .inr (9, [.ref (r 41), .ref (r 42), .ref (r 43), .ref (r 44), .ref (r 45), .ref (r 46), .int 0, .int 0, .int 0, .int 0, .int 0])), ((r 41), .inr (3, [.ref (r 47), .ref (r 48), .ref (r 49), .ref (r 50), .ref (r 51), .ref (r 52), .ref (r 53), .ref (r 54), .ref (r 55), .int 0, .int 0]))] := hD
  refine lv_aload_n hx hb dX9_clear_27 rfl (lv_at hl 0 rfl) ?_
  refine lv_sipush (v := 300) hx hb dX9_clear_28 (by decide) ?_
  refine va_put (D := (dC, dI)) (ci := 9) (v := .int 300) (ty := .int) (C := RX9) (T := TX9) (N := 11) hx hb hts h_in_X9 tyX9 tyX9_ok nmX9 hown hK hP hD hS 0 rfl rfl 10 (by decide) (hts (.fieldLink RX9 52 "MatchTrees$Table" "budget" "I") (by decide +kernel)) (fun _ h9 => h9) rfl (by decide +kernel) rfl rfl (Nat.le_of_ble_eq_true rfl) dX9_clear_31 (fun H locs hP hD hS => ?_)
  have hP : va_P (dC, dI) vwCl [((r 11), .inr (9, [.ref (r 41), .ref (r 42), .ref (r 43), .ref (r 44), .ref (r 45), .ref (r 46), .int 0, .int 0, .int 0, .int 0, .int 300])), ((r 41), .inr (3, [.ref (r 47), .ref (r 48), .ref (r 49), .ref (r 50), .ref (r 51), .ref (r 52), .ref (r 53), .ref (r 54), .ref (r 55), .int 0, .int 0]))] H := hP
  have hD : va_D A [((r 11), .inr (9, [.ref (r 41), .ref (r 42), .ref (r 43), .ref (r 44), .ref (r 45), .ref (r 46), .int 0, .int 0, .int 0, .int 0, .int 300])), ((r 41), .inr (3, [.ref (r 47), .ref (r 48), .ref (r 49), .ref (r 50), .ref (r 51), .ref (r 52), .ref (r 53), .ref (r 54), .ref (r 55), .int 0, .int 0]))] := hD
  have hP9 := hP.sub (ws' := [((r 11), .inr (9, [.ref (r 41), .ref (r 42), .ref (r 43), .ref (r 44), .ref (r 45), .ref (r 46), .int 0, .int 0, .int 0, .int 0, .int 300])), ((r 41), .inr (3, [.ref (r 47), .ref (r 48), .ref (r 49), .ref (r 50), .ref (r 51), .ref (r 52), .ref (r 53), .ref (r 54), .ref (r 55), .int 0, .int 0]))]) [0, 1] rfl
  have hD9 := hD.sub (ws' := [((r 11), .inr (9, [.ref (r 41), .ref (r 42), .ref (r 43), .ref (r 44), .ref (r 45), .ref (r 46), .int 0, .int 0, .int 0, .int 0, .int 300])), ((r 41), .inr (3, [.ref (r 47), .ref (r 48), .ref (r 49), .ref (r 50), .ref (r 51), .ref (r 52), .ref (r 53), .ref (r 54), .ref (r 55), .int 0, .int 0]))]) [0, 1] (by decide) rfl
  exact W.vret hx hb hr (fun t ht hW => ⟨⟨(), rfl, trivial, by rw [ht]; exact hP9, hD9⟩, hS.F ht⟩) hS.2.2 dX9_clear_34
abbrev w0_c_X7_step (cI : ClassId) (h0 : Nat) (r : Nat → Nat) : va_W := [((r 56), .inr (7, [.ref (r 58), .ref (r 14), .int 0, .int 0, .int 0, .int 0, .int 0, .int 0, .int 0]))]
set_option maxHeartbeats 4000000 in
set_option maxRecDepth 100000 in
theorem c_X7_step (l : Launch) (dC : Nat → ClassId) (dI : Nat → Nat → Nat) (cI cJ : ClassId) (h0 : Nat) (r : Nat → Nat) (sz : Nat) : Met l yX7_step wsX7_step ({ frames := 1, cells := 0, slots := 0, locals := 60 }) (va_Pc [.ref (r 56)] (mPre dC dI cI cJ sz (w0_c_X7_step cI h0 r))) (va_Qv (fun _ : Unit => True) (fun (u : Unit) (t : State) => va_P (dC, dI) vwCl [((r 56), .inr (7, [.ref (r 58), .ref (r 14), .int 0, .int 0, .int 0, .int 0, .int 0, .int 0, .int (-1)]))] t.heap ∧ va_D (va_A (w0_c_X7_step cI h0 r) sz) [((r 56), .inr (7, [.ref (r 58), .ref (r 14), .int 0, .int 0, .int 0, .int 0, .int 0, .int 0, .int (-1)]))]) (va_A (w0_c_X7_step cI h0 r) sz)) 0 0 (va_A (w0_c_X7_step cI h0 r) sz) := by
  refine Met.ofW (cc := cX7_step) (maxL := 6) (ret := none) (by decide) rfl ?_
  intro p e s m args below meth c s₁ B hml hv
  obtain ⟨rfl, hsz, hP, hK, hD0, hN⟩ := hv
  have hx := B.exec
  have hb := B.bytes
  have hr := B.returns
  have hts := atoms_spec (ws := wsX7_step) B.pre
  have hown : s.vm.findClass RX7 = some m.cls := findClass_of_methodNamed B.named
  have hlocks := B.notSynchronized
  have h_in_X7 : ∀ w ∈ wsX70, w ∈ wsX7_step := fun w h => List.mem_cons_of_mem _ (List.mem_append_right _ h)
  subst hsz
  have hD := hD0.self (sz := s.heap.size)
  generalize hAe : va_A (w0_c_X7_step cI h0 r) s.heap.size = A at hD ⊢
  have hA : ∀ q : Nat, s.heap.size ≤ q → A q := fun q h => by rw [← hAe]; exact Or.inr h
  have hS : va_S A s.heap s.heap [] := va_S.rf
  have hP : va_P (dC, dI) vwCl [((r 56), .inr (7, [.ref (r 58), .ref (r 14), .int 0, .int 0, .int 0, .int 0, .int 0, .int 0, .int 0]))] s.heap := hP
  have hD : va_D A [((r 56), .inr (7, [.ref (r 58), .ref (r 14), .int 0, .int 0, .int 0, .int 0, .int 0, .int 0, .int 0]))] := hD
  have hl := lv_entry ([.ref (r 56)]) (n := 6) (Nat.le_of_ble_eq_true rfl)
  rw [lg_entry_eq]
  generalize (lg_sl ([.ref (r 56)]) ++ List.replicate (6 - (lg_sl ([.ref (r 56)])).length) Slot.unset).toArray = ls at hl ⊢
  have hl : lv_has ls 6 [(0, .ref (r 56))] := hl
  refine lv_aload_n hx hb dX7_step_0 rfl (lv_at hl 0 rfl) ?_
  refine va_get (D := (dC, dI)) (ci := 7) (v := .int 0) (C := RX7) (T := TX7) (N := 9) hx hb hts h_in_X7 hown hK hP 0 rfl rfl 4 (by decide) (hts (.fieldLink RX7 75 "MatchTrees$Scanner" "type" "I") (by decide +kernel)) (fun _ h9 => h9) rfl dX7_step_1 ?_
  refine lv_iconst (v := 1) hx hb dX7_step_4 (by decide) ?_
  refine lv_icmp_eq (tgt := 16) hx hb dX7_step_5 (by decide) (fun c => absurd c (by decide)) (fun _ => ?_)
  refine lv_aload_n hx hb dX7_step_8 rfl (lv_at hl 0 rfl) ?_
  refine va_get (D := (dC, dI)) (ci := 7) (v := .int 0) (C := RX7) (T := TX7) (N := 9) hx hb hts h_in_X7 hown hK hP 0 rfl rfl 4 (by decide) (hts (.fieldLink RX7 75 "MatchTrees$Scanner" "type" "I") (by decide +kernel)) (fun _ h9 => h9) rfl dX7_step_9 ?_
  refine lv_iconst (v := 2) hx hb dX7_step_12 (by decide) ?_
  refine lv_icmp_ne (tgt := 20) hx hb dX7_step_13 (by decide) (fun _ => ?_) (fun c => absurd c (by decide))
  refine lv_iconst (v := 0) hx hb dX7_step_20 (by decide) ?_
  refine lv_istore_n (lv' := [(1, .int 0), (0, .ref (r 56))]) hx hb dX7_step_21 rfl hl (by decide) rfl (fun ls hl => ?_)
  refine lv_aload_n hx hb dX7_step_22 rfl (lv_at hl 1 rfl) ?_
  refine va_get (D := (dC, dI)) (ci := 7) (v := .int 0) (C := RX7) (T := TX7) (N := 9) hx hb hts h_in_X7 hown hK hP 0 rfl rfl 3 (by decide) (hts (.fieldLink RX7 72 "MatchTrees$Scanner" "next" "I") (by decide +kernel)) (fun _ h9 => h9) rfl dX7_step_23 ?_
  refine lv_istore_n (lv' := [(2, .int 0), (1, .int 0), (0, .ref (r 56))]) hx hb dX7_step_26 rfl hl (by decide) rfl (fun ls hl => ?_)
  refine lv_aload_n hx hb dX7_step_27 rfl (lv_at hl 2 rfl) ?_
  refine va_get (D := (dC, dI)) (ci := 7) (v := .int 0) (C := RX7) (T := TX7) (N := 9) hx hb hts h_in_X7 hown hK hP 0 rfl rfl 3 (by decide) (hts (.fieldLink RX7 72 "MatchTrees$Scanner" "next" "I") (by decide +kernel)) (fun _ h9 => h9) rfl dX7_step_28 ?_
  refine lv_if_lt (tgt := 86) hx hb dX7_step_31 (by decide) (fun c => absurd c (by decide)) (fun _ => ?_)
  refine lv_aload_n hx hb dX7_step_34 rfl (lv_at hl 2 rfl) ?_
  refine va_get (D := (dC, dI)) (ci := 7) (v := .int 0) (C := RX7) (T := TX7) (N := 9) hx hb hts h_in_X7 hown hK hP 0 rfl rfl 3 (by decide) (hts (.fieldLink RX7 72 "MatchTrees$Scanner" "next" "I") (by decide +kernel)) (fun _ h9 => h9) rfl dX7_step_35 ?_
  refine lv_aload_n hx hb dX7_step_38 rfl (lv_at hl 2 rfl) ?_
  refine va_get (D := (dC, dI)) (ci := 7) (v := .int 0) (C := RX7) (T := TX7) (N := 9) hx hb hts h_in_X7 hown hK hP 0 rfl rfl 2 (by decide) (hts (.fieldLink RX7 71 "MatchTrees$Scanner" "length" "I") (by decide +kernel)) (fun _ h9 => h9) rfl dX7_step_39 ?_
  refine lv_icmp_ge (tgt := 86) hx hb dX7_step_42 (by decide) (fun _ => ?_) (fun c => absurd (by decide) c)
  refine lv_aload_n hx hb dX7_step_86 rfl (lv_at hl 2 rfl) ?_
  refine lv_aload_n hx hb dX7_step_87 rfl (lv_at hl 2 rfl) ?_
  refine va_get (D := (dC, dI)) (ci := 7) (v := .int 0) (C := RX7) (T := TX7) (N := 9) hx hb hts h_in_X7 hown hK hP 0 rfl rfl 3 (by decide) (hts (.fieldLink RX7 72 "MatchTrees$Scanner" "next" "I") (by decide +kernel)) (fun _ h9 => h9) rfl dX7_step_88 ?_
  refine va_put (D := (dC, dI)) (ci := 7) (v := .int 0) (ty := .int) (C := RX7) (T := TX7) (N := 9) hx hb hts h_in_X7 tyX7 tyX7_ok nmX7 hown hK hP hD hS 0 rfl rfl 5 (by decide) (hts (.fieldLink RX7 81 "MatchTrees$Scanner" "at" "I") (by decide +kernel)) (fun _ h9 => h9) rfl (by decide +kernel) rfl rfl (Nat.le_of_ble_eq_true rfl) dX7_step_91 (fun H locs hP hD hS => ?_)
  have hP : va_P (dC, dI) vwCl [((r 56), .inr (7, [.ref (r 58), .ref (r 14), .int 0, .int 0, .int 0, .int 0, .int 0, .int 0, .int 0]))] H := hP
  have hD : va_D A [((r 56), .inr (7, [.ref (r 58), .ref (r 14), .int 0, .int 0, .int 0, .int 0, .int 0, .int 0, .int 0]))] := hD
  refine lv_aload_n hx hb dX7_step_94 rfl (lv_at hl 2 rfl) ?_
  refine lv_aload_n hx hb dX7_step_95 rfl (lv_at hl 2 rfl) ?_
  refine va_get (D := (dC, dI)) (ci := 7) (v := .int 0) (C := RX7) (T := TX7) (N := 9) hx hb hts h_in_X7 hown hK hP 0 rfl rfl 3 (by decide) (hts (.fieldLink RX7 72 "MatchTrees$Scanner" "next" "I") (by decide +kernel)) (fun _ h9 => h9) rfl dX7_step_96 ?_
  refine va_put (D := (dC, dI)) (ci := 7) (v := .int 0) (ty := .int) (C := RX7) (T := TX7) (N := 9) hx hb hts h_in_X7 tyX7 tyX7_ok nmX7 hown hK hP hD hS 0 rfl rfl 6 (by decide) (hts (.fieldLink RX7 84 "MatchTrees$Scanner" "stop" "I") (by decide +kernel)) (fun _ h9 => h9) rfl (by decide +kernel) rfl rfl (Nat.le_of_ble_eq_true rfl) dX7_step_99 (fun H locs hP hD hS => ?_)
  have hP : va_P (dC, dI) vwCl [((r 56), .inr (7, [.ref (r 58), .ref (r 14), .int 0, .int 0, .int 0, .int 0, .int 0, .int 0, .int 0]))] H := hP
  have hD : va_D A [((r 56), .inr (7, [.ref (r 58), .ref (r 14), .int 0, .int 0, .int 0, .int 0, .int 0, .int 0, .int 0]))] := hD
  refine lv_aload_n hx hb dX7_step_102 rfl (lv_at hl 2 rfl) ?_
  refine lv_iconst (v := (-1)) hx hb dX7_step_103 (by decide) ?_
  refine va_put (D := (dC, dI)) (ci := 7) (v := .int (-1)) (ty := .int) (C := RX7) (T := TX7) (N := 9) hx hb hts h_in_X7 tyX7 tyX7_ok nmX7 hown hK hP hD hS 0 rfl rfl 8 (by decide) (hts (.fieldLink RX7 87 "MatchTrees$Scanner" "own" "I") (by decide +kernel)) (fun _ h9 => h9) rfl (by decide +kernel) rfl rfl (Nat.le_of_ble_eq_true rfl) dX7_step_104 (fun H locs hP hD hS => ?_)
  have hP : va_P (dC, dI) vwCl [((r 56), .inr (7, [.ref (r 58), .ref (r 14), .int 0, .int 0, .int 0, .int 0, .int 0, .int 0, .int (-1)]))] H := hP
  have hD : va_D A [((r 56), .inr (7, [.ref (r 58), .ref (r 14), .int 0, .int 0, .int 0, .int 0, .int 0, .int 0, .int (-1)]))] := hD
  refine lv_aload_n hx hb dX7_step_107 rfl (lv_at hl 2 rfl) ?_
  refine lv_iconst (v := 0) hx hb dX7_step_108 (by decide) ?_
  refine va_put (D := (dC, dI)) (ci := 7) (v := .int 0) (ty := .int) (C := RX7) (T := TX7) (N := 9) hx hb hts h_in_X7 tyX7 tyX7_ok nmX7 hown hK hP hD hS 0 rfl rfl 7 (by decide) (hts (.fieldLink RX7 90 "MatchTrees$Scanner" "value" "I") (by decide +kernel)) (fun _ h9 => h9) rfl (by decide +kernel) rfl rfl (Nat.le_of_ble_eq_true rfl) dX7_step_109 (fun H locs hP hD hS => ?_)
  have hP : va_P (dC, dI) vwCl [((r 56), .inr (7, [.ref (r 58), .ref (r 14), .int 0, .int 0, .int 0, .int 0, .int 0, .int 0, .int (-1)]))] H := hP
  have hD : va_D A [((r 56), .inr (7, [.ref (r 58), .ref (r 14), .int 0, .int 0, .int 0, .int 0, .int 0, .int 0, .int (-1)]))] := hD
  refine lv_aload_n hx hb dX7_step_112 rfl (lv_at hl 2 rfl) ?_
  refine va_get (D := (dC, dI)) (ci := 7) (v := .int 0) (C := RX7) (T := TX7) (N := 9) hx hb hts h_in_X7 hown hK hP 0 rfl rfl 3 (by decide) (hts (.fieldLink RX7 72 "MatchTrees$Scanner" "next" "I") (by decide +kernel)) (fun _ h9 => h9) rfl dX7_step_113 ?_
  refine lv_if_lt (tgt := 130) hx hb dX7_step_116 (by decide) (fun c => absurd c (by decide)) (fun _ => ?_)
  refine lv_aload_n hx hb dX7_step_119 rfl (lv_at hl 2 rfl) ?_
  refine va_get (D := (dC, dI)) (ci := 7) (v := .int 0) (C := RX7) (T := TX7) (N := 9) hx hb hts h_in_X7 hown hK hP 0 rfl rfl 3 (by decide) (hts (.fieldLink RX7 72 "MatchTrees$Scanner" "next" "I") (by decide +kernel)) (fun _ h9 => h9) rfl dX7_step_120 ?_
  refine lv_aload_n hx hb dX7_step_123 rfl (lv_at hl 2 rfl) ?_
  refine va_get (D := (dC, dI)) (ci := 7) (v := .int 0) (C := RX7) (T := TX7) (N := 9) hx hb hts h_in_X7 hown hK hP 0 rfl rfl 2 (by decide) (hts (.fieldLink RX7 71 "MatchTrees$Scanner" "length" "I") (by decide +kernel)) (fun _ h9 => h9) rfl dX7_step_124 ?_
  refine lv_icmp_lt (tgt := 136) hx hb dX7_step_127 (by decide) (fun c => absurd c (by decide)) (fun _ => ?_)
  refine lv_aload_n hx hb dX7_step_130 rfl (lv_at hl 2 rfl) ?_
  refine lv_iconst (v := 0) hx hb dX7_step_131 (by decide) ?_
  refine va_put (D := (dC, dI)) (ci := 7) (v := .int 0) (ty := .int) (C := RX7) (T := TX7) (N := 9) hx hb hts h_in_X7 tyX7 tyX7_ok nmX7 hown hK hP hD hS 0 rfl rfl 4 (by decide) (hts (.fieldLink RX7 75 "MatchTrees$Scanner" "type" "I") (by decide +kernel)) (fun _ h9 => h9) rfl (by decide +kernel) rfl rfl (Nat.le_of_ble_eq_true rfl) dX7_step_132 (fun H locs hP hD hS => ?_)
  have hP : va_P (dC, dI) vwCl [((r 56), .inr (7, [.ref (r 58), .ref (r 14), .int 0, .int 0, .int 0, .int 0, .int 0, .int 0, .int (-1)]))] H := hP
  have hD : va_D A [((r 56), .inr (7, [.ref (r 58), .ref (r 14), .int 0, .int 0, .int 0, .int 0, .int 0, .int 0, .int (-1)]))] := hD
  have hP9 := hP.sub (ws' := [((r 56), .inr (7, [.ref (r 58), .ref (r 14), .int 0, .int 0, .int 0, .int 0, .int 0, .int 0, .int (-1)]))]) [0] rfl
  have hD9 := hD.sub (ws' := [((r 56), .inr (7, [.ref (r 58), .ref (r 14), .int 0, .int 0, .int 0, .int 0, .int 0, .int 0, .int (-1)]))]) [0] (by decide) rfl
  exact W.vret hx hb hr (fun t ht hW => ⟨⟨(), rfl, trivial, by rw [ht]; exact hP9, hD9⟩, hS.F ht⟩) hS.2.2 dX7_step_135
abbrev w0_c_X7_begin (cI : ClassId) (h0 : Nat) (r : Nat → Nat) : va_W := [((r 56), .inr (7, [.ref (r 58), .ref (r 59), .int 0, .int 0, .int 0, .int 0, .int 0, .int 0, .int 0])), ((r 0), .inr (1, [.ref (r 14), .int 0])), ((r 14), .inl (cI, 1600, .inl (fun _ => 0)))]
set_option maxHeartbeats 4000000 in
set_option maxRecDepth 100000 in
theorem c_X7_begin (l : Launch) (dC : Nat → ClassId) (dI : Nat → Nat → Nat) (cI cJ : ClassId) (h0 : Nat) (r : Nat → Nat) (sz : Nat) : Met l yX7_begin wsX7_begin ({ frames := 2, cells := 0, slots := 0, locals := 85 }) (va_Pc [.ref (r 56), .ref (r 0)] (mPre dC dI cI cJ sz (w0_c_X7_begin cI h0 r))) (va_Qv (fun _ : Unit => True) (fun (u : Unit) (t : State) => va_P (dC, dI) vwCl [((r 56), .inr (7, [.ref (r 58), .ref (r 14), .int 0, .int 0, .int 0, .int 0, .int 0, .int 0, .int (-1)])), ((r 0), .inr (1, [.ref (r 14), .int 0]))] t.heap ∧ va_D (va_A (w0_c_X7_begin cI h0 r) sz) [((r 56), .inr (7, [.ref (r 58), .ref (r 14), .int 0, .int 0, .int 0, .int 0, .int 0, .int 0, .int (-1)])), ((r 0), .inr (1, [.ref (r 14), .int 0]))]) (va_A (w0_c_X7_begin cI h0 r) sz)) 0 0 (va_A (w0_c_X7_begin cI h0 r) sz) := by
  refine Met.ofW (cc := cX7_begin) (maxL := 2) (ret := none) (by decide) rfl ?_
  intro p e s m args below meth c s₁ B hml hv
  obtain ⟨rfl, hsz, hP, hK, hD0, hN⟩ := hv
  have hx := B.exec
  have hb := B.bytes
  have hr := B.returns
  have hts := atoms_spec (ws := wsX7_begin) B.pre
  have hown : s.vm.findClass RX7 = some m.cls := findClass_of_methodNamed B.named
  have hlocks := B.notSynchronized
  have h_in_X1 : ∀ w ∈ wsX10, w ∈ wsX7_begin := fun w h => List.mem_cons_of_mem _ (List.mem_append_left _ (List.mem_append_right _ h))
  have h_in_X7 : ∀ w ∈ wsX70, w ∈ wsX7_begin := fun w h => List.mem_cons_of_mem _ (List.mem_append_right _ h)
  subst hsz
  have hD := hD0.self (sz := s.heap.size)
  generalize hAe : va_A (w0_c_X7_begin cI h0 r) s.heap.size = A at hD ⊢
  have hA : ∀ q : Nat, s.heap.size ≤ q → A q := fun q h => by rw [← hAe]; exact Or.inr h
  have hS : va_S A s.heap s.heap [] := va_S.rf
  have hP : va_P (dC, dI) vwCl [((r 56), .inr (7, [.ref (r 58), .ref (r 59), .int 0, .int 0, .int 0, .int 0, .int 0, .int 0, .int 0])), ((r 0), .inr (1, [.ref (r 14), .int 0])), ((r 14), .inl (cI, 1600, .inl (fun _ => 0)))] s.heap := hP
  have hD : va_D A [((r 56), .inr (7, [.ref (r 58), .ref (r 59), .int 0, .int 0, .int 0, .int 0, .int 0, .int 0, .int 0])), ((r 0), .inr (1, [.ref (r 14), .int 0])), ((r 14), .inl (cI, 1600, .inl (fun _ => 0)))] := hD
  have hl := lv_entry ([.ref (r 56), .ref (r 0)]) (n := 2) (Nat.le_of_ble_eq_true rfl)
  rw [lg_entry_eq]
  generalize (lg_sl ([.ref (r 56), .ref (r 0)]) ++ List.replicate (2 - (lg_sl ([.ref (r 56), .ref (r 0)])).length) Slot.unset).toArray = ls at hl ⊢
  have hl : lv_has ls 2 [(0, .ref (r 56)), (1, .ref (r 0))] := hl
  refine lv_aload_n hx hb dX7_begin_0 rfl (lv_at hl 0 rfl) ?_
  refine lv_aload_n hx hb dX7_begin_1 rfl (lv_at hl 1 rfl) ?_
  refine va_get (D := (dC, dI)) (ci := 1) (v := .ref (r 14)) (C := RX1) (T := TX1) (N := 2) hx hb hts h_in_X1 hown hK hP 1 rfl rfl 0 (by decide) (hts (.fieldLink RX7 54 "MatchTrees$Bytes" "bytes" "[I") (by decide +kernel)) (fun _ h9 => h9) rfl dX7_begin_2 ?_
  refine va_put (D := (dC, dI)) (ci := 7) (v := .ref (r 14)) (ty := (.array .int)) (C := RX7) (T := TX7) (N := 9) hx hb hts h_in_X7 tyX7 tyX7_ok nmX7 hown hK hP hD hS 0 rfl rfl 1 (by decide) (hts (.fieldLink RX7 41 "MatchTrees$Scanner" "text" "[I") (by decide +kernel)) (fun _ h9 => h9) rfl (by decide +kernel) rfl rfl (Nat.le_of_ble_eq_true rfl) dX7_begin_5 (fun H locs hP hD hS => ?_)
  have hP : va_P (dC, dI) vwCl [((r 56), .inr (7, [.ref (r 58), .ref (r 14), .int 0, .int 0, .int 0, .int 0, .int 0, .int 0, .int 0])), ((r 0), .inr (1, [.ref (r 14), .int 0])), ((r 14), .inl (cI, 1600, .inl (fun _ => 0)))] H := hP
  have hD : va_D A [((r 56), .inr (7, [.ref (r 58), .ref (r 14), .int 0, .int 0, .int 0, .int 0, .int 0, .int 0, .int 0])), ((r 0), .inr (1, [.ref (r 14), .int 0])), ((r 14), .inl (cI, 1600, .inl (fun _ => 0)))] := hD
  refine lv_aload_n hx hb dX7_begin_8 rfl (lv_at hl 0 rfl) ?_
  refine lv_iconst (v := 0) hx hb dX7_begin_9 (by decide) ?_
  refine lv_aload_n hx hb dX7_begin_10 rfl (lv_at hl 1 rfl) ?_
  refine va_get (D := (dC, dI)) (ci := 1) (v := .int 0) (C := RX1) (T := TX1) (N := 2) hx hb hts h_in_X1 hown hK hP 1 rfl rfl 1 (by decide) (hts (.fieldLink RX7 59 "MatchTrees$Bytes" "length" "I") (by decide +kernel)) (fun _ h9 => h9) rfl dX7_begin_11 ?_
  refine lv_aload_n hx hb dX7_begin_14 rfl (lv_at hl 0 rfl) ?_
  refine va_get (D := (dC, dI)) (ci := 7) (v := .ref (r 14)) (C := RX7) (T := TX7) (N := 9) hx hb hts h_in_X7 hown hK hP 0 rfl rfl 1 (by decide) (hts (.fieldLink RX7 41 "MatchTrees$Scanner" "text" "[I") (by decide +kernel)) (fun _ h9 => h9) rfl dX7_begin_15 ?_
  refine va_alen (v := 1600) hx hb hK hP 2 0 rfl rfl (show Int32.ofNat 1600 = 1600 from by decide) dX7_begin_18 ?_
  refine va_mmin hx hb (by rw [hml]; exact hl.1.symm) hown (hts (.methodLink RX7 62 Lib.Math.min.name) (by decide +kernel)) (hts (.static Lib.Math.min.name) (by decide +kernel)) (hts (.initialized "java/lang/Math") (by decide +kernel)) (hts (.code Lib.Math.min.name Lib.Math.min.code 2 (some .int)) (by decide +kernel)) (Nat.le_of_ble_eq_true rfl) (Nat.le_of_ble_eq_true rfl) (Nat.le_of_ble_eq_true rfl) (Nat.le_of_ble_eq_true rfl) dX7_begin_19 ?_
  refine lv_topi (fun t9 e9 => ?_)
  obtain rfl : t9 = 0 := e9.trans (by decide)
  refine va_mmax hx hb (by rw [hml]; exact hl.1.symm) hown (hts (.methodLink RX7 68 Lib.Math.max.name) (by decide +kernel)) (hts (.static Lib.Math.max.name) (by decide +kernel)) (hts (.initialized "java/lang/Math") (by decide +kernel)) (hts (.code Lib.Math.max.name Lib.Math.max.code 2 (some .int)) (by decide +kernel)) (Nat.le_of_ble_eq_true rfl) (Nat.le_of_ble_eq_true rfl) (Nat.le_of_ble_eq_true rfl) (Nat.le_of_ble_eq_true rfl) dX7_begin_22 ?_
  refine lv_topi (fun t9 e9 => ?_)
  obtain rfl : t9 = 0 := e9.trans (by decide)
  refine va_put (D := (dC, dI)) (ci := 7) (v := .int 0) (ty := .int) (C := RX7) (T := TX7) (N := 9) hx hb hts h_in_X7 tyX7 tyX7_ok nmX7 hown hK hP hD hS 0 rfl rfl 2 (by decide) (hts (.fieldLink RX7 71 "MatchTrees$Scanner" "length" "I") (by decide +kernel)) (fun _ h9 => h9) rfl (by decide +kernel) rfl rfl (Nat.le_of_ble_eq_true rfl) dX7_begin_25 (fun H locs hP hD hS => ?_)
  have hP : va_P (dC, dI) vwCl [((r 56), .inr (7, [.ref (r 58), .ref (r 14), .int 0, .int 0, .int 0, .int 0, .int 0, .int 0, .int 0])), ((r 0), .inr (1, [.ref (r 14), .int 0])), ((r 14), .inl (cI, 1600, .inl (fun _ => 0)))] H := hP
  have hD : va_D A [((r 56), .inr (7, [.ref (r 58), .ref (r 14), .int 0, .int 0, .int 0, .int 0, .int 0, .int 0, .int 0])), ((r 0), .inr (1, [.ref (r 14), .int 0])), ((r 14), .inl (cI, 1600, .inl (fun _ => 0)))] := hD
  refine lv_aload_n hx hb dX7_begin_28 rfl (lv_at hl 0 rfl) ?_
  refine lv_iconst (v := 0) hx hb dX7_begin_29 (by decide) ?_
  refine va_put (D := (dC, dI)) (ci := 7) (v := .int 0) (ty := .int) (C := RX7) (T := TX7) (N := 9) hx hb hts h_in_X7 tyX7 tyX7_ok nmX7 hown hK hP hD hS 0 rfl rfl 3 (by decide) (hts (.fieldLink RX7 72 "MatchTrees$Scanner" "next" "I") (by decide +kernel)) (fun _ h9 => h9) rfl (by decide +kernel) rfl rfl (Nat.le_of_ble_eq_true rfl) dX7_begin_30 (fun H locs hP hD hS => ?_)
  have hP : va_P (dC, dI) vwCl [((r 56), .inr (7, [.ref (r 58), .ref (r 14), .int 0, .int 0, .int 0, .int 0, .int 0, .int 0, .int 0])), ((r 0), .inr (1, [.ref (r 14), .int 0])), ((r 14), .inl (cI, 1600, .inl (fun _ => 0)))] H := hP
  have hD : va_D A [((r 56), .inr (7, [.ref (r 58), .ref (r 14), .int 0, .int 0, .int 0, .int 0, .int 0, .int 0, .int 0])), ((r 0), .inr (1, [.ref (r 14), .int 0])), ((r 14), .inl (cI, 1600, .inl (fun _ => 0)))] := hD
  refine lv_aload_n hx hb dX7_begin_33 rfl (lv_at hl 0 rfl) ?_
  refine lv_iconst (v := 0) hx hb dX7_begin_34 (by decide) ?_
  refine va_put (D := (dC, dI)) (ci := 7) (v := .int 0) (ty := .int) (C := RX7) (T := TX7) (N := 9) hx hb hts h_in_X7 tyX7 tyX7_ok nmX7 hown hK hP hD hS 0 rfl rfl 4 (by decide) (hts (.fieldLink RX7 75 "MatchTrees$Scanner" "type" "I") (by decide +kernel)) (fun _ h9 => h9) rfl (by decide +kernel) rfl rfl (Nat.le_of_ble_eq_true rfl) dX7_begin_35 (fun H locs hP hD hS => ?_)
  have hP : va_P (dC, dI) vwCl [((r 56), .inr (7, [.ref (r 58), .ref (r 14), .int 0, .int 0, .int 0, .int 0, .int 0, .int 0, .int 0])), ((r 0), .inr (1, [.ref (r 14), .int 0])), ((r 14), .inl (cI, 1600, .inl (fun _ => 0)))] H := hP
  have hD : va_D A [((r 56), .inr (7, [.ref (r 58), .ref (r 14), .int 0, .int 0, .int 0, .int 0, .int 0, .int 0, .int 0])), ((r 0), .inr (1, [.ref (r 14), .int 0])), ((r 14), .inl (cI, 1600, .inl (fun _ => 0)))] := hD
  refine lv_aload_n hx hb dX7_begin_38 rfl (lv_at hl 0 rfl) ?_
  have hPc := hP.sub (ws' := [((r 56), .inr (7, [.ref (r 58), .ref (r 14), .int 0, .int 0, .int 0, .int 0, .int 0, .int 0, .int 0]))]) [0] rfl
  have hDc := hD.sub (ws' := [((r 56), .inr (7, [.ref (r 58), .ref (r 14), .int 0, .int 0, .int 0, .int 0, .int 0, .int 0, .int 0]))]) [0] (by decide) rfl
  have hFc := va_free (wc := [((r 56), .inr (7, [.ref (r 58), .ref (r 14), .int 0, .int 0, .int 0, .int 0, .int 0, .int 0, .int 0]))]) hD hS hA [0] rfl
  refine va_callv (va_runV (As := []) (rest := []) ⟨hx, hb, hml, hown, hts⟩ (c_X7_step l dC dI cI cJ h0 r H.size) (cwV 0 hts gX7_begin_X7_step rfl rfl rfl (by decide +kernel) ⟨Nat.le_of_ble_eq_true rfl, Nat.le_of_ble_eq_true rfl⟩) ⟨mBlind, va_recv hK hPc (ci := 7) (q0 := 0) rfl rfl, mGo hPc hK hDc hN⟩ rfl rfl hl.1 rfl (lv_room (Nat.le_of_ble_eq_true rfl)) dX7_begin_39 ⟨Nat.le_of_ble_eq_true rfl, Nat.le_of_ble_eq_true rfl⟩) hS (fun q _ h => hFc q h) hFc (fun u t H1 locs ht hvm hw hB hz1 hk1 hS => ?_)
  obtain ⟨hP1, hD1⟩ := hB
  rw [ht] at hP1
  obtain ⟨hP, hD⟩ := va_join (wr := [((r 0), .inr (1, [.ref (r 14), .int 0])), ((r 14), .inl (cI, 1600, .inl (fun _ => 0)))]) (w1 := [((r 56), .inr (7, [.ref (r 58), .ref (r 14), .int 0, .int 0, .int 0, .int 0, .int 0, .int 0, .int (-1)]))]) hP hD [0] [1, 2] rfl rfl (by decide) (by decide) hk1 hFc hP1 hD1
  generalize H1 = H at hP hS ⊢
  have hP : va_P (dC, dI) vwCl [((r 0), .inr (1, [.ref (r 14), .int 0])), ((r 14), .inl (cI, 1600, .inl (fun _ => 0))), ((r 56), .inr (7, [.ref (r 58), .ref (r 14), .int 0, .int 0, .int 0, .int 0, .int 0, .int 0, .int (-1)]))] H := hP
  have hD : va_D A [((r 0), .inr (1, [.ref (r 14), .int 0])), ((r 14), .inl (cI, 1600, .inl (fun _ => 0))), ((r 56), .inr (7, [.ref (r 58), .ref (r 14), .int 0, .int 0, .int 0, .int 0, .int 0, .int 0, .int (-1)]))] := hD
  have hP9 := hP.sub (ws' := [((r 56), .inr (7, [.ref (r 58), .ref (r 14), .int 0, .int 0, .int 0, .int 0, .int 0, .int 0, .int (-1)])), ((r 0), .inr (1, [.ref (r 14), .int 0]))]) [2, 0] rfl
  have hD9 := hD.sub (ws' := [((r 56), .inr (7, [.ref (r 58), .ref (r 14), .int 0, .int 0, .int 0, .int 0, .int 0, .int 0, .int (-1)])), ((r 0), .inr (1, [.ref (r 14), .int 0]))]) [2, 0] (by decide) rfl
  exact W.vret hx hb hr (fun t ht hW => ⟨⟨(), rfl, trivial, by rw [ht]; exact hP9, hD9⟩, hS.F ht⟩) hS.2.2 dX7_begin_42
abbrev w0_c_X6_begin (cI : ClassId) (h0 : Nat) (r : Nat → Nat) (tb : Nat) : va_W := [((r 12), .inr (6, [.ref (r 56), .ref (r 57), .ref tb, .int 0, .int (-1)])), ((r 56), .inr (7, [.ref (r 58), .ref (r 59), .int 0, .int 0, .int 0, .int 0, .int 0, .int 0, .int 0])), ((r 0), .inr (1, [.ref (r 14), .int 0])), ((r 14), .inl (cI, 1600, .inl (fun _ => 0)))]
set_option maxHeartbeats 4000000 in
set_option maxRecDepth 100000 in
theorem c_X6_begin (l : Launch) (dC : Nat → ClassId) (dI : Nat → Nat → Nat) (cI cJ : ClassId) (h0 : Nat) (r : Nat → Nat) (tb : Nat) (sz : Nat) : Met l yX6_begin wsX6_begin ({ frames := 3, cells := 0, slots := 0, locals := 106 }) (va_Pc [.ref (r 12), .ref (r 0)] (mPre dC dI cI cJ sz (w0_c_X6_begin cI h0 r tb))) (va_Qv (fun _ : Unit => True) (fun (u : Unit) (t : State) => va_P (dC, dI) vwCl [((r 12), .inr (6, [.ref (r 56), .ref (r 57), .ref tb, .int 0, .int (-1)])), ((r 56), .inr (7, [.ref (r 58), .ref (r 14), .int 0, .int 0, .int 0, .int 0, .int 0, .int 0, .int (-1)])), ((r 0), .inr (1, [.ref (r 14), .int 0]))] t.heap ∧ va_D (va_A (w0_c_X6_begin cI h0 r tb) sz) [((r 12), .inr (6, [.ref (r 56), .ref (r 57), .ref tb, .int 0, .int (-1)])), ((r 56), .inr (7, [.ref (r 58), .ref (r 14), .int 0, .int 0, .int 0, .int 0, .int 0, .int 0, .int (-1)])), ((r 0), .inr (1, [.ref (r 14), .int 0]))]) (va_A (w0_c_X6_begin cI h0 r tb) sz)) 0 0 (va_A (w0_c_X6_begin cI h0 r tb) sz) := by
  refine Met.ofW (cc := cX6_begin) (maxL := 2) (ret := none) (by decide) rfl ?_
  intro p e s m args below meth c s₁ B hml hv
  obtain ⟨rfl, hsz, hP, hK, hD0, hN⟩ := hv
  have hx := B.exec
  have hb := B.bytes
  have hr := B.returns
  have hts := atoms_spec (ws := wsX6_begin) B.pre
  have hown : s.vm.findClass RX6 = some m.cls := findClass_of_methodNamed B.named
  have hlocks := B.notSynchronized
  have h_in_X6 : ∀ w ∈ wsX60, w ∈ wsX6_begin := fun w h => List.mem_cons_of_mem _ (List.mem_append_left _ (List.mem_append_left _ (List.mem_append_right _ h)))
  have h_in_X1 : ∀ w ∈ wsX10, w ∈ wsX6_begin := fun w h => List.mem_cons_of_mem _ (List.mem_append_left _ (List.mem_append_right _ h))
  have h_in_X7 : ∀ w ∈ wsX70, w ∈ wsX6_begin := fun w h => List.mem_cons_of_mem _ (List.mem_append_right _ h)
  subst hsz
  have hD := hD0.self (sz := s.heap.size)
  generalize hAe : va_A (w0_c_X6_begin cI h0 r tb) s.heap.size = A at hD ⊢
  have hA : ∀ q : Nat, s.heap.size ≤ q → A q := fun q h => by rw [← hAe]; exact Or.inr h
  have hS : va_S A s.heap s.heap [] := va_S.rf
  have hP : va_P (dC, dI) vwCl [((r 12), .inr (6, [.ref (r 56), .ref (r 57), .ref tb, .int 0, .int (-1)])), ((r 56), .inr (7, [.ref (r 58), .ref (r 59), .int 0, .int 0, .int 0, .int 0, .int 0, .int 0, .int 0])), ((r 0), .inr (1, [.ref (r 14), .int 0])), ((r 14), .inl (cI, 1600, .inl (fun _ => 0)))] s.heap := hP
  have hD : va_D A [((r 12), .inr (6, [.ref (r 56), .ref (r 57), .ref tb, .int 0, .int (-1)])), ((r 56), .inr (7, [.ref (r 58), .ref (r 59), .int 0, .int 0, .int 0, .int 0, .int 0, .int 0, .int 0])), ((r 0), .inr (1, [.ref (r 14), .int 0])), ((r 14), .inl (cI, 1600, .inl (fun _ => 0)))] := hD
  have hl := lv_entry ([.ref (r 12), .ref (r 0)]) (n := 2) (Nat.le_of_ble_eq_true rfl)
  rw [lg_entry_eq]
  generalize (lg_sl ([.ref (r 12), .ref (r 0)]) ++ List.replicate (2 - (lg_sl ([.ref (r 12), .ref (r 0)])).length) Slot.unset).toArray = ls at hl ⊢
  have hl : lv_has ls 2 [(0, .ref (r 12)), (1, .ref (r 0))] := hl
  refine lv_aload_n hx hb dX6_begin_0 rfl (lv_at hl 0 rfl) ?_
  refine lv_iconst (v := 0) hx hb dX6_begin_1 (by decide) ?_
  refine va_put (D := (dC, dI)) (ci := 6) (v := .int 0) (ty := .int) (C := RX6) (T := TX6) (N := 5) hx hb hts h_in_X6 tyX6 tyX6_ok nmX6 hown hK hP hD hS 0 rfl rfl 3 (by decide) (hts (.fieldLink RX6 82 "MatchTrees$Reader" "fault" "I") (by decide +kernel)) (fun _ h9 => h9) rfl (by decide +kernel) rfl rfl (Nat.le_of_ble_eq_true rfl) dX6_begin_2 (fun H locs hP hD hS => ?_)
  have hP : va_P (dC, dI) vwCl [((r 12), .inr (6, [.ref (r 56), .ref (r 57), .ref tb, .int 0, .int (-1)])), ((r 56), .inr (7, [.ref (r 58), .ref (r 59), .int 0, .int 0, .int 0, .int 0, .int 0, .int 0, .int 0])), ((r 0), .inr (1, [.ref (r 14), .int 0])), ((r 14), .inl (cI, 1600, .inl (fun _ => 0)))] H := hP
  have hD : va_D A [((r 12), .inr (6, [.ref (r 56), .ref (r 57), .ref tb, .int 0, .int (-1)])), ((r 56), .inr (7, [.ref (r 58), .ref (r 59), .int 0, .int 0, .int 0, .int 0, .int 0, .int 0, .int 0])), ((r 0), .inr (1, [.ref (r 14), .int 0])), ((r 14), .inl (cI, 1600, .inl (fun _ => 0)))] := hD
  refine lv_aload_n hx hb dX6_begin_5 rfl (lv_at hl 0 rfl) ?_
  refine lv_iconst (v := (-1)) hx hb dX6_begin_6 (by decide) ?_
  refine va_put (D := (dC, dI)) (ci := 6) (v := .int (-1)) (ty := .int) (C := RX6) (T := TX6) (N := 5) hx hb hts h_in_X6 tyX6 tyX6_ok nmX6 hown hK hP hD hS 0 rfl rfl 4 (by decide) (hts (.fieldLink RX6 23 "MatchTrees$Reader" "place" "I") (by decide +kernel)) (fun _ h9 => h9) rfl (by decide +kernel) rfl rfl (Nat.le_of_ble_eq_true rfl) dX6_begin_7 (fun H locs hP hD hS => ?_)
  have hP : va_P (dC, dI) vwCl [((r 12), .inr (6, [.ref (r 56), .ref (r 57), .ref tb, .int 0, .int (-1)])), ((r 56), .inr (7, [.ref (r 58), .ref (r 59), .int 0, .int 0, .int 0, .int 0, .int 0, .int 0, .int 0])), ((r 0), .inr (1, [.ref (r 14), .int 0])), ((r 14), .inl (cI, 1600, .inl (fun _ => 0)))] H := hP
  have hD : va_D A [((r 12), .inr (6, [.ref (r 56), .ref (r 57), .ref tb, .int 0, .int (-1)])), ((r 56), .inr (7, [.ref (r 58), .ref (r 59), .int 0, .int 0, .int 0, .int 0, .int 0, .int 0, .int 0])), ((r 0), .inr (1, [.ref (r 14), .int 0])), ((r 14), .inl (cI, 1600, .inl (fun _ => 0)))] := hD
  refine lv_aload_n hx hb dX6_begin_10 rfl (lv_at hl 0 rfl) ?_
  refine va_get (D := (dC, dI)) (ci := 6) (v := .ref (r 56)) (C := RX6) (T := TX6) (N := 5) hx hb hts h_in_X6 hown hK hP 0 rfl rfl 0 (by decide) (hts (.fieldLink RX6 12 "MatchTrees$Reader" "scan" "LMatchTrees$Scanner;") (by decide +kernel)) (fun _ h9 => h9) rfl dX6_begin_11 ?_
  refine lv_aload_n hx hb dX6_begin_14 rfl (lv_at hl 1 rfl) ?_
  have hPc := hP.sub (ws' := [((r 56), .inr (7, [.ref (r 58), .ref (r 59), .int 0, .int 0, .int 0, .int 0, .int 0, .int 0, .int 0])), ((r 0), .inr (1, [.ref (r 14), .int 0])), ((r 14), .inl (cI, 1600, .inl (fun _ => 0)))]) [1, 2, 3] rfl
  have hDc := hD.sub (ws' := [((r 56), .inr (7, [.ref (r 58), .ref (r 59), .int 0, .int 0, .int 0, .int 0, .int 0, .int 0, .int 0])), ((r 0), .inr (1, [.ref (r 14), .int 0])), ((r 14), .inl (cI, 1600, .inl (fun _ => 0)))]) [1, 2, 3] (by decide) rfl
  have hFc := va_free (wc := [((r 56), .inr (7, [.ref (r 58), .ref (r 59), .int 0, .int 0, .int 0, .int 0, .int 0, .int 0, .int 0])), ((r 0), .inr (1, [.ref (r 14), .int 0])), ((r 14), .inl (cI, 1600, .inl (fun _ => 0)))]) hD hS hA [1, 2, 3] rfl
  refine va_callv (va_runV (As := [.ref (r 0)]) (rest := []) ⟨hx, hb, hml, hown, hts⟩ (c_X7_begin l dC dI cI cJ h0 r H.size) (cwV 1 hts gX6_begin_X7_begin rfl rfl rfl (by decide +kernel) ⟨Nat.le_of_ble_eq_true rfl, Nat.le_of_ble_eq_true rfl⟩) ⟨mBlind, va_recv hK hPc (ci := 7) (q0 := 0) rfl rfl, mGo hPc hK hDc hN⟩ rfl rfl hl.1 rfl (lv_room (Nat.le_of_ble_eq_true rfl)) dX6_begin_15 ⟨Nat.le_of_ble_eq_true rfl, Nat.le_of_ble_eq_true rfl⟩) hS (fun q _ h => hFc q h) hFc (fun u t H1 locs ht hvm hw hB hz1 hk1 hS => ?_)
  obtain ⟨hP1, hD1⟩ := hB
  rw [ht] at hP1
  obtain ⟨hP, hD⟩ := va_join (wr := [((r 12), .inr (6, [.ref (r 56), .ref (r 57), .ref tb, .int 0, .int (-1)]))]) (w1 := [((r 56), .inr (7, [.ref (r 58), .ref (r 14), .int 0, .int 0, .int 0, .int 0, .int 0, .int 0, .int (-1)])), ((r 0), .inr (1, [.ref (r 14), .int 0]))]) hP hD [1, 2, 3] [0] rfl rfl (by decide) (by decide) hk1 hFc hP1 hD1
  generalize H1 = H at hP hS ⊢
  have hP : va_P (dC, dI) vwCl [((r 12), .inr (6, [.ref (r 56), .ref (r 57), .ref tb, .int 0, .int (-1)])), ((r 56), .inr (7, [.ref (r 58), .ref (r 14), .int 0, .int 0, .int 0, .int 0, .int 0, .int 0, .int (-1)])), ((r 0), .inr (1, [.ref (r 14), .int 0]))] H := hP
  have hD : va_D A [((r 12), .inr (6, [.ref (r 56), .ref (r 57), .ref tb, .int 0, .int (-1)])), ((r 56), .inr (7, [.ref (r 58), .ref (r 14), .int 0, .int 0, .int 0, .int 0, .int 0, .int 0, .int (-1)])), ((r 0), .inr (1, [.ref (r 14), .int 0]))] := hD
  have hP9 := hP.sub (ws' := [((r 12), .inr (6, [.ref (r 56), .ref (r 57), .ref tb, .int 0, .int (-1)])), ((r 56), .inr (7, [.ref (r 58), .ref (r 14), .int 0, .int 0, .int 0, .int 0, .int 0, .int 0, .int (-1)])), ((r 0), .inr (1, [.ref (r 14), .int 0]))]) [0, 1, 2] rfl
  have hD9 := hD.sub (ws' := [((r 12), .inr (6, [.ref (r 56), .ref (r 57), .ref tb, .int 0, .int (-1)])), ((r 56), .inr (7, [.ref (r 58), .ref (r 14), .int 0, .int 0, .int 0, .int 0, .int 0, .int 0, .int (-1)])), ((r 0), .inr (1, [.ref (r 14), .int 0]))]) [0, 1, 2] (by decide) rfl
  exact W.vret hx hb hr (fun t ht hW => ⟨⟨(), rfl, trivial, by rw [ht]; exact hP9, hD9⟩, hS.F ht⟩) hS.2.2 dX6_begin_18
abbrev w0_c_X6_failHere (cI : ClassId) (h0 : Nat) (r : Nat → Nat) (tb : Nat) : va_W := [((r 12), .inr (6, [.ref (r 56), .ref (r 57), .ref tb, .int 0, .int (-1)])), ((r 56), .inr (7, [.ref (r 58), .ref (r 14), .int 0, .int 0, .int 0, .int 0, .int 0, .int 0, .int (-1)]))]
set_option maxHeartbeats 4000000 in
set_option maxRecDepth 100000 in
theorem c_X6_failHere (l : Launch) (dC : Nat → ClassId) (dI : Nat → Nat → Nat) (cI cJ : ClassId) (h0 : Nat) (r : Nat → Nat) (tb : Nat) (sz : Nat) : Met l yX6_failHere wsX6_failHere ({ frames := 1, cells := 0, slots := 0, locals := 60 }) (va_Pc [.ref (r 12)] (mPre dC dI cI cJ sz (w0_c_X6_failHere cI h0 r tb))) (va_Qi (fun (r : Int32) (u : Unit) => r = 0) (fun (u : Unit) (t : State) => va_P (dC, dI) vwCl [((r 12), .inr (6, [.ref (r 56), .ref (r 57), .ref tb, .int 1, .int 0])), ((r 56), .inr (7, [.ref (r 58), .ref (r 14), .int 0, .int 0, .int 0, .int 0, .int 0, .int 0, .int (-1)]))] t.heap ∧ va_D (va_A (w0_c_X6_failHere cI h0 r tb) sz) [((r 12), .inr (6, [.ref (r 56), .ref (r 57), .ref tb, .int 1, .int 0])), ((r 56), .inr (7, [.ref (r 58), .ref (r 14), .int 0, .int 0, .int 0, .int 0, .int 0, .int 0, .int (-1)]))]) (va_A (w0_c_X6_failHere cI h0 r tb) sz)) 0 0 (va_A (w0_c_X6_failHere cI h0 r tb) sz) := by
  refine Met.ofW (cc := cX6_failHere) (maxL := 1) (ret := (some .boolean)) (by decide) rfl ?_
  intro p e s m args below meth c s₁ B hml hv
  obtain ⟨rfl, hsz, hP, hK, hD0, hN⟩ := hv
  have hx := B.exec
  have hb := B.bytes
  have hr := B.returns
  have hts := atoms_spec (ws := wsX6_failHere) B.pre
  have hown : s.vm.findClass RX6 = some m.cls := findClass_of_methodNamed B.named
  have hlocks := B.notSynchronized
  have h_in_X6 : ∀ w ∈ wsX60, w ∈ wsX6_failHere := fun w h => List.mem_cons_of_mem _ (List.mem_append_left _ (List.mem_append_right _ h))
  have h_in_X7 : ∀ w ∈ wsX70, w ∈ wsX6_failHere := fun w h => List.mem_cons_of_mem _ (List.mem_append_right _ h)
  subst hsz
  have hD := hD0.self (sz := s.heap.size)
  generalize hAe : va_A (w0_c_X6_failHere cI h0 r tb) s.heap.size = A at hD ⊢
  have hA : ∀ q : Nat, s.heap.size ≤ q → A q := fun q h => by rw [← hAe]; exact Or.inr h
  have hS : va_S A s.heap s.heap [] := va_S.rf
  have hP : va_P (dC, dI) vwCl [((r 12), .inr (6, [.ref (r 56), .ref (r 57), .ref tb, .int 0, .int (-1)])), ((r 56), .inr (7, [.ref (r 58), .ref (r 14), .int 0, .int 0, .int 0, .int 0, .int 0, .int 0, .int (-1)]))] s.heap := hP
  have hD : va_D A [((r 12), .inr (6, [.ref (r 56), .ref (r 57), .ref tb, .int 0, .int (-1)])), ((r 56), .inr (7, [.ref (r 58), .ref (r 14), .int 0, .int 0, .int 0, .int 0, .int 0, .int 0, .int (-1)]))] := hD
  have hl := lv_entry ([.ref (r 12)]) (n := 1) (Nat.le_of_ble_eq_true rfl)
  rw [lg_entry_eq]
  generalize (lg_sl ([.ref (r 12)]) ++ List.replicate (1 - (lg_sl ([.ref (r 12)])).length) Slot.unset).toArray = ls at hl ⊢
  have hl : lv_has ls 1 [(0, .ref (r 12))] := hl
  refine lv_aload_n hx hb dX6_failHere_0 rfl (lv_at hl 0 rfl) ?_
  refine lv_iconst (v := 1) hx hb dX6_failHere_1 (by decide) ?_
  refine va_put (D := (dC, dI)) (ci := 6) (v := .int 1) (ty := .int) (C := RX6) (T := TX6) (N := 5) hx hb hts h_in_X6 tyX6 tyX6_ok nmX6 hown hK hP hD hS 0 rfl rfl 3 (by decide) (hts (.fieldLink RX6 82 "MatchTrees$Reader" "fault" "I") (by decide +kernel)) (fun _ h9 => h9) rfl (by decide +kernel) rfl rfl (Nat.le_of_ble_eq_true rfl) dX6_failHere_2 (fun H locs hP hD hS => ?_)
  have hP : va_P (dC, dI) vwCl [((r 12), .inr (6, [.ref (r 56), .ref (r 57), .ref tb, .int 1, .int (-1)])), ((r 56), .inr (7, [.ref (r 58), .ref (r 14), .int 0, .int 0, .int 0, .int 0, .int 0, .int 0, .int (-1)]))] H := hP
  have hD : va_D A [((r 12), .inr (6, [.ref (r 56), .ref (r 57), .ref tb, .int 1, .int (-1)])), ((r 56), .inr (7, [.ref (r 58), .ref (r 14), .int 0, .int 0, .int 0, .int 0, .int 0, .int 0, .int (-1)]))] := hD
  refine lv_aload_n hx hb dX6_failHere_5 rfl (lv_at hl 0 rfl) ?_
  refine lv_aload_n hx hb dX6_failHere_6 rfl (lv_at hl 0 rfl) ?_
  refine va_get (D := (dC, dI)) (ci := 6) (v := .ref (r 56)) (C := RX6) (T := TX6) (N := 5) hx hb hts h_in_X6 hown hK hP 0 rfl rfl 0 (by decide) (hts (.fieldLink RX6 12 "MatchTrees$Reader" "scan" "LMatchTrees$Scanner;") (by decide +kernel)) (fun _ h9 => h9) rfl dX6_failHere_7 ?_
  refine va_get (D := (dC, dI)) (ci := 7) (v := .int 0) (C := RX7) (T := TX7) (N := 9) hx hb hts h_in_X7 hown hK hP 1 rfl rfl 4 (by decide) (hts (.fieldLink RX6 40 "MatchTrees$Scanner" "type" "I") (by decide +kernel)) (fun _ h9 => h9) rfl dX6_failHere_10 ?_
  refine lv_iconst (v := 4) hx hb dX6_failHere_13 (by decide) ?_
  refine lv_icmp_ne (tgt := 27) hx hb dX6_failHere_14 (by decide) (fun _ => ?_) (fun c => absurd c (by decide))
  refine lv_aload_n hx hb dX6_failHere_27 rfl (lv_at hl 0 rfl) ?_
  refine va_get (D := (dC, dI)) (ci := 6) (v := .ref (r 56)) (C := RX6) (T := TX6) (N := 5) hx hb hts h_in_X6 hown hK hP 0 rfl rfl 0 (by decide) (hts (.fieldLink RX6 12 "MatchTrees$Reader" "scan" "LMatchTrees$Scanner;") (by decide +kernel)) (fun _ h9 => h9) rfl dX6_failHere_28 ?_
  refine va_get (D := (dC, dI)) (ci := 7) (v := .int 0) (C := RX7) (T := TX7) (N := 9) hx hb hts h_in_X7 hown hK hP 1 rfl rfl 5 (by decide) (hts (.fieldLink RX6 72 "MatchTrees$Scanner" "at" "I") (by decide +kernel)) (fun _ h9 => h9) rfl dX6_failHere_31 ?_
  refine va_put (D := (dC, dI)) (ci := 6) (v := .int 0) (ty := .int) (C := RX6) (T := TX6) (N := 5) hx hb hts h_in_X6 tyX6 tyX6_ok nmX6 hown hK hP hD hS 0 rfl rfl 4 (by decide) (hts (.fieldLink RX6 23 "MatchTrees$Reader" "place" "I") (by decide +kernel)) (fun _ h9 => h9) rfl (by decide +kernel) rfl rfl (Nat.le_of_ble_eq_true rfl) dX6_failHere_34 (fun H locs hP hD hS => ?_)
  have hP : va_P (dC, dI) vwCl [((r 12), .inr (6, [.ref (r 56), .ref (r 57), .ref tb, .int 1, .int 0])), ((r 56), .inr (7, [.ref (r 58), .ref (r 14), .int 0, .int 0, .int 0, .int 0, .int 0, .int 0, .int (-1)]))] H := hP
  have hD : va_D A [((r 12), .inr (6, [.ref (r 56), .ref (r 57), .ref tb, .int 1, .int 0])), ((r 56), .inr (7, [.ref (r 58), .ref (r 14), .int 0, .int 0, .int 0, .int 0, .int 0, .int 0, .int (-1)]))] := hD
  refine lv_iconst (v := 0) hx hb dX6_failHere_37 (by decide) ?_
  have hP9 := hP.sub (ws' := [((r 12), .inr (6, [.ref (r 56), .ref (r 57), .ref tb, .int 1, .int 0])), ((r 56), .inr (7, [.ref (r 58), .ref (r 14), .int 0, .int 0, .int 0, .int 0, .int 0, .int 0, .int (-1)]))]) [0, 1] rfl
  have hD9 := hD.sub (ws' := [((r 12), .inr (6, [.ref (r 56), .ref (r 57), .ref tb, .int 1, .int 0])), ((r 56), .inr (7, [.ref (r 58), .ref (r 14), .int 0, .int 0, .int 0, .int 0, .int 0, .int 0, .int (-1)]))]) [0, 1] (by decide) rfl
  exact W.zret (v := 0) hx hb hr rfl (fun t ht hW => ⟨⟨0, (), rfl, rfl, by rw [ht]; exact hP9, hD9⟩, hS.F ht⟩) hS.2.2 dX6_failHere_38
abbrev w0_c_X6_fail (cI : ClassId) (h0 : Nat) (r : Nat → Nat) (tb : Nat) : va_W := [((r 12), .inr (6, [.ref (r 56), .ref (r 57), .ref tb, .int 0, .int (-1)]))]
set_option maxHeartbeats 4000000 in
set_option maxRecDepth 100000 in
theorem c_X6_fail (l : Launch) (dC : Nat → ClassId) (dI : Nat → Nat → Nat) (cI cJ : ClassId) (h0 : Nat) (r : Nat → Nat) (tb : Nat) (sz : Nat) : Met l yX6_fail wsX6_fail ({ frames := 1, cells := 0, slots := 0, locals := 60 }) (va_Pc [.ref (r 12), .int 1, .int 0] (mPre dC dI cI cJ sz (w0_c_X6_fail cI h0 r tb))) (va_Qi (fun (r : Int32) (u : Unit) => r = 0) (fun (u : Unit) (t : State) => va_P (dC, dI) vwCl [((r 12), .inr (6, [.ref (r 56), .ref (r 57), .ref tb, .int 1, .int 0]))] t.heap ∧ va_D (va_A (w0_c_X6_fail cI h0 r tb) sz) [((r 12), .inr (6, [.ref (r 56), .ref (r 57), .ref tb, .int 1, .int 0]))]) (va_A (w0_c_X6_fail cI h0 r tb) sz)) 0 0 (va_A (w0_c_X6_fail cI h0 r tb) sz) := by
  refine Met.ofW (cc := cX6_fail) (maxL := 3) (ret := (some .boolean)) (by decide) rfl ?_
  intro p e s m args below meth c s₁ B hml hv
  obtain ⟨rfl, hsz, hP, hK, hD0, hN⟩ := hv
  have hx := B.exec
  have hb := B.bytes
  have hr := B.returns
  have hts := atoms_spec (ws := wsX6_fail) B.pre
  have hown : s.vm.findClass RX6 = some m.cls := findClass_of_methodNamed B.named
  have hlocks := B.notSynchronized
  have h_in_X6 : ∀ w ∈ wsX60, w ∈ wsX6_fail := fun w h => List.mem_cons_of_mem _ (List.mem_append_right _ h)
  subst hsz
  have hD := hD0.self (sz := s.heap.size)
  generalize hAe : va_A (w0_c_X6_fail cI h0 r tb) s.heap.size = A at hD ⊢
  have hA : ∀ q : Nat, s.heap.size ≤ q → A q := fun q h => by rw [← hAe]; exact Or.inr h
  have hS : va_S A s.heap s.heap [] := va_S.rf
  have hP : va_P (dC, dI) vwCl [((r 12), .inr (6, [.ref (r 56), .ref (r 57), .ref tb, .int 0, .int (-1)]))] s.heap := hP
  have hD : va_D A [((r 12), .inr (6, [.ref (r 56), .ref (r 57), .ref tb, .int 0, .int (-1)]))] := hD
  have hl := lv_entry ([.ref (r 12), .int 1, .int 0]) (n := 3) (Nat.le_of_ble_eq_true rfl)
  rw [lg_entry_eq]
  generalize (lg_sl ([.ref (r 12), .int 1, .int 0]) ++ List.replicate (3 - (lg_sl ([.ref (r 12), .int 1, .int 0])).length) Slot.unset).toArray = ls at hl ⊢
  have hl : lv_has ls 3 [(0, .ref (r 12)), (1, .int 1), (2, .int 0)] := hl
  refine lv_aload_n hx hb dX6_fail_0 rfl (lv_at hl 0 rfl) ?_
  refine lv_iload_n hx hb dX6_fail_1 rfl (lv_at hl 1 rfl) ?_
  refine va_put (D := (dC, dI)) (ci := 6) (v := .int 1) (ty := .int) (C := RX6) (T := TX6) (N := 5) hx hb hts h_in_X6 tyX6 tyX6_ok nmX6 hown hK hP hD hS 0 rfl rfl 3 (by decide) (hts (.fieldLink RX6 82 "MatchTrees$Reader" "fault" "I") (by decide +kernel)) (fun _ h9 => h9) rfl (by decide +kernel) rfl rfl (Nat.le_of_ble_eq_true rfl) dX6_fail_2 (fun H locs hP hD hS => ?_)
  have hP : va_P (dC, dI) vwCl [((r 12), .inr (6, [.ref (r 56), .ref (r 57), .ref tb, .int 1, .int (-1)]))] H := hP
  have hD : va_D A [((r 12), .inr (6, [.ref (r 56), .ref (r 57), .ref tb, .int 1, .int (-1)]))] := hD
  refine lv_aload_n hx hb dX6_fail_5 rfl (lv_at hl 0 rfl) ?_
  refine lv_iload_n hx hb dX6_fail_6 rfl (lv_at hl 2 rfl) ?_
  refine va_put (D := (dC, dI)) (ci := 6) (v := .int 0) (ty := .int) (C := RX6) (T := TX6) (N := 5) hx hb hts h_in_X6 tyX6 tyX6_ok nmX6 hown hK hP hD hS 0 rfl rfl 4 (by decide) (hts (.fieldLink RX6 23 "MatchTrees$Reader" "place" "I") (by decide +kernel)) (fun _ h9 => h9) rfl (by decide +kernel) rfl rfl (Nat.le_of_ble_eq_true rfl) dX6_fail_7 (fun H locs hP hD hS => ?_)
  have hP : va_P (dC, dI) vwCl [((r 12), .inr (6, [.ref (r 56), .ref (r 57), .ref tb, .int 1, .int 0]))] H := hP
  have hD : va_D A [((r 12), .inr (6, [.ref (r 56), .ref (r 57), .ref tb, .int 1, .int 0]))] := hD
  refine lv_iconst (v := 0) hx hb dX6_fail_10 (by decide) ?_
  have hP9 := hP.sub (ws' := [((r 12), .inr (6, [.ref (r 56), .ref (r 57), .ref tb, .int 1, .int 0]))]) [0] rfl
  have hD9 := hD.sub (ws' := [((r 12), .inr (6, [.ref (r 56), .ref (r 57), .ref tb, .int 1, .int 0]))]) [0] (by decide) rfl
  exact W.zret (v := 0) hx hb hr rfl (fun t ht hW => ⟨⟨0, (), rfl, rfl, by rw [ht]; exact hP9, hD9⟩, hS.F ht⟩) hS.2.2 dX6_fail_11
abbrev w0_c_X6_readMatch (cI : ClassId) (h0 : Nat) (r : Nat → Nat) : va_W := [((r 12), .inr (6, [.ref (r 56), .ref (r 57), .ref (r 10), .int 0, .int (-1)])), ((r 56), .inr (7, [.ref (r 58), .ref (r 59), .int 0, .int 0, .int 0, .int 0, .int 0, .int 0, .int 0])), ((r 11), .inr (9, [.ref (r 41), .ref (r 42), .ref (r 43), .ref (r 44), .ref (r 45), .ref (r 46), .int 0, .int 0, .int 0, .int 0, .int 0])), ((r 41), .inr (3, [.ref (r 47), .ref (r 48), .ref (r 49), .ref (r 50), .ref (r 51), .ref (r 52), .ref (r 53), .ref (r 54), .ref (r 55), .int 0, .int 0])), ((r 0), .inr (1, [.ref (r 14), .int 0])), ((r 14), .inl (cI, 1600, .inl (fun _ => 0)))]
set_option maxHeartbeats 4000000 in
set_option maxRecDepth 100000 in
theorem c_X6_readMatch (l : Launch) (dC : Nat → ClassId) (dI : Nat → Nat → Nat) (cI cJ : ClassId) (h0 : Nat) (r : Nat → Nat) (sz : Nat) : Met l yX6_readMatch wsX6_readMatch ({ frames := 4, cells := 0, slots := 0, locals := 127 }) (va_Pc [.ref (r 12), .ref (r 0), .ref (r 11)] (mPre dC dI cI cJ sz (w0_c_X6_readMatch cI h0 r))) (va_Qi (fun (r : Int32) (u : Unit) => r = -1) (fun (u : Unit) (t : State) => va_P (dC, dI) vwCl [((r 0), .inr (1, [.ref (r 14), .int 0]))] t.heap ∧ va_D (va_A (w0_c_X6_readMatch cI h0 r) sz) [((r 0), .inr (1, [.ref (r 14), .int 0]))]) (va_A (w0_c_X6_readMatch cI h0 r) sz)) 0 0 (va_A (w0_c_X6_readMatch cI h0 r) sz) := by
  refine Met.ofW (cc := cX6_readMatch) (maxL := 5) (ret := (some .int)) (by decide) rfl ?_
  intro p e s m args below meth c s₁ B hml hv
  obtain ⟨rfl, hsz, hP, hK, hD0, hN⟩ := hv
  have hx := B.exec
  have hb := B.bytes
  have hr := B.returns
  have hts := atoms_spec (ws := wsX6_readMatch) B.pre
  have hown : s.vm.findClass RX6 = some m.cls := findClass_of_methodNamed B.named
  have hlocks := B.notSynchronized
  have h_in_X6 : ∀ w ∈ wsX60, w ∈ wsX6_readMatch := fun w h => List.mem_cons_of_mem _ (List.mem_append_left _ (List.mem_append_left _ (List.mem_append_left _ (List.mem_append_left _ (List.mem_append_right _ h)))))
  have h_in_X7 : ∀ w ∈ wsX70, w ∈ wsX6_readMatch := fun w h => List.mem_cons_of_mem _ (List.mem_append_left _ (List.mem_append_left _ (List.mem_append_left _ (List.mem_append_right _ h))))
  have h_in_X9 : ∀ w ∈ wsX90, w ∈ wsX6_readMatch := fun w h => List.mem_cons_of_mem _ (List.mem_append_left _ (List.mem_append_left _ (List.mem_append_right _ h)))
  have h_in_X3 : ∀ w ∈ wsX30, w ∈ wsX6_readMatch := fun w h => List.mem_cons_of_mem _ (List.mem_append_left _ (List.mem_append_right _ h))
  have h_in_X1 : ∀ w ∈ wsX10, w ∈ wsX6_readMatch := fun w h => List.mem_cons_of_mem _ (List.mem_append_right _ h)
  subst hsz
  have hD := hD0.self (sz := s.heap.size)
  generalize hAe : va_A (w0_c_X6_readMatch cI h0 r) s.heap.size = A at hD ⊢
  have hA : ∀ q : Nat, s.heap.size ≤ q → A q := fun q h => by rw [← hAe]; exact Or.inr h
  have hS : va_S A s.heap s.heap [] := va_S.rf
  have hP : va_P (dC, dI) vwCl [((r 12), .inr (6, [.ref (r 56), .ref (r 57), .ref (r 10), .int 0, .int (-1)])), ((r 56), .inr (7, [.ref (r 58), .ref (r 59), .int 0, .int 0, .int 0, .int 0, .int 0, .int 0, .int 0])), ((r 11), .inr (9, [.ref (r 41), .ref (r 42), .ref (r 43), .ref (r 44), .ref (r 45), .ref (r 46), .int 0, .int 0, .int 0, .int 0, .int 0])), ((r 41), .inr (3, [.ref (r 47), .ref (r 48), .ref (r 49), .ref (r 50), .ref (r 51), .ref (r 52), .ref (r 53), .ref (r 54), .ref (r 55), .int 0, .int 0])), ((r 0), .inr (1, [.ref (r 14), .int 0])), ((r 14), .inl (cI, 1600, .inl (fun _ => 0)))] s.heap := hP
  have hD : va_D A [((r 12), .inr (6, [.ref (r 56), .ref (r 57), .ref (r 10), .int 0, .int (-1)])), ((r 56), .inr (7, [.ref (r 58), .ref (r 59), .int 0, .int 0, .int 0, .int 0, .int 0, .int 0, .int 0])), ((r 11), .inr (9, [.ref (r 41), .ref (r 42), .ref (r 43), .ref (r 44), .ref (r 45), .ref (r 46), .int 0, .int 0, .int 0, .int 0, .int 0])), ((r 41), .inr (3, [.ref (r 47), .ref (r 48), .ref (r 49), .ref (r 50), .ref (r 51), .ref (r 52), .ref (r 53), .ref (r 54), .ref (r 55), .int 0, .int 0])), ((r 0), .inr (1, [.ref (r 14), .int 0])), ((r 14), .inl (cI, 1600, .inl (fun _ => 0)))] := hD
  have hl := lv_entry ([.ref (r 12), .ref (r 0), .ref (r 11)]) (n := 5) (Nat.le_of_ble_eq_true rfl)
  rw [lg_entry_eq]
  generalize (lg_sl ([.ref (r 12), .ref (r 0), .ref (r 11)]) ++ List.replicate (5 - (lg_sl ([.ref (r 12), .ref (r 0), .ref (r 11)])).length) Slot.unset).toArray = ls at hl ⊢
  have hl : lv_has ls 5 [(0, .ref (r 12)), (1, .ref (r 0)), (2, .ref (r 11))] := hl
  refine lv_aload_n hx hb dX6_readMatch_0 rfl (lv_at hl 0 rfl) ?_
  refine lv_aload_n hx hb dX6_readMatch_1 rfl (lv_at hl 2 rfl) ?_
  refine va_put (D := (dC, dI)) (ci := 6) (v := .ref (r 11)) (ty := (.object "MatchTrees$Table")) (C := RX6) (T := TX6) (N := 5) hx hb hts h_in_X6 tyX6 tyX6_ok nmX6 hown hK hP hD hS 0 rfl rfl 2 (by decide) (hts (.fieldLink RX6 27 "MatchTrees$Reader" "table" "LMatchTrees$Table;") (by decide +kernel)) (fun _ h9 => h9) rfl (by decide +kernel) rfl rfl (Nat.le_of_ble_eq_true rfl) dX6_readMatch_2 (fun H locs hP hD hS => ?_)
  have hP : va_P (dC, dI) vwCl [((r 12), .inr (6, [.ref (r 56), .ref (r 57), .ref (r 11), .int 0, .int (-1)])), ((r 56), .inr (7, [.ref (r 58), .ref (r 59), .int 0, .int 0, .int 0, .int 0, .int 0, .int 0, .int 0])), ((r 11), .inr (9, [.ref (r 41), .ref (r 42), .ref (r 43), .ref (r 44), .ref (r 45), .ref (r 46), .int 0, .int 0, .int 0, .int 0, .int 0])), ((r 41), .inr (3, [.ref (r 47), .ref (r 48), .ref (r 49), .ref (r 50), .ref (r 51), .ref (r 52), .ref (r 53), .ref (r 54), .ref (r 55), .int 0, .int 0])), ((r 0), .inr (1, [.ref (r 14), .int 0])), ((r 14), .inl (cI, 1600, .inl (fun _ => 0)))] H := hP
  have hD : va_D A [((r 12), .inr (6, [.ref (r 56), .ref (r 57), .ref (r 11), .int 0, .int (-1)])), ((r 56), .inr (7, [.ref (r 58), .ref (r 59), .int 0, .int 0, .int 0, .int 0, .int 0, .int 0, .int 0])), ((r 11), .inr (9, [.ref (r 41), .ref (r 42), .ref (r 43), .ref (r 44), .ref (r 45), .ref (r 46), .int 0, .int 0, .int 0, .int 0, .int 0])), ((r 41), .inr (3, [.ref (r 47), .ref (r 48), .ref (r 49), .ref (r 50), .ref (r 51), .ref (r 52), .ref (r 53), .ref (r 54), .ref (r 55), .int 0, .int 0])), ((r 0), .inr (1, [.ref (r 14), .int 0])), ((r 14), .inl (cI, 1600, .inl (fun _ => 0)))] := hD
  refine lv_aload_n hx hb dX6_readMatch_5 rfl (lv_at hl 0 rfl) ?_
  refine va_get (D := (dC, dI)) (ci := 6) (v := .ref (r 11)) (C := RX6) (T := TX6) (N := 5) hx hb hts h_in_X6 hown hK hP 0 rfl rfl 2 (by decide) (hts (.fieldLink RX6 27 "MatchTrees$Reader" "table" "LMatchTrees$Table;") (by decide +kernel)) (fun _ h9 => h9) rfl dX6_readMatch_6 ?_
  have hPc := hP.sub (ws' := [((r 11), .inr (9, [.ref (r 41), .ref (r 42), .ref (r 43), .ref (r 44), .ref (r 45), .ref (r 46), .int 0, .int 0, .int 0, .int 0, .int 0])), ((r 41), .inr (3, [.ref (r 47), .ref (r 48), .ref (r 49), .ref (r 50), .ref (r 51), .ref (r 52), .ref (r 53), .ref (r 54), .ref (r 55), .int 0, .int 0]))]) [2, 3] rfl
  have hDc := hD.sub (ws' := [((r 11), .inr (9, [.ref (r 41), .ref (r 42), .ref (r 43), .ref (r 44), .ref (r 45), .ref (r 46), .int 0, .int 0, .int 0, .int 0, .int 0])), ((r 41), .inr (3, [.ref (r 47), .ref (r 48), .ref (r 49), .ref (r 50), .ref (r 51), .ref (r 52), .ref (r 53), .ref (r 54), .ref (r 55), .int 0, .int 0]))]) [2, 3] (by decide) rfl
  have hFc := va_free (wc := [((r 11), .inr (9, [.ref (r 41), .ref (r 42), .ref (r 43), .ref (r 44), .ref (r 45), .ref (r 46), .int 0, .int 0, .int 0, .int 0, .int 0])), ((r 41), .inr (3, [.ref (r 47), .ref (r 48), .ref (r 49), .ref (r 50), .ref (r 51), .ref (r 52), .ref (r 53), .ref (r 54), .ref (r 55), .int 0, .int 0]))]) hD hS hA [2, 3] rfl
  refine va_callv (va_runV (As := []) (rest := []) ⟨hx, hb, hml, hown, hts⟩ (c_X9_clear l dC dI cI cJ h0 r H.size) (cwV 0 hts gX6_readMatch_X9_clear rfl rfl rfl (by decide +kernel) ⟨Nat.le_of_ble_eq_true rfl, Nat.le_of_ble_eq_true rfl⟩) ⟨mBlind, va_recv hK hPc (ci := 9) (q0 := 0) rfl rfl, mGo hPc hK hDc hN⟩ rfl rfl hl.1 rfl (lv_room (Nat.le_of_ble_eq_true rfl)) dX6_readMatch_9 ⟨Nat.le_of_ble_eq_true rfl, Nat.le_of_ble_eq_true rfl⟩) hS (fun q _ h => hFc q h) hFc (fun u t H1 locs ht hvm hw hB hz1 hk1 hS => ?_)
  obtain ⟨hP1, hD1⟩ := hB
  rw [ht] at hP1
  obtain ⟨hP, hD⟩ := va_join (wr := [((r 12), .inr (6, [.ref (r 56), .ref (r 57), .ref (r 11), .int 0, .int (-1)])), ((r 56), .inr (7, [.ref (r 58), .ref (r 59), .int 0, .int 0, .int 0, .int 0, .int 0, .int 0, .int 0])), ((r 0), .inr (1, [.ref (r 14), .int 0])), ((r 14), .inl (cI, 1600, .inl (fun _ => 0)))]) (w1 := [((r 11), .inr (9, [.ref (r 41), .ref (r 42), .ref (r 43), .ref (r 44), .ref (r 45), .ref (r 46), .int 0, .int 0, .int 0, .int 0, .int 300])), ((r 41), .inr (3, [.ref (r 47), .ref (r 48), .ref (r 49), .ref (r 50), .ref (r 51), .ref (r 52), .ref (r 53), .ref (r 54), .ref (r 55), .int 0, .int 0]))]) hP hD [2, 3] [0, 1, 4, 5] rfl rfl (by decide) (by decide) hk1 hFc hP1 hD1
  generalize H1 = H at hP hS ⊢
  have hP : va_P (dC, dI) vwCl [((r 12), .inr (6, [.ref (r 56), .ref (r 57), .ref (r 11), .int 0, .int (-1)])), ((r 56), .inr (7, [.ref (r 58), .ref (r 59), .int 0, .int 0, .int 0, .int 0, .int 0, .int 0, .int 0])), ((r 0), .inr (1, [.ref (r 14), .int 0])), ((r 14), .inl (cI, 1600, .inl (fun _ => 0))), ((r 11), .inr (9, [.ref (r 41), .ref (r 42), .ref (r 43), .ref (r 44), .ref (r 45), .ref (r 46), .int 0, .int 0, .int 0, .int 0, .int 300])), ((r 41), .inr (3, [.ref (r 47), .ref (r 48), .ref (r 49), .ref (r 50), .ref (r 51), .ref (r 52), .ref (r 53), .ref (r 54), .ref (r 55), .int 0, .int 0]))] H := hP
  have hD : va_D A [((r 12), .inr (6, [.ref (r 56), .ref (r 57), .ref (r 11), .int 0, .int (-1)])), ((r 56), .inr (7, [.ref (r 58), .ref (r 59), .int 0, .int 0, .int 0, .int 0, .int 0, .int 0, .int 0])), ((r 0), .inr (1, [.ref (r 14), .int 0])), ((r 14), .inl (cI, 1600, .inl (fun _ => 0))), ((r 11), .inr (9, [.ref (r 41), .ref (r 42), .ref (r 43), .ref (r 44), .ref (r 45), .ref (r 46), .int 0, .int 0, .int 0, .int 0, .int 300])), ((r 41), .inr (3, [.ref (r 47), .ref (r 48), .ref (r 49), .ref (r 50), .ref (r 51), .ref (r 52), .ref (r 53), .ref (r 54), .ref (r 55), .int 0, .int 0]))] := hD
  refine lv_aload_n hx hb dX6_readMatch_12 rfl (lv_at hl 0 rfl) ?_
  refine lv_aload_n hx hb dX6_readMatch_13 rfl (lv_at hl 1 rfl) ?_
  have hPc := hP.sub (ws' := [((r 12), .inr (6, [.ref (r 56), .ref (r 57), .ref (r 11), .int 0, .int (-1)])), ((r 56), .inr (7, [.ref (r 58), .ref (r 59), .int 0, .int 0, .int 0, .int 0, .int 0, .int 0, .int 0])), ((r 0), .inr (1, [.ref (r 14), .int 0])), ((r 14), .inl (cI, 1600, .inl (fun _ => 0)))]) [0, 1, 2, 3] rfl
  have hDc := hD.sub (ws' := [((r 12), .inr (6, [.ref (r 56), .ref (r 57), .ref (r 11), .int 0, .int (-1)])), ((r 56), .inr (7, [.ref (r 58), .ref (r 59), .int 0, .int 0, .int 0, .int 0, .int 0, .int 0, .int 0])), ((r 0), .inr (1, [.ref (r 14), .int 0])), ((r 14), .inl (cI, 1600, .inl (fun _ => 0)))]) [0, 1, 2, 3] (by decide) rfl
  have hFc := va_free (wc := [((r 12), .inr (6, [.ref (r 56), .ref (r 57), .ref (r 11), .int 0, .int (-1)])), ((r 56), .inr (7, [.ref (r 58), .ref (r 59), .int 0, .int 0, .int 0, .int 0, .int 0, .int 0, .int 0])), ((r 0), .inr (1, [.ref (r 14), .int 0])), ((r 14), .inl (cI, 1600, .inl (fun _ => 0)))]) hD hS hA [0, 1, 2, 3] rfl
  refine va_callv (va_runV (As := [.ref (r 0)]) (rest := []) ⟨hx, hb, hml, hown, hts⟩ (c_X6_begin l dC dI cI cJ h0 r (r 11) H.size) (cwV 1 hts gX6_readMatch_X6_begin rfl rfl rfl (by decide +kernel) ⟨Nat.le_of_ble_eq_true rfl, Nat.le_of_ble_eq_true rfl⟩) ⟨mBlind, va_recv hK hPc (ci := 6) (q0 := 0) rfl rfl, mGo hPc hK hDc hN⟩ rfl rfl hl.1 rfl (lv_room (Nat.le_of_ble_eq_true rfl)) dX6_readMatch_14 ⟨Nat.le_of_ble_eq_true rfl, Nat.le_of_ble_eq_true rfl⟩) hS (fun q _ h => hFc q h) hFc (fun u t H1 locs ht hvm hw hB hz1 hk1 hS => ?_)
  obtain ⟨hP1, hD1⟩ := hB
  rw [ht] at hP1
  obtain ⟨hP, hD⟩ := va_join (wr := [((r 11), .inr (9, [.ref (r 41), .ref (r 42), .ref (r 43), .ref (r 44), .ref (r 45), .ref (r 46), .int 0, .int 0, .int 0, .int 0, .int 300])), ((r 41), .inr (3, [.ref (r 47), .ref (r 48), .ref (r 49), .ref (r 50), .ref (r 51), .ref (r 52), .ref (r 53), .ref (r 54), .ref (r 55), .int 0, .int 0]))]) (w1 := [((r 12), .inr (6, [.ref (r 56), .ref (r 57), .ref (r 11), .int 0, .int (-1)])), ((r 56), .inr (7, [.ref (r 58), .ref (r 14), .int 0, .int 0, .int 0, .int 0, .int 0, .int 0, .int (-1)])), ((r 0), .inr (1, [.ref (r 14), .int 0]))]) hP hD [0, 1, 2, 3] [4, 5] rfl rfl (by decide) (by decide) hk1 hFc hP1 hD1
  generalize H1 = H at hP hS ⊢
  have hP : va_P (dC, dI) vwCl [((r 11), .inr (9, [.ref (r 41), .ref (r 42), .ref (r 43), .ref (r 44), .ref (r 45), .ref (r 46), .int 0, .int 0, .int 0, .int 0, .int 300])), ((r 41), .inr (3, [.ref (r 47), .ref (r 48), .ref (r 49), .ref (r 50), .ref (r 51), .ref (r 52), .ref (r 53), .ref (r 54), .ref (r 55), .int 0, .int 0])), ((r 12), .inr (6, [.ref (r 56), .ref (r 57), .ref (r 11), .int 0, .int (-1)])), ((r 56), .inr (7, [.ref (r 58), .ref (r 14), .int 0, .int 0, .int 0, .int 0, .int 0, .int 0, .int (-1)])), ((r 0), .inr (1, [.ref (r 14), .int 0]))] H := hP
  have hD : va_D A [((r 11), .inr (9, [.ref (r 41), .ref (r 42), .ref (r 43), .ref (r 44), .ref (r 45), .ref (r 46), .int 0, .int 0, .int 0, .int 0, .int 300])), ((r 41), .inr (3, [.ref (r 47), .ref (r 48), .ref (r 49), .ref (r 50), .ref (r 51), .ref (r 52), .ref (r 53), .ref (r 54), .ref (r 55), .int 0, .int 0])), ((r 12), .inr (6, [.ref (r 56), .ref (r 57), .ref (r 11), .int 0, .int (-1)])), ((r 56), .inr (7, [.ref (r 58), .ref (r 14), .int 0, .int 0, .int 0, .int 0, .int 0, .int 0, .int (-1)])), ((r 0), .inr (1, [.ref (r 14), .int 0]))] := hD
  refine lv_iconst (v := 0) hx hb dX6_readMatch_17 (by decide) ?_
  refine lv_istore_n (lv' := [(3, .int 0), (0, .ref (r 12)), (1, .ref (r 0)), (2, .ref (r 11))]) hx hb dX6_readMatch_18 rfl hl (by decide) rfl (fun ls hl => ?_)
  refine lv_aload_n hx hb dX6_readMatch_19 rfl (lv_at hl 1 rfl) ?_
  refine va_get (D := (dC, dI)) (ci := 6) (v := .ref (r 56)) (C := RX6) (T := TX6) (N := 5) hx hb hts h_in_X6 hown hK hP 2 rfl rfl 0 (by decide) (hts (.fieldLink RX6 12 "MatchTrees$Reader" "scan" "LMatchTrees$Scanner;") (by decide +kernel)) (fun _ h9 => h9) rfl dX6_readMatch_20 ?_
  refine va_get (D := (dC, dI)) (ci := 7) (v := .int 0) (C := RX7) (T := TX7) (N := 9) hx hb hts h_in_X7 hown hK hP 3 rfl rfl 4 (by decide) (hts (.fieldLink RX6 40 "MatchTrees$Scanner" "type" "I") (by decide +kernel)) (fun _ h9 => h9) rfl dX6_readMatch_23 ?_
  refine lv_if_eq (tgt := 166) hx hb dX6_readMatch_26 (by decide) (fun _ => ?_) (fun c => absurd (by decide) c)
  refine lv_aload_n hx hb dX6_readMatch_166 rfl (lv_at hl 1 rfl) ?_
  refine va_get (D := (dC, dI)) (ci := 6) (v := .ref (r 56)) (C := RX6) (T := TX6) (N := 5) hx hb hts h_in_X6 hown hK hP 2 rfl rfl 0 (by decide) (hts (.fieldLink RX6 12 "MatchTrees$Reader" "scan" "LMatchTrees$Scanner;") (by decide +kernel)) (fun _ h9 => h9) rfl dX6_readMatch_167 ?_
  refine va_get (D := (dC, dI)) (ci := 7) (v := .int 0) (C := RX7) (T := TX7) (N := 9) hx hb hts h_in_X7 hown hK hP 3 rfl rfl 4 (by decide) (hts (.fieldLink RX6 40 "MatchTrees$Scanner" "type" "I") (by decide +kernel)) (fun _ h9 => h9) rfl dX6_readMatch_170 ?_
  refine lv_if_eq (tgt := 192) hx hb dX6_readMatch_173 (by decide) (fun _ => ?_) (fun c => absurd (by decide) c)
  refine lv_aload_n hx hb dX6_readMatch_192 rfl (lv_at hl 1 rfl) ?_
  refine va_get (D := (dC, dI)) (ci := 6) (v := .ref (r 11)) (C := RX6) (T := TX6) (N := 5) hx hb hts h_in_X6 hown hK hP 2 rfl rfl 2 (by decide) (hts (.fieldLink RX6 27 "MatchTrees$Reader" "table" "LMatchTrees$Table;") (by decide +kernel)) (fun _ h9 => h9) rfl dX6_readMatch_193 ?_
  refine va_get (D := (dC, dI)) (ci := 9) (v := .int 0) (C := RX9) (T := TX9) (N := 11) hx hb hts h_in_X9 hown hK hP 0 rfl rfl 6 (by decide) (hts (.fieldLink RX6 79 "MatchTrees$Table" "columns" "I") (by decide +kernel)) (fun _ h9 => h9) rfl dX6_readMatch_196 ?_
  refine lv_if_ne (tgt := 209) hx hb dX6_readMatch_199 (by decide) (fun c => absurd c (by decide)) (fun _ => ?_)
  refine lv_aload_n hx hb dX6_readMatch_202 rfl (lv_at hl 1 rfl) ?_
  have hPc := hP.sub (ws' := [((r 12), .inr (6, [.ref (r 56), .ref (r 57), .ref (r 11), .int 0, .int (-1)])), ((r 56), .inr (7, [.ref (r 58), .ref (r 14), .int 0, .int 0, .int 0, .int 0, .int 0, .int 0, .int (-1)]))]) [2, 3] rfl
  have hDc := hD.sub (ws' := [((r 12), .inr (6, [.ref (r 56), .ref (r 57), .ref (r 11), .int 0, .int (-1)])), ((r 56), .inr (7, [.ref (r 58), .ref (r 14), .int 0, .int 0, .int 0, .int 0, .int 0, .int 0, .int (-1)]))]) [2, 3] (by decide) rfl
  have hFc := va_free (wc := [((r 12), .inr (6, [.ref (r 56), .ref (r 57), .ref (r 11), .int 0, .int (-1)])), ((r 56), .inr (7, [.ref (r 58), .ref (r 14), .int 0, .int 0, .int 0, .int 0, .int 0, .int 0, .int (-1)]))]) hD hS hA [2, 3] rfl
  refine va_calli (va_runV (As := []) (rest := []) ⟨hx, hb, hml, hown, hts⟩ (c_X6_failHere l dC dI cI cJ h0 r (r 11) H.size) (cwV 0 hts gX6_readMatch_X6_failHere rfl rfl rfl (by decide +kernel) ⟨Nat.le_of_ble_eq_true rfl, Nat.le_of_ble_eq_true rfl⟩) ⟨mBlind, va_recv hK hPc (ci := 6) (q0 := 0) rfl rfl, mGo hPc hK hDc hN⟩ rfl rfl hl.1 rfl (lv_room (Nat.le_of_ble_eq_true rfl)) dX6_readMatch_203 ⟨Nat.le_of_ble_eq_true rfl, Nat.le_of_ble_eq_true rfl⟩) hS (fun q _ h => hFc q h) hFc (fun r_3 u t H1 locs ht hvm hw hB hz1 hk1 hS => ?_)
  obtain ⟨hP1, hD1⟩ := hB
  obtain rfl : r_3 = 0 := hw
  rw [ht] at hP1
  obtain ⟨hP, hD⟩ := va_join (wr := [((r 11), .inr (9, [.ref (r 41), .ref (r 42), .ref (r 43), .ref (r 44), .ref (r 45), .ref (r 46), .int 0, .int 0, .int 0, .int 0, .int 300])), ((r 41), .inr (3, [.ref (r 47), .ref (r 48), .ref (r 49), .ref (r 50), .ref (r 51), .ref (r 52), .ref (r 53), .ref (r 54), .ref (r 55), .int 0, .int 0])), ((r 0), .inr (1, [.ref (r 14), .int 0]))]) (w1 := [((r 12), .inr (6, [.ref (r 56), .ref (r 57), .ref (r 11), .int 1, .int 0])), ((r 56), .inr (7, [.ref (r 58), .ref (r 14), .int 0, .int 0, .int 0, .int 0, .int 0, .int 0, .int (-1)]))]) hP hD [2, 3] [0, 1, 4] rfl rfl (by decide) (by decide) hk1 hFc hP1 hD1
  generalize H1 = H at hP hS ⊢
  have hP : va_P (dC, dI) vwCl [((r 11), .inr (9, [.ref (r 41), .ref (r 42), .ref (r 43), .ref (r 44), .ref (r 45), .ref (r 46), .int 0, .int 0, .int 0, .int 0, .int 300])), ((r 41), .inr (3, [.ref (r 47), .ref (r 48), .ref (r 49), .ref (r 50), .ref (r 51), .ref (r 52), .ref (r 53), .ref (r 54), .ref (r 55), .int 0, .int 0])), ((r 0), .inr (1, [.ref (r 14), .int 0])), ((r 12), .inr (6, [.ref (r 56), .ref (r 57), .ref (r 11), .int 1, .int 0])), ((r 56), .inr (7, [.ref (r 58), .ref (r 14), .int 0, .int 0, .int 0, .int 0, .int 0, .int 0, .int (-1)]))] H := hP
  have hD : va_D A [((r 11), .inr (9, [.ref (r 41), .ref (r 42), .ref (r 43), .ref (r 44), .ref (r 45), .ref (r 46), .int 0, .int 0, .int 0, .int 0, .int 300])), ((r 41), .inr (3, [.ref (r 47), .ref (r 48), .ref (r 49), .ref (r 50), .ref (r 51), .ref (r 52), .ref (r 53), .ref (r 54), .ref (r 55), .int 0, .int 0])), ((r 0), .inr (1, [.ref (r 14), .int 0])), ((r 12), .inr (6, [.ref (r 56), .ref (r 57), .ref (r 11), .int 1, .int 0])), ((r 56), .inr (7, [.ref (r 58), .ref (r 14), .int 0, .int 0, .int 0, .int 0, .int 0, .int 0, .int (-1)]))] := hD
  refine lv_pop hx hb dX6_readMatch_206 rfl ?_
  refine lv_iconst (v := (-1)) hx hb dX6_readMatch_207 (by decide) ?_
  have hP9 := hP.sub (ws' := [((r 0), .inr (1, [.ref (r 14), .int 0]))]) [2] rfl
  have hD9 := hD.sub (ws' := [((r 0), .inr (1, [.ref (r 14), .int 0]))]) [2] (by decide) rfl
  exact W.iret (v := (-1)) hx hb hr (fun t ht hW => ⟨⟨(-1), (), rfl, rfl, by rw [ht]; exact hP9, hD9⟩, hS.F ht⟩) hS.2.2 dX6_readMatch_208
abbrev w0_c_X6_readRow (cI : ClassId) (h0 : Nat) (r : Nat → Nat) : va_W := [((r 12), .inr (6, [.ref (r 56), .ref (r 57), .ref (r 10), .int 0, .int (-1)])), ((r 56), .inr (7, [.ref (r 58), .ref (r 59), .int 0, .int 0, .int 0, .int 0, .int 0, .int 0, .int 0])), ((r 10), .inr (9, [.ref (r 26), .ref (r 27), .ref (r 28), .ref (r 29), .ref (r 30), .ref (r 31), .int 0, .int 0, .int 0, .int 0, .int 0])), ((r 0), .inr (1, [.ref (r 14), .int 0])), ((r 14), .inl (cI, 1600, .inl (fun _ => 0)))]
set_option maxHeartbeats 4000000 in
set_option maxRecDepth 100000 in
theorem c_X6_readRow (l : Launch) (dC : Nat → ClassId) (dI : Nat → Nat → Nat) (cI cJ : ClassId) (h0 : Nat) (r : Nat → Nat) (sz : Nat) : Met l yX6_readRow wsX6_readRow ({ frames := 4, cells := 0, slots := 0, locals := 127 }) (va_Pc [.ref (r 12), .ref (r 0), .ref (r 10)] (mPre dC dI cI cJ sz (w0_c_X6_readRow cI h0 r))) (va_Qi (fun (r : Int32) (u : Unit) => r = -1) (fun (u : Unit) (t : State) => va_P (dC, dI) vwCl [((r 0), .inr (1, [.ref (r 14), .int 0]))] t.heap ∧ va_D (va_A (w0_c_X6_readRow cI h0 r) sz) [((r 0), .inr (1, [.ref (r 14), .int 0]))]) (va_A (w0_c_X6_readRow cI h0 r) sz)) 0 0 (va_A (w0_c_X6_readRow cI h0 r) sz) := by
  refine Met.ofW (cc := cX6_readRow) (maxL := 6) (ret := (some .int)) (by decide) rfl ?_
  intro p e s m args below meth c s₁ B hml hv
  obtain ⟨rfl, hsz, hP, hK, hD0, hN⟩ := hv
  have hx := B.exec
  have hb := B.bytes
  have hr := B.returns
  have hts := atoms_spec (ws := wsX6_readRow) B.pre
  have hown : s.vm.findClass RX6 = some m.cls := findClass_of_methodNamed B.named
  have hlocks := B.notSynchronized
  have h_in_X6 : ∀ w ∈ wsX60, w ∈ wsX6_readRow := fun w h => List.mem_cons_of_mem _ (List.mem_append_left _ (List.mem_append_left _ (List.mem_append_left _ (List.mem_append_left _ (List.mem_append_right _ h)))))
  have h_in_X9 : ∀ w ∈ wsX90, w ∈ wsX6_readRow := fun w h => List.mem_cons_of_mem _ (List.mem_append_left _ (List.mem_append_left _ (List.mem_append_left _ (List.mem_append_right _ h))))
  have h_in_X7 : ∀ w ∈ wsX70, w ∈ wsX6_readRow := fun w h => List.mem_cons_of_mem _ (List.mem_append_left _ (List.mem_append_left _ (List.mem_append_right _ h)))
  have h_in_X1 : ∀ w ∈ wsX10, w ∈ wsX6_readRow := fun w h => List.mem_cons_of_mem _ (List.mem_append_left _ (List.mem_append_right _ h))
  have h_in_X3 : ∀ w ∈ wsX30, w ∈ wsX6_readRow := fun w h => List.mem_cons_of_mem _ (List.mem_append_right _ h)
  subst hsz
  have hD := hD0.self (sz := s.heap.size)
  generalize hAe : va_A (w0_c_X6_readRow cI h0 r) s.heap.size = A at hD ⊢
  have hA : ∀ q : Nat, s.heap.size ≤ q → A q := fun q h => by rw [← hAe]; exact Or.inr h
  have hS : va_S A s.heap s.heap [] := va_S.rf
  have hP : va_P (dC, dI) vwCl [((r 12), .inr (6, [.ref (r 56), .ref (r 57), .ref (r 10), .int 0, .int (-1)])), ((r 56), .inr (7, [.ref (r 58), .ref (r 59), .int 0, .int 0, .int 0, .int 0, .int 0, .int 0, .int 0])), ((r 10), .inr (9, [.ref (r 26), .ref (r 27), .ref (r 28), .ref (r 29), .ref (r 30), .ref (r 31), .int 0, .int 0, .int 0, .int 0, .int 0])), ((r 0), .inr (1, [.ref (r 14), .int 0])), ((r 14), .inl (cI, 1600, .inl (fun _ => 0)))] s.heap := hP
  have hD : va_D A [((r 12), .inr (6, [.ref (r 56), .ref (r 57), .ref (r 10), .int 0, .int (-1)])), ((r 56), .inr (7, [.ref (r 58), .ref (r 59), .int 0, .int 0, .int 0, .int 0, .int 0, .int 0, .int 0])), ((r 10), .inr (9, [.ref (r 26), .ref (r 27), .ref (r 28), .ref (r 29), .ref (r 30), .ref (r 31), .int 0, .int 0, .int 0, .int 0, .int 0])), ((r 0), .inr (1, [.ref (r 14), .int 0])), ((r 14), .inl (cI, 1600, .inl (fun _ => 0)))] := hD
  have hl := lv_entry ([.ref (r 12), .ref (r 0), .ref (r 10)]) (n := 6) (Nat.le_of_ble_eq_true rfl)
  rw [lg_entry_eq]
  generalize (lg_sl ([.ref (r 12), .ref (r 0), .ref (r 10)]) ++ List.replicate (6 - (lg_sl ([.ref (r 12), .ref (r 0), .ref (r 10)])).length) Slot.unset).toArray = ls at hl ⊢
  have hl : lv_has ls 6 [(0, .ref (r 12)), (1, .ref (r 0)), (2, .ref (r 10))] := hl
  refine lv_aload_n hx hb dX6_readRow_0 rfl (lv_at hl 0 rfl) ?_
  refine lv_aload_n hx hb dX6_readRow_1 rfl (lv_at hl 2 rfl) ?_
  refine va_put (D := (dC, dI)) (ci := 6) (v := .ref (r 10)) (ty := (.object "MatchTrees$Table")) (C := RX6) (T := TX6) (N := 5) hx hb hts h_in_X6 tyX6 tyX6_ok nmX6 hown hK hP hD hS 0 rfl rfl 2 (by decide) (hts (.fieldLink RX6 27 "MatchTrees$Reader" "table" "LMatchTrees$Table;") (by decide +kernel)) (fun _ h9 => h9) rfl (by decide +kernel) rfl rfl (Nat.le_of_ble_eq_true rfl) dX6_readRow_2 (fun H locs hP hD hS => ?_)
  have hP : va_P (dC, dI) vwCl [((r 12), .inr (6, [.ref (r 56), .ref (r 57), .ref (r 10), .int 0, .int (-1)])), ((r 56), .inr (7, [.ref (r 58), .ref (r 59), .int 0, .int 0, .int 0, .int 0, .int 0, .int 0, .int 0])), ((r 10), .inr (9, [.ref (r 26), .ref (r 27), .ref (r 28), .ref (r 29), .ref (r 30), .ref (r 31), .int 0, .int 0, .int 0, .int 0, .int 0])), ((r 0), .inr (1, [.ref (r 14), .int 0])), ((r 14), .inl (cI, 1600, .inl (fun _ => 0)))] H := hP
  have hD : va_D A [((r 12), .inr (6, [.ref (r 56), .ref (r 57), .ref (r 10), .int 0, .int (-1)])), ((r 56), .inr (7, [.ref (r 58), .ref (r 59), .int 0, .int 0, .int 0, .int 0, .int 0, .int 0, .int 0])), ((r 10), .inr (9, [.ref (r 26), .ref (r 27), .ref (r 28), .ref (r 29), .ref (r 30), .ref (r 31), .int 0, .int 0, .int 0, .int 0, .int 0])), ((r 0), .inr (1, [.ref (r 14), .int 0])), ((r 14), .inl (cI, 1600, .inl (fun _ => 0)))] := hD
  refine lv_aload_n hx hb dX6_readRow_5 rfl (lv_at hl 0 rfl) ?_
  refine lv_aload_n hx hb dX6_readRow_6 rfl (lv_at hl 1 rfl) ?_
  have hPc := hP.sub (ws' := [((r 12), .inr (6, [.ref (r 56), .ref (r 57), .ref (r 10), .int 0, .int (-1)])), ((r 56), .inr (7, [.ref (r 58), .ref (r 59), .int 0, .int 0, .int 0, .int 0, .int 0, .int 0, .int 0])), ((r 0), .inr (1, [.ref (r 14), .int 0])), ((r 14), .inl (cI, 1600, .inl (fun _ => 0)))]) [0, 1, 3, 4] rfl
  have hDc := hD.sub (ws' := [((r 12), .inr (6, [.ref (r 56), .ref (r 57), .ref (r 10), .int 0, .int (-1)])), ((r 56), .inr (7, [.ref (r 58), .ref (r 59), .int 0, .int 0, .int 0, .int 0, .int 0, .int 0, .int 0])), ((r 0), .inr (1, [.ref (r 14), .int 0])), ((r 14), .inl (cI, 1600, .inl (fun _ => 0)))]) [0, 1, 3, 4] (by decide) rfl
  have hFc := va_free (wc := [((r 12), .inr (6, [.ref (r 56), .ref (r 57), .ref (r 10), .int 0, .int (-1)])), ((r 56), .inr (7, [.ref (r 58), .ref (r 59), .int 0, .int 0, .int 0, .int 0, .int 0, .int 0, .int 0])), ((r 0), .inr (1, [.ref (r 14), .int 0])), ((r 14), .inl (cI, 1600, .inl (fun _ => 0)))]) hD hS hA [0, 1, 3, 4] rfl
  refine va_callv (va_runV (As := [.ref (r 0)]) (rest := []) ⟨hx, hb, hml, hown, hts⟩ (c_X6_begin l dC dI cI cJ h0 r (r 10) H.size) (cwV 1 hts gX6_readRow_X6_begin rfl rfl rfl (by decide +kernel) ⟨Nat.le_of_ble_eq_true rfl, Nat.le_of_ble_eq_true rfl⟩) ⟨mBlind, va_recv hK hPc (ci := 6) (q0 := 0) rfl rfl, mGo hPc hK hDc hN⟩ rfl rfl hl.1 rfl (lv_room (Nat.le_of_ble_eq_true rfl)) dX6_readRow_7 ⟨Nat.le_of_ble_eq_true rfl, Nat.le_of_ble_eq_true rfl⟩) hS (fun q _ h => hFc q h) hFc (fun u t H1 locs ht hvm hw hB hz1 hk1 hS => ?_)
  obtain ⟨hP1, hD1⟩ := hB
  rw [ht] at hP1
  obtain ⟨hP, hD⟩ := va_join (wr := [((r 10), .inr (9, [.ref (r 26), .ref (r 27), .ref (r 28), .ref (r 29), .ref (r 30), .ref (r 31), .int 0, .int 0, .int 0, .int 0, .int 0]))]) (w1 := [((r 12), .inr (6, [.ref (r 56), .ref (r 57), .ref (r 10), .int 0, .int (-1)])), ((r 56), .inr (7, [.ref (r 58), .ref (r 14), .int 0, .int 0, .int 0, .int 0, .int 0, .int 0, .int (-1)])), ((r 0), .inr (1, [.ref (r 14), .int 0]))]) hP hD [0, 1, 3, 4] [2] rfl rfl (by decide) (by decide) hk1 hFc hP1 hD1
  generalize H1 = H at hP hS ⊢
  have hP : va_P (dC, dI) vwCl [((r 10), .inr (9, [.ref (r 26), .ref (r 27), .ref (r 28), .ref (r 29), .ref (r 30), .ref (r 31), .int 0, .int 0, .int 0, .int 0, .int 0])), ((r 12), .inr (6, [.ref (r 56), .ref (r 57), .ref (r 10), .int 0, .int (-1)])), ((r 56), .inr (7, [.ref (r 58), .ref (r 14), .int 0, .int 0, .int 0, .int 0, .int 0, .int 0, .int (-1)])), ((r 0), .inr (1, [.ref (r 14), .int 0]))] H := hP
  have hD : va_D A [((r 10), .inr (9, [.ref (r 26), .ref (r 27), .ref (r 28), .ref (r 29), .ref (r 30), .ref (r 31), .int 0, .int 0, .int 0, .int 0, .int 0])), ((r 12), .inr (6, [.ref (r 56), .ref (r 57), .ref (r 10), .int 0, .int (-1)])), ((r 56), .inr (7, [.ref (r 58), .ref (r 14), .int 0, .int 0, .int 0, .int 0, .int 0, .int 0, .int (-1)])), ((r 0), .inr (1, [.ref (r 14), .int 0]))] := hD
  refine lv_aload_n hx hb dX6_readRow_10 rfl (lv_at hl 0 rfl) ?_
  refine va_get (D := (dC, dI)) (ci := 6) (v := .ref (r 10)) (C := RX6) (T := TX6) (N := 5) hx hb hts h_in_X6 hown hK hP 1 rfl rfl 2 (by decide) (hts (.fieldLink RX6 27 "MatchTrees$Reader" "table" "LMatchTrees$Table;") (by decide +kernel)) (fun _ h9 => h9) rfl dX6_readRow_11 ?_
  refine va_get (D := (dC, dI)) (ci := 9) (v := .int 0) (C := RX9) (T := TX9) (N := 11) hx hb hts h_in_X9 hown hK hP 0 rfl rfl 6 (by decide) (hts (.fieldLink RX6 79 "MatchTrees$Table" "columns" "I") (by decide +kernel)) (fun _ h9 => h9) rfl dX6_readRow_14 ?_
  refine lv_if_ne (tgt := 29) hx hb dX6_readRow_17 (by decide) (fun c => absurd c (by decide)) (fun _ => ?_)
  refine lv_aload_n hx hb dX6_readRow_20 rfl (lv_at hl 0 rfl) ?_
  refine lv_iconst (v := 1) hx hb dX6_readRow_21 (by decide) ?_
  refine lv_iconst (v := 0) hx hb dX6_readRow_22 (by decide) ?_
  have hPc := hP.sub (ws' := [((r 12), .inr (6, [.ref (r 56), .ref (r 57), .ref (r 10), .int 0, .int (-1)]))]) [1] rfl
  have hDc := hD.sub (ws' := [((r 12), .inr (6, [.ref (r 56), .ref (r 57), .ref (r 10), .int 0, .int (-1)]))]) [1] (by decide) rfl
  have hFc := va_free (wc := [((r 12), .inr (6, [.ref (r 56), .ref (r 57), .ref (r 10), .int 0, .int (-1)]))]) hD hS hA [1] rfl
  refine va_calli (va_runV (As := [.int 1, .int 0]) (rest := []) ⟨hx, hb, hml, hown, hts⟩ (c_X6_fail l dC dI cI cJ h0 r (r 10) H.size) (cwV 2 hts gX6_readRow_X6_fail rfl rfl rfl (by decide +kernel) ⟨Nat.le_of_ble_eq_true rfl, Nat.le_of_ble_eq_true rfl⟩) ⟨mBlind, va_recv hK hPc (ci := 6) (q0 := 0) rfl rfl, mGo hPc hK hDc hN⟩ rfl rfl hl.1 rfl (lv_room (Nat.le_of_ble_eq_true rfl)) dX6_readRow_23 ⟨Nat.le_of_ble_eq_true rfl, Nat.le_of_ble_eq_true rfl⟩) hS (fun q _ h => hFc q h) hFc (fun r_2 u t H1 locs ht hvm hw hB hz1 hk1 hS => ?_)
  obtain ⟨hP1, hD1⟩ := hB
  obtain rfl : r_2 = 0 := hw
  rw [ht] at hP1
  obtain ⟨hP, hD⟩ := va_join (wr := [((r 10), .inr (9, [.ref (r 26), .ref (r 27), .ref (r 28), .ref (r 29), .ref (r 30), .ref (r 31), .int 0, .int 0, .int 0, .int 0, .int 0])), ((r 56), .inr (7, [.ref (r 58), .ref (r 14), .int 0, .int 0, .int 0, .int 0, .int 0, .int 0, .int (-1)])), ((r 0), .inr (1, [.ref (r 14), .int 0]))]) (w1 := [((r 12), .inr (6, [.ref (r 56), .ref (r 57), .ref (r 10), .int 1, .int 0]))]) hP hD [1] [0, 2, 3] rfl rfl (by decide) (by decide) hk1 hFc hP1 hD1
  generalize H1 = H at hP hS ⊢
  have hP : va_P (dC, dI) vwCl [((r 10), .inr (9, [.ref (r 26), .ref (r 27), .ref (r 28), .ref (r 29), .ref (r 30), .ref (r 31), .int 0, .int 0, .int 0, .int 0, .int 0])), ((r 56), .inr (7, [.ref (r 58), .ref (r 14), .int 0, .int 0, .int 0, .int 0, .int 0, .int 0, .int (-1)])), ((r 0), .inr (1, [.ref (r 14), .int 0])), ((r 12), .inr (6, [.ref (r 56), .ref (r 57), .ref (r 10), .int 1, .int 0]))] H := hP
  have hD : va_D A [((r 10), .inr (9, [.ref (r 26), .ref (r 27), .ref (r 28), .ref (r 29), .ref (r 30), .ref (r 31), .int 0, .int 0, .int 0, .int 0, .int 0])), ((r 56), .inr (7, [.ref (r 58), .ref (r 14), .int 0, .int 0, .int 0, .int 0, .int 0, .int 0, .int (-1)])), ((r 0), .inr (1, [.ref (r 14), .int 0])), ((r 12), .inr (6, [.ref (r 56), .ref (r 57), .ref (r 10), .int 1, .int 0]))] := hD
  refine lv_pop hx hb dX6_readRow_26 rfl ?_
  refine lv_iconst (v := (-1)) hx hb dX6_readRow_27 (by decide) ?_
  have hP9 := hP.sub (ws' := [((r 0), .inr (1, [.ref (r 14), .int 0]))]) [2] rfl
  have hD9 := hD.sub (ws' := [((r 0), .inr (1, [.ref (r 14), .int 0]))]) [2] (by decide) rfl
  exact W.iret (v := (-1)) hx hb hr (fun t ht hW => ⟨⟨(-1), (), rfl, rfl, by rw [ht]; exact hP9, hD9⟩, hS.F ht⟩) hS.2.2 dX6_readRow_28
abbrev w0_c_X11_match (cI : ClassId) (h0 : Nat) (r : Nat → Nat) : va_W := [(h0, .inr (11, [.ref (r 0), .ref (r 1), .ref (r 2), .ref (r 3), .ref (r 4), .ref (r 5), .ref (r 6), .ref (r 7), .ref (r 8), .ref (r 9), .ref (r 10), .ref (r 11), .ref (r 12), .ref (r 13), .int 1])), ((r 12), .inr (6, [.ref (r 56), .ref (r 57), .ref (r 10), .int 0, .int (-1)])), ((r 56), .inr (7, [.ref (r 58), .ref (r 59), .int 0, .int 0, .int 0, .int 0, .int 0, .int 0, .int 0])), ((r 11), .inr (9, [.ref (r 41), .ref (r 42), .ref (r 43), .ref (r 44), .ref (r 45), .ref (r 46), .int 0, .int 0, .int 0, .int 0, .int 0])), ((r 41), .inr (3, [.ref (r 47), .ref (r 48), .ref (r 49), .ref (r 50), .ref (r 51), .ref (r 52), .ref (r 53), .ref (r 54), .ref (r 55), .int 0, .int 0])), ((r 0), .inr (1, [.ref (r 14), .int 0])), ((r 14), .inl (cI, 1600, .inl (fun _ => 0))), ((r 9), .inl (cI, 6, .inl (fun _ => 0)))]
set_option maxHeartbeats 4000000 in
set_option maxRecDepth 100000 in
theorem c_X11_match (l : Launch) (dC : Nat → ClassId) (dI : Nat → Nat → Nat) (cI cJ : ClassId) (h0 : Nat) (r : Nat → Nat) (sz : Nat) : Met l yX11_match wsX11_match ({ frames := 5, cells := 0, slots := 0, locals := 151 }) (va_Pc [.ref h0] (mPre dC dI cI cJ sz (w0_c_X11_match cI h0 r))) (va_Qi (fun (r : Int32) (u : Unit) => r = -1) (fun _ _ => True) (va_A (w0_c_X11_match cI h0 r) sz)) 0 0 (va_A (w0_c_X11_match cI h0 r) sz) := by
  refine Met.ofW (cc := cX11_match) (maxL := 3) (ret := (some .int)) (by decide) rfl ?_
  intro p e s m args below meth c s₁ B hml hv
  obtain ⟨rfl, hsz, hP, hK, hD0, hN⟩ := hv
  have hx := B.exec
  have hb := B.bytes
  have hr := B.returns
  have hts := atoms_spec (ws := wsX11_match) B.pre
  have hown : s.vm.findClass RX11 = some m.cls := findClass_of_methodNamed B.named
  have hlocks := B.notSynchronized
  have h_in_X11 : ∀ w ∈ wsX110, w ∈ wsX11_match := fun w h => List.mem_cons_of_mem _ (List.mem_append_left _ (List.mem_append_left _ (List.mem_append_left _ (List.mem_append_left _ (List.mem_append_left _ (List.mem_append_left _ (List.mem_append_left _ (List.mem_append_left _ (List.mem_append_left _ (List.mem_append_left _ (List.mem_append_left _ (List.mem_append_right _ h))))))))))))
  have h_in_X1 : ∀ w ∈ wsX10, w ∈ wsX11_match := fun w h => List.mem_cons_of_mem _ (List.mem_append_left _ (List.mem_append_left _ (List.mem_append_left _ (List.mem_append_left _ (List.mem_append_left _ (List.mem_append_left _ (List.mem_append_left _ (List.mem_append_left _ (List.mem_append_left _ (List.mem_append_left _ (List.mem_append_right _ h)))))))))))
  have h_in_X6 : ∀ w ∈ wsX60, w ∈ wsX11_match := fun w h => List.mem_cons_of_mem _ (List.mem_append_left _ (List.mem_append_left _ (List.mem_append_left _ (List.mem_append_left _ (List.mem_append_left _ (List.mem_append_left _ (List.mem_append_left _ (List.mem_append_left _ (List.mem_append_left _ (List.mem_append_right _ h))))))))))
  have h_in_X7 : ∀ w ∈ wsX70, w ∈ wsX11_match := fun w h => List.mem_cons_of_mem _ (List.mem_append_left _ (List.mem_append_left _ (List.mem_append_left _ (List.mem_append_left _ (List.mem_append_left _ (List.mem_append_left _ (List.mem_append_left _ (List.mem_append_left _ (List.mem_append_right _ h)))))))))
  have h_in_X9 : ∀ w ∈ wsX90, w ∈ wsX11_match := fun w h => List.mem_cons_of_mem _ (List.mem_append_left _ (List.mem_append_left _ (List.mem_append_left _ (List.mem_append_left _ (List.mem_append_left _ (List.mem_append_left _ (List.mem_append_left _ (List.mem_append_right _ h))))))))
  have h_in_X3 : ∀ w ∈ wsX30, w ∈ wsX11_match := fun w h => List.mem_cons_of_mem _ (List.mem_append_left _ (List.mem_append_left _ (List.mem_append_left _ (List.mem_append_left _ (List.mem_append_left _ (List.mem_append_left _ (List.mem_append_right _ h)))))))
  have h_in_X10 : ∀ w ∈ wsX100, w ∈ wsX11_match := fun w h => List.mem_cons_of_mem _ (List.mem_append_left _ (List.mem_append_left _ (List.mem_append_left _ (List.mem_append_left _ (List.mem_append_left _ (List.mem_append_right _ h))))))
  have h_in_X8 : ∀ w ∈ wsX80, w ∈ wsX11_match := fun w h => List.mem_cons_of_mem _ (List.mem_append_left _ (List.mem_append_left _ (List.mem_append_left _ (List.mem_append_left _ (List.mem_append_right _ h)))))
  have h_in_X2 : ∀ w ∈ wsX20, w ∈ wsX11_match := fun w h => List.mem_cons_of_mem _ (List.mem_append_left _ (List.mem_append_left _ (List.mem_append_left _ (List.mem_append_right _ h))))
  have h_in_X4 : ∀ w ∈ wsX40, w ∈ wsX11_match := fun w h => List.mem_cons_of_mem _ (List.mem_append_left _ (List.mem_append_left _ (List.mem_append_right _ h)))
  have h_in_X5 : ∀ w ∈ wsX50, w ∈ wsX11_match := fun w h => List.mem_cons_of_mem _ (List.mem_append_left _ (List.mem_append_right _ h))
  have h_in_X0 : ∀ w ∈ wsX00, w ∈ wsX11_match := fun w h => List.mem_cons_of_mem _ (List.mem_append_right _ h)
  subst hsz
  have hD := hD0.self (sz := s.heap.size)
  generalize hAe : va_A (w0_c_X11_match cI h0 r) s.heap.size = A at hD ⊢
  have hA : ∀ q : Nat, s.heap.size ≤ q → A q := fun q h => by rw [← hAe]; exact Or.inr h
  have hS : va_S A s.heap s.heap [] := va_S.rf
  have hP : va_P (dC, dI) vwCl [(h0, .inr (11, [.ref (r 0), .ref (r 1), .ref (r 2), .ref (r 3), .ref (r 4), .ref (r 5), .ref (r 6), .ref (r 7), .ref (r 8), .ref (r 9), .ref (r 10), .ref (r 11), .ref (r 12), .ref (r 13), .int 1])), ((r 12), .inr (6, [.ref (r 56), .ref (r 57), .ref (r 10), .int 0, .int (-1)])), ((r 56), .inr (7, [.ref (r 58), .ref (r 59), .int 0, .int 0, .int 0, .int 0, .int 0, .int 0, .int 0])), ((r 11), .inr (9, [.ref (r 41), .ref (r 42), .ref (r 43), .ref (r 44), .ref (r 45), .ref (r 46), .int 0, .int 0, .int 0, .int 0, .int 0])), ((r 41), .inr (3, [.ref (r 47), .ref (r 48), .ref (r 49), .ref (r 50), .ref (r 51), .ref (r 52), .ref (r 53), .ref (r 54), .ref (r 55), .int 0, .int 0])), ((r 0), .inr (1, [.ref (r 14), .int 0])), ((r 14), .inl (cI, 1600, .inl (fun _ => 0))), ((r 9), .inl (cI, 6, .inl (fun _ => 0)))] s.heap := hP
  have hD : va_D A [(h0, .inr (11, [.ref (r 0), .ref (r 1), .ref (r 2), .ref (r 3), .ref (r 4), .ref (r 5), .ref (r 6), .ref (r 7), .ref (r 8), .ref (r 9), .ref (r 10), .ref (r 11), .ref (r 12), .ref (r 13), .int 1])), ((r 12), .inr (6, [.ref (r 56), .ref (r 57), .ref (r 10), .int 0, .int (-1)])), ((r 56), .inr (7, [.ref (r 58), .ref (r 59), .int 0, .int 0, .int 0, .int 0, .int 0, .int 0, .int 0])), ((r 11), .inr (9, [.ref (r 41), .ref (r 42), .ref (r 43), .ref (r 44), .ref (r 45), .ref (r 46), .int 0, .int 0, .int 0, .int 0, .int 0])), ((r 41), .inr (3, [.ref (r 47), .ref (r 48), .ref (r 49), .ref (r 50), .ref (r 51), .ref (r 52), .ref (r 53), .ref (r 54), .ref (r 55), .int 0, .int 0])), ((r 0), .inr (1, [.ref (r 14), .int 0])), ((r 14), .inl (cI, 1600, .inl (fun _ => 0))), ((r 9), .inl (cI, 6, .inl (fun _ => 0)))] := hD
  have hl := lv_entry ([.ref h0]) (n := 3) (Nat.le_of_ble_eq_true rfl)
  rw [lg_entry_eq]
  generalize (lg_sl ([.ref h0]) ++ List.replicate (3 - (lg_sl ([.ref h0])).length) Slot.unset).toArray = ls at hl ⊢
  have hl : lv_has ls 3 [(0, .ref h0)] := hl
  refine lv_aload_n hx hb dX11_match_0 rfl (lv_at hl 0 rfl) ?_
  refine va_get (D := (dC, dI)) (ci := 11) (v := .ref (r 12)) (C := RX11) (T := TX11) (N := 15) hx hb hts h_in_X11 hown hK hP 0 rfl rfl 12 (by decide) (hts (.fieldLink RX11 83 "MatchTrees" "reader" "LMatchTrees$Reader;") (by decide +kernel)) (fun _ h9 => h9) rfl dX11_match_1 ?_
  refine lv_aload_n hx hb dX11_match_4 rfl (lv_at hl 0 rfl) ?_
  refine va_get (D := (dC, dI)) (ci := 11) (v := .ref (r 0)) (C := RX11) (T := TX11) (N := 15) hx hb hts h_in_X11 hown hK hP 0 rfl rfl 0 (by decide) (hts (.fieldLink RX11 14 "MatchTrees" "tape" "LMatchTrees$Bytes;") (by decide +kernel)) (fun _ h9 => h9) rfl dX11_match_5 ?_
  refine lv_aload_n hx hb dX11_match_8 rfl (lv_at hl 0 rfl) ?_
  refine va_get (D := (dC, dI)) (ci := 11) (v := .ref (r 11)) (C := RX11) (T := TX11) (N := 15) hx hb hts h_in_X11 hown hK hP 0 rfl rfl 11 (by decide) (hts (.fieldLink RX11 75 "MatchTrees" "spare" "LMatchTrees$Table;") (by decide +kernel)) (fun _ h9 => h9) rfl dX11_match_9 ?_
  have hPc := hP.sub (ws' := [((r 12), .inr (6, [.ref (r 56), .ref (r 57), .ref (r 10), .int 0, .int (-1)])), ((r 56), .inr (7, [.ref (r 58), .ref (r 59), .int 0, .int 0, .int 0, .int 0, .int 0, .int 0, .int 0])), ((r 11), .inr (9, [.ref (r 41), .ref (r 42), .ref (r 43), .ref (r 44), .ref (r 45), .ref (r 46), .int 0, .int 0, .int 0, .int 0, .int 0])), ((r 41), .inr (3, [.ref (r 47), .ref (r 48), .ref (r 49), .ref (r 50), .ref (r 51), .ref (r 52), .ref (r 53), .ref (r 54), .ref (r 55), .int 0, .int 0])), ((r 0), .inr (1, [.ref (r 14), .int 0])), ((r 14), .inl (cI, 1600, .inl (fun _ => 0)))]) [1, 2, 3, 4, 5, 6] rfl
  have hDc := hD.sub (ws' := [((r 12), .inr (6, [.ref (r 56), .ref (r 57), .ref (r 10), .int 0, .int (-1)])), ((r 56), .inr (7, [.ref (r 58), .ref (r 59), .int 0, .int 0, .int 0, .int 0, .int 0, .int 0, .int 0])), ((r 11), .inr (9, [.ref (r 41), .ref (r 42), .ref (r 43), .ref (r 44), .ref (r 45), .ref (r 46), .int 0, .int 0, .int 0, .int 0, .int 0])), ((r 41), .inr (3, [.ref (r 47), .ref (r 48), .ref (r 49), .ref (r 50), .ref (r 51), .ref (r 52), .ref (r 53), .ref (r 54), .ref (r 55), .int 0, .int 0])), ((r 0), .inr (1, [.ref (r 14), .int 0])), ((r 14), .inl (cI, 1600, .inl (fun _ => 0)))]) [1, 2, 3, 4, 5, 6] (by decide) rfl
  have hFc := va_free (wc := [((r 12), .inr (6, [.ref (r 56), .ref (r 57), .ref (r 10), .int 0, .int (-1)])), ((r 56), .inr (7, [.ref (r 58), .ref (r 59), .int 0, .int 0, .int 0, .int 0, .int 0, .int 0, .int 0])), ((r 11), .inr (9, [.ref (r 41), .ref (r 42), .ref (r 43), .ref (r 44), .ref (r 45), .ref (r 46), .int 0, .int 0, .int 0, .int 0, .int 0])), ((r 41), .inr (3, [.ref (r 47), .ref (r 48), .ref (r 49), .ref (r 50), .ref (r 51), .ref (r 52), .ref (r 53), .ref (r 54), .ref (r 55), .int 0, .int 0])), ((r 0), .inr (1, [.ref (r 14), .int 0])), ((r 14), .inl (cI, 1600, .inl (fun _ => 0)))]) hD hS hA [1, 2, 3, 4, 5, 6] rfl
  refine va_calli (va_runV (As := [.ref (r 0), .ref (r 11)]) (rest := []) ⟨hx, hb, hml, hown, hts⟩ (c_X6_readMatch l dC dI cI cJ h0 r s.heap.size) (cwV 2 hts gX11_match_X6_readMatch rfl rfl rfl (by decide +kernel) ⟨Nat.le_of_ble_eq_true rfl, Nat.le_of_ble_eq_true rfl⟩) ⟨mBlind, va_recv hK hPc (ci := 6) (q0 := 0) rfl rfl, mGo hPc hK hDc hN⟩ rfl rfl hl.1 rfl (lv_room (Nat.le_of_ble_eq_true rfl)) dX11_match_12 ⟨Nat.le_of_ble_eq_true rfl, Nat.le_of_ble_eq_true rfl⟩) hS (fun q _ h => hFc q h) hFc (fun r_1 u t H1 locs ht hvm hw hB hz1 hk1 hS => ?_)
  obtain ⟨hP1, hD1⟩ := hB
  obtain rfl : r_1 = (-1) := hw
  rw [ht] at hP1
  obtain ⟨hP, hD⟩ := va_join (wr := [(h0, .inr (11, [.ref (r 0), .ref (r 1), .ref (r 2), .ref (r 3), .ref (r 4), .ref (r 5), .ref (r 6), .ref (r 7), .ref (r 8), .ref (r 9), .ref (r 10), .ref (r 11), .ref (r 12), .ref (r 13), .int 1])), ((r 9), .inl (cI, 6, .inl (fun _ => 0)))]) (w1 := [((r 0), .inr (1, [.ref (r 14), .int 0]))]) hP hD [1, 2, 3, 4, 5, 6] [0, 7] rfl rfl (by decide) (by decide) hk1 hFc hP1 hD1
  generalize H1 = H at hP hS ⊢
  have hP : va_P (dC, dI) vwCl [(h0, .inr (11, [.ref (r 0), .ref (r 1), .ref (r 2), .ref (r 3), .ref (r 4), .ref (r 5), .ref (r 6), .ref (r 7), .ref (r 8), .ref (r 9), .ref (r 10), .ref (r 11), .ref (r 12), .ref (r 13), .int 1])), ((r 9), .inl (cI, 6, .inl (fun _ => 0))), ((r 0), .inr (1, [.ref (r 14), .int 0]))] H := hP
  have hD : va_D A [(h0, .inr (11, [.ref (r 0), .ref (r 1), .ref (r 2), .ref (r 3), .ref (r 4), .ref (r 5), .ref (r 6), .ref (r 7), .ref (r 8), .ref (r 9), .ref (r 10), .ref (r 11), .ref (r 12), .ref (r 13), .int 1])), ((r 9), .inl (cI, 6, .inl (fun _ => 0))), ((r 0), .inr (1, [.ref (r 14), .int 0]))] := hD
  refine lv_istore_n (lv' := [(1, .int (-1)), (0, .ref h0)]) hx hb dX11_match_15 rfl hl (by decide) rfl (fun ls hl => ?_)
  refine lv_aload_n hx hb dX11_match_16 rfl (lv_at hl 1 rfl) ?_
  refine va_get (D := (dC, dI)) (ci := 11) (v := .ref (r 0)) (C := RX11) (T := TX11) (N := 15) hx hb hts h_in_X11 hown hK hP 0 rfl rfl 0 (by decide) (hts (.fieldLink RX11 14 "MatchTrees" "tape" "LMatchTrees$Bytes;") (by decide +kernel)) (fun _ h9 => h9) rfl dX11_match_17 ?_
  refine lv_iconst (v := 0) hx hb dX11_match_20 (by decide) ?_
  refine va_put (D := (dC, dI)) (ci := 1) (v := .int 0) (ty := .int) (C := RX1) (T := TX1) (N := 2) hx hb hts h_in_X1 tyX1 tyX1_ok nmX1 hown hK hP hD hS 2 rfl rfl 1 (by decide) (hts (.fieldLink RX11 100 "MatchTrees$Bytes" "length" "I") (by decide +kernel)) (fun _ h9 => h9) rfl (by decide +kernel) rfl rfl (Nat.le_of_ble_eq_true rfl) dX11_match_21 (fun H locs hP hD hS => ?_)
  have hP : va_P (dC, dI) vwCl [(h0, .inr (11, [.ref (r 0), .ref (r 1), .ref (r 2), .ref (r 3), .ref (r 4), .ref (r 5), .ref (r 6), .ref (r 7), .ref (r 8), .ref (r 9), .ref (r 10), .ref (r 11), .ref (r 12), .ref (r 13), .int 1])), ((r 9), .inl (cI, 6, .inl (fun _ => 0))), ((r 0), .inr (1, [.ref (r 14), .int 0]))] H := hP
  have hD : va_D A [(h0, .inr (11, [.ref (r 0), .ref (r 1), .ref (r 2), .ref (r 3), .ref (r 4), .ref (r 5), .ref (r 6), .ref (r 7), .ref (r 8), .ref (r 9), .ref (r 10), .ref (r 11), .ref (r 12), .ref (r 13), .int 1])), ((r 9), .inl (cI, 6, .inl (fun _ => 0))), ((r 0), .inr (1, [.ref (r 14), .int 0]))] := hD
  refine lv_iload_n hx hb dX11_match_24 rfl (lv_at hl 0 rfl) ?_
  refine lv_iconst (v := (-1)) hx hb dX11_match_25 (by decide) ?_
  refine lv_icmp_ne (tgt := 37) hx hb dX11_match_26 (by decide) (fun c => absurd c (by decide)) (fun _ => ?_)
  refine lv_aload_n hx hb dX11_match_29 rfl (lv_at hl 1 rfl) ?_
  refine lv_iconst (v := 1) hx hb dX11_match_30 (by decide) ?_
  have hPc := hP.sub (ws' := [(h0, .inr (11, [.ref (r 0), .ref (r 1), .ref (r 2), .ref (r 3), .ref (r 4), .ref (r 5), .ref (r 6), .ref (r 7), .ref (r 8), .ref (r 9), .ref (r 10), .ref (r 11), .ref (r 12), .ref (r 13), .int 1])), ((r 9), .inl (cI, 6, .inl (fun _ => 0)))]) [0, 1] rfl
  have hDc := hD.sub (ws' := [(h0, .inr (11, [.ref (r 0), .ref (r 1), .ref (r 2), .ref (r 3), .ref (r 4), .ref (r 5), .ref (r 6), .ref (r 7), .ref (r 8), .ref (r 9), .ref (r 10), .ref (r 11), .ref (r 12), .ref (r 13), .int 1])), ((r 9), .inl (cI, 6, .inl (fun _ => 0)))]) [0, 1] (by decide) rfl
  have hFc := va_free (wc := [(h0, .inr (11, [.ref (r 0), .ref (r 1), .ref (r 2), .ref (r 3), .ref (r 4), .ref (r 5), .ref (r 6), .ref (r 7), .ref (r 8), .ref (r 9), .ref (r 10), .ref (r 11), .ref (r 12), .ref (r 13), .int 1])), ((r 9), .inl (cI, 6, .inl (fun _ => 0)))]) hD hS hA [0, 1] rfl
  refine va_calli (va_runV (As := [.int 1]) (rest := []) ⟨hx, hb, hml, hown, hts⟩ (c_X11_refuse_1 l dC dI cI cJ h0 r H.size) (cwV 1 hts gX11_match_X11_refuse rfl rfl rfl (by decide +kernel) ⟨Nat.le_of_ble_eq_true rfl, Nat.le_of_ble_eq_true rfl⟩) ⟨mBlind, va_recv hK hPc (ci := 11) (q0 := 0) rfl rfl, mGo hPc hK hDc hN⟩ rfl rfl hl.1 rfl (lv_room (Nat.le_of_ble_eq_true rfl)) dX11_match_31 ⟨Nat.le_of_ble_eq_true rfl, Nat.le_of_ble_eq_true rfl⟩) hS (fun q _ h => hFc q h) hFc (fun r_2 u t H1 locs ht hvm hw hB hz1 hk1 hS => ?_)
  obtain ⟨g_3, hP1, hD1⟩ := hB
  obtain rfl : r_2 = 0 := hw
  rw [ht] at hP1
  obtain ⟨hP, hD⟩ := va_join (wr := [((r 0), .inr (1, [.ref (r 14), .int 0]))]) (w1 := [(h0, .inr (11, [.ref (r 0), .ref (r 1), .ref (r 2), .ref (r 3), .ref (r 4), .ref (r 5), .ref (r 6), .ref (r 7), .ref (r 8), .ref (r 9), .ref (r 10), .ref (r 11), .ref (r 12), .ref (r 13), .int 1])), ((r 9), .inl (cI, 6, .inl g_3))]) hP hD [0, 1] [2] rfl rfl (by decide) (by decide) hk1 hFc hP1 hD1
  generalize H1 = H at hP hS ⊢
  have hP : va_P (dC, dI) vwCl [((r 0), .inr (1, [.ref (r 14), .int 0])), (h0, .inr (11, [.ref (r 0), .ref (r 1), .ref (r 2), .ref (r 3), .ref (r 4), .ref (r 5), .ref (r 6), .ref (r 7), .ref (r 8), .ref (r 9), .ref (r 10), .ref (r 11), .ref (r 12), .ref (r 13), .int 1])), ((r 9), .inl (cI, 6, .inl g_3))] H := hP
  have hD : va_D A [((r 0), .inr (1, [.ref (r 14), .int 0])), (h0, .inr (11, [.ref (r 0), .ref (r 1), .ref (r 2), .ref (r 3), .ref (r 4), .ref (r 5), .ref (r 6), .ref (r 7), .ref (r 8), .ref (r 9), .ref (r 10), .ref (r 11), .ref (r 12), .ref (r 13), .int 1])), ((r 9), .inl (cI, 6, .inl g_3))] := hD
  refine lv_pop hx hb dX11_match_34 rfl ?_
  refine lv_iconst (v := (-1)) hx hb dX11_match_35 (by decide) ?_
  exact W.iret (v := (-1)) hx hb hr (fun t ht hW => ⟨⟨(-1), (), rfl, rfl, trivial⟩, hS.F ht⟩) hS.2.2 dX11_match_36
abbrev w0_c_X11_row (cI : ClassId) (h0 : Nat) (r : Nat → Nat) : va_W := [(h0, .inr (11, [.ref (r 0), .ref (r 1), .ref (r 2), .ref (r 3), .ref (r 4), .ref (r 5), .ref (r 6), .ref (r 7), .ref (r 8), .ref (r 9), .ref (r 10), .ref (r 11), .ref (r 12), .ref (r 13), .int 1])), ((r 12), .inr (6, [.ref (r 56), .ref (r 57), .ref (r 10), .int 0, .int (-1)])), ((r 56), .inr (7, [.ref (r 58), .ref (r 59), .int 0, .int 0, .int 0, .int 0, .int 0, .int 0, .int 0])), ((r 10), .inr (9, [.ref (r 26), .ref (r 27), .ref (r 28), .ref (r 29), .ref (r 30), .ref (r 31), .int 0, .int 0, .int 0, .int 0, .int 0])), ((r 0), .inr (1, [.ref (r 14), .int 0])), ((r 14), .inl (cI, 1600, .inl (fun _ => 0))), ((r 9), .inl (cI, 6, .inl (fun _ => 0)))]
set_option maxHeartbeats 4000000 in
set_option maxRecDepth 100000 in
theorem c_X11_row (l : Launch) (dC : Nat → ClassId) (dI : Nat → Nat → Nat) (cI cJ : ClassId) (h0 : Nat) (r : Nat → Nat) (sz : Nat) : Met l yX11_row wsX11_row ({ frames := 5, cells := 0, slots := 0, locals := 152 }) (va_Pc [.ref h0] (mPre dC dI cI cJ sz (w0_c_X11_row cI h0 r))) (va_Qi (fun (r : Int32) (u : Unit) => r = -1) (fun _ _ => True) (va_A (w0_c_X11_row cI h0 r) sz)) 0 0 (va_A (w0_c_X11_row cI h0 r) sz) := by
  refine Met.ofW (cc := cX11_row) (maxL := 2) (ret := (some .int)) (by decide) rfl ?_
  intro p e s m args below meth c s₁ B hml hv
  obtain ⟨rfl, hsz, hP, hK, hD0, hN⟩ := hv
  have hx := B.exec
  have hb := B.bytes
  have hr := B.returns
  have hts := atoms_spec (ws := wsX11_row) B.pre
  have hown : s.vm.findClass RX11 = some m.cls := findClass_of_methodNamed B.named
  have hlocks := B.notSynchronized
  have h_in_X11 : ∀ w ∈ wsX110, w ∈ wsX11_row := fun w h => List.mem_cons_of_mem _ (List.mem_append_left _ (List.mem_append_left _ (List.mem_append_left _ (List.mem_append_left _ (List.mem_append_left _ (List.mem_append_right _ h))))))
  have h_in_X1 : ∀ w ∈ wsX10, w ∈ wsX11_row := fun w h => List.mem_cons_of_mem _ (List.mem_append_left _ (List.mem_append_left _ (List.mem_append_left _ (List.mem_append_left _ (List.mem_append_right _ h)))))
  have h_in_X6 : ∀ w ∈ wsX60, w ∈ wsX11_row := fun w h => List.mem_cons_of_mem _ (List.mem_append_left _ (List.mem_append_left _ (List.mem_append_left _ (List.mem_append_right _ h))))
  have h_in_X9 : ∀ w ∈ wsX90, w ∈ wsX11_row := fun w h => List.mem_cons_of_mem _ (List.mem_append_left _ (List.mem_append_left _ (List.mem_append_right _ h)))
  have h_in_X7 : ∀ w ∈ wsX70, w ∈ wsX11_row := fun w h => List.mem_cons_of_mem _ (List.mem_append_left _ (List.mem_append_right _ h))
  have h_in_X3 : ∀ w ∈ wsX30, w ∈ wsX11_row := fun w h => List.mem_cons_of_mem _ (List.mem_append_right _ h)
  subst hsz
  have hD := hD0.self (sz := s.heap.size)
  generalize hAe : va_A (w0_c_X11_row cI h0 r) s.heap.size = A at hD ⊢
  have hA : ∀ q : Nat, s.heap.size ≤ q → A q := fun q h => by rw [← hAe]; exact Or.inr h
  have hS : va_S A s.heap s.heap [] := va_S.rf
  have hP : va_P (dC, dI) vwCl [(h0, .inr (11, [.ref (r 0), .ref (r 1), .ref (r 2), .ref (r 3), .ref (r 4), .ref (r 5), .ref (r 6), .ref (r 7), .ref (r 8), .ref (r 9), .ref (r 10), .ref (r 11), .ref (r 12), .ref (r 13), .int 1])), ((r 12), .inr (6, [.ref (r 56), .ref (r 57), .ref (r 10), .int 0, .int (-1)])), ((r 56), .inr (7, [.ref (r 58), .ref (r 59), .int 0, .int 0, .int 0, .int 0, .int 0, .int 0, .int 0])), ((r 10), .inr (9, [.ref (r 26), .ref (r 27), .ref (r 28), .ref (r 29), .ref (r 30), .ref (r 31), .int 0, .int 0, .int 0, .int 0, .int 0])), ((r 0), .inr (1, [.ref (r 14), .int 0])), ((r 14), .inl (cI, 1600, .inl (fun _ => 0))), ((r 9), .inl (cI, 6, .inl (fun _ => 0)))] s.heap := hP
  have hD : va_D A [(h0, .inr (11, [.ref (r 0), .ref (r 1), .ref (r 2), .ref (r 3), .ref (r 4), .ref (r 5), .ref (r 6), .ref (r 7), .ref (r 8), .ref (r 9), .ref (r 10), .ref (r 11), .ref (r 12), .ref (r 13), .int 1])), ((r 12), .inr (6, [.ref (r 56), .ref (r 57), .ref (r 10), .int 0, .int (-1)])), ((r 56), .inr (7, [.ref (r 58), .ref (r 59), .int 0, .int 0, .int 0, .int 0, .int 0, .int 0, .int 0])), ((r 10), .inr (9, [.ref (r 26), .ref (r 27), .ref (r 28), .ref (r 29), .ref (r 30), .ref (r 31), .int 0, .int 0, .int 0, .int 0, .int 0])), ((r 0), .inr (1, [.ref (r 14), .int 0])), ((r 14), .inl (cI, 1600, .inl (fun _ => 0))), ((r 9), .inl (cI, 6, .inl (fun _ => 0)))] := hD
  have hl := lv_entry ([.ref h0]) (n := 2) (Nat.le_of_ble_eq_true rfl)
  rw [lg_entry_eq]
  generalize (lg_sl ([.ref h0]) ++ List.replicate (2 - (lg_sl ([.ref h0])).length) Slot.unset).toArray = ls at hl ⊢
  have hl : lv_has ls 2 [(0, .ref h0)] := hl
  refine lv_aload_n hx hb dX11_row_0 rfl (lv_at hl 0 rfl) ?_
  refine va_get (D := (dC, dI)) (ci := 11) (v := .ref (r 12)) (C := RX11) (T := TX11) (N := 15) hx hb hts h_in_X11 hown hK hP 0 rfl rfl 12 (by decide) (hts (.fieldLink RX11 83 "MatchTrees" "reader" "LMatchTrees$Reader;") (by decide +kernel)) (fun _ h9 => h9) rfl dX11_row_1 ?_
  refine lv_aload_n hx hb dX11_row_4 rfl (lv_at hl 0 rfl) ?_
  refine va_get (D := (dC, dI)) (ci := 11) (v := .ref (r 0)) (C := RX11) (T := TX11) (N := 15) hx hb hts h_in_X11 hown hK hP 0 rfl rfl 0 (by decide) (hts (.fieldLink RX11 14 "MatchTrees" "tape" "LMatchTrees$Bytes;") (by decide +kernel)) (fun _ h9 => h9) rfl dX11_row_5 ?_
  refine lv_aload_n hx hb dX11_row_8 rfl (lv_at hl 0 rfl) ?_
  refine va_get (D := (dC, dI)) (ci := 11) (v := .ref (r 10)) (C := RX11) (T := TX11) (N := 15) hx hb hts h_in_X11 hown hK hP 0 rfl rfl 10 (by decide) (hts (.fieldLink RX11 71 "MatchTrees" "table" "LMatchTrees$Table;") (by decide +kernel)) (fun _ h9 => h9) rfl dX11_row_9 ?_
  have hPc := hP.sub (ws' := [((r 12), .inr (6, [.ref (r 56), .ref (r 57), .ref (r 10), .int 0, .int (-1)])), ((r 56), .inr (7, [.ref (r 58), .ref (r 59), .int 0, .int 0, .int 0, .int 0, .int 0, .int 0, .int 0])), ((r 10), .inr (9, [.ref (r 26), .ref (r 27), .ref (r 28), .ref (r 29), .ref (r 30), .ref (r 31), .int 0, .int 0, .int 0, .int 0, .int 0])), ((r 0), .inr (1, [.ref (r 14), .int 0])), ((r 14), .inl (cI, 1600, .inl (fun _ => 0)))]) [1, 2, 3, 4, 5] rfl
  have hDc := hD.sub (ws' := [((r 12), .inr (6, [.ref (r 56), .ref (r 57), .ref (r 10), .int 0, .int (-1)])), ((r 56), .inr (7, [.ref (r 58), .ref (r 59), .int 0, .int 0, .int 0, .int 0, .int 0, .int 0, .int 0])), ((r 10), .inr (9, [.ref (r 26), .ref (r 27), .ref (r 28), .ref (r 29), .ref (r 30), .ref (r 31), .int 0, .int 0, .int 0, .int 0, .int 0])), ((r 0), .inr (1, [.ref (r 14), .int 0])), ((r 14), .inl (cI, 1600, .inl (fun _ => 0)))]) [1, 2, 3, 4, 5] (by decide) rfl
  have hFc := va_free (wc := [((r 12), .inr (6, [.ref (r 56), .ref (r 57), .ref (r 10), .int 0, .int (-1)])), ((r 56), .inr (7, [.ref (r 58), .ref (r 59), .int 0, .int 0, .int 0, .int 0, .int 0, .int 0, .int 0])), ((r 10), .inr (9, [.ref (r 26), .ref (r 27), .ref (r 28), .ref (r 29), .ref (r 30), .ref (r 31), .int 0, .int 0, .int 0, .int 0, .int 0])), ((r 0), .inr (1, [.ref (r 14), .int 0])), ((r 14), .inl (cI, 1600, .inl (fun _ => 0)))]) hD hS hA [1, 2, 3, 4, 5] rfl
  refine va_calli (va_runV (As := [.ref (r 0), .ref (r 10)]) (rest := []) ⟨hx, hb, hml, hown, hts⟩ (c_X6_readRow l dC dI cI cJ h0 r s.heap.size) (cwV 2 hts gX11_row_X6_readRow rfl rfl rfl (by decide +kernel) ⟨Nat.le_of_ble_eq_true rfl, Nat.le_of_ble_eq_true rfl⟩) ⟨mBlind, va_recv hK hPc (ci := 6) (q0 := 0) rfl rfl, mGo hPc hK hDc hN⟩ rfl rfl hl.1 rfl (lv_room (Nat.le_of_ble_eq_true rfl)) dX11_row_12 ⟨Nat.le_of_ble_eq_true rfl, Nat.le_of_ble_eq_true rfl⟩) hS (fun q _ h => hFc q h) hFc (fun r_1 u t H1 locs ht hvm hw hB hz1 hk1 hS => ?_)
  obtain ⟨hP1, hD1⟩ := hB
  obtain rfl : r_1 = (-1) := hw
  rw [ht] at hP1
  obtain ⟨hP, hD⟩ := va_join (wr := [(h0, .inr (11, [.ref (r 0), .ref (r 1), .ref (r 2), .ref (r 3), .ref (r 4), .ref (r 5), .ref (r 6), .ref (r 7), .ref (r 8), .ref (r 9), .ref (r 10), .ref (r 11), .ref (r 12), .ref (r 13), .int 1])), ((r 9), .inl (cI, 6, .inl (fun _ => 0)))]) (w1 := [((r 0), .inr (1, [.ref (r 14), .int 0]))]) hP hD [1, 2, 3, 4, 5] [0, 6] rfl rfl (by decide) (by decide) hk1 hFc hP1 hD1
  generalize H1 = H at hP hS ⊢
  have hP : va_P (dC, dI) vwCl [(h0, .inr (11, [.ref (r 0), .ref (r 1), .ref (r 2), .ref (r 3), .ref (r 4), .ref (r 5), .ref (r 6), .ref (r 7), .ref (r 8), .ref (r 9), .ref (r 10), .ref (r 11), .ref (r 12), .ref (r 13), .int 1])), ((r 9), .inl (cI, 6, .inl (fun _ => 0))), ((r 0), .inr (1, [.ref (r 14), .int 0]))] H := hP
  have hD : va_D A [(h0, .inr (11, [.ref (r 0), .ref (r 1), .ref (r 2), .ref (r 3), .ref (r 4), .ref (r 5), .ref (r 6), .ref (r 7), .ref (r 8), .ref (r 9), .ref (r 10), .ref (r 11), .ref (r 12), .ref (r 13), .int 1])), ((r 9), .inl (cI, 6, .inl (fun _ => 0))), ((r 0), .inr (1, [.ref (r 14), .int 0]))] := hD
  refine lv_istore_n (lv' := [(1, .int (-1)), (0, .ref h0)]) hx hb dX11_row_15 rfl hl (by decide) rfl (fun ls hl => ?_)
  refine lv_aload_n hx hb dX11_row_16 rfl (lv_at hl 1 rfl) ?_
  refine va_get (D := (dC, dI)) (ci := 11) (v := .ref (r 0)) (C := RX11) (T := TX11) (N := 15) hx hb hts h_in_X11 hown hK hP 0 rfl rfl 0 (by decide) (hts (.fieldLink RX11 14 "MatchTrees" "tape" "LMatchTrees$Bytes;") (by decide +kernel)) (fun _ h9 => h9) rfl dX11_row_17 ?_
  refine lv_iconst (v := 0) hx hb dX11_row_20 (by decide) ?_
  refine va_put (D := (dC, dI)) (ci := 1) (v := .int 0) (ty := .int) (C := RX1) (T := TX1) (N := 2) hx hb hts h_in_X1 tyX1 tyX1_ok nmX1 hown hK hP hD hS 2 rfl rfl 1 (by decide) (hts (.fieldLink RX11 100 "MatchTrees$Bytes" "length" "I") (by decide +kernel)) (fun _ h9 => h9) rfl (by decide +kernel) rfl rfl (Nat.le_of_ble_eq_true rfl) dX11_row_21 (fun H locs hP hD hS => ?_)
  have hP : va_P (dC, dI) vwCl [(h0, .inr (11, [.ref (r 0), .ref (r 1), .ref (r 2), .ref (r 3), .ref (r 4), .ref (r 5), .ref (r 6), .ref (r 7), .ref (r 8), .ref (r 9), .ref (r 10), .ref (r 11), .ref (r 12), .ref (r 13), .int 1])), ((r 9), .inl (cI, 6, .inl (fun _ => 0))), ((r 0), .inr (1, [.ref (r 14), .int 0]))] H := hP
  have hD : va_D A [(h0, .inr (11, [.ref (r 0), .ref (r 1), .ref (r 2), .ref (r 3), .ref (r 4), .ref (r 5), .ref (r 6), .ref (r 7), .ref (r 8), .ref (r 9), .ref (r 10), .ref (r 11), .ref (r 12), .ref (r 13), .int 1])), ((r 9), .inl (cI, 6, .inl (fun _ => 0))), ((r 0), .inr (1, [.ref (r 14), .int 0]))] := hD
  refine lv_iload_n hx hb dX11_row_24 rfl (lv_at hl 0 rfl) ?_
  refine lv_iconst (v := (-1)) hx hb dX11_row_25 (by decide) ?_
  refine lv_icmp_ne (tgt := 35) hx hb dX11_row_26 (by decide) (fun c => absurd c (by decide)) (fun _ => ?_)
  refine lv_aload_n hx hb dX11_row_29 rfl (lv_at hl 1 rfl) ?_
  refine lv_iconst (v := 1) hx hb dX11_row_30 (by decide) ?_
  have hPc := hP.sub (ws' := [(h0, .inr (11, [.ref (r 0), .ref (r 1), .ref (r 2), .ref (r 3), .ref (r 4), .ref (r 5), .ref (r 6), .ref (r 7), .ref (r 8), .ref (r 9), .ref (r 10), .ref (r 11), .ref (r 12), .ref (r 13), .int 1])), ((r 9), .inl (cI, 6, .inl (fun _ => 0)))]) [0, 1] rfl
  have hDc := hD.sub (ws' := [(h0, .inr (11, [.ref (r 0), .ref (r 1), .ref (r 2), .ref (r 3), .ref (r 4), .ref (r 5), .ref (r 6), .ref (r 7), .ref (r 8), .ref (r 9), .ref (r 10), .ref (r 11), .ref (r 12), .ref (r 13), .int 1])), ((r 9), .inl (cI, 6, .inl (fun _ => 0)))]) [0, 1] (by decide) rfl
  have hFc := va_free (wc := [(h0, .inr (11, [.ref (r 0), .ref (r 1), .ref (r 2), .ref (r 3), .ref (r 4), .ref (r 5), .ref (r 6), .ref (r 7), .ref (r 8), .ref (r 9), .ref (r 10), .ref (r 11), .ref (r 12), .ref (r 13), .int 1])), ((r 9), .inl (cI, 6, .inl (fun _ => 0)))]) hD hS hA [0, 1] rfl
  refine va_calli (va_runV (As := [.int 1]) (rest := []) ⟨hx, hb, hml, hown, hts⟩ (c_X11_refuse_1 l dC dI cI cJ h0 r H.size) (cwV 1 hts gX11_row_X11_refuse rfl rfl rfl (by decide +kernel) ⟨Nat.le_of_ble_eq_true rfl, Nat.le_of_ble_eq_true rfl⟩) ⟨mBlind, va_recv hK hPc (ci := 11) (q0 := 0) rfl rfl, mGo hPc hK hDc hN⟩ rfl rfl hl.1 rfl (lv_room (Nat.le_of_ble_eq_true rfl)) dX11_row_31 ⟨Nat.le_of_ble_eq_true rfl, Nat.le_of_ble_eq_true rfl⟩) hS (fun q _ h => hFc q h) hFc (fun r_2 u t H1 locs ht hvm hw hB hz1 hk1 hS => ?_)
  obtain ⟨g_3, hP1, hD1⟩ := hB
  obtain rfl : r_2 = 0 := hw
  rw [ht] at hP1
  obtain ⟨hP, hD⟩ := va_join (wr := [((r 0), .inr (1, [.ref (r 14), .int 0]))]) (w1 := [(h0, .inr (11, [.ref (r 0), .ref (r 1), .ref (r 2), .ref (r 3), .ref (r 4), .ref (r 5), .ref (r 6), .ref (r 7), .ref (r 8), .ref (r 9), .ref (r 10), .ref (r 11), .ref (r 12), .ref (r 13), .int 1])), ((r 9), .inl (cI, 6, .inl g_3))]) hP hD [0, 1] [2] rfl rfl (by decide) (by decide) hk1 hFc hP1 hD1
  generalize H1 = H at hP hS ⊢
  have hP : va_P (dC, dI) vwCl [((r 0), .inr (1, [.ref (r 14), .int 0])), (h0, .inr (11, [.ref (r 0), .ref (r 1), .ref (r 2), .ref (r 3), .ref (r 4), .ref (r 5), .ref (r 6), .ref (r 7), .ref (r 8), .ref (r 9), .ref (r 10), .ref (r 11), .ref (r 12), .ref (r 13), .int 1])), ((r 9), .inl (cI, 6, .inl g_3))] H := hP
  have hD : va_D A [((r 0), .inr (1, [.ref (r 14), .int 0])), (h0, .inr (11, [.ref (r 0), .ref (r 1), .ref (r 2), .ref (r 3), .ref (r 4), .ref (r 5), .ref (r 6), .ref (r 7), .ref (r 8), .ref (r 9), .ref (r 10), .ref (r 11), .ref (r 12), .ref (r 13), .int 1])), ((r 9), .inl (cI, 6, .inl g_3))] := hD
  refine lv_pop hx hb dX11_row_34 rfl ?_
  refine lv_iload_n hx hb dX11_row_35 rfl (lv_at hl 0 rfl) ?_
  exact W.iret (v := (-1)) hx hb hr (fun t ht hW => ⟨⟨(-1), (), rfl, rfl, trivial⟩, hS.F ht⟩) hS.2.2 dX11_row_36
