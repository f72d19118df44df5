/-! Constructors of the class: Order, Marks, Groups, Bytes, Kinds, Seen, Acts. -/
abbrev w0_c_X5_init (cI : ClassId) (h0 : Nat) : va_W := [(h0, .inr (5, [.null, .int 0, .int 0, .int 0]))]
set_option maxHeartbeats 4000000 in
set_option maxRecDepth 100000 in
theorem c_X5_init (l : Launch) (dC : Nat → ClassId) (dI : Nat → Nat → Nat) (cI cJ : ClassId) (h0 : Nat) (sz : Nat) : Met l yX5_init wsX5_init ({ frames := 1, cells := 1, slots := 12, locals := 60 }) (va_Pc [.ref h0] (mPre dC dI cI cJ sz (w0_c_X5_init cI h0))) (va_Qv (fun _ : Unit => True) (fun (u : Unit) (t : State) => ∃ (q1 : Nat), va_P (dC, dI) vwCl [(h0, .inr (5, [.ref q1, .int 0, .int 0, .int 0]))] t.heap ∧ va_D (va_A (w0_c_X5_init cI h0) sz) [(h0, .inr (5, [.ref q1, .int 0, .int 0, .int 0]))]) (va_A (w0_c_X5_init cI h0) sz)) 1 12 (va_A (w0_c_X5_init cI h0) sz) := by
  refine Met.ofW (cc := cX5_init) (maxL := 1) (ret := none) (by decide) rfl ?_
  intro p e s m args below meth c s₁ B hml hv
  obtain ⟨rfl, hsz, hP, hK, hD0, hN⟩ := hv
  have hx := B.exec
  have hb := B.bytes
  have hr := B.returns
  have hts := atoms_spec (ws := wsX5_init) B.pre
  have hown : s.vm.findClass RX5 = some m.cls := findClass_of_methodNamed B.named
  have hlocks := B.notSynchronized
  have hin : meth.name = "<init>" := (name_of_methodNamed B.named B.method).1
  have h_in_X5 : ∀ w ∈ wsX50, w ∈ wsX5_init := fun w h => List.mem_cons_of_mem _ (List.mem_append_right _ h)
  subst hsz
  have hD := hD0.self (sz := s.heap.size)
  generalize hAe : va_A (w0_c_X5_init cI h0) s.heap.size = A at hD ⊢
  have hA : ∀ q : Nat, s.heap.size ≤ q → A q := fun q h => by rw [← hAe]; exact Or.inr h
  have hS : va_S A s.heap s.heap [] := va_S.rf
  have hP : va_P (dC, dI) vwCl [(h0, .inr (5, [.null, .int 0, .int 0, .int 0]))] s.heap := hP
  have hD : va_D A [(h0, .inr (5, [.null, .int 0, .int 0, .int 0]))] := hD
  have hl := lv_entry ([.ref h0]) (n := 1) (Nat.le_of_ble_eq_true rfl)
  rw [lg_entry_eq]
  generalize (lg_sl ([.ref h0]) ++ List.replicate (1 - (lg_sl ([.ref h0])).length) Slot.unset).toArray = ls at hl ⊢
  have hl : lv_has ls 1 [(0, .ref h0)] := hl
  refine lv_aload_n hx hb dX5_init_0 rfl (lv_at hl 0 rfl) ?_
  refine W.objInit hx hb hown (hts (.methodLink RX5 3 objectInit) (by decide +kernel)) (hts (.instanceMethod objectInit) (by decide +kernel)) (hts (.code objectInit ⟨#[0xb1]⟩ 1 none) (by decide +kernel)) rfl (by rw [hml]; exact hl.1) rfl dX5_init_1 (Nat.le_of_ble_eq_true rfl) (Nat.le_of_ble_eq_true rfl) ?_
  refine W.eq (g2 := F0 m 4 ls []) rfl ?_
  refine lv_aload_n hx hb dX5_init_4 rfl (lv_at hl 0 rfl) ?_
  refine lv_bipush (v := 12) hx hb dX5_init_5 (by decide) ?_
  refine k_newIx (N' := 12) (k2 := 1) (n2 := 12) hx hb (hts (.arrayClass .int) (by decide +kernel)) hK hP hD hS hA (by decide) (by decide) (Nat.le_of_ble_eq_true rfl) (Nat.le_of_ble_eq_true rfl) (Nat.le_of_ble_eq_true rfl) rfl rfl dX5_init_7 (fun q_1 H hP hS => ?_)
  refine va_putF (D := (dC, dI)) (ci := 5) (v := .ref q_1) (ty := (.array .int)) (C := RX5) (T := TX5) (N := 4) hx hb hts h_in_X5 tyX5 tyX5_ok nmX5 hown hK hP hD hS 0 rfl rfl 0 (by decide) (hts (.fieldLink RX5 9 "MatchTrees$Order" "arm" "[I") (by decide +kernel)) (fun _ h9 => h9) rfl hin rfl (by decide +kernel) rfl rfl (Nat.le_of_ble_eq_true rfl) dX5_init_9 (fun H locs hP hD hS => ?_)
  have hP : va_P (dC, dI) vwCl [(h0, .inr (5, [.ref q_1, .int 0, .int 0, .int 0]))] H := hP
  have hD : va_D A [(h0, .inr (5, [.ref q_1, .int 0, .int 0, .int 0]))] := hD
  have hP9 := hP.sub (ws' := [(h0, .inr (5, [.ref q_1, .int 0, .int 0, .int 0]))]) [0] rfl
  have hD9 := hD.sub (ws' := [(h0, .inr (5, [.ref q_1, .int 0, .int 0, .int 0]))]) [0] (by decide) rfl
  exact W.vret hx hb hr (fun t ht hW => ⟨⟨(), rfl, trivial, q_1, by rw [ht]; exact hP9, hD9⟩, hS.F ht⟩) hS.2.2 dX5_init_12
abbrev w0_c_X4_init (cI : ClassId) (h0 : Nat) : va_W := [(h0, .inr (4, [.null, .null, .int 0]))]
set_option maxHeartbeats 4000000 in
set_option maxRecDepth 100000 in
theorem c_X4_init (l : Launch) (dC : Nat → ClassId) (dI : Nat → Nat → Nat) (cI cJ : ClassId) (h0 : Nat) (sz : Nat) : Met l yX4_init wsX4_init ({ frames := 1, cells := 2, slots := 8192, locals := 60 }) (va_Pc [.ref h0] (mPre dC dI cI cJ sz (w0_c_X4_init cI h0))) (va_Qv (fun _ : Unit => True) (fun _ _ => True) (va_A (w0_c_X4_init cI h0) sz)) 2 8192 (va_A (w0_c_X4_init cI h0) sz) := by
  refine Met.ofW (cc := cX4_init) (maxL := 1) (ret := none) (by decide) rfl ?_
  intro p e s m args below meth c s₁ B hml hv
  obtain ⟨rfl, hsz, hP, hK, hD0, hN⟩ := hv
  have hx := B.exec
  have hb := B.bytes
  have hr := B.returns
  have hts := atoms_spec (ws := wsX4_init) B.pre
  have hown : s.vm.findClass RX4 = some m.cls := findClass_of_methodNamed B.named
  have hlocks := B.notSynchronized
  have hin : meth.name = "<init>" := (name_of_methodNamed B.named B.method).1
  have h_in_X4 : ∀ w ∈ wsX40, w ∈ wsX4_init := fun w h => List.mem_cons_of_mem _ (List.mem_append_right _ h)
  subst hsz
  have hD := hD0.self (sz := s.heap.size)
  generalize hAe : va_A (w0_c_X4_init cI h0) s.heap.size = A at hD ⊢
  have hA : ∀ q : Nat, s.heap.size ≤ q → A q := fun q h => by rw [← hAe]; exact Or.inr h
  have hS : va_S A s.heap s.heap [] := va_S.rf
  have hP : va_P (dC, dI) vwCl [(h0, .inr (4, [.null, .null, .int 0]))] s.heap := hP
  have hD : va_D A [(h0, .inr (4, [.null, .null, .int 0]))] := hD
  have hl := lv_entry ([.ref h0]) (n := 1) (Nat.le_of_ble_eq_true rfl)
  rw [lg_entry_eq]
  generalize (lg_sl ([.ref h0]) ++ List.replicate (1 - (lg_sl ([.ref h0])).length) Slot.unset).toArray = ls at hl ⊢
  have hl : lv_has ls 1 [(0, .ref h0)] := hl
  refine lv_aload_n hx hb dX4_init_0 rfl (lv_at hl 0 rfl) ?_
  refine W.objInit hx hb hown (hts (.methodLink RX4 3 objectInit) (by decide +kernel)) (hts (.instanceMethod objectInit) (by decide +kernel)) (hts (.code objectInit ⟨#[0xb1]⟩ 1 none) (by decide +kernel)) rfl (by rw [hml]; exact hl.1) rfl dX4_init_1 (Nat.le_of_ble_eq_true rfl) (Nat.le_of_ble_eq_true rfl) ?_
  refine W.eq (g2 := F0 m 4 ls []) rfl ?_
  refine lv_aload_n hx hb dX4_init_4 rfl (lv_at hl 0 rfl) ?_
  refine lv_sipush (v := 4096) hx hb dX4_init_5 (by decide) ?_
  refine k_newIx (N' := 4096) (k2 := 1) (n2 := 4096) hx hb (hts (.arrayClass .int) (by decide +kernel)) hK hP hD hS hA (by decide) (by decide) (Nat.le_of_ble_eq_true rfl) (Nat.le_of_ble_eq_true rfl) (Nat.le_of_ble_eq_true rfl) rfl rfl dX4_init_8 (fun q_1 H hP hS => ?_)
  refine va_putF (D := (dC, dI)) (ci := 4) (v := .ref q_1) (ty := (.array .int)) (C := RX4) (T := TX4) (N := 3) hx hb hts h_in_X4 tyX4 tyX4_ok nmX4 hown hK hP hD hS 0 rfl rfl 0 (by decide) (hts (.fieldLink RX4 9 "MatchTrees$Marks" "time" "[I") (by decide +kernel)) (fun _ h9 => h9) rfl hin rfl (by decide +kernel) rfl rfl (Nat.le_of_ble_eq_true rfl) dX4_init_10 (fun H locs hP hD hS => ?_)
  have hP : va_P (dC, dI) vwCl [(h0, .inr (4, [.ref q_1, .null, .int 0]))] H := hP
  have hD : va_D A [(h0, .inr (4, [.ref q_1, .null, .int 0]))] := hD
  refine lv_aload_n hx hb dX4_init_13 rfl (lv_at hl 0 rfl) ?_
  refine lv_sipush (v := 4096) hx hb dX4_init_14 (by decide) ?_
  refine k_newIx (N' := 4096) (k2 := 2) (n2 := 8192) hx hb (hts (.arrayClass .int) (by decide +kernel)) hK hP hD hS hA (by decide) (by decide) (Nat.le_of_ble_eq_true rfl) (Nat.le_of_ble_eq_true rfl) (Nat.le_of_ble_eq_true rfl) rfl rfl dX4_init_17 (fun q_2 H hP hS => ?_)
  refine va_putF (D := (dC, dI)) (ci := 4) (v := .ref q_2) (ty := (.array .int)) (C := RX4) (T := TX4) (N := 3) hx hb hts h_in_X4 tyX4 tyX4_ok nmX4 hown hK hP hD hS 0 rfl rfl 1 (by decide) (hts (.fieldLink RX4 15 "MatchTrees$Marks" "spot" "[I") (by decide +kernel)) (fun _ h9 => h9) rfl hin rfl (by decide +kernel) rfl rfl (Nat.le_of_ble_eq_true rfl) dX4_init_19 (fun H locs hP hD hS => ?_)
  have hP : va_P (dC, dI) vwCl [(h0, .inr (4, [.ref q_1, .ref q_2, .int 0]))] H := hP
  have hD : va_D A [(h0, .inr (4, [.ref q_1, .ref q_2, .int 0]))] := hD
  exact W.vret hx hb hr (fun t ht hW => ⟨⟨(), rfl, trivial, trivial⟩, hS.F ht⟩) hS.2.2 dX4_init_22
abbrev w0_c_X2_init_4096 (cI : ClassId) (h0 mk : Nat) : va_W := [(h0, .inr (2, [.null, .null, .null, .int 0]))]
set_option maxHeartbeats 4000000 in
set_option maxRecDepth 100000 in
theorem c_X2_init_4096 (l : Launch) (dC : Nat → ClassId) (dI : Nat → Nat → Nat) (cI cJ : ClassId) (h0 mk : Nat) (sz : Nat) : Met l yX2_init wsX2_init ({ frames := 1, cells := 2, slots := 8192, locals := 60 }) (va_Pc [.ref h0, .int 4096, .ref mk] (mPre dC dI cI cJ sz (w0_c_X2_init_4096 cI h0 mk))) (va_Qv (fun _ : Unit => True) (fun (u : Unit) (t : State) => ∃ (q0 q1 : Nat), va_P (dC, dI) vwCl [(h0, .inr (2, [.ref q0, .ref q1, .ref mk, .int 0]))] t.heap ∧ va_D (va_A (w0_c_X2_init_4096 cI h0 mk) sz) [(h0, .inr (2, [.ref q0, .ref q1, .ref mk, .int 0]))]) (va_A (w0_c_X2_init_4096 cI h0 mk) sz)) 2 8192 (va_A (w0_c_X2_init_4096 cI h0 mk) sz) := by
  refine Met.ofW (cc := cX2_init) (maxL := 3) (ret := none) (by decide) rfl ?_
  intro p e s m args below meth c s₁ B hml hv
  obtain ⟨rfl, hsz, hP, hK, hD0, hN⟩ := hv
  have hx := B.exec
  have hb := B.bytes
  have hr := B.returns
  have hts := atoms_spec (ws := wsX2_init) B.pre
  have hown : s.vm.findClass RX2 = some m.cls := findClass_of_methodNamed B.named
  have hlocks := B.notSynchronized
  have hin : meth.name = "<init>" := (name_of_methodNamed B.named B.method).1
  have h_in_X2 : ∀ w ∈ wsX20, w ∈ wsX2_init := fun w h => List.mem_cons_of_mem _ (List.mem_append_right _ h)
  subst hsz
  have hD := hD0.self (sz := s.heap.size)
  generalize hAe : va_A (w0_c_X2_init_4096 cI h0 mk) s.heap.size = A at hD ⊢
  have hA : ∀ q : Nat, s.heap.size ≤ q → A q := fun q h => by rw [← hAe]; exact Or.inr h
  have hS : va_S A s.heap s.heap [] := va_S.rf
  have hP : va_P (dC, dI) vwCl [(h0, .inr (2, [.null, .null, .null, .int 0]))] s.heap := hP
  have hD : va_D A [(h0, .inr (2, [.null, .null, .null, .int 0]))] := hD
  have hl := lv_entry ([.ref h0, .int 4096, .ref mk]) (n := 3) (Nat.le_of_ble_eq_true rfl)
  rw [lg_entry_eq]
  generalize (lg_sl ([.ref h0, .int 4096, .ref mk]) ++ List.replicate (3 - (lg_sl ([.ref h0, .int 4096, .ref mk])).length) Slot.unset).toArray = ls at hl ⊢
  have hl : lv_has ls 3 [(0, .ref h0), (1, .int 4096), (2, .ref mk)] := hl
  refine lv_aload_n hx hb dX2_init_0 rfl (lv_at hl 0 rfl) ?_
  refine W.objInit hx hb hown (hts (.methodLink RX2 3 objectInit) (by decide +kernel)) (hts (.instanceMethod objectInit) (by decide +kernel)) (hts (.code objectInit ⟨#[0xb1]⟩ 1 none) (by decide +kernel)) rfl (by rw [hml]; exact hl.1) rfl dX2_init_1 (Nat.le_of_ble_eq_true rfl) (Nat.le_of_ble_eq_true rfl) ?_
  refine W.eq (g2 := F0 m 4 ls []) rfl ?_
  refine lv_aload_n hx hb dX2_init_4 rfl (lv_at hl 0 rfl) ?_
  refine lv_iload_n hx hb dX2_init_5 rfl (lv_at hl 1 rfl) ?_
  refine lv_iconst (v := 0) hx hb dX2_init_6 (by decide) ?_
  refine va_mmax hx hb (by rw [hml]; exact hl.1.symm) hown (hts (.methodLink RX2 9 Lib.Math.max.name) (by decide +kernel)) (hts (.static Lib.Math.max.name) (by decide +kernel)) (hts (.initialized "java/lang/Math") (by decide +kernel)) (hts (.code Lib.Math.max.name Lib.Math.max.code 2 (some .int)) (by decide +kernel)) (Nat.le_of_ble_eq_true rfl) (Nat.le_of_ble_eq_true rfl) (Nat.le_of_ble_eq_true rfl) (Nat.le_of_ble_eq_true rfl) dX2_init_7 ?_
  refine lv_topi (fun t9 e9 => ?_)
  obtain rfl : t9 = 4096 := e9.trans (by decide)
  refine k_newIx (N' := 4096) (k2 := 1) (n2 := 4096) hx hb (hts (.arrayClass .int) (by decide +kernel)) hK hP hD hS hA (by decide) (by decide) (Nat.le_of_ble_eq_true rfl) (Nat.le_of_ble_eq_true rfl) (Nat.le_of_ble_eq_true rfl) rfl rfl dX2_init_10 (fun q_1 H hP hS => ?_)
  refine va_putF (D := (dC, dI)) (ci := 2) (v := .ref q_1) (ty := (.array .int)) (C := RX2) (T := TX2) (N := 4) hx hb hts h_in_X2 tyX2 tyX2_ok nmX2 hown hK hP hD hS 0 rfl rfl 0 (by decide) (hts (.fieldLink RX2 15 "MatchTrees$Groups" "arms" "[I") (by decide +kernel)) (fun _ h9 => h9) rfl hin rfl (by decide +kernel) rfl rfl (Nat.le_of_ble_eq_true rfl) dX2_init_12 (fun H locs hP hD hS => ?_)
  have hP : va_P (dC, dI) vwCl [(h0, .inr (2, [.ref q_1, .null, .null, .int 0]))] H := hP
  have hD : va_D A [(h0, .inr (2, [.ref q_1, .null, .null, .int 0]))] := hD
  refine lv_aload_n hx hb dX2_init_15 rfl (lv_at hl 0 rfl) ?_
  refine lv_iload_n hx hb dX2_init_16 rfl (lv_at hl 1 rfl) ?_
  refine lv_iconst (v := 0) hx hb dX2_init_17 (by decide) ?_
  refine va_mmax hx hb (by rw [hml]; exact hl.1.symm) hown (hts (.methodLink RX2 9 Lib.Math.max.name) (by decide +kernel)) (hts (.static Lib.Math.max.name) (by decide +kernel)) (hts (.initialized "java/lang/Math") (by decide +kernel)) (hts (.code Lib.Math.max.name Lib.Math.max.code 2 (some .int)) (by decide +kernel)) (Nat.le_of_ble_eq_true rfl) (Nat.le_of_ble_eq_true rfl) (Nat.le_of_ble_eq_true rfl) (Nat.le_of_ble_eq_true rfl) dX2_init_18 ?_
  refine lv_topi (fun t9 e9 => ?_)
  obtain rfl : t9 = 4096 := e9.trans (by decide)
  refine k_newIx (N' := 4096) (k2 := 2) (n2 := 8192) hx hb (hts (.arrayClass .int) (by decide +kernel)) hK hP hD hS hA (by decide) (by decide) (Nat.le_of_ble_eq_true rfl) (Nat.le_of_ble_eq_true rfl) (Nat.le_of_ble_eq_true rfl) rfl rfl dX2_init_21 (fun q_2 H hP hS => ?_)
  refine va_putF (D := (dC, dI)) (ci := 2) (v := .ref q_2) (ty := (.array .int)) (C := RX2) (T := TX2) (N := 4) hx hb hts h_in_X2 tyX2 tyX2_ok nmX2 hown hK hP hD hS 0 rfl rfl 1 (by decide) (hts (.fieldLink RX2 21 "MatchTrees$Groups" "size" "[I") (by decide +kernel)) (fun _ h9 => h9) rfl hin rfl (by decide +kernel) rfl rfl (Nat.le_of_ble_eq_true rfl) dX2_init_23 (fun H locs hP hD hS => ?_)
  have hP : va_P (dC, dI) vwCl [(h0, .inr (2, [.ref q_1, .ref q_2, .null, .int 0]))] H := hP
  have hD : va_D A [(h0, .inr (2, [.ref q_1, .ref q_2, .null, .int 0]))] := hD
  refine lv_aload_n hx hb dX2_init_26 rfl (lv_at hl 0 rfl) ?_
  refine lv_aload_n hx hb dX2_init_27 rfl (lv_at hl 2 rfl) ?_
  refine va_putF (D := (dC, dI)) (ci := 2) (v := .ref mk) (ty := (.object "MatchTrees$Marks")) (C := RX2) (T := TX2) (N := 4) hx hb hts h_in_X2 tyX2 tyX2_ok nmX2 hown hK hP hD hS 0 rfl rfl 2 (by decide) (hts (.fieldLink RX2 24 "MatchTrees$Groups" "marks" "LMatchTrees$Marks;") (by decide +kernel)) (fun _ h9 => h9) rfl hin rfl (by decide +kernel) rfl rfl (Nat.le_of_ble_eq_true rfl) dX2_init_28 (fun H locs hP hD hS => ?_)
  have hP : va_P (dC, dI) vwCl [(h0, .inr (2, [.ref q_1, .ref q_2, .ref mk, .int 0]))] H := hP
  have hD : va_D A [(h0, .inr (2, [.ref q_1, .ref q_2, .ref mk, .int 0]))] := hD
  have hP9 := hP.sub (ws' := [(h0, .inr (2, [.ref q_1, .ref q_2, .ref mk, .int 0]))]) [0] rfl
  have hD9 := hD.sub (ws' := [(h0, .inr (2, [.ref q_1, .ref q_2, .ref mk, .int 0]))]) [0] (by decide) rfl
  exact W.vret hx hb hr (fun t ht hW => ⟨⟨(), rfl, trivial, q_1, q_2, by rw [ht]; exact hP9, hD9⟩, hS.F ht⟩) hS.2.2 dX2_init_31
abbrev w0_c_X2_init_2048 (cI : ClassId) (h0 mk : Nat) : va_W := [(h0, .inr (2, [.null, .null, .null, .int 0]))]
set_option maxHeartbeats 4000000 in
set_option maxRecDepth 100000 in
theorem c_X2_init_2048 (l : Launch) (dC : Nat → ClassId) (dI : Nat → Nat → Nat) (cI cJ : ClassId) (h0 mk : Nat) (sz : Nat) : Met l yX2_init wsX2_init ({ frames := 1, cells := 2, slots := 4096, locals := 60 }) (va_Pc [.ref h0, .int 2048, .ref mk] (mPre dC dI cI cJ sz (w0_c_X2_init_2048 cI h0 mk))) (va_Qv (fun _ : Unit => True) (fun (u : Unit) (t : State) => ∃ (q0 q1 : Nat), va_P (dC, dI) vwCl [(h0, .inr (2, [.ref q0, .ref q1, .ref mk, .int 0]))] t.heap ∧ va_D (va_A (w0_c_X2_init_2048 cI h0 mk) sz) [(h0, .inr (2, [.ref q0, .ref q1, .ref mk, .int 0]))]) (va_A (w0_c_X2_init_2048 cI h0 mk) sz)) 2 4096 (va_A (w0_c_X2_init_2048 cI h0 mk) sz) := by
  refine Met.ofW (cc := cX2_init) (maxL := 3) (ret := none) (by decide) rfl ?_
  intro p e s m args below meth c s₁ B hml hv
  obtain ⟨rfl, hsz, hP, hK, hD0, hN⟩ := hv
  have hx := B.exec
  have hb := B.bytes
  have hr := B.returns
  have hts := atoms_spec (ws := wsX2_init) B.pre
  have hown : s.vm.findClass RX2 = some m.cls := findClass_of_methodNamed B.named
  have hlocks := B.notSynchronized
  have hin : meth.name = "<init>" := (name_of_methodNamed B.named B.method).1
  have h_in_X2 : ∀ w ∈ wsX20, w ∈ wsX2_init := fun w h => List.mem_cons_of_mem _ (List.mem_append_right _ h)
  subst hsz
  have hD := hD0.self (sz := s.heap.size)
  generalize hAe : va_A (w0_c_X2_init_2048 cI h0 mk) s.heap.size = A at hD ⊢
  have hA : ∀ q : Nat, s.heap.size ≤ q → A q := fun q h => by rw [← hAe]; exact Or.inr h
  have hS : va_S A s.heap s.heap [] := va_S.rf
  have hP : va_P (dC, dI) vwCl [(h0, .inr (2, [.null, .null, .null, .int 0]))] s.heap := hP
  have hD : va_D A [(h0, .inr (2, [.null, .null, .null, .int 0]))] := hD
  have hl := lv_entry ([.ref h0, .int 2048, .ref mk]) (n := 3) (Nat.le_of_ble_eq_true rfl)
  rw [lg_entry_eq]
  generalize (lg_sl ([.ref h0, .int 2048, .ref mk]) ++ List.replicate (3 - (lg_sl ([.ref h0, .int 2048, .ref mk])).length) Slot.unset).toArray = ls at hl ⊢
  have hl : lv_has ls 3 [(0, .ref h0), (1, .int 2048), (2, .ref mk)] := hl
  refine lv_aload_n hx hb dX2_init_0 rfl (lv_at hl 0 rfl) ?_
  refine W.objInit hx hb hown (hts (.methodLink RX2 3 objectInit) (by decide +kernel)) (hts (.instanceMethod objectInit) (by decide +kernel)) (hts (.code objectInit ⟨#[0xb1]⟩ 1 none) (by decide +kernel)) rfl (by rw [hml]; exact hl.1) rfl dX2_init_1 (Nat.le_of_ble_eq_true rfl) (Nat.le_of_ble_eq_true rfl) ?_
  refine W.eq (g2 := F0 m 4 ls []) rfl ?_
  refine lv_aload_n hx hb dX2_init_4 rfl (lv_at hl 0 rfl) ?_
  refine lv_iload_n hx hb dX2_init_5 rfl (lv_at hl 1 rfl) ?_
  refine lv_iconst (v := 0) hx hb dX2_init_6 (by decide) ?_
  refine va_mmax hx hb (by rw [hml]; exact hl.1.symm) hown (hts (.methodLink RX2 9 Lib.Math.max.name) (by decide +kernel)) (hts (.static Lib.Math.max.name) (by decide +kernel)) (hts (.initialized "java/lang/Math") (by decide +kernel)) (hts (.code Lib.Math.max.name Lib.Math.max.code 2 (some .int)) (by decide +kernel)) (Nat.le_of_ble_eq_true rfl) (Nat.le_of_ble_eq_true rfl) (Nat.le_of_ble_eq_true rfl) (Nat.le_of_ble_eq_true rfl) dX2_init_7 ?_
  refine lv_topi (fun t9 e9 => ?_)
  obtain rfl : t9 = 2048 := e9.trans (by decide)
  refine k_newIx (N' := 2048) (k2 := 1) (n2 := 2048) hx hb (hts (.arrayClass .int) (by decide +kernel)) hK hP hD hS hA (by decide) (by decide) (Nat.le_of_ble_eq_true rfl) (Nat.le_of_ble_eq_true rfl) (Nat.le_of_ble_eq_true rfl) rfl rfl dX2_init_10 (fun q_1 H hP hS => ?_)
  refine va_putF (D := (dC, dI)) (ci := 2) (v := .ref q_1) (ty := (.array .int)) (C := RX2) (T := TX2) (N := 4) hx hb hts h_in_X2 tyX2 tyX2_ok nmX2 hown hK hP hD hS 0 rfl rfl 0 (by decide) (hts (.fieldLink RX2 15 "MatchTrees$Groups" "arms" "[I") (by decide +kernel)) (fun _ h9 => h9) rfl hin rfl (by decide +kernel) rfl rfl (Nat.le_of_ble_eq_true rfl) dX2_init_12 (fun H locs hP hD hS => ?_)
  have hP : va_P (dC, dI) vwCl [(h0, .inr (2, [.ref q_1, .null, .null, .int 0]))] H := hP
  have hD : va_D A [(h0, .inr (2, [.ref q_1, .null, .null, .int 0]))] := hD
  refine lv_aload_n hx hb dX2_init_15 rfl (lv_at hl 0 rfl) ?_
  refine lv_iload_n hx hb dX2_init_16 rfl (lv_at hl 1 rfl) ?_
  refine lv_iconst (v := 0) hx hb dX2_init_17 (by decide) ?_
  refine va_mmax hx hb (by rw [hml]; exact hl.1.symm) hown (hts (.methodLink RX2 9 Lib.Math.max.name) (by decide +kernel)) (hts (.static Lib.Math.max.name) (by decide +kernel)) (hts (.initialized "java/lang/Math") (by decide +kernel)) (hts (.code Lib.Math.max.name Lib.Math.max.code 2 (some .int)) (by decide +kernel)) (Nat.le_of_ble_eq_true rfl) (Nat.le_of_ble_eq_true rfl) (Nat.le_of_ble_eq_true rfl) (Nat.le_of_ble_eq_true rfl) dX2_init_18 ?_
  refine lv_topi (fun t9 e9 => ?_)
  obtain rfl : t9 = 2048 := e9.trans (by decide)
  refine k_newIx (N' := 2048) (k2 := 2) (n2 := 4096) hx hb (hts (.arrayClass .int) (by decide +kernel)) hK hP hD hS hA (by decide) (by decide) (Nat.le_of_ble_eq_true rfl) (Nat.le_of_ble_eq_true rfl) (Nat.le_of_ble_eq_true rfl) rfl rfl dX2_init_21 (fun q_2 H hP hS => ?_)
  refine va_putF (D := (dC, dI)) (ci := 2) (v := .ref q_2) (ty := (.array .int)) (C := RX2) (T := TX2) (N := 4) hx hb hts h_in_X2 tyX2 tyX2_ok nmX2 hown hK hP hD hS 0 rfl rfl 1 (by decide) (hts (.fieldLink RX2 21 "MatchTrees$Groups" "size" "[I") (by decide +kernel)) (fun _ h9 => h9) rfl hin rfl (by decide +kernel) rfl rfl (Nat.le_of_ble_eq_true rfl) dX2_init_23 (fun H locs hP hD hS => ?_)
  have hP : va_P (dC, dI) vwCl [(h0, .inr (2, [.ref q_1, .ref q_2, .null, .int 0]))] H := hP
  have hD : va_D A [(h0, .inr (2, [.ref q_1, .ref q_2, .null, .int 0]))] := hD
  refine lv_aload_n hx hb dX2_init_26 rfl (lv_at hl 0 rfl) ?_
  refine lv_aload_n hx hb dX2_init_27 rfl (lv_at hl 2 rfl) ?_
  refine va_putF (D := (dC, dI)) (ci := 2) (v := .ref mk) (ty := (.object "MatchTrees$Marks")) (C := RX2) (T := TX2) (N := 4) hx hb hts h_in_X2 tyX2 tyX2_ok nmX2 hown hK hP hD hS 0 rfl rfl 2 (by decide) (hts (.fieldLink RX2 24 "MatchTrees$Groups" "marks" "LMatchTrees$Marks;") (by decide +kernel)) (fun _ h9 => h9) rfl hin rfl (by decide +kernel) rfl rfl (Nat.le_of_ble_eq_true rfl) dX2_init_28 (fun H locs hP hD hS => ?_)
  have hP : va_P (dC, dI) vwCl [(h0, .inr (2, [.ref q_1, .ref q_2, .ref mk, .int 0]))] H := hP
  have hD : va_D A [(h0, .inr (2, [.ref q_1, .ref q_2, .ref mk, .int 0]))] := hD
  have hP9 := hP.sub (ws' := [(h0, .inr (2, [.ref q_1, .ref q_2, .ref mk, .int 0]))]) [0] rfl
  have hD9 := hD.sub (ws' := [(h0, .inr (2, [.ref q_1, .ref q_2, .ref mk, .int 0]))]) [0] (by decide) rfl
  exact W.vret hx hb hr (fun t ht hW => ⟨⟨(), rfl, trivial, q_1, q_2, by rw [ht]; exact hP9, hD9⟩, hS.F ht⟩) hS.2.2 dX2_init_31
abbrev w0_c_X1_init_1600 (cI : ClassId) (h0 : Nat) : va_W := [(h0, .inr (1, [.null, .int 0]))]
set_option maxHeartbeats 4000000 in
set_option maxRecDepth 100000 in
theorem c_X1_init_1600 (l : Launch) (dC : Nat → ClassId) (dI : Nat → Nat → Nat) (cI cJ : ClassId) (h0 : Nat) (sz : Nat) : Met l yX1_init wsX1_init ({ frames := 1, cells := 1, slots := 1600, locals := 60 }) (va_Pc [.ref h0, .int 1600] (mPre dC dI cI cJ sz (w0_c_X1_init_1600 cI h0))) (va_Qv (fun _ : Unit => True) (fun (u : Unit) (t : State) => ∃ (q1 : Nat), va_P (dC, dI) vwCl [(h0, .inr (1, [.ref q1, .int 0])), (q1, .inl (cI, 1600, .inl (fun _ => 0)))] t.heap ∧ va_D (va_A (w0_c_X1_init_1600 cI h0) sz) [(h0, .inr (1, [.ref q1, .int 0])), (q1, .inl (cI, 1600, .inl (fun _ => 0)))]) (va_A (w0_c_X1_init_1600 cI h0) sz)) 1 1600 (va_A (w0_c_X1_init_1600 cI h0) sz) := by
  refine Met.ofW (cc := cX1_init) (maxL := 2) (ret := none) (by decide) rfl ?_
  intro p e s m args below meth c s₁ B hml hv
  obtain ⟨rfl, hsz, hP, hK, hD0, hN⟩ := hv
  have hx := B.exec
  have hb := B.bytes
  have hr := B.returns
  have hts := atoms_spec (ws := wsX1_init) B.pre
  have hown : s.vm.findClass RX1 = some m.cls := findClass_of_methodNamed B.named
  have hlocks := B.notSynchronized
  have hin : meth.name = "<init>" := (name_of_methodNamed B.named B.method).1
  have h_in_X1 : ∀ w ∈ wsX10, w ∈ wsX1_init := fun w h => List.mem_cons_of_mem _ (List.mem_append_right _ h)
  subst hsz
  have hD := hD0.self (sz := s.heap.size)
  generalize hAe : va_A (w0_c_X1_init_1600 cI h0) s.heap.size = A at hD ⊢
  have hA : ∀ q : Nat, s.heap.size ≤ q → A q := fun q h => by rw [← hAe]; exact Or.inr h
  have hS : va_S A s.heap s.heap [] := va_S.rf
  have hP : va_P (dC, dI) vwCl [(h0, .inr (1, [.null, .int 0]))] s.heap := hP
  have hD : va_D A [(h0, .inr (1, [.null, .int 0]))] := hD
  have hl := lv_entry ([.ref h0, .int 1600]) (n := 2) (Nat.le_of_ble_eq_true rfl)
  rw [lg_entry_eq]
  generalize (lg_sl ([.ref h0, .int 1600]) ++ List.replicate (2 - (lg_sl ([.ref h0, .int 1600])).length) Slot.unset).toArray = ls at hl ⊢
  have hl : lv_has ls 2 [(0, .ref h0), (1, .int 1600)] := hl
  refine lv_aload_n hx hb dX1_init_0 rfl (lv_at hl 0 rfl) ?_
  refine W.objInit hx hb hown (hts (.methodLink RX1 3 objectInit) (by decide +kernel)) (hts (.instanceMethod objectInit) (by decide +kernel)) (hts (.code objectInit ⟨#[0xb1]⟩ 1 none) (by decide +kernel)) rfl (by rw [hml]; exact hl.1) rfl dX1_init_1 (Nat.le_of_ble_eq_true rfl) (Nat.le_of_ble_eq_true rfl) ?_
  refine W.eq (g2 := F0 m 4 ls []) rfl ?_
  refine lv_aload_n hx hb dX1_init_4 rfl (lv_at hl 0 rfl) ?_
  refine lv_iload_n hx hb dX1_init_5 rfl (lv_at hl 1 rfl) ?_
  refine lv_iconst (v := 0) hx hb dX1_init_6 (by decide) ?_
  refine va_mmax hx hb (by rw [hml]; exact hl.1.symm) hown (hts (.methodLink RX1 9 Lib.Math.max.name) (by decide +kernel)) (hts (.static Lib.Math.max.name) (by decide +kernel)) (hts (.initialized "java/lang/Math") (by decide +kernel)) (hts (.code Lib.Math.max.name Lib.Math.max.code 2 (some .int)) (by decide +kernel)) (Nat.le_of_ble_eq_true rfl) (Nat.le_of_ble_eq_true rfl) (Nat.le_of_ble_eq_true rfl) (Nat.le_of_ble_eq_true rfl) dX1_init_7 ?_
  refine lv_topi (fun t9 e9 => ?_)
  obtain rfl : t9 = 1600 := e9.trans (by decide)
  refine k_newI (N' := 1600) (k2 := 1) (n2 := 1600) hx hb (hts (.arrayClass .int) (by decide +kernel)) hK hP hD hS hA (by decide) (by decide) (Nat.le_of_ble_eq_true rfl) (Nat.le_of_ble_eq_true rfl) (Nat.le_of_ble_eq_true rfl) rfl rfl dX1_init_10 (fun q_1 H hP hD hS => ?_)
  have hP : va_P (dC, dI) vwCl [(h0, .inr (1, [.null, .int 0])), (q_1, .inl (cI, 1600, .inl (fun _ => 0)))] H := hP
  have hD : va_D A [(h0, .inr (1, [.null, .int 0])), (q_1, .inl (cI, 1600, .inl (fun _ => 0)))] := hD
  refine va_putF (D := (dC, dI)) (ci := 1) (v := .ref q_1) (ty := (.array .int)) (C := RX1) (T := TX1) (N := 2) hx hb hts h_in_X1 tyX1 tyX1_ok nmX1 hown hK hP hD hS 0 rfl rfl 0 (by decide) (hts (.fieldLink RX1 15 "MatchTrees$Bytes" "bytes" "[I") (by decide +kernel)) (fun _ h9 => h9) rfl hin rfl (by decide +kernel) rfl rfl (Nat.le_of_ble_eq_true rfl) dX1_init_12 (fun H locs hP hD hS => ?_)
  have hP : va_P (dC, dI) vwCl [(h0, .inr (1, [.ref q_1, .int 0])), (q_1, .inl (cI, 1600, .inl (fun _ => 0)))] H := hP
  have hD : va_D A [(h0, .inr (1, [.ref q_1, .int 0])), (q_1, .inl (cI, 1600, .inl (fun _ => 0)))] := hD
  have hP9 := hP.sub (ws' := [(h0, .inr (1, [.ref q_1, .int 0])), (q_1, .inl (cI, 1600, .inl (fun _ => 0)))]) [0, 1] rfl
  have hD9 := hD.sub (ws' := [(h0, .inr (1, [.ref q_1, .int 0])), (q_1, .inl (cI, 1600, .inl (fun _ => 0)))]) [0, 1] (by decide) rfl
  exact W.vret hx hb hr (fun t ht hW => ⟨⟨(), rfl, trivial, q_1, by rw [ht]; exact hP9, hD9⟩, hS.F ht⟩) hS.2.2 dX1_init_15
abbrev w0_c_X1_init_1024 (cI : ClassId) (h0 : Nat) : va_W := [(h0, .inr (1, [.null, .int 0]))]
set_option maxHeartbeats 4000000 in
set_option maxRecDepth 100000 in
theorem c_X1_init_1024 (l : Launch) (dC : Nat → ClassId) (dI : Nat → Nat → Nat) (cI cJ : ClassId) (h0 : Nat) (sz : Nat) : Met l yX1_init wsX1_init ({ frames := 1, cells := 1, slots := 1024, locals := 60 }) (va_Pc [.ref h0, .int 1024] (mPre dC dI cI cJ sz (w0_c_X1_init_1024 cI h0))) (va_Qv (fun _ : Unit => True) (fun (u : Unit) (t : State) => ∃ (q1 : Nat), va_P (dC, dI) vwCl [(h0, .inr (1, [.ref q1, .int 0])), (q1, .inl (cI, 1024, .inl (fun _ => 0)))] t.heap ∧ va_D (va_A (w0_c_X1_init_1024 cI h0) sz) [(h0, .inr (1, [.ref q1, .int 0])), (q1, .inl (cI, 1024, .inl (fun _ => 0)))]) (va_A (w0_c_X1_init_1024 cI h0) sz)) 1 1024 (va_A (w0_c_X1_init_1024 cI h0) sz) := by
  refine Met.ofW (cc := cX1_init) (maxL := 2) (ret := none) (by decide) rfl ?_
  intro p e s m args below meth c s₁ B hml hv
  obtain ⟨rfl, hsz, hP, hK, hD0, hN⟩ := hv
  have hx := B.exec
  have hb := B.bytes
  have hr := B.returns
  have hts := atoms_spec (ws := wsX1_init) B.pre
  have hown : s.vm.findClass RX1 = some m.cls := findClass_of_methodNamed B.named
  have hlocks := B.notSynchronized
  have hin : meth.name = "<init>" := (name_of_methodNamed B.named B.method).1
  have h_in_X1 : ∀ w ∈ wsX10, w ∈ wsX1_init := fun w h => List.mem_cons_of_mem _ (List.mem_append_right _ h)
  subst hsz
  have hD := hD0.self (sz := s.heap.size)
  generalize hAe : va_A (w0_c_X1_init_1024 cI h0) s.heap.size = A at hD ⊢
  have hA : ∀ q : Nat, s.heap.size ≤ q → A q := fun q h => by rw [← hAe]; exact Or.inr h
  have hS : va_S A s.heap s.heap [] := va_S.rf
  have hP : va_P (dC, dI) vwCl [(h0, .inr (1, [.null, .int 0]))] s.heap := hP
  have hD : va_D A [(h0, .inr (1, [.null, .int 0]))] := hD
  have hl := lv_entry ([.ref h0, .int 1024]) (n := 2) (Nat.le_of_ble_eq_true rfl)
  rw [lg_entry_eq]
  generalize (lg_sl ([.ref h0, .int 1024]) ++ List.replicate (2 - (lg_sl ([.ref h0, .int 1024])).length) Slot.unset).toArray = ls at hl ⊢
  have hl : lv_has ls 2 [(0, .ref h0), (1, .int 1024)] := hl
  refine lv_aload_n hx hb dX1_init_0 rfl (lv_at hl 0 rfl) ?_
  refine W.objInit hx hb hown (hts (.methodLink RX1 3 objectInit) (by decide +kernel)) (hts (.instanceMethod objectInit) (by decide +kernel)) (hts (.code objectInit ⟨#[0xb1]⟩ 1 none) (by decide +kernel)) rfl (by rw [hml]; exact hl.1) rfl dX1_init_1 (Nat.le_of_ble_eq_true rfl) (Nat.le_of_ble_eq_true rfl) ?_
  refine W.eq (g2 := F0 m 4 ls []) rfl ?_
  refine lv_aload_n hx hb dX1_init_4 rfl (lv_at hl 0 rfl) ?_
  refine lv_iload_n hx hb dX1_init_5 rfl (lv_at hl 1 rfl) ?_
  refine lv_iconst (v := 0) hx hb dX1_init_6 (by decide) ?_
  refine va_mmax hx hb (by rw [hml]; exact hl.1.symm) hown (hts (.methodLink RX1 9 Lib.Math.max.name) (by decide +kernel)) (hts (.static Lib.Math.max.name) (by decide +kernel)) (hts (.initialized "java/lang/Math") (by decide +kernel)) (hts (.code Lib.Math.max.name Lib.Math.max.code 2 (some .int)) (by decide +kernel)) (Nat.le_of_ble_eq_true rfl) (Nat.le_of_ble_eq_true rfl) (Nat.le_of_ble_eq_true rfl) (Nat.le_of_ble_eq_true rfl) dX1_init_7 ?_
  refine lv_topi (fun t9 e9 => ?_)
  obtain rfl : t9 = 1024 := e9.trans (by decide)
  refine k_newI (N' := 1024) (k2 := 1) (n2 := 1024) hx hb (hts (.arrayClass .int) (by decide +kernel)) hK hP hD hS hA (by decide) (by decide) (Nat.le_of_ble_eq_true rfl) (Nat.le_of_ble_eq_true rfl) (Nat.le_of_ble_eq_true rfl) rfl rfl dX1_init_10 (fun q_1 H hP hD hS => ?_)
  have hP : va_P (dC, dI) vwCl [(h0, .inr (1, [.null, .int 0])), (q_1, .inl (cI, 1024, .inl (fun _ => 0)))] H := hP
  have hD : va_D A [(h0, .inr (1, [.null, .int 0])), (q_1, .inl (cI, 1024, .inl (fun _ => 0)))] := hD
  refine va_putF (D := (dC, dI)) (ci := 1) (v := .ref q_1) (ty := (.array .int)) (C := RX1) (T := TX1) (N := 2) hx hb hts h_in_X1 tyX1 tyX1_ok nmX1 hown hK hP hD hS 0 rfl rfl 0 (by decide) (hts (.fieldLink RX1 15 "MatchTrees$Bytes" "bytes" "[I") (by decide +kernel)) (fun _ h9 => h9) rfl hin rfl (by decide +kernel) rfl rfl (Nat.le_of_ble_eq_true rfl) dX1_init_12 (fun H locs hP hD hS => ?_)
  have hP : va_P (dC, dI) vwCl [(h0, .inr (1, [.ref q_1, .int 0])), (q_1, .inl (cI, 1024, .inl (fun _ => 0)))] H := hP
  have hD : va_D A [(h0, .inr (1, [.ref q_1, .int 0])), (q_1, .inl (cI, 1024, .inl (fun _ => 0)))] := hD
  have hP9 := hP.sub (ws' := [(h0, .inr (1, [.ref q_1, .int 0])), (q_1, .inl (cI, 1024, .inl (fun _ => 0)))]) [0, 1] rfl
  have hD9 := hD.sub (ws' := [(h0, .inr (1, [.ref q_1, .int 0])), (q_1, .inl (cI, 1024, .inl (fun _ => 0)))]) [0, 1] (by decide) rfl
  exact W.vret hx hb hr (fun t ht hW => ⟨⟨(), rfl, trivial, q_1, by rw [ht]; exact hP9, hD9⟩, hS.F ht⟩) hS.2.2 dX1_init_15
abbrev w0_c_X3_init (cI : ClassId) (h0 : Nat) : va_W := [(h0, .inr (3, [.null, .null, .null, .null, .null, .null, .null, .null, .null, .int 0, .int 0]))]
set_option maxHeartbeats 4000000 in
set_option maxRecDepth 100000 in
theorem c_X3_init (l : Launch) (dC : Nat → ClassId) (dI : Nat → Nat → Nat) (cI cJ : ClassId) (h0 : Nat) (sz : Nat) : Met l yX3_init wsX3_init ({ frames := 1, cells := 9, slots := 136, locals := 60 }) (va_Pc [.ref h0] (mPre dC dI cI cJ sz (w0_c_X3_init cI h0))) (va_Qv (fun _ : Unit => True) (fun (u : Unit) (t : State) => ∃ (q0 q1 q2 q3 q4 q5 q6 q7 q8 : Nat), va_P (dC, dI) vwCl [(h0, .inr (3, [.ref q0, .ref q1, .ref q2, .ref q3, .ref q4, .ref q5, .ref q6, .ref q7, .ref q8, .int 0, .int 0]))] t.heap ∧ va_D (va_A (w0_c_X3_init cI h0) sz) [(h0, .inr (3, [.ref q0, .ref q1, .ref q2, .ref q3, .ref q4, .ref q5, .ref q6, .ref q7, .ref q8, .int 0, .int 0]))]) (va_A (w0_c_X3_init cI h0) sz)) 9 136 (va_A (w0_c_X3_init cI h0) sz) := by
  refine Met.ofW (cc := cX3_init) (maxL := 1) (ret := none) (by decide) rfl ?_
  intro p e s m args below meth c s₁ B hml hv
  obtain ⟨rfl, hsz, hP, hK, hD0, hN⟩ := hv
  have hx := B.exec
  have hb := B.bytes
  have hr := B.returns
  have hts := atoms_spec (ws := wsX3_init) B.pre
  have hown : s.vm.findClass RX3 = some m.cls := findClass_of_methodNamed B.named
  have hlocks := B.notSynchronized
  have hin : meth.name = "<init>" := (name_of_methodNamed B.named B.method).1
  have h_in_X3 : ∀ w ∈ wsX30, w ∈ wsX3_init := fun w h => List.mem_cons_of_mem _ (List.mem_append_right _ h)
  subst hsz
  have hD := hD0.self (sz := s.heap.size)
  generalize hAe : va_A (w0_c_X3_init cI h0) s.heap.size = A at hD ⊢
  have hA : ∀ q : Nat, s.heap.size ≤ q → A q := fun q h => by rw [← hAe]; exact Or.inr h
  have hS : va_S A s.heap s.heap [] := va_S.rf
  have hP : va_P (dC, dI) vwCl [(h0, .inr (3, [.null, .null, .null, .null, .null, .null, .null, .null, .null, .int 0, .int 0]))] s.heap := hP
  have hD : va_D A [(h0, .inr (3, [.null, .null, .null, .null, .null, .null, .null, .null, .null, .int 0, .int 0]))] := hD
  have hl := lv_entry ([.ref h0]) (n := 1) (Nat.le_of_ble_eq_true rfl)
  rw [lg_entry_eq]
  generalize (lg_sl ([.ref h0]) ++ List.replicate (1 - (lg_sl ([.ref h0])).length) Slot.unset).toArray = ls at hl ⊢
  have hl : lv_has ls 1 [(0, .ref h0)] := hl
  refine lv_aload_n hx hb dX3_init_0 rfl (lv_at hl 0 rfl) ?_
  refine W.objInit hx hb hown (hts (.methodLink RX3 3 objectInit) (by decide +kernel)) (hts (.instanceMethod objectInit) (by decide +kernel)) (hts (.code objectInit ⟨#[0xb1]⟩ 1 none) (by decide +kernel)) rfl (by rw [hml]; exact hl.1) rfl dX3_init_1 (Nat.le_of_ble_eq_true rfl) (Nat.le_of_ble_eq_true rfl) ?_
  refine W.eq (g2 := F0 m 4 ls []) rfl ?_
  refine lv_aload_n hx hb dX3_init_4 rfl (lv_at hl 0 rfl) ?_
  refine lv_iconst (v := 4) hx hb dX3_init_5 (by decide) ?_
  refine k_newIx (N' := 4) (k2 := 1) (n2 := 4) hx hb (hts (.arrayClass .int) (by decide +kernel)) hK hP hD hS hA (by decide) (by decide) (Nat.le_of_ble_eq_true rfl) (Nat.le_of_ble_eq_true rfl) (Nat.le_of_ble_eq_true rfl) rfl rfl dX3_init_6 (fun q_1 H hP hS => ?_)
  refine va_putF (D := (dC, dI)) (ci := 3) (v := .ref q_1) (ty := (.array .int)) (C := RX3) (T := TX3) (N := 11) hx hb hts h_in_X3 tyX3 tyX3_ok nmX3 hown hK hP hD hS 0 rfl rfl 0 (by decide) (hts (.fieldLink RX3 9 "MatchTrees$Kinds" "kindName" "[I") (by decide +kernel)) (fun _ h9 => h9) rfl hin rfl (by decide +kernel) rfl rfl (Nat.le_of_ble_eq_true rfl) dX3_init_8 (fun H locs hP hD hS => ?_)
  have hP : va_P (dC, dI) vwCl [(h0, .inr (3, [.ref q_1, .null, .null, .null, .null, .null, .null, .null, .null, .int 0, .int 0]))] H := hP
  have hD : va_D A [(h0, .inr (3, [.ref q_1, .null, .null, .null, .null, .null, .null, .null, .null, .int 0, .int 0]))] := hD
  refine lv_aload_n hx hb dX3_init_11 rfl (lv_at hl 0 rfl) ?_
  refine lv_iconst (v := 4) hx hb dX3_init_12 (by decide) ?_
  refine k_newIx (N' := 4) (k2 := 2) (n2 := 8) hx hb (hts (.arrayClass .int) (by decide +kernel)) hK hP hD hS hA (by decide) (by decide) (Nat.le_of_ble_eq_true rfl) (Nat.le_of_ble_eq_true rfl) (Nat.le_of_ble_eq_true rfl) rfl rfl dX3_init_13 (fun q_2 H hP hS => ?_)
  refine va_putF (D := (dC, dI)) (ci := 3) (v := .ref q_2) (ty := (.array .int)) (C := RX3) (T := TX3) (N := 11) hx hb hts h_in_X3 tyX3 tyX3_ok nmX3 hown hK hP hD hS 0 rfl rfl 1 (by decide) (hts (.fieldLink RX3 15 "MatchTrees$Kinds" "firstCon" "[I") (by decide +kernel)) (fun _ h9 => h9) rfl hin rfl (by decide +kernel) rfl rfl (Nat.le_of_ble_eq_true rfl) dX3_init_15 (fun H locs hP hD hS => ?_)
  have hP : va_P (dC, dI) vwCl [(h0, .inr (3, [.ref q_1, .ref q_2, .null, .null, .null, .null, .null, .null, .null, .int 0, .int 0]))] H := hP
  have hD : va_D A [(h0, .inr (3, [.ref q_1, .ref q_2, .null, .null, .null, .null, .null, .null, .null, .int 0, .int 0]))] := hD
  refine lv_aload_n hx hb dX3_init_18 rfl (lv_at hl 0 rfl) ?_
  refine lv_iconst (v := 4) hx hb dX3_init_19 (by decide) ?_
  refine k_newIx (N' := 4) (k2 := 3) (n2 := 12) hx hb (hts (.arrayClass .int) (by decide +kernel)) hK hP hD hS hA (by decide) (by decide) (Nat.le_of_ble_eq_true rfl) (Nat.le_of_ble_eq_true rfl) (Nat.le_of_ble_eq_true rfl) rfl rfl dX3_init_20 (fun q_3 H hP hS => ?_)
  refine va_putF (D := (dC, dI)) (ci := 3) (v := .ref q_3) (ty := (.array .int)) (C := RX3) (T := TX3) (N := 11) hx hb hts h_in_X3 tyX3 tyX3_ok nmX3 hown hK hP hD hS 0 rfl rfl 2 (by decide) (hts (.fieldLink RX3 18 "MatchTrees$Kinds" "conCount" "[I") (by decide +kernel)) (fun _ h9 => h9) rfl hin rfl (by decide +kernel) rfl rfl (Nat.le_of_ble_eq_true rfl) dX3_init_22 (fun H locs hP hD hS => ?_)
  have hP : va_P (dC, dI) vwCl [(h0, .inr (3, [.ref q_1, .ref q_2, .ref q_3, .null, .null, .null, .null, .null, .null, .int 0, .int 0]))] H := hP
  have hD : va_D A [(h0, .inr (3, [.ref q_1, .ref q_2, .ref q_3, .null, .null, .null, .null, .null, .null, .int 0, .int 0]))] := hD
  refine lv_aload_n hx hb dX3_init_25 rfl (lv_at hl 0 rfl) ?_
  refine lv_iconst (v := 4) hx hb dX3_init_26 (by decide) ?_
  refine k_newIx (N' := 4) (k2 := 4) (n2 := 16) hx hb (hts (.arrayClass .int) (by decide +kernel)) hK hP hD hS hA (by decide) (by decide) (Nat.le_of_ble_eq_true rfl) (Nat.le_of_ble_eq_true rfl) (Nat.le_of_ble_eq_true rfl) rfl rfl dX3_init_27 (fun q_4 H hP hS => ?_)
  refine va_putF (D := (dC, dI)) (ci := 3) (v := .ref q_4) (ty := (.array .int)) (C := RX3) (T := TX3) (N := 11) hx hb hts h_in_X3 tyX3 tyX3_ok nmX3 hown hK hP hD hS 0 rfl rfl 3 (by decide) (hts (.fieldLink RX3 21 "MatchTrees$Kinds" "size" "[I") (by decide +kernel)) (fun _ h9 => h9) rfl hin rfl (by decide +kernel) rfl rfl (Nat.le_of_ble_eq_true rfl) dX3_init_29 (fun H locs hP hD hS => ?_)
  have hP : va_P (dC, dI) vwCl [(h0, .inr (3, [.ref q_1, .ref q_2, .ref q_3, .ref q_4, .null, .null, .null, .null, .null, .int 0, .int 0]))] H := hP
  have hD : va_D A [(h0, .inr (3, [.ref q_1, .ref q_2, .ref q_3, .ref q_4, .null, .null, .null, .null, .null, .int 0, .int 0]))] := hD
  refine lv_aload_n hx hb dX3_init_32 rfl (lv_at hl 0 rfl) ?_
  refine lv_bipush (v := 24) hx hb dX3_init_33 (by decide) ?_
  refine k_newIx (N' := 24) (k2 := 5) (n2 := 40) hx hb (hts (.arrayClass .int) (by decide +kernel)) hK hP hD hS hA (by decide) (by decide) (Nat.le_of_ble_eq_true rfl) (Nat.le_of_ble_eq_true rfl) (Nat.le_of_ble_eq_true rfl) rfl rfl dX3_init_35 (fun q_5 H hP hS => ?_)
  refine va_putF (D := (dC, dI)) (ci := 3) (v := .ref q_5) (ty := (.array .int)) (C := RX3) (T := TX3) (N := 11) hx hb hts h_in_X3 tyX3 tyX3_ok nmX3 hown hK hP hD hS 0 rfl rfl 4 (by decide) (hts (.fieldLink RX3 24 "MatchTrees$Kinds" "conName" "[I") (by decide +kernel)) (fun _ h9 => h9) rfl hin rfl (by decide +kernel) rfl rfl (Nat.le_of_ble_eq_true rfl) dX3_init_37 (fun H locs hP hD hS => ?_)
  have hP : va_P (dC, dI) vwCl [(h0, .inr (3, [.ref q_1, .ref q_2, .ref q_3, .ref q_4, .ref q_5, .null, .null, .null, .null, .int 0, .int 0]))] H := hP
  have hD : va_D A [(h0, .inr (3, [.ref q_1, .ref q_2, .ref q_3, .ref q_4, .ref q_5, .null, .null, .null, .null, .int 0, .int 0]))] := hD
  refine lv_aload_n hx hb dX3_init_40 rfl (lv_at hl 0 rfl) ?_
  refine lv_bipush (v := 24) hx hb dX3_init_41 (by decide) ?_
  refine k_newIx (N' := 24) (k2 := 6) (n2 := 64) hx hb (hts (.arrayClass .int) (by decide +kernel)) hK hP hD hS hA (by decide) (by decide) (Nat.le_of_ble_eq_true rfl) (Nat.le_of_ble_eq_true rfl) (Nat.le_of_ble_eq_true rfl) rfl rfl dX3_init_43 (fun q_6 H hP hS => ?_)
  refine va_putF (D := (dC, dI)) (ci := 3) (v := .ref q_6) (ty := (.array .int)) (C := RX3) (T := TX3) (N := 11) hx hb hts h_in_X3 tyX3 tyX3_ok nmX3 hown hK hP hD hS 0 rfl rfl 5 (by decide) (hts (.fieldLink RX3 27 "MatchTrees$Kinds" "base" "[I") (by decide +kernel)) (fun _ h9 => h9) rfl hin rfl (by decide +kernel) rfl rfl (Nat.le_of_ble_eq_true rfl) dX3_init_45 (fun H locs hP hD hS => ?_)
  have hP : va_P (dC, dI) vwCl [(h0, .inr (3, [.ref q_1, .ref q_2, .ref q_3, .ref q_4, .ref q_5, .ref q_6, .null, .null, .null, .int 0, .int 0]))] H := hP
  have hD : va_D A [(h0, .inr (3, [.ref q_1, .ref q_2, .ref q_3, .ref q_4, .ref q_5, .ref q_6, .null, .null, .null, .int 0, .int 0]))] := hD
  refine lv_aload_n hx hb dX3_init_48 rfl (lv_at hl 0 rfl) ?_
  refine lv_bipush (v := 24) hx hb dX3_init_49 (by decide) ?_
  refine k_newIx (N' := 24) (k2 := 7) (n2 := 88) hx hb (hts (.arrayClass .int) (by decide +kernel)) hK hP hD hS hA (by decide) (by decide) (Nat.le_of_ble_eq_true rfl) (Nat.le_of_ble_eq_true rfl) (Nat.le_of_ble_eq_true rfl) rfl rfl dX3_init_51 (fun q_7 H hP hS => ?_)
  refine va_putF (D := (dC, dI)) (ci := 3) (v := .ref q_7) (ty := (.array .int)) (C := RX3) (T := TX3) (N := 11) hx hb hts h_in_X3 tyX3 tyX3_ok nmX3 hown hK hP hD hS 0 rfl rfl 6 (by decide) (hts (.fieldLink RX3 30 "MatchTrees$Kinds" "fields" "[I") (by decide +kernel)) (fun _ h9 => h9) rfl hin rfl (by decide +kernel) rfl rfl (Nat.le_of_ble_eq_true rfl) dX3_init_53 (fun H locs hP hD hS => ?_)
  have hP : va_P (dC, dI) vwCl [(h0, .inr (3, [.ref q_1, .ref q_2, .ref q_3, .ref q_4, .ref q_5, .ref q_6, .ref q_7, .null, .null, .int 0, .int 0]))] H := hP
  have hD : va_D A [(h0, .inr (3, [.ref q_1, .ref q_2, .ref q_3, .ref q_4, .ref q_5, .ref q_6, .ref q_7, .null, .null, .int 0, .int 0]))] := hD
  refine lv_aload_n hx hb dX3_init_56 rfl (lv_at hl 0 rfl) ?_
  refine lv_bipush (v := 24) hx hb dX3_init_57 (by decide) ?_
  refine k_newIx (N' := 24) (k2 := 8) (n2 := 112) hx hb (hts (.arrayClass .int) (by decide +kernel)) hK hP hD hS hA (by decide) (by decide) (Nat.le_of_ble_eq_true rfl) (Nat.le_of_ble_eq_true rfl) (Nat.le_of_ble_eq_true rfl) rfl rfl dX3_init_59 (fun q_8 H hP hS => ?_)
  refine va_putF (D := (dC, dI)) (ci := 3) (v := .ref q_8) (ty := (.array .int)) (C := RX3) (T := TX3) (N := 11) hx hb hts h_in_X3 tyX3 tyX3_ok nmX3 hown hK hP hD hS 0 rfl rfl 7 (by decide) (hts (.fieldLink RX3 33 "MatchTrees$Kinds" "fieldA" "[I") (by decide +kernel)) (fun _ h9 => h9) rfl hin rfl (by decide +kernel) rfl rfl (Nat.le_of_ble_eq_true rfl) dX3_init_61 (fun H locs hP hD hS => ?_)
  have hP : va_P (dC, dI) vwCl [(h0, .inr (3, [.ref q_1, .ref q_2, .ref q_3, .ref q_4, .ref q_5, .ref q_6, .ref q_7, .ref q_8, .null, .int 0, .int 0]))] H := hP
  have hD : va_D A [(h0, .inr (3, [.ref q_1, .ref q_2, .ref q_3, .ref q_4, .ref q_5, .ref q_6, .ref q_7, .ref q_8, .null, .int 0, .int 0]))] := hD
  refine lv_aload_n hx hb dX3_init_64 rfl (lv_at hl 0 rfl) ?_
  refine lv_bipush (v := 24) hx hb dX3_init_65 (by decide) ?_
  refine k_newIx (N' := 24) (k2 := 9) (n2 := 136) hx hb (hts (.arrayClass .int) (by decide +kernel)) hK hP hD hS hA (by decide) (by decide) (Nat.le_of_ble_eq_true rfl) (Nat.le_of_ble_eq_true rfl) (Nat.le_of_ble_eq_true rfl) rfl rfl dX3_init_67 (fun q_9 H hP hS => ?_)
  refine va_putF (D := (dC, dI)) (ci := 3) (v := .ref q_9) (ty := (.array .int)) (C := RX3) (T := TX3) (N := 11) hx hb hts h_in_X3 tyX3 tyX3_ok nmX3 hown hK hP hD hS 0 rfl rfl 8 (by decide) (hts (.fieldLink RX3 36 "MatchTrees$Kinds" "fieldB" "[I") (by decide +kernel)) (fun _ h9 => h9) rfl hin rfl (by decide +kernel) rfl rfl (Nat.le_of_ble_eq_true rfl) dX3_init_69 (fun H locs hP hD hS => ?_)
  have hP : va_P (dC, dI) vwCl [(h0, .inr (3, [.ref q_1, .ref q_2, .ref q_3, .ref q_4, .ref q_5, .ref q_6, .ref q_7, .ref q_8, .ref q_9, .int 0, .int 0]))] H := hP
  have hD : va_D A [(h0, .inr (3, [.ref q_1, .ref q_2, .ref q_3, .ref q_4, .ref q_5, .ref q_6, .ref q_7, .ref q_8, .ref q_9, .int 0, .int 0]))] := hD
  have hP9 := hP.sub (ws' := [(h0, .inr (3, [.ref q_1, .ref q_2, .ref q_3, .ref q_4, .ref q_5, .ref q_6, .ref q_7, .ref q_8, .ref q_9, .int 0, .int 0]))]) [0] rfl
  have hD9 := hD.sub (ws' := [(h0, .inr (3, [.ref q_1, .ref q_2, .ref q_3, .ref q_4, .ref q_5, .ref q_6, .ref q_7, .ref q_8, .ref q_9, .int 0, .int 0]))]) [0] (by decide) rfl
  exact W.vret hx hb hr (fun t ht hW => ⟨⟨(), rfl, trivial, q_1, q_2, q_3, q_4, q_5, q_6, q_7, q_8, q_9, by rw [ht]; exact hP9, hD9⟩, hS.F ht⟩) hS.2.2 dX3_init_72
abbrev w0_c_X8_init (cI : ClassId) (h0 : Nat) : va_W := [(h0, .inr (8, [.null, .null, .int 0, .null, .int 0, .null]))]
set_option maxHeartbeats 4000000 in
set_option maxRecDepth 100000 in
theorem c_X8_init (l : Launch) (dC : Nat → ClassId) (dI : Nat → Nat → Nat) (cI cJ : ClassId) (h0 : Nat) (sz : Nat) : Met l yX8_init wsX8_init ({ frames := 1, cells := 4, slots := 301, locals := 60 }) (va_Pc [.ref h0] (mPre dC dI cI cJ sz (w0_c_X8_init cI h0))) (va_Qv (fun _ : Unit => True) (fun (u : Unit) (t : State) => ∃ (q0 q1 q2 q3 : Nat), va_P (dC, dI) vwCl [(h0, .inr (8, [.ref q0, .ref q1, .int 0, .ref q2, .int 0, .ref q3]))] t.heap ∧ va_D (va_A (w0_c_X8_init cI h0) sz) [(h0, .inr (8, [.ref q0, .ref q1, .int 0, .ref q2, .int 0, .ref q3]))]) (va_A (w0_c_X8_init cI h0) sz)) 4 301 (va_A (w0_c_X8_init cI h0) sz) := by
  refine Met.ofW (cc := cX8_init) (maxL := 1) (ret := none) (by decide) rfl ?_
  intro p e s m args below meth c s₁ B hml hv
  obtain ⟨rfl, hsz, hP, hK, hD0, hN⟩ := hv
  have hx := B.exec
  have hb := B.bytes
  have hr := B.returns
  have hts := atoms_spec (ws := wsX8_init) B.pre
  have hown : s.vm.findClass RX8 = some m.cls := findClass_of_methodNamed B.named
  have hlocks := B.notSynchronized
  have hin : meth.name = "<init>" := (name_of_methodNamed B.named B.method).1
  have h_in_X8 : ∀ w ∈ wsX80, w ∈ wsX8_init := fun w h => List.mem_cons_of_mem _ (List.mem_append_right _ h)
  subst hsz
  have hD := hD0.self (sz := s.heap.size)
  generalize hAe : va_A (w0_c_X8_init cI h0) s.heap.size = A at hD ⊢
  have hA : ∀ q : Nat, s.heap.size ≤ q → A q := fun q h => by rw [← hAe]; exact Or.inr h
  have hS : va_S A s.heap s.heap [] := va_S.rf
  have hP : va_P (dC, dI) vwCl [(h0, .inr (8, [.null, .null, .int 0, .null, .int 0, .null]))] s.heap := hP
  have hD : va_D A [(h0, .inr (8, [.null, .null, .int 0, .null, .int 0, .null]))] := hD
  have hl := lv_entry ([.ref h0]) (n := 1) (Nat.le_of_ble_eq_true rfl)
  rw [lg_entry_eq]
  generalize (lg_sl ([.ref h0]) ++ List.replicate (1 - (lg_sl ([.ref h0])).length) Slot.unset).toArray = ls at hl ⊢
  have hl : lv_has ls 1 [(0, .ref h0)] := hl
  refine lv_aload_n hx hb dX8_init_0 rfl (lv_at hl 0 rfl) ?_
  refine W.objInit hx hb hown (hts (.methodLink RX8 3 objectInit) (by decide +kernel)) (hts (.instanceMethod objectInit) (by decide +kernel)) (hts (.code objectInit ⟨#[0xb1]⟩ 1 none) (by decide +kernel)) rfl (by rw [hml]; exact hl.1) rfl dX8_init_1 (Nat.le_of_ble_eq_true rfl) (Nat.le_of_ble_eq_true rfl) ?_
  refine W.eq (g2 := F0 m 4 ls []) rfl ?_
  refine lv_aload_n hx hb dX8_init_4 rfl (lv_at hl 0 rfl) ?_
  refine lv_bipush (v := 16) hx hb dX8_init_5 (by decide) ?_
  refine k_newIx (N' := 16) (k2 := 1) (n2 := 16) hx hb (hts (.arrayClass .int) (by decide +kernel)) hK hP hD hS hA (by decide) (by decide) (Nat.le_of_ble_eq_true rfl) (Nat.le_of_ble_eq_true rfl) (Nat.le_of_ble_eq_true rfl) rfl rfl dX8_init_7 (fun q_1 H hP hS => ?_)
  refine va_putF (D := (dC, dI)) (ci := 8) (v := .ref q_1) (ty := (.array .int)) (C := RX8) (T := TX8) (N := 6) hx hb hts h_in_X8 tyX8 tyX8_ok nmX8 hown hK hP hD hS 0 rfl rfl 0 (by decide) (hts (.fieldLink RX8 9 "MatchTrees$Seen" "row" "[I") (by decide +kernel)) (fun _ h9 => h9) rfl hin rfl (by decide +kernel) rfl rfl (Nat.le_of_ble_eq_true rfl) dX8_init_9 (fun H locs hP hD hS => ?_)
  have hP : va_P (dC, dI) vwCl [(h0, .inr (8, [.ref q_1, .null, .int 0, .null, .int 0, .null]))] H := hP
  have hD : va_D A [(h0, .inr (8, [.ref q_1, .null, .int 0, .null, .int 0, .null]))] := hD
  refine lv_aload_n hx hb dX8_init_12 rfl (lv_at hl 0 rfl) ?_
  refine lv_bipush (v := 16) hx hb dX8_init_13 (by decide) ?_
  refine k_newIx (N' := 16) (k2 := 2) (n2 := 32) hx hb (hts (.arrayClass .int) (by decide +kernel)) hK hP hD hS hA (by decide) (by decide) (Nat.le_of_ble_eq_true rfl) (Nat.le_of_ble_eq_true rfl) (Nat.le_of_ble_eq_true rfl) rfl rfl dX8_init_15 (fun q_2 H hP hS => ?_)
  refine va_putF (D := (dC, dI)) (ci := 8) (v := .ref q_2) (ty := (.array .int)) (C := RX8) (T := TX8) (N := 6) hx hb hts h_in_X8 tyX8 tyX8_ok nmX8 hown hK hP hD hS 0 rfl rfl 1 (by decide) (hts (.fieldLink RX8 15 "MatchTrees$Seen" "arm" "[I") (by decide +kernel)) (fun _ h9 => h9) rfl hin rfl (by decide +kernel) rfl rfl (Nat.le_of_ble_eq_true rfl) dX8_init_17 (fun H locs hP hD hS => ?_)
  have hP : va_P (dC, dI) vwCl [(h0, .inr (8, [.ref q_1, .ref q_2, .int 0, .null, .int 0, .null]))] H := hP
  have hD : va_D A [(h0, .inr (8, [.ref q_1, .ref q_2, .int 0, .null, .int 0, .null]))] := hD
  refine lv_aload_n hx hb dX8_init_20 rfl (lv_at hl 0 rfl) ?_
  refine lv_sipush (v := 256) hx hb dX8_init_21 (by decide) ?_
  refine k_newIx (N' := 256) (k2 := 3) (n2 := 288) hx hb (hts (.arrayClass .int) (by decide +kernel)) hK hP hD hS hA (by decide) (by decide) (Nat.le_of_ble_eq_true rfl) (Nat.le_of_ble_eq_true rfl) (Nat.le_of_ble_eq_true rfl) rfl rfl dX8_init_24 (fun q_3 H hP hS => ?_)
  refine va_putF (D := (dC, dI)) (ci := 8) (v := .ref q_3) (ty := (.array .int)) (C := RX8) (T := TX8) (N := 6) hx hb hts h_in_X8 tyX8 tyX8_ok nmX8 hown hK hP hD hS 0 rfl rfl 3 (by decide) (hts (.fieldLink RX8 18 "MatchTrees$Seen" "set" "[I") (by decide +kernel)) (fun _ h9 => h9) rfl hin rfl (by decide +kernel) rfl rfl (Nat.le_of_ble_eq_true rfl) dX8_init_26 (fun H locs hP hD hS => ?_)
  have hP : va_P (dC, dI) vwCl [(h0, .inr (8, [.ref q_1, .ref q_2, .int 0, .ref q_3, .int 0, .null]))] H := hP
  have hD : va_D A [(h0, .inr (8, [.ref q_1, .ref q_2, .int 0, .ref q_3, .int 0, .null]))] := hD
  refine lv_aload_n hx hb dX8_init_29 rfl (lv_at hl 0 rfl) ?_
  refine lv_bipush (v := 13) hx hb dX8_init_30 (by decide) ?_
  refine k_newIx (N' := 13) (k2 := 4) (n2 := 301) hx hb (hts (.arrayClass .int) (by decide +kernel)) hK hP hD hS hA (by decide) (by decide) (Nat.le_of_ble_eq_true rfl) (Nat.le_of_ble_eq_true rfl) (Nat.le_of_ble_eq_true rfl) rfl rfl dX8_init_32 (fun q_4 H hP hS => ?_)
  refine va_putF (D := (dC, dI)) (ci := 8) (v := .ref q_4) (ty := (.array .int)) (C := RX8) (T := TX8) (N := 6) hx hb hts h_in_X8 tyX8 tyX8_ok nmX8 hown hK hP hD hS 0 rfl rfl 5 (by decide) (hts (.fieldLink RX8 21 "MatchTrees$Seen" "tally" "[I") (by decide +kernel)) (fun _ h9 => h9) rfl hin rfl (by decide +kernel) rfl rfl (Nat.le_of_ble_eq_true rfl) dX8_init_34 (fun H locs hP hD hS => ?_)
  have hP : va_P (dC, dI) vwCl [(h0, .inr (8, [.ref q_1, .ref q_2, .int 0, .ref q_3, .int 0, .ref q_4]))] H := hP
  have hD : va_D A [(h0, .inr (8, [.ref q_1, .ref q_2, .int 0, .ref q_3, .int 0, .ref q_4]))] := hD
  have hP9 := hP.sub (ws' := [(h0, .inr (8, [.ref q_1, .ref q_2, .int 0, .ref q_3, .int 0, .ref q_4]))]) [0] rfl
  have hD9 := hD.sub (ws' := [(h0, .inr (8, [.ref q_1, .ref q_2, .int 0, .ref q_3, .int 0, .ref q_4]))]) [0] (by decide) rfl
  exact W.vret hx hb hr (fun t ht hW => ⟨⟨(), rfl, trivial, q_1, q_2, q_3, q_4, by rw [ht]; exact hP9, hD9⟩, hS.F ht⟩) hS.2.2 dX8_init_37
abbrev w0_c_X0_init (cI : ClassId) (h0 : Nat) : va_W := [(h0, .inr (0, [.null, .null, .null, .null, .null, .int 0, .int 0, .int 0]))]
set_option maxHeartbeats 4000000 in
set_option maxRecDepth 100000 in
theorem c_X0_init (l : Launch) (dC : Nat → ClassId) (dI : Nat → Nat → Nat) (cI cJ : ClassId) (h0 : Nat) (sz : Nat) : Met l yX0_init wsX0_init ({ frames := 2, cells := 45, slots := 3432, locals := 80 }) (va_Pc [.ref h0] (mPre dC dI cI cJ sz (w0_c_X0_init cI h0))) (va_Qv (fun _ : Unit => True) (fun (u : Unit) (t : State) => ∃ (q0 q1 q2 q3 q4 : Nat), va_P (dC, dI) vwCl [(h0, .inr (0, [.ref q0, .ref q1, .ref q2, .ref q3, .ref q4, .int 0, .int 0, .int 0]))] t.heap ∧ va_D (va_A (w0_c_X0_init cI h0) sz) [(h0, .inr (0, [.ref q0, .ref q1, .ref q2, .ref q3, .ref q4, .int 0, .int 0, .int 0]))]) (va_A (w0_c_X0_init cI h0) sz)) 45 3432 (va_A (w0_c_X0_init cI h0) sz) := by
  refine Met.ofW (cc := cX0_init) (maxL := 2) (ret := none) (by decide) rfl ?_
  intro p e s m args below meth c s₁ B hml hv
  obtain ⟨rfl, hsz, hP, hK, hD0, hN⟩ := hv
  have hx := B.exec
  have hb := B.bytes
  have hr := B.returns
  have hts := atoms_spec (ws := wsX0_init) B.pre
  have hown : s.vm.findClass RX0 = some m.cls := findClass_of_methodNamed B.named
  have hlocks := B.notSynchronized
  have hin : meth.name = "<init>" := (name_of_methodNamed B.named B.method).1
  have h_in_X0 : ∀ w ∈ wsX00, w ∈ wsX0_init := fun w h => List.mem_cons_of_mem _ (List.mem_append_left _ (List.mem_append_right _ h))
  have h_in_X5 : ∀ w ∈ wsX50, w ∈ wsX0_init := fun w h => List.mem_cons_of_mem _ (List.mem_append_right _ h)
  subst hsz
  have hD := hD0.self (sz := s.heap.size)
  generalize hAe : va_A (w0_c_X0_init cI h0) s.heap.size = A at hD ⊢
  have hA : ∀ q : Nat, s.heap.size ≤ q → A q := fun q h => by rw [← hAe]; exact Or.inr h
  have hS : va_S A s.heap s.heap [] := va_S.rf
  have hP : va_P (dC, dI) vwCl [(h0, .inr (0, [.null, .null, .null, .null, .null, .int 0, .int 0, .int 0]))] s.heap := hP
  have hD : va_D A [(h0, .inr (0, [.null, .null, .null, .null, .null, .int 0, .int 0, .int 0]))] := hD
  have hl := lv_entry ([.ref h0]) (n := 2) (Nat.le_of_ble_eq_true rfl)
  rw [lg_entry_eq]
  generalize (lg_sl ([.ref h0]) ++ List.replicate (2 - (lg_sl ([.ref h0])).length) Slot.unset).toArray = ls at hl ⊢
  have hl : lv_has ls 2 [(0, .ref h0)] := hl
  refine lv_aload_n hx hb dX0_init_0 rfl (lv_at hl 0 rfl) ?_
  refine W.objInit hx hb hown (hts (.methodLink RX0 3 objectInit) (by decide +kernel)) (hts (.instanceMethod objectInit) (by decide +kernel)) (hts (.code objectInit ⟨#[0xb1]⟩ 1 none) (by decide +kernel)) rfl (by rw [hml]; exact hl.1) rfl dX0_init_1 (Nat.le_of_ble_eq_true rfl) (Nat.le_of_ble_eq_true rfl) ?_
  refine W.eq (g2 := F0 m 4 ls []) rfl ?_
  refine lv_aload_n hx hb dX0_init_4 rfl (lv_at hl 0 rfl) ?_
  refine lv_sipush (v := 1024) hx hb dX0_init_5 (by decide) ?_
  refine k_newIx (N' := 1024) (k2 := 1) (n2 := 1024) hx hb (hts (.arrayClass .int) (by decide +kernel)) hK hP hD hS hA (by decide) (by decide) (Nat.le_of_ble_eq_true rfl) (Nat.le_of_ble_eq_true rfl) (Nat.le_of_ble_eq_true rfl) rfl rfl dX0_init_8 (fun q_1 H hP hS => ?_)
  refine va_putF (D := (dC, dI)) (ci := 0) (v := .ref q_1) (ty := (.array .int)) (C := RX0) (T := TX0) (N := 8) hx hb hts h_in_X0 tyX0 tyX0_ok nmX0 hown hK hP hD hS 0 rfl rfl 0 (by decide) (hts (.fieldLink RX0 9 "MatchTrees$Acts" "row" "[I") (by decide +kernel)) (fun _ h9 => h9) rfl hin rfl (by decide +kernel) rfl rfl (Nat.le_of_ble_eq_true rfl) dX0_init_10 (fun H locs hP hD hS => ?_)
  have hP : va_P (dC, dI) vwCl [(h0, .inr (0, [.ref q_1, .null, .null, .null, .null, .int 0, .int 0, .int 0]))] H := hP
  have hD : va_D A [(h0, .inr (0, [.ref q_1, .null, .null, .null, .null, .int 0, .int 0, .int 0]))] := hD
  refine lv_aload_n hx hb dX0_init_13 rfl (lv_at hl 0 rfl) ?_
  refine lv_sipush (v := 1024) hx hb dX0_init_14 (by decide) ?_
  refine k_newIx (N' := 1024) (k2 := 2) (n2 := 2048) hx hb (hts (.arrayClass .int) (by decide +kernel)) hK hP hD hS hA (by decide) (by decide) (Nat.le_of_ble_eq_true rfl) (Nat.le_of_ble_eq_true rfl) (Nat.le_of_ble_eq_true rfl) rfl rfl dX0_init_17 (fun q_2 H hP hS => ?_)
  refine va_putF (D := (dC, dI)) (ci := 0) (v := .ref q_2) (ty := (.array .int)) (C := RX0) (T := TX0) (N := 8) hx hb hts h_in_X0 tyX0 tyX0_ok nmX0 hown hK hP hD hS 0 rfl rfl 1 (by decide) (hts (.fieldLink RX0 15 "MatchTrees$Acts" "arm" "[I") (by decide +kernel)) (fun _ h9 => h9) rfl hin rfl (by decide +kernel) rfl rfl (Nat.le_of_ble_eq_true rfl) dX0_init_19 (fun H locs hP hD hS => ?_)
  have hP : va_P (dC, dI) vwCl [(h0, .inr (0, [.ref q_1, .ref q_2, .null, .null, .null, .int 0, .int 0, .int 0]))] H := hP
  have hD : va_D A [(h0, .inr (0, [.ref q_1, .ref q_2, .null, .null, .null, .int 0, .int 0, .int 0]))] := hD
  refine lv_aload_n hx hb dX0_init_22 rfl (lv_at hl 0 rfl) ?_
  refine lv_sipush (v := 1024) hx hb dX0_init_23 (by decide) ?_
  refine k_newIx (N' := 1024) (k2 := 3) (n2 := 3072) hx hb (hts (.arrayClass .int) (by decide +kernel)) hK hP hD hS hA (by decide) (by decide) (Nat.le_of_ble_eq_true rfl) (Nat.le_of_ble_eq_true rfl) (Nat.le_of_ble_eq_true rfl) rfl rfl dX0_init_26 (fun q_3 H hP hS => ?_)
  refine va_putF (D := (dC, dI)) (ci := 0) (v := .ref q_3) (ty := (.array .int)) (C := RX0) (T := TX0) (N := 8) hx hb hts h_in_X0 tyX0 tyX0_ok nmX0 hown hK hP hD hS 0 rfl rfl 2 (by decide) (hts (.fieldLink RX0 18 "MatchTrees$Acts" "asked" "[I") (by decide +kernel)) (fun _ h9 => h9) rfl hin rfl (by decide +kernel) rfl rfl (Nat.le_of_ble_eq_true rfl) dX0_init_28 (fun H locs hP hD hS => ?_)
  have hP : va_P (dC, dI) vwCl [(h0, .inr (0, [.ref q_1, .ref q_2, .ref q_3, .null, .null, .int 0, .int 0, .int 0]))] H := hP
  have hD : va_D A [(h0, .inr (0, [.ref q_1, .ref q_2, .ref q_3, .null, .null, .int 0, .int 0, .int 0]))] := hD
  refine lv_aload_n hx hb dX0_init_31 rfl (lv_at hl 0 rfl) ?_
  refine lv_bipush (v := 20) hx hb dX0_init_32 (by decide) ?_
  refine k_newQx (N' := 20) (k2 := 4) (n2 := 3092) hx hb hown (hts (.classLink RX0 21 RX5) (by decide +kernel)) hN.2.2.2.2.2.2.2.2.1 hK hP hD hS hA (by decide) (by decide) (Nat.le_of_ble_eq_true rfl) (Nat.le_of_ble_eq_true rfl) (Nat.le_of_ble_eq_true rfl) rfl rfl dX0_init_34 (fun q_4 cA_5 H hK_q_4 hP hD hS => ?_)
  have hP : va_P (dC, dI) vwCl [(h0, .inr (0, [.ref q_1, .ref q_2, .ref q_3, .null, .null, .int 0, .int 0, .int 0])), (q_4, .inl (cA_5, 20, .inr (.inr (.inr (.inr (fun _ => none))))))] H := hP
  have hD : va_D A [(h0, .inr (0, [.ref q_1, .ref q_2, .ref q_3, .null, .null, .int 0, .int 0, .int 0])), (q_4, .inl (cA_5, 20, .inr (.inr (.inr (.inr (fun _ => none))))))] := hD
  refine va_putF (D := (dC, dI)) (ci := 0) (v := .ref q_4) (ty := (.array (.object "MatchTrees$Order"))) (C := RX0) (T := TX0) (N := 8) hx hb hts h_in_X0 tyX0 tyX0_ok nmX0 hown hK hP hD hS 0 rfl rfl 3 (by decide) (hts (.fieldLink RX0 23 "MatchTrees$Acts" "orderAhead" "[LMatchTrees$Order;") (by decide +kernel)) (fun _ h9 => h9) rfl hin rfl (by decide +kernel) rfl rfl (Nat.le_of_ble_eq_true rfl) dX0_init_37 (fun H locs hP hD hS => ?_)
  have hP : va_P (dC, dI) vwCl [(h0, .inr (0, [.ref q_1, .ref q_2, .ref q_3, .ref q_4, .null, .int 0, .int 0, .int 0])), (q_4, .inl (cA_5, 20, .inr (.inr (.inr (.inr (fun _ => none))))))] H := hP
  have hD : va_D A [(h0, .inr (0, [.ref q_1, .ref q_2, .ref q_3, .ref q_4, .null, .int 0, .int 0, .int 0])), (q_4, .inl (cA_5, 20, .inr (.inr (.inr (.inr (fun _ => none))))))] := hD
  refine lv_aload_n hx hb dX0_init_40 rfl (lv_at hl 0 rfl) ?_
  refine lv_bipush (v := 20) hx hb dX0_init_41 (by decide) ?_
  refine k_newIx (N' := 20) (k2 := 5) (n2 := 3112) hx hb (hts (.arrayClass .int) (by decide +kernel)) hK hP hD hS hA (by decide) (by decide) (Nat.le_of_ble_eq_true rfl) (Nat.le_of_ble_eq_true rfl) (Nat.le_of_ble_eq_true rfl) rfl rfl dX0_init_43 (fun q_6 H hP hS => ?_)
  refine va_putF (D := (dC, dI)) (ci := 0) (v := .ref q_6) (ty := (.array .int)) (C := RX0) (T := TX0) (N := 8) hx hb hts h_in_X0 tyX0 tyX0_ok nmX0 hown hK hP hD hS 0 rfl rfl 4 (by decide) (hts (.fieldLink RX0 27 "MatchTrees$Acts" "keptAhead" "[I") (by decide +kernel)) (fun _ h9 => h9) rfl hin rfl (by decide +kernel) rfl rfl (Nat.le_of_ble_eq_true rfl) dX0_init_45 (fun H locs hP hD hS => ?_)
  have hP : va_P (dC, dI) vwCl [(h0, .inr (0, [.ref q_1, .ref q_2, .ref q_3, .ref q_4, .ref q_6, .int 0, .int 0, .int 0])), (q_4, .inl (cA_5, 20, .inr (.inr (.inr (.inr (fun _ => none))))))] H := hP
  have hD : va_D A [(h0, .inr (0, [.ref q_1, .ref q_2, .ref q_3, .ref q_4, .ref q_6, .int 0, .int 0, .int 0])), (q_4, .inl (cA_5, 20, .inr (.inr (.inr (.inr (fun _ => none))))))] := hD
  refine lv_iconst (v := 0) hx hb dX0_init_48 (by decide) ?_
  refine lv_istore_n (lv' := [(1, .int 0), (0, .ref h0)]) hx hb dX0_init_49 rfl hl (by decide) rfl (fun ls hl => ?_)
  refine lv_iload_n hx hb dX0_init_50 rfl (lv_at hl 0 rfl) ?_
  refine lv_bipush (v := 20) hx hb dX0_init_51 (by decide) ?_
  refine lv_icmp_ge (tgt := 75) hx hb dX0_init_53 (by decide) (fun c => absurd c (by decide)) (fun _ => ?_)
  refine lv_aload_n hx hb dX0_init_56 rfl (lv_at hl 1 rfl) ?_
  refine va_get (D := (dC, dI)) (ci := 0) (v := .ref q_4) (C := RX0) (T := TX0) (N := 8) hx hb hts h_in_X0 hown hK hP 0 rfl rfl 3 (by decide) (hts (.fieldLink RX0 23 "MatchTrees$Acts" "orderAhead" "[LMatchTrees$Order;") (by decide +kernel)) (fun _ h9 => h9) rfl dX0_init_57 ?_
  refine lv_iload_n hx hb dX0_init_60 rfl (lv_at hl 0 rfl) ?_
  refine va_new (ci := 5) (fs := [.null, .int 0, .int 0, .int 0]) (C := RX5) (T := TX5) (N := 4) hx hb hts h_in_X5 tyX5 tyX5_ok hown (hts (.classLink RX0 21 RX5) (by decide +kernel)) (hts (.instantiable RX5 4) (by decide +kernel)) (hts (.initialized RX5) (by decide +kernel)) hK hP hD hS hA rfl (fun j hj => by rcases (show j = 0 ∨ j = 1 ∨ j = 2 ∨ j = 3 by omega) with rfl | rfl | rfl | rfl <;> rfl) (Nat.le_of_ble_eq_true rfl) (Nat.le_of_ble_eq_true rfl) dX0_init_61 (fun q_7 H hP hD hS => ?_)
  refine W.widen (k := 6) (n := 3116) (Nat.le_of_ble_eq_true rfl) (Nat.le_of_ble_eq_true rfl) ?_
  have hP : va_P (dC, dI) vwCl [(h0, .inr (0, [.ref q_1, .ref q_2, .ref q_3, .ref q_4, .ref q_6, .int 0, .int 0, .int 0])), (q_4, .inl (cA_5, 20, .inr (.inr (.inr (.inr (fun _ => none)))))), (q_7, .inr (5, [.null, .int 0, .int 0, .int 0]))] H := hP
  have hD : va_D A [(h0, .inr (0, [.ref q_1, .ref q_2, .ref q_3, .ref q_4, .ref q_6, .int 0, .int 0, .int 0])), (q_4, .inl (cA_5, 20, .inr (.inr (.inr (.inr (fun _ => none)))))), (q_7, .inr (5, [.null, .int 0, .int 0, .int 0]))] := hD
  refine lv_dup hx hb dX0_init_64 rfl ?_
  have hPc := hP.sub (ws' := [(q_7, .inr (5, [.null, .int 0, .int 0, .int 0]))]) [2] rfl
  have hDc := hD.sub (ws' := [(q_7, .inr (5, [.null, .int 0, .int 0, .int 0]))]) [2] (by decide) rfl
  have hFc := va_free (wc := [(q_7, .inr (5, [.null, .int 0, .int 0, .int 0]))]) hD hS hA [2] rfl
  refine va_callv (va_runIN (As := []) (rest := [.ref q_7, .int 0, .ref q_4]) ⟨hx, hb, hml, hown, hts⟩ (c_X5_init l dC dI cI cJ q_7 H.size) ⟨(va_cnB 0 hts gX0_init_X5_init_n30 rfl rfl rfl hN.2.2.2.2.1 (hts (.initialized RX5) (by decide +kernel)) (by decide +kernel) ⟨Nat.le_of_ble_eq_true rfl, Nat.le_of_ble_eq_true rfl⟩), rfl, hts (.instanceMethod yX5_init) (by decide +kernel)⟩ ⟨mBlind, mGo hPc hK hDc hN⟩ rfl rfl hl.1 rfl (lv_room (Nat.le_of_ble_eq_true rfl)) dX0_init_65 ⟨Nat.le_of_ble_eq_true rfl, Nat.le_of_ble_eq_true rfl⟩) hS (fun q _ h => hFc q h) hFc (fun u t H1 locs ht hvm hw hB hz1 hk1 hS => ?_)
  obtain ⟨q_9, hP1, hD1⟩ := hB
  rw [ht] at hP1
  obtain ⟨hP, hD⟩ := va_join (wr := [(h0, .inr (0, [.ref q_1, .ref q_2, .ref q_3, .ref q_4, .ref q_6, .int 0, .int 0, .int 0])), (q_4, .inl (cA_5, 20, .inr (.inr (.inr (.inr (fun _ => none))))))]) (w1 := [(q_7, .inr (5, [.ref q_9, .int 0, .int 0, .int 0]))]) hP hD [2] [0, 1] rfl rfl (by decide) (by decide) hk1 hFc hP1 hD1
  generalize H1 = H at hP hS ⊢
  have hP : va_P (dC, dI) vwCl [(h0, .inr (0, [.ref q_1, .ref q_2, .ref q_3, .ref q_4, .ref q_6, .int 0, .int 0, .int 0])), (q_4, .inl (cA_5, 20, .inr (.inr (.inr (.inr (fun _ => none)))))), (q_7, .inr (5, [.ref q_9, .int 0, .int 0, .int 0]))] H := hP
  have hD : va_D A [(h0, .inr (0, [.ref q_1, .ref q_2, .ref q_3, .ref q_4, .ref q_6, .int 0, .int 0, .int 0])), (q_4, .inl (cA_5, 20, .inr (.inr (.inr (.inr (fun _ => none)))))), (q_7, .inr (5, [.ref q_9, .int 0, .int 0, .int 0]))] := hD
  refine W.widen (k := 7) (n := 3128) (Nat.le_of_ble_eq_true rfl) (Nat.le_of_ble_eq_true rfl) ?_
  refine va_astq (r := (RX5, TX5, 4)) hx hb hK_q_4 hP hD hS 1 2 2 5 rfl rfl rfl rfl (vpd (by decide)) dX0_init_68 (fun H locs hP hD hS => ?_)
  obtain ⟨g_10, e_g_10⟩ : ∃ y : Nat → Option Nat, y = va_up (fun _ => none) (0 : Int32).toNatClampNeg (some q_7) := ⟨_, rfl⟩
  have hP : va_P (dC, dI) vwCl [(h0, .inr (0, [.ref q_1, .ref q_2, .ref q_3, .ref q_4, .ref q_6, .int 0, .int 0, .int 0])), (q_4, .inl (cA_5, 20, .inr (.inr (.inr (.inr g_10))))), (q_7, .inr (5, [.ref q_9, .int 0, .int 0, .int 0]))] H := by rw [e_g_10]; exact hP
  have hD : va_D A [(h0, .inr (0, [.ref q_1, .ref q_2, .ref q_3, .ref q_4, .ref q_6, .int 0, .int 0, .int 0])), (q_4, .inl (cA_5, 20, .inr (.inr (.inr (.inr g_10)))))] := by rw [e_g_10]; exact hD.sub [0, 1] (by decide) rfl
  have hP := hP.sub (ws' := [(h0, .inr (0, [.ref q_1, .ref q_2, .ref q_3, .ref q_4, .ref q_6, .int 0, .int 0, .int 0])), (q_4, .inl (cA_5, 20, .inr (.inr (.inr (.inr g_10)))))]) [0, 1] rfl
  refine lv_iinc (v := 1) (lv' := [(1, .int 1), (0, .ref h0)]) hx hb dX0_init_69 hl (k := 0) rfl (by decide) (by decide) rfl (fun ls hl => ?_)
  refine lv_goto (tgt := 50) hx hb dX0_init_72 (by decide) ?_
  refine lv_iload_n hx hb dX0_init_50 rfl (lv_at hl 0 rfl) ?_
  refine lv_bipush (v := 20) hx hb dX0_init_51 (by decide) ?_
  refine lv_icmp_ge (tgt := 75) hx hb dX0_init_53 (by decide) (fun c => absurd c (by decide)) (fun _ => ?_)
  refine lv_aload_n hx hb dX0_init_56 rfl (lv_at hl 1 rfl) ?_
  refine va_get (D := (dC, dI)) (ci := 0) (v := .ref q_4) (C := RX0) (T := TX0) (N := 8) hx hb hts h_in_X0 hown hK hP 0 rfl rfl 3 (by decide) (hts (.fieldLink RX0 23 "MatchTrees$Acts" "orderAhead" "[LMatchTrees$Order;") (by decide +kernel)) (fun _ h9 => h9) rfl dX0_init_57 ?_
  refine lv_iload_n hx hb dX0_init_60 rfl (lv_at hl 0 rfl) ?_
  refine va_new (ci := 5) (fs := [.null, .int 0, .int 0, .int 0]) (C := RX5) (T := TX5) (N := 4) hx hb hts h_in_X5 tyX5 tyX5_ok hown (hts (.classLink RX0 21 RX5) (by decide +kernel)) (hts (.instantiable RX5 4) (by decide +kernel)) (hts (.initialized RX5) (by decide +kernel)) hK hP hD hS hA rfl (fun j hj => by rcases (show j = 0 ∨ j = 1 ∨ j = 2 ∨ j = 3 by omega) with rfl | rfl | rfl | rfl <;> rfl) (Nat.le_of_ble_eq_true rfl) (Nat.le_of_ble_eq_true rfl) dX0_init_61 (fun q_11 H hP hD hS => ?_)
  refine W.widen (k := 8) (n := 3132) (Nat.le_of_ble_eq_true rfl) (Nat.le_of_ble_eq_true rfl) ?_
  have hP : va_P (dC, dI) vwCl [(h0, .inr (0, [.ref q_1, .ref q_2, .ref q_3, .ref q_4, .ref q_6, .int 0, .int 0, .int 0])), (q_4, .inl (cA_5, 20, .inr (.inr (.inr (.inr g_10))))), (q_11, .inr (5, [.null, .int 0, .int 0, .int 0]))] H := hP
  have hD : va_D A [(h0, .inr (0, [.ref q_1, .ref q_2, .ref q_3, .ref q_4, .ref q_6, .int 0, .int 0, .int 0])), (q_4, .inl (cA_5, 20, .inr (.inr (.inr (.inr g_10))))), (q_11, .inr (5, [.null, .int 0, .int 0, .int 0]))] := hD
  refine lv_dup hx hb dX0_init_64 rfl ?_
  have hPc := hP.sub (ws' := [(q_11, .inr (5, [.null, .int 0, .int 0, .int 0]))]) [2] rfl
  have hDc := hD.sub (ws' := [(q_11, .inr (5, [.null, .int 0, .int 0, .int 0]))]) [2] (by decide) rfl
  have hFc := va_free (wc := [(q_11, .inr (5, [.null, .int 0, .int 0, .int 0]))]) hD hS hA [2] rfl
  refine va_callv (va_runIN (As := []) (rest := [.ref q_11, .int 1, .ref q_4]) ⟨hx, hb, hml, hown, hts⟩ (c_X5_init l dC dI cI cJ q_11 H.size) ⟨(va_cnB 0 hts gX0_init_X5_init_n30 rfl rfl rfl hN.2.2.2.2.1 (hts (.initialized RX5) (by decide +kernel)) (by decide +kernel) ⟨Nat.le_of_ble_eq_true rfl, Nat.le_of_ble_eq_true rfl⟩), rfl, hts (.instanceMethod yX5_init) (by decide +kernel)⟩ ⟨mBlind, mGo hPc hK hDc hN⟩ rfl rfl hl.1 rfl (lv_room (Nat.le_of_ble_eq_true rfl)) dX0_init_65 ⟨Nat.le_of_ble_eq_true rfl, Nat.le_of_ble_eq_true rfl⟩) hS (fun q _ h => hFc q h) hFc (fun u t H1 locs ht hvm hw hB hz1 hk1 hS => ?_)
  obtain ⟨q_13, hP1, hD1⟩ := hB
  rw [ht] at hP1
  obtain ⟨hP, hD⟩ := va_join (wr := [(h0, .inr (0, [.ref q_1, .ref q_2, .ref q_3, .ref q_4, .ref q_6, .int 0, .int 0, .int 0])), (q_4, .inl (cA_5, 20, .inr (.inr (.inr (.inr g_10)))))]) (w1 := [(q_11, .inr (5, [.ref q_13, .int 0, .int 0, .int 0]))]) hP hD [2] [0, 1] rfl rfl (by decide) (by decide) hk1 hFc hP1 hD1
  generalize H1 = H at hP hS ⊢
  have hP : va_P (dC, dI) vwCl [(h0, .inr (0, [.ref q_1, .ref q_2, .ref q_3, .ref q_4, .ref q_6, .int 0, .int 0, .int 0])), (q_4, .inl (cA_5, 20, .inr (.inr (.inr (.inr g_10))))), (q_11, .inr (5, [.ref q_13, .int 0, .int 0, .int 0]))] H := hP
  have hD : va_D A [(h0, .inr (0, [.ref q_1, .ref q_2, .ref q_3, .ref q_4, .ref q_6, .int 0, .int 0, .int 0])), (q_4, .inl (cA_5, 20, .inr (.inr (.inr (.inr g_10))))), (q_11, .inr (5, [.ref q_13, .int 0, .int 0, .int 0]))] := hD
  refine W.widen (k := 9) (n := 3144) (Nat.le_of_ble_eq_true rfl) (Nat.le_of_ble_eq_true rfl) ?_
  refine va_astq (r := (RX5, TX5, 4)) hx hb hK_q_4 hP hD hS 1 2 2 5 rfl rfl rfl rfl (vpd (by decide)) dX0_init_68 (fun H locs hP hD hS => ?_)
  obtain ⟨g_14, e_g_14⟩ : ∃ y : Nat → Option Nat, y = va_up g_10 (1 : Int32).toNatClampNeg (some q_11) := ⟨_, rfl⟩
  have hP : va_P (dC, dI) vwCl [(h0, .inr (0, [.ref q_1, .ref q_2, .ref q_3, .ref q_4, .ref q_6, .int 0, .int 0, .int 0])), (q_4, .inl (cA_5, 20, .inr (.inr (.inr (.inr g_14))))), (q_11, .inr (5, [.ref q_13, .int 0, .int 0, .int 0]))] H := by rw [e_g_14]; exact hP
  have hD : va_D A [(h0, .inr (0, [.ref q_1, .ref q_2, .ref q_3, .ref q_4, .ref q_6, .int 0, .int 0, .int 0])), (q_4, .inl (cA_5, 20, .inr (.inr (.inr (.inr g_14)))))] := by rw [e_g_14]; exact hD.sub [0, 1] (by decide) rfl
  have hP := hP.sub (ws' := [(h0, .inr (0, [.ref q_1, .ref q_2, .ref q_3, .ref q_4, .ref q_6, .int 0, .int 0, .int 0])), (q_4, .inl (cA_5, 20, .inr (.inr (.inr (.inr g_14)))))]) [0, 1] rfl
  refine lv_iinc (v := 2) (lv' := [(1, .int 2), (0, .ref h0)]) hx hb dX0_init_69 hl (k := 0) rfl (by decide) (by decide) rfl (fun ls hl => ?_)
  refine lv_goto (tgt := 50) hx hb dX0_init_72 (by decide) ?_
  refine lv_iload_n hx hb dX0_init_50 rfl (lv_at hl 0 rfl) ?_
  refine lv_bipush (v := 20) hx hb dX0_init_51 (by decide) ?_
  refine lv_icmp_ge (tgt := 75) hx hb dX0_init_53 (by decide) (fun c => absurd c (by decide)) (fun _ => ?_)
  refine lv_aload_n hx hb dX0_init_56 rfl (lv_at hl 1 rfl) ?_
  refine va_get (D := (dC, dI)) (ci := 0) (v := .ref q_4) (C := RX0) (T := TX0) (N := 8) hx hb hts h_in_X0 hown hK hP 0 rfl rfl 3 (by decide) (hts (.fieldLink RX0 23 "MatchTrees$Acts" "orderAhead" "[LMatchTrees$Order;") (by decide +kernel)) (fun _ h9 => h9) rfl dX0_init_57 ?_
  refine lv_iload_n hx hb dX0_init_60 rfl (lv_at hl 0 rfl) ?_
  refine va_new (ci := 5) (fs := [.null, .int 0, .int 0, .int 0]) (C := RX5) (T := TX5) (N := 4) hx hb hts h_in_X5 tyX5 tyX5_ok hown (hts (.classLink RX0 21 RX5) (by decide +kernel)) (hts (.instantiable RX5 4) (by decide +kernel)) (hts (.initialized RX5) (by decide +kernel)) hK hP hD hS hA rfl (fun j hj => by rcases (show j = 0 ∨ j = 1 ∨ j = 2 ∨ j = 3 by omega) with rfl | rfl | rfl | rfl <;> rfl) (Nat.le_of_ble_eq_true rfl) (Nat.le_of_ble_eq_true rfl) dX0_init_61 (fun q_15 H hP hD hS => ?_)
  refine W.widen (k := 10) (n := 3148) (Nat.le_of_ble_eq_true rfl) (Nat.le_of_ble_eq_true rfl) ?_
  have hP : va_P (dC, dI) vwCl [(h0, .inr (0, [.ref q_1, .ref q_2, .ref q_3, .ref q_4, .ref q_6, .int 0, .int 0, .int 0])), (q_4, .inl (cA_5, 20, .inr (.inr (.inr (.inr g_14))))), (q_15, .inr (5, [.null, .int 0, .int 0, .int 0]))] H := hP
  have hD : va_D A [(h0, .inr (0, [.ref q_1, .ref q_2, .ref q_3, .ref q_4, .ref q_6, .int 0, .int 0, .int 0])), (q_4, .inl (cA_5, 20, .inr (.inr (.inr (.inr g_14))))), (q_15, .inr (5, [.null, .int 0, .int 0, .int 0]))] := hD
  refine lv_dup hx hb dX0_init_64 rfl ?_
  have hPc := hP.sub (ws' := [(q_15, .inr (5, [.null, .int 0, .int 0, .int 0]))]) [2] rfl
  have hDc := hD.sub (ws' := [(q_15, .inr (5, [.null, .int 0, .int 0, .int 0]))]) [2] (by decide) rfl
  have hFc := va_free (wc := [(q_15, .inr (5, [.null, .int 0, .int 0, .int 0]))]) hD hS hA [2] rfl
  refine va_callv (va_runIN (As := []) (rest := [.ref q_15, .int 2, .ref q_4]) ⟨hx, hb, hml, hown, hts⟩ (c_X5_init l dC dI cI cJ q_15 H.size) ⟨(va_cnB 0 hts gX0_init_X5_init_n30 rfl rfl rfl hN.2.2.2.2.1 (hts (.initialized RX5) (by decide +kernel)) (by decide +kernel) ⟨Nat.le_of_ble_eq_true rfl, Nat.le_of_ble_eq_true rfl⟩), rfl, hts (.instanceMethod yX5_init) (by decide +kernel)⟩ ⟨mBlind, mGo hPc hK hDc hN⟩ rfl rfl hl.1 rfl (lv_room (Nat.le_of_ble_eq_true rfl)) dX0_init_65 ⟨Nat.le_of_ble_eq_true rfl, Nat.le_of_ble_eq_true rfl⟩) hS (fun q _ h => hFc q h) hFc (fun u t H1 locs ht hvm hw hB hz1 hk1 hS => ?_)
  obtain ⟨q_17, hP1, hD1⟩ := hB
  rw [ht] at hP1
  obtain ⟨hP, hD⟩ := va_join (wr := [(h0, .inr (0, [.ref q_1, .ref q_2, .ref q_3, .ref q_4, .ref q_6, .int 0, .int 0, .int 0])), (q_4, .inl (cA_5, 20, .inr (.inr (.inr (.inr g_14)))))]) (w1 := [(q_15, .inr (5, [.ref q_17, .int 0, .int 0, .int 0]))]) hP hD [2] [0, 1] rfl rfl (by decide) (by decide) hk1 hFc hP1 hD1
  generalize H1 = H at hP hS ⊢
  have hP : va_P (dC, dI) vwCl [(h0, .inr (0, [.ref q_1, .ref q_2, .ref q_3, .ref q_4, .ref q_6, .int 0, .int 0, .int 0])), (q_4, .inl (cA_5, 20, .inr (.inr (.inr (.inr g_14))))), (q_15, .inr (5, [.ref q_17, .int 0, .int 0, .int 0]))] H := hP
  have hD : va_D A [(h0, .inr (0, [.ref q_1, .ref q_2, .ref q_3, .ref q_4, .ref q_6, .int 0, .int 0, .int 0])), (q_4, .inl (cA_5, 20, .inr (.inr (.inr (.inr g_14))))), (q_15, .inr (5, [.ref q_17, .int 0, .int 0, .int 0]))] := hD
  refine W.widen (k := 11) (n := 3160) (Nat.le_of_ble_eq_true rfl) (Nat.le_of_ble_eq_true rfl) ?_
  refine va_astq (r := (RX5, TX5, 4)) hx hb hK_q_4 hP hD hS 1 2 2 5 rfl rfl rfl rfl (vpd (by decide)) dX0_init_68 (fun H locs hP hD hS => ?_)
  obtain ⟨g_18, e_g_18⟩ : ∃ y : Nat → Option Nat, y = va_up g_14 (2 : Int32).toNatClampNeg (some q_15) := ⟨_, rfl⟩
  have hP : va_P (dC, dI) vwCl [(h0, .inr (0, [.ref q_1, .ref q_2, .ref q_3, .ref q_4, .ref q_6, .int 0, .int 0, .int 0])), (q_4, .inl (cA_5, 20, .inr (.inr (.inr (.inr g_18))))), (q_15, .inr (5, [.ref q_17, .int 0, .int 0, .int 0]))] H := by rw [e_g_18]; exact hP
  have hD : va_D A [(h0, .inr (0, [.ref q_1, .ref q_2, .ref q_3, .ref q_4, .ref q_6, .int 0, .int 0, .int 0])), (q_4, .inl (cA_5, 20, .inr (.inr (.inr (.inr g_18)))))] := by rw [e_g_18]; exact hD.sub [0, 1] (by decide) rfl
  have hP := hP.sub (ws' := [(h0, .inr (0, [.ref q_1, .ref q_2, .ref q_3, .ref q_4, .ref q_6, .int 0, .int 0, .int 0])), (q_4, .inl (cA_5, 20, .inr (.inr (.inr (.inr g_18)))))]) [0, 1] rfl
  refine lv_iinc (v := 3) (lv' := [(1, .int 3), (0, .ref h0)]) hx hb dX0_init_69 hl (k := 0) rfl (by decide) (by decide) rfl (fun ls hl => ?_)
  refine lv_goto (tgt := 50) hx hb dX0_init_72 (by decide) ?_
  refine lv_iload_n hx hb dX0_init_50 rfl (lv_at hl 0 rfl) ?_
  refine lv_bipush (v := 20) hx hb dX0_init_51 (by decide) ?_
  refine lv_icmp_ge (tgt := 75) hx hb dX0_init_53 (by decide) (fun c => absurd c (by decide)) (fun _ => ?_)
  refine lv_aload_n hx hb dX0_init_56 rfl (lv_at hl 1 rfl) ?_
  refine va_get (D := (dC, dI)) (ci := 0) (v := .ref q_4) (C := RX0) (T := TX0) (N := 8) hx hb hts h_in_X0 hown hK hP 0 rfl rfl 3 (by decide) (hts (.fieldLink RX0 23 "MatchTrees$Acts" "orderAhead" "[LMatchTrees$Order;") (by decide +kernel)) (fun _ h9 => h9) rfl dX0_init_57 ?_
  refine lv_iload_n hx hb dX0_init_60 rfl (lv_at hl 0 rfl) ?_
  refine va_new (ci := 5) (fs := [.null, .int 0, .int 0, .int 0]) (C := RX5) (T := TX5) (N := 4) hx hb hts h_in_X5 tyX5 tyX5_ok hown (hts (.classLink RX0 21 RX5) (by decide +kernel)) (hts (.instantiable RX5 4) (by decide +kernel)) (hts (.initialized RX5) (by decide +kernel)) hK hP hD hS hA rfl (fun j hj => by rcases (show j = 0 ∨ j = 1 ∨ j = 2 ∨ j = 3 by omega) with rfl | rfl | rfl | rfl <;> rfl) (Nat.le_of_ble_eq_true rfl) (Nat.le_of_ble_eq_true rfl) dX0_init_61 (fun q_19 H hP hD hS => ?_)
  refine W.widen (k := 12) (n := 3164) (Nat.le_of_ble_eq_true rfl) (Nat.le_of_ble_eq_true rfl) ?_
  have hP : va_P (dC, dI) vwCl [(h0, .inr (0, [.ref q_1, .ref q_2, .ref q_3, .ref q_4, .ref q_6, .int 0, .int 0, .int 0])), (q_4, .inl (cA_5, 20, .inr (.inr (.inr (.inr g_18))))), (q_19, .inr (5, [.null, .int 0, .int 0, .int 0]))] H := hP
  have hD : va_D A [(h0, .inr (0, [.ref q_1, .ref q_2, .ref q_3, .ref q_4, .ref q_6, .int 0, .int 0, .int 0])), (q_4, .inl (cA_5, 20, .inr (.inr (.inr (.inr g_18))))), (q_19, .inr (5, [.null, .int 0, .int 0, .int 0]))] := hD
  refine lv_dup hx hb dX0_init_64 rfl ?_
  have hPc := hP.sub (ws' := [(q_19, .inr (5, [.null, .int 0, .int 0, .int 0]))]) [2] rfl
  have hDc := hD.sub (ws' := [(q_19, .inr (5, [.null, .int 0, .int 0, .int 0]))]) [2] (by decide) rfl
  have hFc := va_free (wc := [(q_19, .inr (5, [.null, .int 0, .int 0, .int 0]))]) hD hS hA [2] rfl
  refine va_callv (va_runIN (As := []) (rest := [.ref q_19, .int 3, .ref q_4]) ⟨hx, hb, hml, hown, hts⟩ (c_X5_init l dC dI cI cJ q_19 H.size) ⟨(va_cnB 0 hts gX0_init_X5_init_n30 rfl rfl rfl hN.2.2.2.2.1 (hts (.initialized RX5) (by decide +kernel)) (by decide +kernel) ⟨Nat.le_of_ble_eq_true rfl, Nat.le_of_ble_eq_true rfl⟩), rfl, hts (.instanceMethod yX5_init) (by decide +kernel)⟩ ⟨mBlind, mGo hPc hK hDc hN⟩ rfl rfl hl.1 rfl (lv_room (Nat.le_of_ble_eq_true rfl)) dX0_init_65 ⟨Nat.le_of_ble_eq_true rfl, Nat.le_of_ble_eq_true rfl⟩) hS (fun q _ h => hFc q h) hFc (fun u t H1 locs ht hvm hw hB hz1 hk1 hS => ?_)
  obtain ⟨q_21, hP1, hD1⟩ := hB
  rw [ht] at hP1
  obtain ⟨hP, hD⟩ := va_join (wr := [(h0, .inr (0, [.ref q_1, .ref q_2, .ref q_3, .ref q_4, .ref q_6, .int 0, .int 0, .int 0])), (q_4, .inl (cA_5, 20, .inr (.inr (.inr (.inr g_18)))))]) (w1 := [(q_19, .inr (5, [.ref q_21, .int 0, .int 0, .int 0]))]) hP hD [2] [0, 1] rfl rfl (by decide) (by decide) hk1 hFc hP1 hD1
  generalize H1 = H at hP hS ⊢
  have hP : va_P (dC, dI) vwCl [(h0, .inr (0, [.ref q_1, .ref q_2, .ref q_3, .ref q_4, .ref q_6, .int 0, .int 0, .int 0])), (q_4, .inl (cA_5, 20, .inr (.inr (.inr (.inr g_18))))), (q_19, .inr (5, [.ref q_21, .int 0, .int 0, .int 0]))] H := hP
  have hD : va_D A [(h0, .inr (0, [.ref q_1, .ref q_2, .ref q_3, .ref q_4, .ref q_6, .int 0, .int 0, .int 0])), (q_4, .inl (cA_5, 20, .inr (.inr (.inr (.inr g_18))))), (q_19, .inr (5, [.ref q_21, .int 0, .int 0, .int 0]))] := hD
  refine W.widen (k := 13) (n := 3176) (Nat.le_of_ble_eq_true rfl) (Nat.le_of_ble_eq_true rfl) ?_
  refine va_astq (r := (RX5, TX5, 4)) hx hb hK_q_4 hP hD hS 1 2 2 5 rfl rfl rfl rfl (vpd (by decide)) dX0_init_68 (fun H locs hP hD hS => ?_)
  obtain ⟨g_22, e_g_22⟩ : ∃ y : Nat → Option Nat, y = va_up g_18 (3 : Int32).toNatClampNeg (some q_19) := ⟨_, rfl⟩
  have hP : va_P (dC, dI) vwCl [(h0, .inr (0, [.ref q_1, .ref q_2, .ref q_3, .ref q_4, .ref q_6, .int 0, .int 0, .int 0])), (q_4, .inl (cA_5, 20, .inr (.inr (.inr (.inr g_22))))), (q_19, .inr (5, [.ref q_21, .int 0, .int 0, .int 0]))] H := by rw [e_g_22]; exact hP
  have hD : va_D A [(h0, .inr (0, [.ref q_1, .ref q_2, .ref q_3, .ref q_4, .ref q_6, .int 0, .int 0, .int 0])), (q_4, .inl (cA_5, 20, .inr (.inr (.inr (.inr g_22)))))] := by rw [e_g_22]; exact hD.sub [0, 1] (by decide) rfl
  have hP := hP.sub (ws' := [(h0, .inr (0, [.ref q_1, .ref q_2, .ref q_3, .ref q_4, .ref q_6, .int 0, .int 0, .int 0])), (q_4, .inl (cA_5, 20, .inr (.inr (.inr (.inr g_22)))))]) [0, 1] rfl
  refine lv_iinc (v := 4) (lv' := [(1, .int 4), (0, .ref h0)]) hx hb dX0_init_69 hl (k := 0) rfl (by decide) (by decide) rfl (fun ls hl => ?_)
  refine lv_goto (tgt := 50) hx hb dX0_init_72 (by decide) ?_
  refine lv_iload_n hx hb dX0_init_50 rfl (lv_at hl 0 rfl) ?_
  refine lv_bipush (v := 20) hx hb dX0_init_51 (by decide) ?_
  refine lv_icmp_ge (tgt := 75) hx hb dX0_init_53 (by decide) (fun c => absurd c (by decide)) (fun _ => ?_)
  refine lv_aload_n hx hb dX0_init_56 rfl (lv_at hl 1 rfl) ?_
  refine va_get (D := (dC, dI)) (ci := 0) (v := .ref q_4) (C := RX0) (T := TX0) (N := 8) hx hb hts h_in_X0 hown hK hP 0 rfl rfl 3 (by decide) (hts (.fieldLink RX0 23 "MatchTrees$Acts" "orderAhead" "[LMatchTrees$Order;") (by decide +kernel)) (fun _ h9 => h9) rfl dX0_init_57 ?_
  refine lv_iload_n hx hb dX0_init_60 rfl (lv_at hl 0 rfl) ?_
  refine va_new (ci := 5) (fs := [.null, .int 0, .int 0, .int 0]) (C := RX5) (T := TX5) (N := 4) hx hb hts h_in_X5 tyX5 tyX5_ok hown (hts (.classLink RX0 21 RX5) (by decide +kernel)) (hts (.instantiable RX5 4) (by decide +kernel)) (hts (.initialized RX5) (by decide +kernel)) hK hP hD hS hA rfl (fun j hj => by rcases (show j = 0 ∨ j = 1 ∨ j = 2 ∨ j = 3 by omega) with rfl | rfl | rfl | rfl <;> rfl) (Nat.le_of_ble_eq_true rfl) (Nat.le_of_ble_eq_true rfl) dX0_init_61 (fun q_23 H hP hD hS => ?_)
  refine W.widen (k := 14) (n := 3180) (Nat.le_of_ble_eq_true rfl) (Nat.le_of_ble_eq_true rfl) ?_
  have hP : va_P (dC, dI) vwCl [(h0, .inr (0, [.ref q_1, .ref q_2, .ref q_3, .ref q_4, .ref q_6, .int 0, .int 0, .int 0])), (q_4, .inl (cA_5, 20, .inr (.inr (.inr (.inr g_22))))), (q_23, .inr (5, [.null, .int 0, .int 0, .int 0]))] H := hP
  have hD : va_D A [(h0, .inr (0, [.ref q_1, .ref q_2, .ref q_3, .ref q_4, .ref q_6, .int 0, .int 0, .int 0])), (q_4, .inl (cA_5, 20, .inr (.inr (.inr (.inr g_22))))), (q_23, .inr (5, [.null, .int 0, .int 0, .int 0]))] := hD
  refine lv_dup hx hb dX0_init_64 rfl ?_
  have hPc := hP.sub (ws' := [(q_23, .inr (5, [.null, .int 0, .int 0, .int 0]))]) [2] rfl
  have hDc := hD.sub (ws' := [(q_23, .inr (5, [.null, .int 0, .int 0, .int 0]))]) [2] (by decide) rfl
  have hFc := va_free (wc := [(q_23, .inr (5, [.null, .int 0, .int 0, .int 0]))]) hD hS hA [2] rfl
  refine va_callv (va_runIN (As := []) (rest := [.ref q_23, .int 4, .ref q_4]) ⟨hx, hb, hml, hown, hts⟩ (c_X5_init l dC dI cI cJ q_23 H.size) ⟨(va_cnB 0 hts gX0_init_X5_init_n30 rfl rfl rfl hN.2.2.2.2.1 (hts (.initialized RX5) (by decide +kernel)) (by decide +kernel) ⟨Nat.le_of_ble_eq_true rfl, Nat.le_of_ble_eq_true rfl⟩), rfl, hts (.instanceMethod yX5_init) (by decide +kernel)⟩ ⟨mBlind, mGo hPc hK hDc hN⟩ rfl rfl hl.1 rfl (lv_room (Nat.le_of_ble_eq_true rfl)) dX0_init_65 ⟨Nat.le_of_ble_eq_true rfl, Nat.le_of_ble_eq_true rfl⟩) hS (fun q _ h => hFc q h) hFc (fun u t H1 locs ht hvm hw hB hz1 hk1 hS => ?_)
  obtain ⟨q_25, hP1, hD1⟩ := hB
  rw [ht] at hP1
  obtain ⟨hP, hD⟩ := va_join (wr := [(h0, .inr (0, [.ref q_1, .ref q_2, .ref q_3, .ref q_4, .ref q_6, .int 0, .int 0, .int 0])), (q_4, .inl (cA_5, 20, .inr (.inr (.inr (.inr g_22)))))]) (w1 := [(q_23, .inr (5, [.ref q_25, .int 0, .int 0, .int 0]))]) hP hD [2] [0, 1] rfl rfl (by decide) (by decide) hk1 hFc hP1 hD1
  generalize H1 = H at hP hS ⊢
  have hP : va_P (dC, dI) vwCl [(h0, .inr (0, [.ref q_1, .ref q_2, .ref q_3, .ref q_4, .ref q_6, .int 0, .int 0, .int 0])), (q_4, .inl (cA_5, 20, .inr (.inr (.inr (.inr g_22))))), (q_23, .inr (5, [.ref q_25, .int 0, .int 0, .int 0]))] H := hP
  have hD : va_D A [(h0, .inr (0, [.ref q_1, .ref q_2, .ref q_3, .ref q_4, .ref q_6, .int 0, .int 0, .int 0])), (q_4, .inl (cA_5, 20, .inr (.inr (.inr (.inr g_22))))), (q_23, .inr (5, [.ref q_25, .int 0, .int 0, .int 0]))] := hD
  refine W.widen (k := 15) (n := 3192) (Nat.le_of_ble_eq_true rfl) (Nat.le_of_ble_eq_true rfl) ?_
  refine va_astq (r := (RX5, TX5, 4)) hx hb hK_q_4 hP hD hS 1 2 2 5 rfl rfl rfl rfl (vpd (by decide)) dX0_init_68 (fun H locs hP hD hS => ?_)
  obtain ⟨g_26, e_g_26⟩ : ∃ y : Nat → Option Nat, y = va_up g_22 (4 : Int32).toNatClampNeg (some q_23) := ⟨_, rfl⟩
  have hP : va_P (dC, dI) vwCl [(h0, .inr (0, [.ref q_1, .ref q_2, .ref q_3, .ref q_4, .ref q_6, .int 0, .int 0, .int 0])), (q_4, .inl (cA_5, 20, .inr (.inr (.inr (.inr g_26))))), (q_23, .inr (5, [.ref q_25, .int 0, .int 0, .int 0]))] H := by rw [e_g_26]; exact hP
  have hD : va_D A [(h0, .inr (0, [.ref q_1, .ref q_2, .ref q_3, .ref q_4, .ref q_6, .int 0, .int 0, .int 0])), (q_4, .inl (cA_5, 20, .inr (.inr (.inr (.inr g_26)))))] := by rw [e_g_26]; exact hD.sub [0, 1] (by decide) rfl
  have hP := hP.sub (ws' := [(h0, .inr (0, [.ref q_1, .ref q_2, .ref q_3, .ref q_4, .ref q_6, .int 0, .int 0, .int 0])), (q_4, .inl (cA_5, 20, .inr (.inr (.inr (.inr g_26)))))]) [0, 1] rfl
  refine lv_iinc (v := 5) (lv' := [(1, .int 5), (0, .ref h0)]) hx hb dX0_init_69 hl (k := 0) rfl (by decide) (by decide) rfl (fun ls hl => ?_)
  refine lv_goto (tgt := 50) hx hb dX0_init_72 (by decide) ?_
  refine lv_iload_n hx hb dX0_init_50 rfl (lv_at hl 0 rfl) ?_
  refine lv_bipush (v := 20) hx hb dX0_init_51 (by decide) ?_
  refine lv_icmp_ge (tgt := 75) hx hb dX0_init_53 (by decide) (fun c => absurd c (by decide)) (fun _ => ?_)
  refine lv_aload_n hx hb dX0_init_56 rfl (lv_at hl 1 rfl) ?_
  refine va_get (D := (dC, dI)) (ci := 0) (v := .ref q_4) (C := RX0) (T := TX0) (N := 8) hx hb hts h_in_X0 hown hK hP 0 rfl rfl 3 (by decide) (hts (.fieldLink RX0 23 "MatchTrees$Acts" "orderAhead" "[LMatchTrees$Order;") (by decide +kernel)) (fun _ h9 => h9) rfl dX0_init_57 ?_
  refine lv_iload_n hx hb dX0_init_60 rfl (lv_at hl 0 rfl) ?_
  refine va_new (ci := 5) (fs := [.null, .int 0, .int 0, .int 0]) (C := RX5) (T := TX5) (N := 4) hx hb hts h_in_X5 tyX5 tyX5_ok hown (hts (.classLink RX0 21 RX5) (by decide +kernel)) (hts (.instantiable RX5 4) (by decide +kernel)) (hts (.initialized RX5) (by decide +kernel)) hK hP hD hS hA rfl (fun j hj => by rcases (show j = 0 ∨ j = 1 ∨ j = 2 ∨ j = 3 by omega) with rfl | rfl | rfl | rfl <;> rfl) (Nat.le_of_ble_eq_true rfl) (Nat.le_of_ble_eq_true rfl) dX0_init_61 (fun q_27 H hP hD hS => ?_)
  refine W.widen (k := 16) (n := 3196) (Nat.le_of_ble_eq_true rfl) (Nat.le_of_ble_eq_true rfl) ?_
  have hP : va_P (dC, dI) vwCl [(h0, .inr (0, [.ref q_1, .ref q_2, .ref q_3, .ref q_4, .ref q_6, .int 0, .int 0, .int 0])), (q_4, .inl (cA_5, 20, .inr (.inr (.inr (.inr g_26))))), (q_27, .inr (5, [.null, .int 0, .int 0, .int 0]))] H := hP
  have hD : va_D A [(h0, .inr (0, [.ref q_1, .ref q_2, .ref q_3, .ref q_4, .ref q_6, .int 0, .int 0, .int 0])), (q_4, .inl (cA_5, 20, .inr (.inr (.inr (.inr g_26))))), (q_27, .inr (5, [.null, .int 0, .int 0, .int 0]))] := hD
  refine lv_dup hx hb dX0_init_64 rfl ?_
  have hPc := hP.sub (ws' := [(q_27, .inr (5, [.null, .int 0, .int 0, .int 0]))]) [2] rfl
  have hDc := hD.sub (ws' := [(q_27, .inr (5, [.null, .int 0, .int 0, .int 0]))]) [2] (by decide) rfl
  have hFc := va_free (wc := [(q_27, .inr (5, [.null, .int 0, .int 0, .int 0]))]) hD hS hA [2] rfl
  refine va_callv (va_runIN (As := []) (rest := [.ref q_27, .int 5, .ref q_4]) ⟨hx, hb, hml, hown, hts⟩ (c_X5_init l dC dI cI cJ q_27 H.size) ⟨(va_cnB 0 hts gX0_init_X5_init_n30 rfl rfl rfl hN.2.2.2.2.1 (hts (.initialized RX5) (by decide +kernel)) (by decide +kernel) ⟨Nat.le_of_ble_eq_true rfl, Nat.le_of_ble_eq_true rfl⟩), rfl, hts (.instanceMethod yX5_init) (by decide +kernel)⟩ ⟨mBlind, mGo hPc hK hDc hN⟩ rfl rfl hl.1 rfl (lv_room (Nat.le_of_ble_eq_true rfl)) dX0_init_65 ⟨Nat.le_of_ble_eq_true rfl, Nat.le_of_ble_eq_true rfl⟩) hS (fun q _ h => hFc q h) hFc (fun u t H1 locs ht hvm hw hB hz1 hk1 hS => ?_)
  obtain ⟨q_29, hP1, hD1⟩ := hB
  rw [ht] at hP1
  obtain ⟨hP, hD⟩ := va_join (wr := [(h0, .inr (0, [.ref q_1, .ref q_2, .ref q_3, .ref q_4, .ref q_6, .int 0, .int 0, .int 0])), (q_4, .inl (cA_5, 20, .inr (.inr (.inr (.inr g_26)))))]) (w1 := [(q_27, .inr (5, [.ref q_29, .int 0, .int 0, .int 0]))]) hP hD [2] [0, 1] rfl rfl (by decide) (by decide) hk1 hFc hP1 hD1
  generalize H1 = H at hP hS ⊢
  have hP : va_P (dC, dI) vwCl [(h0, .inr (0, [.ref q_1, .ref q_2, .ref q_3, .ref q_4, .ref q_6, .int 0, .int 0, .int 0])), (q_4, .inl (cA_5, 20, .inr (.inr (.inr (.inr g_26))))), (q_27, .inr (5, [.ref q_29, .int 0, .int 0, .int 0]))] H := hP
  have hD : va_D A [(h0, .inr (0, [.ref q_1, .ref q_2, .ref q_3, .ref q_4, .ref q_6, .int 0, .int 0, .int 0])), (q_4, .inl (cA_5, 20, .inr (.inr (.inr (.inr g_26))))), (q_27, .inr (5, [.ref q_29, .int 0, .int 0, .int 0]))] := hD
  refine W.widen (k := 17) (n := 3208) (Nat.le_of_ble_eq_true rfl) (Nat.le_of_ble_eq_true rfl) ?_
  refine va_astq (r := (RX5, TX5, 4)) hx hb hK_q_4 hP hD hS 1 2 2 5 rfl rfl rfl rfl (vpd (by decide)) dX0_init_68 (fun H locs hP hD hS => ?_)
  obtain ⟨g_30, e_g_30⟩ : ∃ y : Nat → Option Nat, y = va_up g_26 (5 : Int32).toNatClampNeg (some q_27) := ⟨_, rfl⟩
  have hP : va_P (dC, dI) vwCl [(h0, .inr (0, [.ref q_1, .ref q_2, .ref q_3, .ref q_4, .ref q_6, .int 0, .int 0, .int 0])), (q_4, .inl (cA_5, 20, .inr (.inr (.inr (.inr g_30))))), (q_27, .inr (5, [.ref q_29, .int 0, .int 0, .int 0]))] H := by rw [e_g_30]; exact hP
  have hD : va_D A [(h0, .inr (0, [.ref q_1, .ref q_2, .ref q_3, .ref q_4, .ref q_6, .int 0, .int 0, .int 0])), (q_4, .inl (cA_5, 20, .inr (.inr (.inr (.inr g_30)))))] := by rw [e_g_30]; exact hD.sub [0, 1] (by decide) rfl
  have hP := hP.sub (ws' := [(h0, .inr (0, [.ref q_1, .ref q_2, .ref q_3, .ref q_4, .ref q_6, .int 0, .int 0, .int 0])), (q_4, .inl (cA_5, 20, .inr (.inr (.inr (.inr g_30)))))]) [0, 1] rfl
  refine lv_iinc (v := 6) (lv' := [(1, .int 6), (0, .ref h0)]) hx hb dX0_init_69 hl (k := 0) rfl (by decide) (by decide) rfl (fun ls hl => ?_)
  refine lv_goto (tgt := 50) hx hb dX0_init_72 (by decide) ?_
  refine lv_iload_n hx hb dX0_init_50 rfl (lv_at hl 0 rfl) ?_
  refine lv_bipush (v := 20) hx hb dX0_init_51 (by decide) ?_
  refine lv_icmp_ge (tgt := 75) hx hb dX0_init_53 (by decide) (fun c => absurd c (by decide)) (fun _ => ?_)
  refine lv_aload_n hx hb dX0_init_56 rfl (lv_at hl 1 rfl) ?_
  refine va_get (D := (dC, dI)) (ci := 0) (v := .ref q_4) (C := RX0) (T := TX0) (N := 8) hx hb hts h_in_X0 hown hK hP 0 rfl rfl 3 (by decide) (hts (.fieldLink RX0 23 "MatchTrees$Acts" "orderAhead" "[LMatchTrees$Order;") (by decide +kernel)) (fun _ h9 => h9) rfl dX0_init_57 ?_
  refine lv_iload_n hx hb dX0_init_60 rfl (lv_at hl 0 rfl) ?_
  refine va_new (ci := 5) (fs := [.null, .int 0, .int 0, .int 0]) (C := RX5) (T := TX5) (N := 4) hx hb hts h_in_X5 tyX5 tyX5_ok hown (hts (.classLink RX0 21 RX5) (by decide +kernel)) (hts (.instantiable RX5 4) (by decide +kernel)) (hts (.initialized RX5) (by decide +kernel)) hK hP hD hS hA rfl (fun j hj => by rcases (show j = 0 ∨ j = 1 ∨ j = 2 ∨ j = 3 by omega) with rfl | rfl | rfl | rfl <;> rfl) (Nat.le_of_ble_eq_true rfl) (Nat.le_of_ble_eq_true rfl) dX0_init_61 (fun q_31 H hP hD hS => ?_)
  refine W.widen (k := 18) (n := 3212) (Nat.le_of_ble_eq_true rfl) (Nat.le_of_ble_eq_true rfl) ?_
  have hP : va_P (dC, dI) vwCl [(h0, .inr (0, [.ref q_1, .ref q_2, .ref q_3, .ref q_4, .ref q_6, .int 0, .int 0, .int 0])), (q_4, .inl (cA_5, 20, .inr (.inr (.inr (.inr g_30))))), (q_31, .inr (5, [.null, .int 0, .int 0, .int 0]))] H := hP
  have hD : va_D A [(h0, .inr (0, [.ref q_1, .ref q_2, .ref q_3, .ref q_4, .ref q_6, .int 0, .int 0, .int 0])), (q_4, .inl (cA_5, 20, .inr (.inr (.inr (.inr g_30))))), (q_31, .inr (5, [.null, .int 0, .int 0, .int 0]))] := hD
  refine lv_dup hx hb dX0_init_64 rfl ?_
  have hPc := hP.sub (ws' := [(q_31, .inr (5, [.null, .int 0, .int 0, .int 0]))]) [2] rfl
  have hDc := hD.sub (ws' := [(q_31, .inr (5, [.null, .int 0, .int 0, .int 0]))]) [2] (by decide) rfl
  have hFc := va_free (wc := [(q_31, .inr (5, [.null, .int 0, .int 0, .int 0]))]) hD hS hA [2] rfl
  refine va_callv (va_runIN (As := []) (rest := [.ref q_31, .int 6, .ref q_4]) ⟨hx, hb, hml, hown, hts⟩ (c_X5_init l dC dI cI cJ q_31 H.size) ⟨(va_cnB 0 hts gX0_init_X5_init_n30 rfl rfl rfl hN.2.2.2.2.1 (hts (.initialized RX5) (by decide +kernel)) (by decide +kernel) ⟨Nat.le_of_ble_eq_true rfl, Nat.le_of_ble_eq_true rfl⟩), rfl, hts (.instanceMethod yX5_init) (by decide +kernel)⟩ ⟨mBlind, mGo hPc hK hDc hN⟩ rfl rfl hl.1 rfl (lv_room (Nat.le_of_ble_eq_true rfl)) dX0_init_65 ⟨Nat.le_of_ble_eq_true rfl, Nat.le_of_ble_eq_true rfl⟩) hS (fun q _ h => hFc q h) hFc (fun u t H1 locs ht hvm hw hB hz1 hk1 hS => ?_)
  obtain ⟨q_33, hP1, hD1⟩ := hB
  rw [ht] at hP1
  obtain ⟨hP, hD⟩ := va_join (wr := [(h0, .inr (0, [.ref q_1, .ref q_2, .ref q_3, .ref q_4, .ref q_6, .int 0, .int 0, .int 0])), (q_4, .inl (cA_5, 20, .inr (.inr (.inr (.inr g_30)))))]) (w1 := [(q_31, .inr (5, [.ref q_33, .int 0, .int 0, .int 0]))]) hP hD [2] [0, 1] rfl rfl (by decide) (by decide) hk1 hFc hP1 hD1
  generalize H1 = H at hP hS ⊢
  have hP : va_P (dC, dI) vwCl [(h0, .inr (0, [.ref q_1, .ref q_2, .ref q_3, .ref q_4, .ref q_6, .int 0, .int 0, .int 0])), (q_4, .inl (cA_5, 20, .inr (.inr (.inr (.inr g_30))))), (q_31, .inr (5, [.ref q_33, .int 0, .int 0, .int 0]))] H := hP
  have hD : va_D A [(h0, .inr (0, [.ref q_1, .ref q_2, .ref q_3, .ref q_4, .ref q_6, .int 0, .int 0, .int 0])), (q_4, .inl (cA_5, 20, .inr (.inr (.inr (.inr g_30))))), (q_31, .inr (5, [.ref q_33, .int 0, .int 0, .int 0]))] := hD
  refine W.widen (k := 19) (n := 3224) (Nat.le_of_ble_eq_true rfl) (Nat.le_of_ble_eq_true rfl) ?_
  refine va_astq (r := (RX5, TX5, 4)) hx hb hK_q_4 hP hD hS 1 2 2 5 rfl rfl rfl rfl (vpd (by decide)) dX0_init_68 (fun H locs hP hD hS => ?_)
  obtain ⟨g_34, e_g_34⟩ : ∃ y : Nat → Option Nat, y = va_up g_30 (6 : Int32).toNatClampNeg (some q_31) := ⟨_, rfl⟩
  have hP : va_P (dC, dI) vwCl [(h0, .inr (0, [.ref q_1, .ref q_2, .ref q_3, .ref q_4, .ref q_6, .int 0, .int 0, .int 0])), (q_4, .inl (cA_5, 20, .inr (.inr (.inr (.inr g_34))))), (q_31, .inr (5, [.ref q_33, .int 0, .int 0, .int 0]))] H := by rw [e_g_34]; exact hP
  have hD : va_D A [(h0, .inr (0, [.ref q_1, .ref q_2, .ref q_3, .ref q_4, .ref q_6, .int 0, .int 0, .int 0])), (q_4, .inl (cA_5, 20, .inr (.inr (.inr (.inr g_34)))))] := by rw [e_g_34]; exact hD.sub [0, 1] (by decide) rfl
  have hP := hP.sub (ws' := [(h0, .inr (0, [.ref q_1, .ref q_2, .ref q_3, .ref q_4, .ref q_6, .int 0, .int 0, .int 0])), (q_4, .inl (cA_5, 20, .inr (.inr (.inr (.inr g_34)))))]) [0, 1] rfl
  refine lv_iinc (v := 7) (lv' := [(1, .int 7), (0, .ref h0)]) hx hb dX0_init_69 hl (k := 0) rfl (by decide) (by decide) rfl (fun ls hl => ?_)
  refine lv_goto (tgt := 50) hx hb dX0_init_72 (by decide) ?_
  refine lv_iload_n hx hb dX0_init_50 rfl (lv_at hl 0 rfl) ?_
  refine lv_bipush (v := 20) hx hb dX0_init_51 (by decide) ?_
  refine lv_icmp_ge (tgt := 75) hx hb dX0_init_53 (by decide) (fun c => absurd c (by decide)) (fun _ => ?_)
  refine lv_aload_n hx hb dX0_init_56 rfl (lv_at hl 1 rfl) ?_
  refine va_get (D := (dC, dI)) (ci := 0) (v := .ref q_4) (C := RX0) (T := TX0) (N := 8) hx hb hts h_in_X0 hown hK hP 0 rfl rfl 3 (by decide) (hts (.fieldLink RX0 23 "MatchTrees$Acts" "orderAhead" "[LMatchTrees$Order;") (by decide +kernel)) (fun _ h9 => h9) rfl dX0_init_57 ?_
  refine lv_iload_n hx hb dX0_init_60 rfl (lv_at hl 0 rfl) ?_
  refine va_new (ci := 5) (fs := [.null, .int 0, .int 0, .int 0]) (C := RX5) (T := TX5) (N := 4) hx hb hts h_in_X5 tyX5 tyX5_ok hown (hts (.classLink RX0 21 RX5) (by decide +kernel)) (hts (.instantiable RX5 4) (by decide +kernel)) (hts (.initialized RX5) (by decide +kernel)) hK hP hD hS hA rfl (fun j hj => by rcases (show j = 0 ∨ j = 1 ∨ j = 2 ∨ j = 3 by omega) with rfl | rfl | rfl | rfl <;> rfl) (Nat.le_of_ble_eq_true rfl) (Nat.le_of_ble_eq_true rfl) dX0_init_61 (fun q_35 H hP hD hS => ?_)
  refine W.widen (k := 20) (n := 3228) (Nat.le_of_ble_eq_true rfl) (Nat.le_of_ble_eq_true rfl) ?_
  have hP : va_P (dC, dI) vwCl [(h0, .inr (0, [.ref q_1, .ref q_2, .ref q_3, .ref q_4, .ref q_6, .int 0, .int 0, .int 0])), (q_4, .inl (cA_5, 20, .inr (.inr (.inr (.inr g_34))))), (q_35, .inr (5, [.null, .int 0, .int 0, .int 0]))] H := hP
  have hD : va_D A [(h0, .inr (0, [.ref q_1, .ref q_2, .ref q_3, .ref q_4, .ref q_6, .int 0, .int 0, .int 0])), (q_4, .inl (cA_5, 20, .inr (.inr (.inr (.inr g_34))))), (q_35, .inr (5, [.null, .int 0, .int 0, .int 0]))] := hD
  refine lv_dup hx hb dX0_init_64 rfl ?_
  have hPc := hP.sub (ws' := [(q_35, .inr (5, [.null, .int 0, .int 0, .int 0]))]) [2] rfl
  have hDc := hD.sub (ws' := [(q_35, .inr (5, [.null, .int 0, .int 0, .int 0]))]) [2] (by decide) rfl
  have hFc := va_free (wc := [(q_35, .inr (5, [.null, .int 0, .int 0, .int 0]))]) hD hS hA [2] rfl
  refine va_callv (va_runIN (As := []) (rest := [.ref q_35, .int 7, .ref q_4]) ⟨hx, hb, hml, hown, hts⟩ (c_X5_init l dC dI cI cJ q_35 H.size) ⟨(va_cnB 0 hts gX0_init_X5_init_n30 rfl rfl rfl hN.2.2.2.2.1 (hts (.initialized RX5) (by decide +kernel)) (by decide +kernel) ⟨Nat.le_of_ble_eq_true rfl, Nat.le_of_ble_eq_true rfl⟩), rfl, hts (.instanceMethod yX5_init) (by decide +kernel)⟩ ⟨mBlind, mGo hPc hK hDc hN⟩ rfl rfl hl.1 rfl (lv_room (Nat.le_of_ble_eq_true rfl)) dX0_init_65 ⟨Nat.le_of_ble_eq_true rfl, Nat.le_of_ble_eq_true rfl⟩) hS (fun q _ h => hFc q h) hFc (fun u t H1 locs ht hvm hw hB hz1 hk1 hS => ?_)
  obtain ⟨q_37, hP1, hD1⟩ := hB
  rw [ht] at hP1
  obtain ⟨hP, hD⟩ := va_join (wr := [(h0, .inr (0, [.ref q_1, .ref q_2, .ref q_3, .ref q_4, .ref q_6, .int 0, .int 0, .int 0])), (q_4, .inl (cA_5, 20, .inr (.inr (.inr (.inr g_34)))))]) (w1 := [(q_35, .inr (5, [.ref q_37, .int 0, .int 0, .int 0]))]) hP hD [2] [0, 1] rfl rfl (by decide) (by decide) hk1 hFc hP1 hD1
  generalize H1 = H at hP hS ⊢
  have hP : va_P (dC, dI) vwCl [(h0, .inr (0, [.ref q_1, .ref q_2, .ref q_3, .ref q_4, .ref q_6, .int 0, .int 0, .int 0])), (q_4, .inl (cA_5, 20, .inr (.inr (.inr (.inr g_34))))), (q_35, .inr (5, [.ref q_37, .int 0, .int 0, .int 0]))] H := hP
  have hD : va_D A [(h0, .inr (0, [.ref q_1, .ref q_2, .ref q_3, .ref q_4, .ref q_6, .int 0, .int 0, .int 0])), (q_4, .inl (cA_5, 20, .inr (.inr (.inr (.inr g_34))))), (q_35, .inr (5, [.ref q_37, .int 0, .int 0, .int 0]))] := hD
  refine W.widen (k := 21) (n := 3240) (Nat.le_of_ble_eq_true rfl) (Nat.le_of_ble_eq_true rfl) ?_
  refine va_astq (r := (RX5, TX5, 4)) hx hb hK_q_4 hP hD hS 1 2 2 5 rfl rfl rfl rfl (vpd (by decide)) dX0_init_68 (fun H locs hP hD hS => ?_)
  obtain ⟨g_38, e_g_38⟩ : ∃ y : Nat → Option Nat, y = va_up g_34 (7 : Int32).toNatClampNeg (some q_35) := ⟨_, rfl⟩
  have hP : va_P (dC, dI) vwCl [(h0, .inr (0, [.ref q_1, .ref q_2, .ref q_3, .ref q_4, .ref q_6, .int 0, .int 0, .int 0])), (q_4, .inl (cA_5, 20, .inr (.inr (.inr (.inr g_38))))), (q_35, .inr (5, [.ref q_37, .int 0, .int 0, .int 0]))] H := by rw [e_g_38]; exact hP
  have hD : va_D A [(h0, .inr (0, [.ref q_1, .ref q_2, .ref q_3, .ref q_4, .ref q_6, .int 0, .int 0, .int 0])), (q_4, .inl (cA_5, 20, .inr (.inr (.inr (.inr g_38)))))] := by rw [e_g_38]; exact hD.sub [0, 1] (by decide) rfl
  have hP := hP.sub (ws' := [(h0, .inr (0, [.ref q_1, .ref q_2, .ref q_3, .ref q_4, .ref q_6, .int 0, .int 0, .int 0])), (q_4, .inl (cA_5, 20, .inr (.inr (.inr (.inr g_38)))))]) [0, 1] rfl
  refine lv_iinc (v := 8) (lv' := [(1, .int 8), (0, .ref h0)]) hx hb dX0_init_69 hl (k := 0) rfl (by decide) (by decide) rfl (fun ls hl => ?_)
  refine lv_goto (tgt := 50) hx hb dX0_init_72 (by decide) ?_
  refine lv_iload_n hx hb dX0_init_50 rfl (lv_at hl 0 rfl) ?_
  refine lv_bipush (v := 20) hx hb dX0_init_51 (by decide) ?_
  refine lv_icmp_ge (tgt := 75) hx hb dX0_init_53 (by decide) (fun c => absurd c (by decide)) (fun _ => ?_)
  refine lv_aload_n hx hb dX0_init_56 rfl (lv_at hl 1 rfl) ?_
  refine va_get (D := (dC, dI)) (ci := 0) (v := .ref q_4) (C := RX0) (T := TX0) (N := 8) hx hb hts h_in_X0 hown hK hP 0 rfl rfl 3 (by decide) (hts (.fieldLink RX0 23 "MatchTrees$Acts" "orderAhead" "[LMatchTrees$Order;") (by decide +kernel)) (fun _ h9 => h9) rfl dX0_init_57 ?_
  refine lv_iload_n hx hb dX0_init_60 rfl (lv_at hl 0 rfl) ?_
  refine va_new (ci := 5) (fs := [.null, .int 0, .int 0, .int 0]) (C := RX5) (T := TX5) (N := 4) hx hb hts h_in_X5 tyX5 tyX5_ok hown (hts (.classLink RX0 21 RX5) (by decide +kernel)) (hts (.instantiable RX5 4) (by decide +kernel)) (hts (.initialized RX5) (by decide +kernel)) hK hP hD hS hA rfl (fun j hj => by rcases (show j = 0 ∨ j = 1 ∨ j = 2 ∨ j = 3 by omega) with rfl | rfl | rfl | rfl <;> rfl) (Nat.le_of_ble_eq_true rfl) (Nat.le_of_ble_eq_true rfl) dX0_init_61 (fun q_39 H hP hD hS => ?_)
  refine W.widen (k := 22) (n := 3244) (Nat.le_of_ble_eq_true rfl) (Nat.le_of_ble_eq_true rfl) ?_
  have hP : va_P (dC, dI) vwCl [(h0, .inr (0, [.ref q_1, .ref q_2, .ref q_3, .ref q_4, .ref q_6, .int 0, .int 0, .int 0])), (q_4, .inl (cA_5, 20, .inr (.inr (.inr (.inr g_38))))), (q_39, .inr (5, [.null, .int 0, .int 0, .int 0]))] H := hP
  have hD : va_D A [(h0, .inr (0, [.ref q_1, .ref q_2, .ref q_3, .ref q_4, .ref q_6, .int 0, .int 0, .int 0])), (q_4, .inl (cA_5, 20, .inr (.inr (.inr (.inr g_38))))), (q_39, .inr (5, [.null, .int 0, .int 0, .int 0]))] := hD
  refine lv_dup hx hb dX0_init_64 rfl ?_
  have hPc := hP.sub (ws' := [(q_39, .inr (5, [.null, .int 0, .int 0, .int 0]))]) [2] rfl
  have hDc := hD.sub (ws' := [(q_39, .inr (5, [.null, .int 0, .int 0, .int 0]))]) [2] (by decide) rfl
  have hFc := va_free (wc := [(q_39, .inr (5, [.null, .int 0, .int 0, .int 0]))]) hD hS hA [2] rfl
  refine va_callv (va_runIN (As := []) (rest := [.ref q_39, .int 8, .ref q_4]) ⟨hx, hb, hml, hown, hts⟩ (c_X5_init l dC dI cI cJ q_39 H.size) ⟨(va_cnB 0 hts gX0_init_X5_init_n30 rfl rfl rfl hN.2.2.2.2.1 (hts (.initialized RX5) (by decide +kernel)) (by decide +kernel) ⟨Nat.le_of_ble_eq_true rfl, Nat.le_of_ble_eq_true rfl⟩), rfl, hts (.instanceMethod yX5_init) (by decide +kernel)⟩ ⟨mBlind, mGo hPc hK hDc hN⟩ rfl rfl hl.1 rfl (lv_room (Nat.le_of_ble_eq_true rfl)) dX0_init_65 ⟨Nat.le_of_ble_eq_true rfl, Nat.le_of_ble_eq_true rfl⟩) hS (fun q _ h => hFc q h) hFc (fun u t H1 locs ht hvm hw hB hz1 hk1 hS => ?_)
  obtain ⟨q_41, hP1, hD1⟩ := hB
  rw [ht] at hP1
  obtain ⟨hP, hD⟩ := va_join (wr := [(h0, .inr (0, [.ref q_1, .ref q_2, .ref q_3, .ref q_4, .ref q_6, .int 0, .int 0, .int 0])), (q_4, .inl (cA_5, 20, .inr (.inr (.inr (.inr g_38)))))]) (w1 := [(q_39, .inr (5, [.ref q_41, .int 0, .int 0, .int 0]))]) hP hD [2] [0, 1] rfl rfl (by decide) (by decide) hk1 hFc hP1 hD1
  generalize H1 = H at hP hS ⊢
  have hP : va_P (dC, dI) vwCl [(h0, .inr (0, [.ref q_1, .ref q_2, .ref q_3, .ref q_4, .ref q_6, .int 0, .int 0, .int 0])), (q_4, .inl (cA_5, 20, .inr (.inr (.inr (.inr g_38))))), (q_39, .inr (5, [.ref q_41, .int 0, .int 0, .int 0]))] H := hP
  have hD : va_D A [(h0, .inr (0, [.ref q_1, .ref q_2, .ref q_3, .ref q_4, .ref q_6, .int 0, .int 0, .int 0])), (q_4, .inl (cA_5, 20, .inr (.inr (.inr (.inr g_38))))), (q_39, .inr (5, [.ref q_41, .int 0, .int 0, .int 0]))] := hD
  refine W.widen (k := 23) (n := 3256) (Nat.le_of_ble_eq_true rfl) (Nat.le_of_ble_eq_true rfl) ?_
  refine va_astq (r := (RX5, TX5, 4)) hx hb hK_q_4 hP hD hS 1 2 2 5 rfl rfl rfl rfl (vpd (by decide)) dX0_init_68 (fun H locs hP hD hS => ?_)
  obtain ⟨g_42, e_g_42⟩ : ∃ y : Nat → Option Nat, y = va_up g_38 (8 : Int32).toNatClampNeg (some q_39) := ⟨_, rfl⟩
  have hP : va_P (dC, dI) vwCl [(h0, .inr (0, [.ref q_1, .ref q_2, .ref q_3, .ref q_4, .ref q_6, .int 0, .int 0, .int 0])), (q_4, .inl (cA_5, 20, .inr (.inr (.inr (.inr g_42))))), (q_39, .inr (5, [.ref q_41, .int 0, .int 0, .int 0]))] H := by rw [e_g_42]; exact hP
  have hD : va_D A [(h0, .inr (0, [.ref q_1, .ref q_2, .ref q_3, .ref q_4, .ref q_6, .int 0, .int 0, .int 0])), (q_4, .inl (cA_5, 20, .inr (.inr (.inr (.inr g_42)))))] := by rw [e_g_42]; exact hD.sub [0, 1] (by decide) rfl
  have hP := hP.sub (ws' := [(h0, .inr (0, [.ref q_1, .ref q_2, .ref q_3, .ref q_4, .ref q_6, .int 0, .int 0, .int 0])), (q_4, .inl (cA_5, 20, .inr (.inr (.inr (.inr g_42)))))]) [0, 1] rfl
  refine lv_iinc (v := 9) (lv' := [(1, .int 9), (0, .ref h0)]) hx hb dX0_init_69 hl (k := 0) rfl (by decide) (by decide) rfl (fun ls hl => ?_)
  refine lv_goto (tgt := 50) hx hb dX0_init_72 (by decide) ?_
  refine lv_iload_n hx hb dX0_init_50 rfl (lv_at hl 0 rfl) ?_
  refine lv_bipush (v := 20) hx hb dX0_init_51 (by decide) ?_
  refine lv_icmp_ge (tgt := 75) hx hb dX0_init_53 (by decide) (fun c => absurd c (by decide)) (fun _ => ?_)
  refine lv_aload_n hx hb dX0_init_56 rfl (lv_at hl 1 rfl) ?_
  refine va_get (D := (dC, dI)) (ci := 0) (v := .ref q_4) (C := RX0) (T := TX0) (N := 8) hx hb hts h_in_X0 hown hK hP 0 rfl rfl 3 (by decide) (hts (.fieldLink RX0 23 "MatchTrees$Acts" "orderAhead" "[LMatchTrees$Order;") (by decide +kernel)) (fun _ h9 => h9) rfl dX0_init_57 ?_
  refine lv_iload_n hx hb dX0_init_60 rfl (lv_at hl 0 rfl) ?_
  refine va_new (ci := 5) (fs := [.null, .int 0, .int 0, .int 0]) (C := RX5) (T := TX5) (N := 4) hx hb hts h_in_X5 tyX5 tyX5_ok hown (hts (.classLink RX0 21 RX5) (by decide +kernel)) (hts (.instantiable RX5 4) (by decide +kernel)) (hts (.initialized RX5) (by decide +kernel)) hK hP hD hS hA rfl (fun j hj => by rcases (show j = 0 ∨ j = 1 ∨ j = 2 ∨ j = 3 by omega) with rfl | rfl | rfl | rfl <;> rfl) (Nat.le_of_ble_eq_true rfl) (Nat.le_of_ble_eq_true rfl) dX0_init_61 (fun q_43 H hP hD hS => ?_)
  refine W.widen (k := 24) (n := 3260) (Nat.le_of_ble_eq_true rfl) (Nat.le_of_ble_eq_true rfl) ?_
  have hP : va_P (dC, dI) vwCl [(h0, .inr (0, [.ref q_1, .ref q_2, .ref q_3, .ref q_4, .ref q_6, .int 0, .int 0, .int 0])), (q_4, .inl (cA_5, 20, .inr (.inr (.inr (.inr g_42))))), (q_43, .inr (5, [.null, .int 0, .int 0, .int 0]))] H := hP
  have hD : va_D A [(h0, .inr (0, [.ref q_1, .ref q_2, .ref q_3, .ref q_4, .ref q_6, .int 0, .int 0, .int 0])), (q_4, .inl (cA_5, 20, .inr (.inr (.inr (.inr g_42))))), (q_43, .inr (5, [.null, .int 0, .int 0, .int 0]))] := hD
  refine lv_dup hx hb dX0_init_64 rfl ?_
  have hPc := hP.sub (ws' := [(q_43, .inr (5, [.null, .int 0, .int 0, .int 0]))]) [2] rfl
  have hDc := hD.sub (ws' := [(q_43, .inr (5, [.null, .int 0, .int 0, .int 0]))]) [2] (by decide) rfl
  have hFc := va_free (wc := [(q_43, .inr (5, [.null, .int 0, .int 0, .int 0]))]) hD hS hA [2] rfl
  refine va_callv (va_runIN (As := []) (rest := [.ref q_43, .int 9, .ref q_4]) ⟨hx, hb, hml, hown, hts⟩ (c_X5_init l dC dI cI cJ q_43 H.size) ⟨(va_cnB 0 hts gX0_init_X5_init_n30 rfl rfl rfl hN.2.2.2.2.1 (hts (.initialized RX5) (by decide +kernel)) (by decide +kernel) ⟨Nat.le_of_ble_eq_true rfl, Nat.le_of_ble_eq_true rfl⟩), rfl, hts (.instanceMethod yX5_init) (by decide +kernel)⟩ ⟨mBlind, mGo hPc hK hDc hN⟩ rfl rfl hl.1 rfl (lv_room (Nat.le_of_ble_eq_true rfl)) dX0_init_65 ⟨Nat.le_of_ble_eq_true rfl, Nat.le_of_ble_eq_true rfl⟩) hS (fun q _ h => hFc q h) hFc (fun u t H1 locs ht hvm hw hB hz1 hk1 hS => ?_)
  obtain ⟨q_45, hP1, hD1⟩ := hB
  rw [ht] at hP1
  obtain ⟨hP, hD⟩ := va_join (wr := [(h0, .inr (0, [.ref q_1, .ref q_2, .ref q_3, .ref q_4, .ref q_6, .int 0, .int 0, .int 0])), (q_4, .inl (cA_5, 20, .inr (.inr (.inr (.inr g_42)))))]) (w1 := [(q_43, .inr (5, [.ref q_45, .int 0, .int 0, .int 0]))]) hP hD [2] [0, 1] rfl rfl (by decide) (by decide) hk1 hFc hP1 hD1
  generalize H1 = H at hP hS ⊢
  have hP : va_P (dC, dI) vwCl [(h0, .inr (0, [.ref q_1, .ref q_2, .ref q_3, .ref q_4, .ref q_6, .int 0, .int 0, .int 0])), (q_4, .inl (cA_5, 20, .inr (.inr (.inr (.inr g_42))))), (q_43, .inr (5, [.ref q_45, .int 0, .int 0, .int 0]))] H := hP
  have hD : va_D A [(h0, .inr (0, [.ref q_1, .ref q_2, .ref q_3, .ref q_4, .ref q_6, .int 0, .int 0, .int 0])), (q_4, .inl (cA_5, 20, .inr (.inr (.inr (.inr g_42))))), (q_43, .inr (5, [.ref q_45, .int 0, .int 0, .int 0]))] := hD
  refine W.widen (k := 25) (n := 3272) (Nat.le_of_ble_eq_true rfl) (Nat.le_of_ble_eq_true rfl) ?_
  refine va_astq (r := (RX5, TX5, 4)) hx hb hK_q_4 hP hD hS 1 2 2 5 rfl rfl rfl rfl (vpd (by decide)) dX0_init_68 (fun H locs hP hD hS => ?_)
  obtain ⟨g_46, e_g_46⟩ : ∃ y : Nat → Option Nat, y = va_up g_42 (9 : Int32).toNatClampNeg (some q_43) := ⟨_, rfl⟩
  have hP : va_P (dC, dI) vwCl [(h0, .inr (0, [.ref q_1, .ref q_2, .ref q_3, .ref q_4, .ref q_6, .int 0, .int 0, .int 0])), (q_4, .inl (cA_5, 20, .inr (.inr (.inr (.inr g_46))))), (q_43, .inr (5, [.ref q_45, .int 0, .int 0, .int 0]))] H := by rw [e_g_46]; exact hP
  have hD : va_D A [(h0, .inr (0, [.ref q_1, .ref q_2, .ref q_3, .ref q_4, .ref q_6, .int 0, .int 0, .int 0])), (q_4, .inl (cA_5, 20, .inr (.inr (.inr (.inr g_46)))))] := by rw [e_g_46]; exact hD.sub [0, 1] (by decide) rfl
  have hP := hP.sub (ws' := [(h0, .inr (0, [.ref q_1, .ref q_2, .ref q_3, .ref q_4, .ref q_6, .int 0, .int 0, .int 0])), (q_4, .inl (cA_5, 20, .inr (.inr (.inr (.inr g_46)))))]) [0, 1] rfl
  refine lv_iinc (v := 10) (lv' := [(1, .int 10), (0, .ref h0)]) hx hb dX0_init_69 hl (k := 0) rfl (by decide) (by decide) rfl (fun ls hl => ?_)
  refine lv_goto (tgt := 50) hx hb dX0_init_72 (by decide) ?_
  refine lv_iload_n hx hb dX0_init_50 rfl (lv_at hl 0 rfl) ?_
  refine lv_bipush (v := 20) hx hb dX0_init_51 (by decide) ?_
  refine lv_icmp_ge (tgt := 75) hx hb dX0_init_53 (by decide) (fun c => absurd c (by decide)) (fun _ => ?_)
  refine lv_aload_n hx hb dX0_init_56 rfl (lv_at hl 1 rfl) ?_
  refine va_get (D := (dC, dI)) (ci := 0) (v := .ref q_4) (C := RX0) (T := TX0) (N := 8) hx hb hts h_in_X0 hown hK hP 0 rfl rfl 3 (by decide) (hts (.fieldLink RX0 23 "MatchTrees$Acts" "orderAhead" "[LMatchTrees$Order;") (by decide +kernel)) (fun _ h9 => h9) rfl dX0_init_57 ?_
  refine lv_iload_n hx hb dX0_init_60 rfl (lv_at hl 0 rfl) ?_
  refine va_new (ci := 5) (fs := [.null, .int 0, .int 0, .int 0]) (C := RX5) (T := TX5) (N := 4) hx hb hts h_in_X5 tyX5 tyX5_ok hown (hts (.classLink RX0 21 RX5) (by decide +kernel)) (hts (.instantiable RX5 4) (by decide +kernel)) (hts (.initialized RX5) (by decide +kernel)) hK hP hD hS hA rfl (fun j hj => by rcases (show j = 0 ∨ j = 1 ∨ j = 2 ∨ j = 3 by omega) with rfl | rfl | rfl | rfl <;> rfl) (Nat.le_of_ble_eq_true rfl) (Nat.le_of_ble_eq_true rfl) dX0_init_61 (fun q_47 H hP hD hS => ?_)
  refine W.widen (k := 26) (n := 3276) (Nat.le_of_ble_eq_true rfl) (Nat.le_of_ble_eq_true rfl) ?_
  have hP : va_P (dC, dI) vwCl [(h0, .inr (0, [.ref q_1, .ref q_2, .ref q_3, .ref q_4, .ref q_6, .int 0, .int 0, .int 0])), (q_4, .inl (cA_5, 20, .inr (.inr (.inr (.inr g_46))))), (q_47, .inr (5, [.null, .int 0, .int 0, .int 0]))] H := hP
  have hD : va_D A [(h0, .inr (0, [.ref q_1, .ref q_2, .ref q_3, .ref q_4, .ref q_6, .int 0, .int 0, .int 0])), (q_4, .inl (cA_5, 20, .inr (.inr (.inr (.inr g_46))))), (q_47, .inr (5, [.null, .int 0, .int 0, .int 0]))] := hD
  refine lv_dup hx hb dX0_init_64 rfl ?_
  have hPc := hP.sub (ws' := [(q_47, .inr (5, [.null, .int 0, .int 0, .int 0]))]) [2] rfl
  have hDc := hD.sub (ws' := [(q_47, .inr (5, [.null, .int 0, .int 0, .int 0]))]) [2] (by decide) rfl
  have hFc := va_free (wc := [(q_47, .inr (5, [.null, .int 0, .int 0, .int 0]))]) hD hS hA [2] rfl
  refine va_callv (va_runIN (As := []) (rest := [.ref q_47, .int 10, .ref q_4]) ⟨hx, hb, hml, hown, hts⟩ (c_X5_init l dC dI cI cJ q_47 H.size) ⟨(va_cnB 0 hts gX0_init_X5_init_n30 rfl rfl rfl hN.2.2.2.2.1 (hts (.initialized RX5) (by decide +kernel)) (by decide +kernel) ⟨Nat.le_of_ble_eq_true rfl, Nat.le_of_ble_eq_true rfl⟩), rfl, hts (.instanceMethod yX5_init) (by decide +kernel)⟩ ⟨mBlind, mGo hPc hK hDc hN⟩ rfl rfl hl.1 rfl (lv_room (Nat.le_of_ble_eq_true rfl)) dX0_init_65 ⟨Nat.le_of_ble_eq_true rfl, Nat.le_of_ble_eq_true rfl⟩) hS (fun q _ h => hFc q h) hFc (fun u t H1 locs ht hvm hw hB hz1 hk1 hS => ?_)
  obtain ⟨q_49, hP1, hD1⟩ := hB
  rw [ht] at hP1
  obtain ⟨hP, hD⟩ := va_join (wr := [(h0, .inr (0, [.ref q_1, .ref q_2, .ref q_3, .ref q_4, .ref q_6, .int 0, .int 0, .int 0])), (q_4, .inl (cA_5, 20, .inr (.inr (.inr (.inr g_46)))))]) (w1 := [(q_47, .inr (5, [.ref q_49, .int 0, .int 0, .int 0]))]) hP hD [2] [0, 1] rfl rfl (by decide) (by decide) hk1 hFc hP1 hD1
  generalize H1 = H at hP hS ⊢
  have hP : va_P (dC, dI) vwCl [(h0, .inr (0, [.ref q_1, .ref q_2, .ref q_3, .ref q_4, .ref q_6, .int 0, .int 0, .int 0])), (q_4, .inl (cA_5, 20, .inr (.inr (.inr (.inr g_46))))), (q_47, .inr (5, [.ref q_49, .int 0, .int 0, .int 0]))] H := hP
  have hD : va_D A [(h0, .inr (0, [.ref q_1, .ref q_2, .ref q_3, .ref q_4, .ref q_6, .int 0, .int 0, .int 0])), (q_4, .inl (cA_5, 20, .inr (.inr (.inr (.inr g_46))))), (q_47, .inr (5, [.ref q_49, .int 0, .int 0, .int 0]))] := hD
  refine W.widen (k := 27) (n := 3288) (Nat.le_of_ble_eq_true rfl) (Nat.le_of_ble_eq_true rfl) ?_
  refine va_astq (r := (RX5, TX5, 4)) hx hb hK_q_4 hP hD hS 1 2 2 5 rfl rfl rfl rfl (vpd (by decide)) dX0_init_68 (fun H locs hP hD hS => ?_)
  obtain ⟨g_50, e_g_50⟩ : ∃ y : Nat → Option Nat, y = va_up g_46 (10 : Int32).toNatClampNeg (some q_47) := ⟨_, rfl⟩
  have hP : va_P (dC, dI) vwCl [(h0, .inr (0, [.ref q_1, .ref q_2, .ref q_3, .ref q_4, .ref q_6, .int 0, .int 0, .int 0])), (q_4, .inl (cA_5, 20, .inr (.inr (.inr (.inr g_50))))), (q_47, .inr (5, [.ref q_49, .int 0, .int 0, .int 0]))] H := by rw [e_g_50]; exact hP
  have hD : va_D A [(h0, .inr (0, [.ref q_1, .ref q_2, .ref q_3, .ref q_4, .ref q_6, .int 0, .int 0, .int 0])), (q_4, .inl (cA_5, 20, .inr (.inr (.inr (.inr g_50)))))] := by rw [e_g_50]; exact hD.sub [0, 1] (by decide) rfl
  have hP := hP.sub (ws' := [(h0, .inr (0, [.ref q_1, .ref q_2, .ref q_3, .ref q_4, .ref q_6, .int 0, .int 0, .int 0])), (q_4, .inl (cA_5, 20, .inr (.inr (.inr (.inr g_50)))))]) [0, 1] rfl
  refine lv_iinc (v := 11) (lv' := [(1, .int 11), (0, .ref h0)]) hx hb dX0_init_69 hl (k := 0) rfl (by decide) (by decide) rfl (fun ls hl => ?_)
  refine lv_goto (tgt := 50) hx hb dX0_init_72 (by decide) ?_
  refine lv_iload_n hx hb dX0_init_50 rfl (lv_at hl 0 rfl) ?_
  refine lv_bipush (v := 20) hx hb dX0_init_51 (by decide) ?_
  refine lv_icmp_ge (tgt := 75) hx hb dX0_init_53 (by decide) (fun c => absurd c (by decide)) (fun _ => ?_)
  refine lv_aload_n hx hb dX0_init_56 rfl (lv_at hl 1 rfl) ?_
  refine va_get (D := (dC, dI)) (ci := 0) (v := .ref q_4) (C := RX0) (T := TX0) (N := 8) hx hb hts h_in_X0 hown hK hP 0 rfl rfl 3 (by decide) (hts (.fieldLink RX0 23 "MatchTrees$Acts" "orderAhead" "[LMatchTrees$Order;") (by decide +kernel)) (fun _ h9 => h9) rfl dX0_init_57 ?_
  refine lv_iload_n hx hb dX0_init_60 rfl (lv_at hl 0 rfl) ?_
  refine va_new (ci := 5) (fs := [.null, .int 0, .int 0, .int 0]) (C := RX5) (T := TX5) (N := 4) hx hb hts h_in_X5 tyX5 tyX5_ok hown (hts (.classLink RX0 21 RX5) (by decide +kernel)) (hts (.instantiable RX5 4) (by decide +kernel)) (hts (.initialized RX5) (by decide +kernel)) hK hP hD hS hA rfl (fun j hj => by rcases (show j = 0 ∨ j = 1 ∨ j = 2 ∨ j = 3 by omega) with rfl | rfl | rfl | rfl <;> rfl) (Nat.le_of_ble_eq_true rfl) (Nat.le_of_ble_eq_true rfl) dX0_init_61 (fun q_51 H hP hD hS => ?_)
  refine W.widen (k := 28) (n := 3292) (Nat.le_of_ble_eq_true rfl) (Nat.le_of_ble_eq_true rfl) ?_
  have hP : va_P (dC, dI) vwCl [(h0, .inr (0, [.ref q_1, .ref q_2, .ref q_3, .ref q_4, .ref q_6, .int 0, .int 0, .int 0])), (q_4, .inl (cA_5, 20, .inr (.inr (.inr (.inr g_50))))), (q_51, .inr (5, [.null, .int 0, .int 0, .int 0]))] H := hP
  have hD : va_D A [(h0, .inr (0, [.ref q_1, .ref q_2, .ref q_3, .ref q_4, .ref q_6, .int 0, .int 0, .int 0])), (q_4, .inl (cA_5, 20, .inr (.inr (.inr (.inr g_50))))), (q_51, .inr (5, [.null, .int 0, .int 0, .int 0]))] := hD
  refine lv_dup hx hb dX0_init_64 rfl ?_
  have hPc := hP.sub (ws' := [(q_51, .inr (5, [.null, .int 0, .int 0, .int 0]))]) [2] rfl
  have hDc := hD.sub (ws' := [(q_51, .inr (5, [.null, .int 0, .int 0, .int 0]))]) [2] (by decide) rfl
  have hFc := va_free (wc := [(q_51, .inr (5, [.null, .int 0, .int 0, .int 0]))]) hD hS hA [2] rfl
  refine va_callv (va_runIN (As := []) (rest := [.ref q_51, .int 11, .ref q_4]) ⟨hx, hb, hml, hown, hts⟩ (c_X5_init l dC dI cI cJ q_51 H.size) ⟨(va_cnB 0 hts gX0_init_X5_init_n30 rfl rfl rfl hN.2.2.2.2.1 (hts (.initialized RX5) (by decide +kernel)) (by decide +kernel) ⟨Nat.le_of_ble_eq_true rfl, Nat.le_of_ble_eq_true rfl⟩), rfl, hts (.instanceMethod yX5_init) (by decide +kernel)⟩ ⟨mBlind, mGo hPc hK hDc hN⟩ rfl rfl hl.1 rfl (lv_room (Nat.le_of_ble_eq_true rfl)) dX0_init_65 ⟨Nat.le_of_ble_eq_true rfl, Nat.le_of_ble_eq_true rfl⟩) hS (fun q _ h => hFc q h) hFc (fun u t H1 locs ht hvm hw hB hz1 hk1 hS => ?_)
  obtain ⟨q_53, hP1, hD1⟩ := hB
  rw [ht] at hP1
  obtain ⟨hP, hD⟩ := va_join (wr := [(h0, .inr (0, [.ref q_1, .ref q_2, .ref q_3, .ref q_4, .ref q_6, .int 0, .int 0, .int 0])), (q_4, .inl (cA_5, 20, .inr (.inr (.inr (.inr g_50)))))]) (w1 := [(q_51, .inr (5, [.ref q_53, .int 0, .int 0, .int 0]))]) hP hD [2] [0, 1] rfl rfl (by decide) (by decide) hk1 hFc hP1 hD1
  generalize H1 = H at hP hS ⊢
  have hP : va_P (dC, dI) vwCl [(h0, .inr (0, [.ref q_1, .ref q_2, .ref q_3, .ref q_4, .ref q_6, .int 0, .int 0, .int 0])), (q_4, .inl (cA_5, 20, .inr (.inr (.inr (.inr g_50))))), (q_51, .inr (5, [.ref q_53, .int 0, .int 0, .int 0]))] H := hP
  have hD : va_D A [(h0, .inr (0, [.ref q_1, .ref q_2, .ref q_3, .ref q_4, .ref q_6, .int 0, .int 0, .int 0])), (q_4, .inl (cA_5, 20, .inr (.inr (.inr (.inr g_50))))), (q_51, .inr (5, [.ref q_53, .int 0, .int 0, .int 0]))] := hD
  refine W.widen (k := 29) (n := 3304) (Nat.le_of_ble_eq_true rfl) (Nat.le_of_ble_eq_true rfl) ?_
  refine va_astq (r := (RX5, TX5, 4)) hx hb hK_q_4 hP hD hS 1 2 2 5 rfl rfl rfl rfl (vpd (by decide)) dX0_init_68 (fun H locs hP hD hS => ?_)
  obtain ⟨g_54, e_g_54⟩ : ∃ y : Nat → Option Nat, y = va_up g_50 (11 : Int32).toNatClampNeg (some q_51) := ⟨_, rfl⟩
  have hP : va_P (dC, dI) vwCl [(h0, .inr (0, [.ref q_1, .ref q_2, .ref q_3, .ref q_4, .ref q_6, .int 0, .int 0, .int 0])), (q_4, .inl (cA_5, 20, .inr (.inr (.inr (.inr g_54))))), (q_51, .inr (5, [.ref q_53, .int 0, .int 0, .int 0]))] H := by rw [e_g_54]; exact hP
  have hD : va_D A [(h0, .inr (0, [.ref q_1, .ref q_2, .ref q_3, .ref q_4, .ref q_6, .int 0, .int 0, .int 0])), (q_4, .inl (cA_5, 20, .inr (.inr (.inr (.inr g_54)))))] := by rw [e_g_54]; exact hD.sub [0, 1] (by decide) rfl
  have hP := hP.sub (ws' := [(h0, .inr (0, [.ref q_1, .ref q_2, .ref q_3, .ref q_4, .ref q_6, .int 0, .int 0, .int 0])), (q_4, .inl (cA_5, 20, .inr (.inr (.inr (.inr g_54)))))]) [0, 1] rfl
  refine lv_iinc (v := 12) (lv' := [(1, .int 12), (0, .ref h0)]) hx hb dX0_init_69 hl (k := 0) rfl (by decide) (by decide) rfl (fun ls hl => ?_)
  refine lv_goto (tgt := 50) hx hb dX0_init_72 (by decide) ?_
  refine lv_iload_n hx hb dX0_init_50 rfl (lv_at hl 0 rfl) ?_
  refine lv_bipush (v := 20) hx hb dX0_init_51 (by decide) ?_
  refine lv_icmp_ge (tgt := 75) hx hb dX0_init_53 (by decide) (fun c => absurd c (by decide)) (fun _ => ?_)
  refine lv_aload_n hx hb dX0_init_56 rfl (lv_at hl 1 rfl) ?_
  refine va_get (D := (dC, dI)) (ci := 0) (v := .ref q_4) (C := RX0) (T := TX0) (N := 8) hx hb hts h_in_X0 hown hK hP 0 rfl rfl 3 (by decide) (hts (.fieldLink RX0 23 "MatchTrees$Acts" "orderAhead" "[LMatchTrees$Order;") (by decide +kernel)) (fun _ h9 => h9) rfl dX0_init_57 ?_
  refine lv_iload_n hx hb dX0_init_60 rfl (lv_at hl 0 rfl) ?_
  refine va_new (ci := 5) (fs := [.null, .int 0, .int 0, .int 0]) (C := RX5) (T := TX5) (N := 4) hx hb hts h_in_X5 tyX5 tyX5_ok hown (hts (.classLink RX0 21 RX5) (by decide +kernel)) (hts (.instantiable RX5 4) (by decide +kernel)) (hts (.initialized RX5) (by decide +kernel)) hK hP hD hS hA rfl (fun j hj => by rcases (show j = 0 ∨ j = 1 ∨ j = 2 ∨ j = 3 by omega) with rfl | rfl | rfl | rfl <;> rfl) (Nat.le_of_ble_eq_true rfl) (Nat.le_of_ble_eq_true rfl) dX0_init_61 (fun q_55 H hP hD hS => ?_)
  refine W.widen (k := 30) (n := 3308) (Nat.le_of_ble_eq_true rfl) (Nat.le_of_ble_eq_true rfl) ?_
  have hP : va_P (dC, dI) vwCl [(h0, .inr (0, [.ref q_1, .ref q_2, .ref q_3, .ref q_4, .ref q_6, .int 0, .int 0, .int 0])), (q_4, .inl (cA_5, 20, .inr (.inr (.inr (.inr g_54))))), (q_55, .inr (5, [.null, .int 0, .int 0, .int 0]))] H := hP
  have hD : va_D A [(h0, .inr (0, [.ref q_1, .ref q_2, .ref q_3, .ref q_4, .ref q_6, .int 0, .int 0, .int 0])), (q_4, .inl (cA_5, 20, .inr (.inr (.inr (.inr g_54))))), (q_55, .inr (5, [.null, .int 0, .int 0, .int 0]))] := hD
  refine lv_dup hx hb dX0_init_64 rfl ?_
  have hPc := hP.sub (ws' := [(q_55, .inr (5, [.null, .int 0, .int 0, .int 0]))]) [2] rfl
  have hDc := hD.sub (ws' := [(q_55, .inr (5, [.null, .int 0, .int 0, .int 0]))]) [2] (by decide) rfl
  have hFc := va_free (wc := [(q_55, .inr (5, [.null, .int 0, .int 0, .int 0]))]) hD hS hA [2] rfl
  refine va_callv (va_runIN (As := []) (rest := [.ref q_55, .int 12, .ref q_4]) ⟨hx, hb, hml, hown, hts⟩ (c_X5_init l dC dI cI cJ q_55 H.size) ⟨(va_cnB 0 hts gX0_init_X5_init_n30 rfl rfl rfl hN.2.2.2.2.1 (hts (.initialized RX5) (by decide +kernel)) (by decide +kernel) ⟨Nat.le_of_ble_eq_true rfl, Nat.le_of_ble_eq_true rfl⟩), rfl, hts (.instanceMethod yX5_init) (by decide +kernel)⟩ ⟨mBlind, mGo hPc hK hDc hN⟩ rfl rfl hl.1 rfl (lv_room (Nat.le_of_ble_eq_true rfl)) dX0_init_65 ⟨Nat.le_of_ble_eq_true rfl, Nat.le_of_ble_eq_true rfl⟩) hS (fun q _ h => hFc q h) hFc (fun u t H1 locs ht hvm hw hB hz1 hk1 hS => ?_)
  obtain ⟨q_57, hP1, hD1⟩ := hB
  rw [ht] at hP1
  obtain ⟨hP, hD⟩ := va_join (wr := [(h0, .inr (0, [.ref q_1, .ref q_2, .ref q_3, .ref q_4, .ref q_6, .int 0, .int 0, .int 0])), (q_4, .inl (cA_5, 20, .inr (.inr (.inr (.inr g_54)))))]) (w1 := [(q_55, .inr (5, [.ref q_57, .int 0, .int 0, .int 0]))]) hP hD [2] [0, 1] rfl rfl (by decide) (by decide) hk1 hFc hP1 hD1
  generalize H1 = H at hP hS ⊢
  have hP : va_P (dC, dI) vwCl [(h0, .inr (0, [.ref q_1, .ref q_2, .ref q_3, .ref q_4, .ref q_6, .int 0, .int 0, .int 0])), (q_4, .inl (cA_5, 20, .inr (.inr (.inr (.inr g_54))))), (q_55, .inr (5, [.ref q_57, .int 0, .int 0, .int 0]))] H := hP
  have hD : va_D A [(h0, .inr (0, [.ref q_1, .ref q_2, .ref q_3, .ref q_4, .ref q_6, .int 0, .int 0, .int 0])), (q_4, .inl (cA_5, 20, .inr (.inr (.inr (.inr g_54))))), (q_55, .inr (5, [.ref q_57, .int 0, .int 0, .int 0]))] := hD
  refine W.widen (k := 31) (n := 3320) (Nat.le_of_ble_eq_true rfl) (Nat.le_of_ble_eq_true rfl) ?_
  refine va_astq (r := (RX5, TX5, 4)) hx hb hK_q_4 hP hD hS 1 2 2 5 rfl rfl rfl rfl (vpd (by decide)) dX0_init_68 (fun H locs hP hD hS => ?_)
  obtain ⟨g_58, e_g_58⟩ : ∃ y : Nat → Option Nat, y = va_up g_54 (12 : Int32).toNatClampNeg (some q_55) := ⟨_, rfl⟩
  have hP : va_P (dC, dI) vwCl [(h0, .inr (0, [.ref q_1, .ref q_2, .ref q_3, .ref q_4, .ref q_6, .int 0, .int 0, .int 0])), (q_4, .inl (cA_5, 20, .inr (.inr (.inr (.inr g_58))))), (q_55, .inr (5, [.ref q_57, .int 0, .int 0, .int 0]))] H := by rw [e_g_58]; exact hP
  have hD : va_D A [(h0, .inr (0, [.ref q_1, .ref q_2, .ref q_3, .ref q_4, .ref q_6, .int 0, .int 0, .int 0])), (q_4, .inl (cA_5, 20, .inr (.inr (.inr (.inr g_58)))))] := by rw [e_g_58]; exact hD.sub [0, 1] (by decide) rfl
  have hP := hP.sub (ws' := [(h0, .inr (0, [.ref q_1, .ref q_2, .ref q_3, .ref q_4, .ref q_6, .int 0, .int 0, .int 0])), (q_4, .inl (cA_5, 20, .inr (.inr (.inr (.inr g_58)))))]) [0, 1] rfl
  refine lv_iinc (v := 13) (lv' := [(1, .int 13), (0, .ref h0)]) hx hb dX0_init_69 hl (k := 0) rfl (by decide) (by decide) rfl (fun ls hl => ?_)
  refine lv_goto (tgt := 50) hx hb dX0_init_72 (by decide) ?_
  refine lv_iload_n hx hb dX0_init_50 rfl (lv_at hl 0 rfl) ?_
  refine lv_bipush (v := 20) hx hb dX0_init_51 (by decide) ?_
  refine lv_icmp_ge (tgt := 75) hx hb dX0_init_53 (by decide) (fun c => absurd c (by decide)) (fun _ => ?_)
  refine lv_aload_n hx hb dX0_init_56 rfl (lv_at hl 1 rfl) ?_
  refine va_get (D := (dC, dI)) (ci := 0) (v := .ref q_4) (C := RX0) (T := TX0) (N := 8) hx hb hts h_in_X0 hown hK hP 0 rfl rfl 3 (by decide) (hts (.fieldLink RX0 23 "MatchTrees$Acts" "orderAhead" "[LMatchTrees$Order;") (by decide +kernel)) (fun _ h9 => h9) rfl dX0_init_57 ?_
  refine lv_iload_n hx hb dX0_init_60 rfl (lv_at hl 0 rfl) ?_
  refine va_new (ci := 5) (fs := [.null, .int 0, .int 0, .int 0]) (C := RX5) (T := TX5) (N := 4) hx hb hts h_in_X5 tyX5 tyX5_ok hown (hts (.classLink RX0 21 RX5) (by decide +kernel)) (hts (.instantiable RX5 4) (by decide +kernel)) (hts (.initialized RX5) (by decide +kernel)) hK hP hD hS hA rfl (fun j hj => by rcases (show j = 0 ∨ j = 1 ∨ j = 2 ∨ j = 3 by omega) with rfl | rfl | rfl | rfl <;> rfl) (Nat.le_of_ble_eq_true rfl) (Nat.le_of_ble_eq_true rfl) dX0_init_61 (fun q_59 H hP hD hS => ?_)
  refine W.widen (k := 32) (n := 3324) (Nat.le_of_ble_eq_true rfl) (Nat.le_of_ble_eq_true rfl) ?_
  have hP : va_P (dC, dI) vwCl [(h0, .inr (0, [.ref q_1, .ref q_2, .ref q_3, .ref q_4, .ref q_6, .int 0, .int 0, .int 0])), (q_4, .inl (cA_5, 20, .inr (.inr (.inr (.inr g_58))))), (q_59, .inr (5, [.null, .int 0, .int 0, .int 0]))] H := hP
  have hD : va_D A [(h0, .inr (0, [.ref q_1, .ref q_2, .ref q_3, .ref q_4, .ref q_6, .int 0, .int 0, .int 0])), (q_4, .inl (cA_5, 20, .inr (.inr (.inr (.inr g_58))))), (q_59, .inr (5, [.null, .int 0, .int 0, .int 0]))] := hD
  refine lv_dup hx hb dX0_init_64 rfl ?_
  have hPc := hP.sub (ws' := [(q_59, .inr (5, [.null, .int 0, .int 0, .int 0]))]) [2] rfl
  have hDc := hD.sub (ws' := [(q_59, .inr (5, [.null, .int 0, .int 0, .int 0]))]) [2] (by decide) rfl
  have hFc := va_free (wc := [(q_59, .inr (5, [.null, .int 0, .int 0, .int 0]))]) hD hS hA [2] rfl
  refine va_callv (va_runIN (As := []) (rest := [.ref q_59, .int 13, .ref q_4]) ⟨hx, hb, hml, hown, hts⟩ (c_X5_init l dC dI cI cJ q_59 H.size) ⟨(va_cnB 0 hts gX0_init_X5_init_n30 rfl rfl rfl hN.2.2.2.2.1 (hts (.initialized RX5) (by decide +kernel)) (by decide +kernel) ⟨Nat.le_of_ble_eq_true rfl, Nat.le_of_ble_eq_true rfl⟩), rfl, hts (.instanceMethod yX5_init) (by decide +kernel)⟩ ⟨mBlind, mGo hPc hK hDc hN⟩ rfl rfl hl.1 rfl (lv_room (Nat.le_of_ble_eq_true rfl)) dX0_init_65 ⟨Nat.le_of_ble_eq_true rfl, Nat.le_of_ble_eq_true rfl⟩) hS (fun q _ h => hFc q h) hFc (fun u t H1 locs ht hvm hw hB hz1 hk1 hS => ?_)
  obtain ⟨q_61, hP1, hD1⟩ := hB
  rw [ht] at hP1
  obtain ⟨hP, hD⟩ := va_join (wr := [(h0, .inr (0, [.ref q_1, .ref q_2, .ref q_3, .ref q_4, .ref q_6, .int 0, .int 0, .int 0])), (q_4, .inl (cA_5, 20, .inr (.inr (.inr (.inr g_58)))))]) (w1 := [(q_59, .inr (5, [.ref q_61, .int 0, .int 0, .int 0]))]) hP hD [2] [0, 1] rfl rfl (by decide) (by decide) hk1 hFc hP1 hD1
  generalize H1 = H at hP hS ⊢
  have hP : va_P (dC, dI) vwCl [(h0, .inr (0, [.ref q_1, .ref q_2, .ref q_3, .ref q_4, .ref q_6, .int 0, .int 0, .int 0])), (q_4, .inl (cA_5, 20, .inr (.inr (.inr (.inr g_58))))), (q_59, .inr (5, [.ref q_61, .int 0, .int 0, .int 0]))] H := hP
  have hD : va_D A [(h0, .inr (0, [.ref q_1, .ref q_2, .ref q_3, .ref q_4, .ref q_6, .int 0, .int 0, .int 0])), (q_4, .inl (cA_5, 20, .inr (.inr (.inr (.inr g_58))))), (q_59, .inr (5, [.ref q_61, .int 0, .int 0, .int 0]))] := hD
  refine W.widen (k := 33) (n := 3336) (Nat.le_of_ble_eq_true rfl) (Nat.le_of_ble_eq_true rfl) ?_
  refine va_astq (r := (RX5, TX5, 4)) hx hb hK_q_4 hP hD hS 1 2 2 5 rfl rfl rfl rfl (vpd (by decide)) dX0_init_68 (fun H locs hP hD hS => ?_)
  obtain ⟨g_62, e_g_62⟩ : ∃ y : Nat → Option Nat, y = va_up g_58 (13 : Int32).toNatClampNeg (some q_59) := ⟨_, rfl⟩
  have hP : va_P (dC, dI) vwCl [(h0, .inr (0, [.ref q_1, .ref q_2, .ref q_3, .ref q_4, .ref q_6, .int 0, .int 0, .int 0])), (q_4, .inl (cA_5, 20, .inr (.inr (.inr (.inr g_62))))), (q_59, .inr (5, [.ref q_61, .int 0, .int 0, .int 0]))] H := by rw [e_g_62]; exact hP
  have hD : va_D A [(h0, .inr (0, [.ref q_1, .ref q_2, .ref q_3, .ref q_4, .ref q_6, .int 0, .int 0, .int 0])), (q_4, .inl (cA_5, 20, .inr (.inr (.inr (.inr g_62)))))] := by rw [e_g_62]; exact hD.sub [0, 1] (by decide) rfl
  have hP := hP.sub (ws' := [(h0, .inr (0, [.ref q_1, .ref q_2, .ref q_3, .ref q_4, .ref q_6, .int 0, .int 0, .int 0])), (q_4, .inl (cA_5, 20, .inr (.inr (.inr (.inr g_62)))))]) [0, 1] rfl
  refine lv_iinc (v := 14) (lv' := [(1, .int 14), (0, .ref h0)]) hx hb dX0_init_69 hl (k := 0) rfl (by decide) (by decide) rfl (fun ls hl => ?_)
  refine lv_goto (tgt := 50) hx hb dX0_init_72 (by decide) ?_
  refine lv_iload_n hx hb dX0_init_50 rfl (lv_at hl 0 rfl) ?_
  refine lv_bipush (v := 20) hx hb dX0_init_51 (by decide) ?_
  refine lv_icmp_ge (tgt := 75) hx hb dX0_init_53 (by decide) (fun c => absurd c (by decide)) (fun _ => ?_)
  refine lv_aload_n hx hb dX0_init_56 rfl (lv_at hl 1 rfl) ?_
  refine va_get (D := (dC, dI)) (ci := 0) (v := .ref q_4) (C := RX0) (T := TX0) (N := 8) hx hb hts h_in_X0 hown hK hP 0 rfl rfl 3 (by decide) (hts (.fieldLink RX0 23 "MatchTrees$Acts" "orderAhead" "[LMatchTrees$Order;") (by decide +kernel)) (fun _ h9 => h9) rfl dX0_init_57 ?_
  refine lv_iload_n hx hb dX0_init_60 rfl (lv_at hl 0 rfl) ?_
  refine va_new (ci := 5) (fs := [.null, .int 0, .int 0, .int 0]) (C := RX5) (T := TX5) (N := 4) hx hb hts h_in_X5 tyX5 tyX5_ok hown (hts (.classLink RX0 21 RX5) (by decide +kernel)) (hts (.instantiable RX5 4) (by decide +kernel)) (hts (.initialized RX5) (by decide +kernel)) hK hP hD hS hA rfl (fun j hj => by rcases (show j = 0 ∨ j = 1 ∨ j = 2 ∨ j = 3 by omega) with rfl | rfl | rfl | rfl <;> rfl) (Nat.le_of_ble_eq_true rfl) (Nat.le_of_ble_eq_true rfl) dX0_init_61 (fun q_63 H hP hD hS => ?_)
  refine W.widen (k := 34) (n := 3340) (Nat.le_of_ble_eq_true rfl) (Nat.le_of_ble_eq_true rfl) ?_
  have hP : va_P (dC, dI) vwCl [(h0, .inr (0, [.ref q_1, .ref q_2, .ref q_3, .ref q_4, .ref q_6, .int 0, .int 0, .int 0])), (q_4, .inl (cA_5, 20, .inr (.inr (.inr (.inr g_62))))), (q_63, .inr (5, [.null, .int 0, .int 0, .int 0]))] H := hP
  have hD : va_D A [(h0, .inr (0, [.ref q_1, .ref q_2, .ref q_3, .ref q_4, .ref q_6, .int 0, .int 0, .int 0])), (q_4, .inl (cA_5, 20, .inr (.inr (.inr (.inr g_62))))), (q_63, .inr (5, [.null, .int 0, .int 0, .int 0]))] := hD
  refine lv_dup hx hb dX0_init_64 rfl ?_
  have hPc := hP.sub (ws' := [(q_63, .inr (5, [.null, .int 0, .int 0, .int 0]))]) [2] rfl
  have hDc := hD.sub (ws' := [(q_63, .inr (5, [.null, .int 0, .int 0, .int 0]))]) [2] (by decide) rfl
  have hFc := va_free (wc := [(q_63, .inr (5, [.null, .int 0, .int 0, .int 0]))]) hD hS hA [2] rfl
  refine va_callv (va_runIN (As := []) (rest := [.ref q_63, .int 14, .ref q_4]) ⟨hx, hb, hml, hown, hts⟩ (c_X5_init l dC dI cI cJ q_63 H.size) ⟨(va_cnB 0 hts gX0_init_X5_init_n30 rfl rfl rfl hN.2.2.2.2.1 (hts (.initialized RX5) (by decide +kernel)) (by decide +kernel) ⟨Nat.le_of_ble_eq_true rfl, Nat.le_of_ble_eq_true rfl⟩), rfl, hts (.instanceMethod yX5_init) (by decide +kernel)⟩ ⟨mBlind, mGo hPc hK hDc hN⟩ rfl rfl hl.1 rfl (lv_room (Nat.le_of_ble_eq_true rfl)) dX0_init_65 ⟨Nat.le_of_ble_eq_true rfl, Nat.le_of_ble_eq_true rfl⟩) hS (fun q _ h => hFc q h) hFc (fun u t H1 locs ht hvm hw hB hz1 hk1 hS => ?_)
  obtain ⟨q_65, hP1, hD1⟩ := hB
  rw [ht] at hP1
  obtain ⟨hP, hD⟩ := va_join (wr := [(h0, .inr (0, [.ref q_1, .ref q_2, .ref q_3, .ref q_4, .ref q_6, .int 0, .int 0, .int 0])), (q_4, .inl (cA_5, 20, .inr (.inr (.inr (.inr g_62)))))]) (w1 := [(q_63, .inr (5, [.ref q_65, .int 0, .int 0, .int 0]))]) hP hD [2] [0, 1] rfl rfl (by decide) (by decide) hk1 hFc hP1 hD1
  generalize H1 = H at hP hS ⊢
  have hP : va_P (dC, dI) vwCl [(h0, .inr (0, [.ref q_1, .ref q_2, .ref q_3, .ref q_4, .ref q_6, .int 0, .int 0, .int 0])), (q_4, .inl (cA_5, 20, .inr (.inr (.inr (.inr g_62))))), (q_63, .inr (5, [.ref q_65, .int 0, .int 0, .int 0]))] H := hP
  have hD : va_D A [(h0, .inr (0, [.ref q_1, .ref q_2, .ref q_3, .ref q_4, .ref q_6, .int 0, .int 0, .int 0])), (q_4, .inl (cA_5, 20, .inr (.inr (.inr (.inr g_62))))), (q_63, .inr (5, [.ref q_65, .int 0, .int 0, .int 0]))] := hD
  refine W.widen (k := 35) (n := 3352) (Nat.le_of_ble_eq_true rfl) (Nat.le_of_ble_eq_true rfl) ?_
  refine va_astq (r := (RX5, TX5, 4)) hx hb hK_q_4 hP hD hS 1 2 2 5 rfl rfl rfl rfl (vpd (by decide)) dX0_init_68 (fun H locs hP hD hS => ?_)
  obtain ⟨g_66, e_g_66⟩ : ∃ y : Nat → Option Nat, y = va_up g_62 (14 : Int32).toNatClampNeg (some q_63) := ⟨_, rfl⟩
  have hP : va_P (dC, dI) vwCl [(h0, .inr (0, [.ref q_1, .ref q_2, .ref q_3, .ref q_4, .ref q_6, .int 0, .int 0, .int 0])), (q_4, .inl (cA_5, 20, .inr (.inr (.inr (.inr g_66))))), (q_63, .inr (5, [.ref q_65, .int 0, .int 0, .int 0]))] H := by rw [e_g_66]; exact hP
  have hD : va_D A [(h0, .inr (0, [.ref q_1, .ref q_2, .ref q_3, .ref q_4, .ref q_6, .int 0, .int 0, .int 0])), (q_4, .inl (cA_5, 20, .inr (.inr (.inr (.inr g_66)))))] := by rw [e_g_66]; exact hD.sub [0, 1] (by decide) rfl
  have hP := hP.sub (ws' := [(h0, .inr (0, [.ref q_1, .ref q_2, .ref q_3, .ref q_4, .ref q_6, .int 0, .int 0, .int 0])), (q_4, .inl (cA_5, 20, .inr (.inr (.inr (.inr g_66)))))]) [0, 1] rfl
  refine lv_iinc (v := 15) (lv' := [(1, .int 15), (0, .ref h0)]) hx hb dX0_init_69 hl (k := 0) rfl (by decide) (by decide) rfl (fun ls hl => ?_)
  refine lv_goto (tgt := 50) hx hb dX0_init_72 (by decide) ?_
  refine lv_iload_n hx hb dX0_init_50 rfl (lv_at hl 0 rfl) ?_
  refine lv_bipush (v := 20) hx hb dX0_init_51 (by decide) ?_
  refine lv_icmp_ge (tgt := 75) hx hb dX0_init_53 (by decide) (fun c => absurd c (by decide)) (fun _ => ?_)
  refine lv_aload_n hx hb dX0_init_56 rfl (lv_at hl 1 rfl) ?_
  refine va_get (D := (dC, dI)) (ci := 0) (v := .ref q_4) (C := RX0) (T := TX0) (N := 8) hx hb hts h_in_X0 hown hK hP 0 rfl rfl 3 (by decide) (hts (.fieldLink RX0 23 "MatchTrees$Acts" "orderAhead" "[LMatchTrees$Order;") (by decide +kernel)) (fun _ h9 => h9) rfl dX0_init_57 ?_
  refine lv_iload_n hx hb dX0_init_60 rfl (lv_at hl 0 rfl) ?_
  refine va_new (ci := 5) (fs := [.null, .int 0, .int 0, .int 0]) (C := RX5) (T := TX5) (N := 4) hx hb hts h_in_X5 tyX5 tyX5_ok hown (hts (.classLink RX0 21 RX5) (by decide +kernel)) (hts (.instantiable RX5 4) (by decide +kernel)) (hts (.initialized RX5) (by decide +kernel)) hK hP hD hS hA rfl (fun j hj => by rcases (show j = 0 ∨ j = 1 ∨ j = 2 ∨ j = 3 by omega) with rfl | rfl | rfl | rfl <;> rfl) (Nat.le_of_ble_eq_true rfl) (Nat.le_of_ble_eq_true rfl) dX0_init_61 (fun q_67 H hP hD hS => ?_)
  refine W.widen (k := 36) (n := 3356) (Nat.le_of_ble_eq_true rfl) (Nat.le_of_ble_eq_true rfl) ?_
  have hP : va_P (dC, dI) vwCl [(h0, .inr (0, [.ref q_1, .ref q_2, .ref q_3, .ref q_4, .ref q_6, .int 0, .int 0, .int 0])), (q_4, .inl (cA_5, 20, .inr (.inr (.inr (.inr g_66))))), (q_67, .inr (5, [.null, .int 0, .int 0, .int 0]))] H := hP
  have hD : va_D A [(h0, .inr (0, [.ref q_1, .ref q_2, .ref q_3, .ref q_4, .ref q_6, .int 0, .int 0, .int 0])), (q_4, .inl (cA_5, 20, .inr (.inr (.inr (.inr g_66))))), (q_67, .inr (5, [.null, .int 0, .int 0, .int 0]))] := hD
  refine lv_dup hx hb dX0_init_64 rfl ?_
  have hPc := hP.sub (ws' := [(q_67, .inr (5, [.null, .int 0, .int 0, .int 0]))]) [2] rfl
  have hDc := hD.sub (ws' := [(q_67, .inr (5, [.null, .int 0, .int 0, .int 0]))]) [2] (by decide) rfl
  have hFc := va_free (wc := [(q_67, .inr (5, [.null, .int 0, .int 0, .int 0]))]) hD hS hA [2] rfl
  refine va_callv (va_runIN (As := []) (rest := [.ref q_67, .int 15, .ref q_4]) ⟨hx, hb, hml, hown, hts⟩ (c_X5_init l dC dI cI cJ q_67 H.size) ⟨(va_cnB 0 hts gX0_init_X5_init_n30 rfl rfl rfl hN.2.2.2.2.1 (hts (.initialized RX5) (by decide +kernel)) (by decide +kernel) ⟨Nat.le_of_ble_eq_true rfl, Nat.le_of_ble_eq_true rfl⟩), rfl, hts (.instanceMethod yX5_init) (by decide +kernel)⟩ ⟨mBlind, mGo hPc hK hDc hN⟩ rfl rfl hl.1 rfl (lv_room (Nat.le_of_ble_eq_true rfl)) dX0_init_65 ⟨Nat.le_of_ble_eq_true rfl, Nat.le_of_ble_eq_true rfl⟩) hS (fun q _ h => hFc q h) hFc (fun u t H1 locs ht hvm hw hB hz1 hk1 hS => ?_)
  obtain ⟨q_69, hP1, hD1⟩ := hB
  rw [ht] at hP1
  obtain ⟨hP, hD⟩ := va_join (wr := [(h0, .inr (0, [.ref q_1, .ref q_2, .ref q_3, .ref q_4, .ref q_6, .int 0, .int 0, .int 0])), (q_4, .inl (cA_5, 20, .inr (.inr (.inr (.inr g_66)))))]) (w1 := [(q_67, .inr (5, [.ref q_69, .int 0, .int 0, .int 0]))]) hP hD [2] [0, 1] rfl rfl (by decide) (by decide) hk1 hFc hP1 hD1
  generalize H1 = H at hP hS ⊢
  have hP : va_P (dC, dI) vwCl [(h0, .inr (0, [.ref q_1, .ref q_2, .ref q_3, .ref q_4, .ref q_6, .int 0, .int 0, .int 0])), (q_4, .inl (cA_5, 20, .inr (.inr (.inr (.inr g_66))))), (q_67, .inr (5, [.ref q_69, .int 0, .int 0, .int 0]))] H := hP
  have hD : va_D A [(h0, .inr (0, [.ref q_1, .ref q_2, .ref q_3, .ref q_4, .ref q_6, .int 0, .int 0, .int 0])), (q_4, .inl (cA_5, 20, .inr (.inr (.inr (.inr g_66))))), (q_67, .inr (5, [.ref q_69, .int 0, .int 0, .int 0]))] := hD
  refine W.widen (k := 37) (n := 3368) (Nat.le_of_ble_eq_true rfl) (Nat.le_of_ble_eq_true rfl) ?_
  refine va_astq (r := (RX5, TX5, 4)) hx hb hK_q_4 hP hD hS 1 2 2 5 rfl rfl rfl rfl (vpd (by decide)) dX0_init_68 (fun H locs hP hD hS => ?_)
  obtain ⟨g_70, e_g_70⟩ : ∃ y : Nat → Option Nat, y = va_up g_66 (15 : Int32).toNatClampNeg (some q_67) := ⟨_, rfl⟩
  have hP : va_P (dC, dI) vwCl [(h0, .inr (0, [.ref q_1, .ref q_2, .ref q_3, .ref q_4, .ref q_6, .int 0, .int 0, .int 0])), (q_4, .inl (cA_5, 20, .inr (.inr (.inr (.inr g_70))))), (q_67, .inr (5, [.ref q_69, .int 0, .int 0, .int 0]))] H := by rw [e_g_70]; exact hP
  have hD : va_D A [(h0, .inr (0, [.ref q_1, .ref q_2, .ref q_3, .ref q_4, .ref q_6, .int 0, .int 0, .int 0])), (q_4, .inl (cA_5, 20, .inr (.inr (.inr (.inr g_70)))))] := by rw [e_g_70]; exact hD.sub [0, 1] (by decide) rfl
  have hP := hP.sub (ws' := [(h0, .inr (0, [.ref q_1, .ref q_2, .ref q_3, .ref q_4, .ref q_6, .int 0, .int 0, .int 0])), (q_4, .inl (cA_5, 20, .inr (.inr (.inr (.inr g_70)))))]) [0, 1] rfl
  refine lv_iinc (v := 16) (lv' := [(1, .int 16), (0, .ref h0)]) hx hb dX0_init_69 hl (k := 0) rfl (by decide) (by decide) rfl (fun ls hl => ?_)
  refine lv_goto (tgt := 50) hx hb dX0_init_72 (by decide) ?_
  refine lv_iload_n hx hb dX0_init_50 rfl (lv_at hl 0 rfl) ?_
  refine lv_bipush (v := 20) hx hb dX0_init_51 (by decide) ?_
  refine lv_icmp_ge (tgt := 75) hx hb dX0_init_53 (by decide) (fun c => absurd c (by decide)) (fun _ => ?_)
  refine lv_aload_n hx hb dX0_init_56 rfl (lv_at hl 1 rfl) ?_
  refine va_get (D := (dC, dI)) (ci := 0) (v := .ref q_4) (C := RX0) (T := TX0) (N := 8) hx hb hts h_in_X0 hown hK hP 0 rfl rfl 3 (by decide) (hts (.fieldLink RX0 23 "MatchTrees$Acts" "orderAhead" "[LMatchTrees$Order;") (by decide +kernel)) (fun _ h9 => h9) rfl dX0_init_57 ?_
  refine lv_iload_n hx hb dX0_init_60 rfl (lv_at hl 0 rfl) ?_
  refine va_new (ci := 5) (fs := [.null, .int 0, .int 0, .int 0]) (C := RX5) (T := TX5) (N := 4) hx hb hts h_in_X5 tyX5 tyX5_ok hown (hts (.classLink RX0 21 RX5) (by decide +kernel)) (hts (.instantiable RX5 4) (by decide +kernel)) (hts (.initialized RX5) (by decide +kernel)) hK hP hD hS hA rfl (fun j hj => by rcases (show j = 0 ∨ j = 1 ∨ j = 2 ∨ j = 3 by omega) with rfl | rfl | rfl | rfl <;> rfl) (Nat.le_of_ble_eq_true rfl) (Nat.le_of_ble_eq_true rfl) dX0_init_61 (fun q_71 H hP hD hS => ?_)
  refine W.widen (k := 38) (n := 3372) (Nat.le_of_ble_eq_true rfl) (Nat.le_of_ble_eq_true rfl) ?_
  have hP : va_P (dC, dI) vwCl [(h0, .inr (0, [.ref q_1, .ref q_2, .ref q_3, .ref q_4, .ref q_6, .int 0, .int 0, .int 0])), (q_4, .inl (cA_5, 20, .inr (.inr (.inr (.inr g_70))))), (q_71, .inr (5, [.null, .int 0, .int 0, .int 0]))] H := hP
  have hD : va_D A [(h0, .inr (0, [.ref q_1, .ref q_2, .ref q_3, .ref q_4, .ref q_6, .int 0, .int 0, .int 0])), (q_4, .inl (cA_5, 20, .inr (.inr (.inr (.inr g_70))))), (q_71, .inr (5, [.null, .int 0, .int 0, .int 0]))] := hD
  refine lv_dup hx hb dX0_init_64 rfl ?_
  have hPc := hP.sub (ws' := [(q_71, .inr (5, [.null, .int 0, .int 0, .int 0]))]) [2] rfl
  have hDc := hD.sub (ws' := [(q_71, .inr (5, [.null, .int 0, .int 0, .int 0]))]) [2] (by decide) rfl
  have hFc := va_free (wc := [(q_71, .inr (5, [.null, .int 0, .int 0, .int 0]))]) hD hS hA [2] rfl
  refine va_callv (va_runIN (As := []) (rest := [.ref q_71, .int 16, .ref q_4]) ⟨hx, hb, hml, hown, hts⟩ (c_X5_init l dC dI cI cJ q_71 H.size) ⟨(va_cnB 0 hts gX0_init_X5_init_n30 rfl rfl rfl hN.2.2.2.2.1 (hts (.initialized RX5) (by decide +kernel)) (by decide +kernel) ⟨Nat.le_of_ble_eq_true rfl, Nat.le_of_ble_eq_true rfl⟩), rfl, hts (.instanceMethod yX5_init) (by decide +kernel)⟩ ⟨mBlind, mGo hPc hK hDc hN⟩ rfl rfl hl.1 rfl (lv_room (Nat.le_of_ble_eq_true rfl)) dX0_init_65 ⟨Nat.le_of_ble_eq_true rfl, Nat.le_of_ble_eq_true rfl⟩) hS (fun q _ h => hFc q h) hFc (fun u t H1 locs ht hvm hw hB hz1 hk1 hS => ?_)
  obtain ⟨q_73, hP1, hD1⟩ := hB
  rw [ht] at hP1
  obtain ⟨hP, hD⟩ := va_join (wr := [(h0, .inr (0, [.ref q_1, .ref q_2, .ref q_3, .ref q_4, .ref q_6, .int 0, .int 0, .int 0])), (q_4, .inl (cA_5, 20, .inr (.inr (.inr (.inr g_70)))))]) (w1 := [(q_71, .inr (5, [.ref q_73, .int 0, .int 0, .int 0]))]) hP hD [2] [0, 1] rfl rfl (by decide) (by decide) hk1 hFc hP1 hD1
  generalize H1 = H at hP hS ⊢
  have hP : va_P (dC, dI) vwCl [(h0, .inr (0, [.ref q_1, .ref q_2, .ref q_3, .ref q_4, .ref q_6, .int 0, .int 0, .int 0])), (q_4, .inl (cA_5, 20, .inr (.inr (.inr (.inr g_70))))), (q_71, .inr (5, [.ref q_73, .int 0, .int 0, .int 0]))] H := hP
  have hD : va_D A [(h0, .inr (0, [.ref q_1, .ref q_2, .ref q_3, .ref q_4, .ref q_6, .int 0, .int 0, .int 0])), (q_4, .inl (cA_5, 20, .inr (.inr (.inr (.inr g_70))))), (q_71, .inr (5, [.ref q_73, .int 0, .int 0, .int 0]))] := hD
  refine W.widen (k := 39) (n := 3384) (Nat.le_of_ble_eq_true rfl) (Nat.le_of_ble_eq_true rfl) ?_
  refine va_astq (r := (RX5, TX5, 4)) hx hb hK_q_4 hP hD hS 1 2 2 5 rfl rfl rfl rfl (vpd (by decide)) dX0_init_68 (fun H locs hP hD hS => ?_)
  obtain ⟨g_74, e_g_74⟩ : ∃ y : Nat → Option Nat, y = va_up g_70 (16 : Int32).toNatClampNeg (some q_71) := ⟨_, rfl⟩
  have hP : va_P (dC, dI) vwCl [(h0, .inr (0, [.ref q_1, .ref q_2, .ref q_3, .ref q_4, .ref q_6, .int 0, .int 0, .int 0])), (q_4, .inl (cA_5, 20, .inr (.inr (.inr (.inr g_74))))), (q_71, .inr (5, [.ref q_73, .int 0, .int 0, .int 0]))] H := by rw [e_g_74]; exact hP
  have hD : va_D A [(h0, .inr (0, [.ref q_1, .ref q_2, .ref q_3, .ref q_4, .ref q_6, .int 0, .int 0, .int 0])), (q_4, .inl (cA_5, 20, .inr (.inr (.inr (.inr g_74)))))] := by rw [e_g_74]; exact hD.sub [0, 1] (by decide) rfl
  have hP := hP.sub (ws' := [(h0, .inr (0, [.ref q_1, .ref q_2, .ref q_3, .ref q_4, .ref q_6, .int 0, .int 0, .int 0])), (q_4, .inl (cA_5, 20, .inr (.inr (.inr (.inr g_74)))))]) [0, 1] rfl
  refine lv_iinc (v := 17) (lv' := [(1, .int 17), (0, .ref h0)]) hx hb dX0_init_69 hl (k := 0) rfl (by decide) (by decide) rfl (fun ls hl => ?_)
  refine lv_goto (tgt := 50) hx hb dX0_init_72 (by decide) ?_
  refine lv_iload_n hx hb dX0_init_50 rfl (lv_at hl 0 rfl) ?_
  refine lv_bipush (v := 20) hx hb dX0_init_51 (by decide) ?_
  refine lv_icmp_ge (tgt := 75) hx hb dX0_init_53 (by decide) (fun c => absurd c (by decide)) (fun _ => ?_)
  refine lv_aload_n hx hb dX0_init_56 rfl (lv_at hl 1 rfl) ?_
  refine va_get (D := (dC, dI)) (ci := 0) (v := .ref q_4) (C := RX0) (T := TX0) (N := 8) hx hb hts h_in_X0 hown hK hP 0 rfl rfl 3 (by decide) (hts (.fieldLink RX0 23 "MatchTrees$Acts" "orderAhead" "[LMatchTrees$Order;") (by decide +kernel)) (fun _ h9 => h9) rfl dX0_init_57 ?_
  refine lv_iload_n hx hb dX0_init_60 rfl (lv_at hl 0 rfl) ?_
  refine va_new (ci := 5) (fs := [.null, .int 0, .int 0, .int 0]) (C := RX5) (T := TX5) (N := 4) hx hb hts h_in_X5 tyX5 tyX5_ok hown (hts (.classLink RX0 21 RX5) (by decide +kernel)) (hts (.instantiable RX5 4) (by decide +kernel)) (hts (.initialized RX5) (by decide +kernel)) hK hP hD hS hA rfl (fun j hj => by rcases (show j = 0 ∨ j = 1 ∨ j = 2 ∨ j = 3 by omega) with rfl | rfl | rfl | rfl <;> rfl) (Nat.le_of_ble_eq_true rfl) (Nat.le_of_ble_eq_true rfl) dX0_init_61 (fun q_75 H hP hD hS => ?_)
  refine W.widen (k := 40) (n := 3388) (Nat.le_of_ble_eq_true rfl) (Nat.le_of_ble_eq_true rfl) ?_
  have hP : va_P (dC, dI) vwCl [(h0, .inr (0, [.ref q_1, .ref q_2, .ref q_3, .ref q_4, .ref q_6, .int 0, .int 0, .int 0])), (q_4, .inl (cA_5, 20, .inr (.inr (.inr (.inr g_74))))), (q_75, .inr (5, [.null, .int 0, .int 0, .int 0]))] H := hP
  have hD : va_D A [(h0, .inr (0, [.ref q_1, .ref q_2, .ref q_3, .ref q_4, .ref q_6, .int 0, .int 0, .int 0])), (q_4, .inl (cA_5, 20, .inr (.inr (.inr (.inr g_74))))), (q_75, .inr (5, [.null, .int 0, .int 0, .int 0]))] := hD
  refine lv_dup hx hb dX0_init_64 rfl ?_
  have hPc := hP.sub (ws' := [(q_75, .inr (5, [.null, .int 0, .int 0, .int 0]))]) [2] rfl
  have hDc := hD.sub (ws' := [(q_75, .inr (5, [.null, .int 0, .int 0, .int 0]))]) [2] (by decide) rfl
  have hFc := va_free (wc := [(q_75, .inr (5, [.null, .int 0, .int 0, .int 0]))]) hD hS hA [2] rfl
  refine va_callv (va_runIN (As := []) (rest := [.ref q_75, .int 17, .ref q_4]) ⟨hx, hb, hml, hown, hts⟩ (c_X5_init l dC dI cI cJ q_75 H.size) ⟨(va_cnB 0 hts gX0_init_X5_init_n30 rfl rfl rfl hN.2.2.2.2.1 (hts (.initialized RX5) (by decide +kernel)) (by decide +kernel) ⟨Nat.le_of_ble_eq_true rfl, Nat.le_of_ble_eq_true rfl⟩), rfl, hts (.instanceMethod yX5_init) (by decide +kernel)⟩ ⟨mBlind, mGo hPc hK hDc hN⟩ rfl rfl hl.1 rfl (lv_room (Nat.le_of_ble_eq_true rfl)) dX0_init_65 ⟨Nat.le_of_ble_eq_true rfl, Nat.le_of_ble_eq_true rfl⟩) hS (fun q _ h => hFc q h) hFc (fun u t H1 locs ht hvm hw hB hz1 hk1 hS => ?_)
  obtain ⟨q_77, hP1, hD1⟩ := hB
  rw [ht] at hP1
  obtain ⟨hP, hD⟩ := va_join (wr := [(h0, .inr (0, [.ref q_1, .ref q_2, .ref q_3, .ref q_4, .ref q_6, .int 0, .int 0, .int 0])), (q_4, .inl (cA_5, 20, .inr (.inr (.inr (.inr g_74)))))]) (w1 := [(q_75, .inr (5, [.ref q_77, .int 0, .int 0, .int 0]))]) hP hD [2] [0, 1] rfl rfl (by decide) (by decide) hk1 hFc hP1 hD1
  generalize H1 = H at hP hS ⊢
  have hP : va_P (dC, dI) vwCl [(h0, .inr (0, [.ref q_1, .ref q_2, .ref q_3, .ref q_4, .ref q_6, .int 0, .int 0, .int 0])), (q_4, .inl (cA_5, 20, .inr (.inr (.inr (.inr g_74))))), (q_75, .inr (5, [.ref q_77, .int 0, .int 0, .int 0]))] H := hP
  have hD : va_D A [(h0, .inr (0, [.ref q_1, .ref q_2, .ref q_3, .ref q_4, .ref q_6, .int 0, .int 0, .int 0])), (q_4, .inl (cA_5, 20, .inr (.inr (.inr (.inr g_74))))), (q_75, .inr (5, [.ref q_77, .int 0, .int 0, .int 0]))] := hD
  refine W.widen (k := 41) (n := 3400) (Nat.le_of_ble_eq_true rfl) (Nat.le_of_ble_eq_true rfl) ?_
  refine va_astq (r := (RX5, TX5, 4)) hx hb hK_q_4 hP hD hS 1 2 2 5 rfl rfl rfl rfl (vpd (by decide)) dX0_init_68 (fun H locs hP hD hS => ?_)
  obtain ⟨g_78, e_g_78⟩ : ∃ y : Nat → Option Nat, y = va_up g_74 (17 : Int32).toNatClampNeg (some q_75) := ⟨_, rfl⟩
  have hP : va_P (dC, dI) vwCl [(h0, .inr (0, [.ref q_1, .ref q_2, .ref q_3, .ref q_4, .ref q_6, .int 0, .int 0, .int 0])), (q_4, .inl (cA_5, 20, .inr (.inr (.inr (.inr g_78))))), (q_75, .inr (5, [.ref q_77, .int 0, .int 0, .int 0]))] H := by rw [e_g_78]; exact hP
  have hD : va_D A [(h0, .inr (0, [.ref q_1, .ref q_2, .ref q_3, .ref q_4, .ref q_6, .int 0, .int 0, .int 0])), (q_4, .inl (cA_5, 20, .inr (.inr (.inr (.inr g_78)))))] := by rw [e_g_78]; exact hD.sub [0, 1] (by decide) rfl
  have hP := hP.sub (ws' := [(h0, .inr (0, [.ref q_1, .ref q_2, .ref q_3, .ref q_4, .ref q_6, .int 0, .int 0, .int 0])), (q_4, .inl (cA_5, 20, .inr (.inr (.inr (.inr g_78)))))]) [0, 1] rfl
  refine lv_iinc (v := 18) (lv' := [(1, .int 18), (0, .ref h0)]) hx hb dX0_init_69 hl (k := 0) rfl (by decide) (by decide) rfl (fun ls hl => ?_)
  refine lv_goto (tgt := 50) hx hb dX0_init_72 (by decide) ?_
  refine lv_iload_n hx hb dX0_init_50 rfl (lv_at hl 0 rfl) ?_
  refine lv_bipush (v := 20) hx hb dX0_init_51 (by decide) ?_
  refine lv_icmp_ge (tgt := 75) hx hb dX0_init_53 (by decide) (fun c => absurd c (by decide)) (fun _ => ?_)
  refine lv_aload_n hx hb dX0_init_56 rfl (lv_at hl 1 rfl) ?_
  refine va_get (D := (dC, dI)) (ci := 0) (v := .ref q_4) (C := RX0) (T := TX0) (N := 8) hx hb hts h_in_X0 hown hK hP 0 rfl rfl 3 (by decide) (hts (.fieldLink RX0 23 "MatchTrees$Acts" "orderAhead" "[LMatchTrees$Order;") (by decide +kernel)) (fun _ h9 => h9) rfl dX0_init_57 ?_
  refine lv_iload_n hx hb dX0_init_60 rfl (lv_at hl 0 rfl) ?_
  refine va_new (ci := 5) (fs := [.null, .int 0, .int 0, .int 0]) (C := RX5) (T := TX5) (N := 4) hx hb hts h_in_X5 tyX5 tyX5_ok hown (hts (.classLink RX0 21 RX5) (by decide +kernel)) (hts (.instantiable RX5 4) (by decide +kernel)) (hts (.initialized RX5) (by decide +kernel)) hK hP hD hS hA rfl (fun j hj => by rcases (show j = 0 ∨ j = 1 ∨ j = 2 ∨ j = 3 by omega) with rfl | rfl | rfl | rfl <;> rfl) (Nat.le_of_ble_eq_true rfl) (Nat.le_of_ble_eq_true rfl) dX0_init_61 (fun q_79 H hP hD hS => ?_)
  refine W.widen (k := 42) (n := 3404) (Nat.le_of_ble_eq_true rfl) (Nat.le_of_ble_eq_true rfl) ?_
  have hP : va_P (dC, dI) vwCl [(h0, .inr (0, [.ref q_1, .ref q_2, .ref q_3, .ref q_4, .ref q_6, .int 0, .int 0, .int 0])), (q_4, .inl (cA_5, 20, .inr (.inr (.inr (.inr g_78))))), (q_79, .inr (5, [.null, .int 0, .int 0, .int 0]))] H := hP
  have hD : va_D A [(h0, .inr (0, [.ref q_1, .ref q_2, .ref q_3, .ref q_4, .ref q_6, .int 0, .int 0, .int 0])), (q_4, .inl (cA_5, 20, .inr (.inr (.inr (.inr g_78))))), (q_79, .inr (5, [.null, .int 0, .int 0, .int 0]))] := hD
  refine lv_dup hx hb dX0_init_64 rfl ?_
  have hPc := hP.sub (ws' := [(q_79, .inr (5, [.null, .int 0, .int 0, .int 0]))]) [2] rfl
  have hDc := hD.sub (ws' := [(q_79, .inr (5, [.null, .int 0, .int 0, .int 0]))]) [2] (by decide) rfl
  have hFc := va_free (wc := [(q_79, .inr (5, [.null, .int 0, .int 0, .int 0]))]) hD hS hA [2] rfl
  refine va_callv (va_runIN (As := []) (rest := [.ref q_79, .int 18, .ref q_4]) ⟨hx, hb, hml, hown, hts⟩ (c_X5_init l dC dI cI cJ q_79 H.size) ⟨(va_cnB 0 hts gX0_init_X5_init_n30 rfl rfl rfl hN.2.2.2.2.1 (hts (.initialized RX5) (by decide +kernel)) (by decide +kernel) ⟨Nat.le_of_ble_eq_true rfl, Nat.le_of_ble_eq_true rfl⟩), rfl, hts (.instanceMethod yX5_init) (by decide +kernel)⟩ ⟨mBlind, mGo hPc hK hDc hN⟩ rfl rfl hl.1 rfl (lv_room (Nat.le_of_ble_eq_true rfl)) dX0_init_65 ⟨Nat.le_of_ble_eq_true rfl, Nat.le_of_ble_eq_true rfl⟩) hS (fun q _ h => hFc q h) hFc (fun u t H1 locs ht hvm hw hB hz1 hk1 hS => ?_)
  obtain ⟨q_81, hP1, hD1⟩ := hB
  rw [ht] at hP1
  obtain ⟨hP, hD⟩ := va_join (wr := [(h0, .inr (0, [.ref q_1, .ref q_2, .ref q_3, .ref q_4, .ref q_6, .int 0, .int 0, .int 0])), (q_4, .inl (cA_5, 20, .inr (.inr (.inr (.inr g_78)))))]) (w1 := [(q_79, .inr (5, [.ref q_81, .int 0, .int 0, .int 0]))]) hP hD [2] [0, 1] rfl rfl (by decide) (by decide) hk1 hFc hP1 hD1
  generalize H1 = H at hP hS ⊢
  have hP : va_P (dC, dI) vwCl [(h0, .inr (0, [.ref q_1, .ref q_2, .ref q_3, .ref q_4, .ref q_6, .int 0, .int 0, .int 0])), (q_4, .inl (cA_5, 20, .inr (.inr (.inr (.inr g_78))))), (q_79, .inr (5, [.ref q_81, .int 0, .int 0, .int 0]))] H := hP
  have hD : va_D A [(h0, .inr (0, [.ref q_1, .ref q_2, .ref q_3, .ref q_4, .ref q_6, .int 0, .int 0, .int 0])), (q_4, .inl (cA_5, 20, .inr (.inr (.inr (.inr g_78))))), (q_79, .inr (5, [.ref q_81, .int 0, .int 0, .int 0]))] := hD
  refine W.widen (k := 43) (n := 3416) (Nat.le_of_ble_eq_true rfl) (Nat.le_of_ble_eq_true rfl) ?_
  refine va_astq (r := (RX5, TX5, 4)) hx hb hK_q_4 hP hD hS 1 2 2 5 rfl rfl rfl rfl (vpd (by decide)) dX0_init_68 (fun H locs hP hD hS => ?_)
  obtain ⟨g_82, e_g_82⟩ : ∃ y : Nat → Option Nat, y = va_up g_78 (18 : Int32).toNatClampNeg (some q_79) := ⟨_, rfl⟩
  have hP : va_P (dC, dI) vwCl [(h0, .inr (0, [.ref q_1, .ref q_2, .ref q_3, .ref q_4, .ref q_6, .int 0, .int 0, .int 0])), (q_4, .inl (cA_5, 20, .inr (.inr (.inr (.inr g_82))))), (q_79, .inr (5, [.ref q_81, .int 0, .int 0, .int 0]))] H := by rw [e_g_82]; exact hP
  have hD : va_D A [(h0, .inr (0, [.ref q_1, .ref q_2, .ref q_3, .ref q_4, .ref q_6, .int 0, .int 0, .int 0])), (q_4, .inl (cA_5, 20, .inr (.inr (.inr (.inr g_82)))))] := by rw [e_g_82]; exact hD.sub [0, 1] (by decide) rfl
  have hP := hP.sub (ws' := [(h0, .inr (0, [.ref q_1, .ref q_2, .ref q_3, .ref q_4, .ref q_6, .int 0, .int 0, .int 0])), (q_4, .inl (cA_5, 20, .inr (.inr (.inr (.inr g_82)))))]) [0, 1] rfl
  refine lv_iinc (v := 19) (lv' := [(1, .int 19), (0, .ref h0)]) hx hb dX0_init_69 hl (k := 0) rfl (by decide) (by decide) rfl (fun ls hl => ?_)
  refine lv_goto (tgt := 50) hx hb dX0_init_72 (by decide) ?_
  refine lv_iload_n hx hb dX0_init_50 rfl (lv_at hl 0 rfl) ?_
  refine lv_bipush (v := 20) hx hb dX0_init_51 (by decide) ?_
  refine lv_icmp_ge (tgt := 75) hx hb dX0_init_53 (by decide) (fun c => absurd c (by decide)) (fun _ => ?_)
  refine lv_aload_n hx hb dX0_init_56 rfl (lv_at hl 1 rfl) ?_
  refine va_get (D := (dC, dI)) (ci := 0) (v := .ref q_4) (C := RX0) (T := TX0) (N := 8) hx hb hts h_in_X0 hown hK hP 0 rfl rfl 3 (by decide) (hts (.fieldLink RX0 23 "MatchTrees$Acts" "orderAhead" "[LMatchTrees$Order;") (by decide +kernel)) (fun _ h9 => h9) rfl dX0_init_57 ?_
  refine lv_iload_n hx hb dX0_init_60 rfl (lv_at hl 0 rfl) ?_
  refine va_new (ci := 5) (fs := [.null, .int 0, .int 0, .int 0]) (C := RX5) (T := TX5) (N := 4) hx hb hts h_in_X5 tyX5 tyX5_ok hown (hts (.classLink RX0 21 RX5) (by decide +kernel)) (hts (.instantiable RX5 4) (by decide +kernel)) (hts (.initialized RX5) (by decide +kernel)) hK hP hD hS hA rfl (fun j hj => by rcases (show j = 0 ∨ j = 1 ∨ j = 2 ∨ j = 3 by omega) with rfl | rfl | rfl | rfl <;> rfl) (Nat.le_of_ble_eq_true rfl) (Nat.le_of_ble_eq_true rfl) dX0_init_61 (fun q_83 H hP hD hS => ?_)
  refine W.widen (k := 44) (n := 3420) (Nat.le_of_ble_eq_true rfl) (Nat.le_of_ble_eq_true rfl) ?_
  have hP : va_P (dC, dI) vwCl [(h0, .inr (0, [.ref q_1, .ref q_2, .ref q_3, .ref q_4, .ref q_6, .int 0, .int 0, .int 0])), (q_4, .inl (cA_5, 20, .inr (.inr (.inr (.inr g_82))))), (q_83, .inr (5, [.null, .int 0, .int 0, .int 0]))] H := hP
  have hD : va_D A [(h0, .inr (0, [.ref q_1, .ref q_2, .ref q_3, .ref q_4, .ref q_6, .int 0, .int 0, .int 0])), (q_4, .inl (cA_5, 20, .inr (.inr (.inr (.inr g_82))))), (q_83, .inr (5, [.null, .int 0, .int 0, .int 0]))] := hD
  refine lv_dup hx hb dX0_init_64 rfl ?_
  have hPc := hP.sub (ws' := [(q_83, .inr (5, [.null, .int 0, .int 0, .int 0]))]) [2] rfl
  have hDc := hD.sub (ws' := [(q_83, .inr (5, [.null, .int 0, .int 0, .int 0]))]) [2] (by decide) rfl
  have hFc := va_free (wc := [(q_83, .inr (5, [.null, .int 0, .int 0, .int 0]))]) hD hS hA [2] rfl
  refine va_callv (va_runIN (As := []) (rest := [.ref q_83, .int 19, .ref q_4]) ⟨hx, hb, hml, hown, hts⟩ (c_X5_init l dC dI cI cJ q_83 H.size) ⟨(va_cnB 0 hts gX0_init_X5_init_n30 rfl rfl rfl hN.2.2.2.2.1 (hts (.initialized RX5) (by decide +kernel)) (by decide +kernel) ⟨Nat.le_of_ble_eq_true rfl, Nat.le_of_ble_eq_true rfl⟩), rfl, hts (.instanceMethod yX5_init) (by decide +kernel)⟩ ⟨mBlind, mGo hPc hK hDc hN⟩ rfl rfl hl.1 rfl (lv_room (Nat.le_of_ble_eq_true rfl)) dX0_init_65 ⟨Nat.le_of_ble_eq_true rfl, Nat.le_of_ble_eq_true rfl⟩) hS (fun q _ h => hFc q h) hFc (fun u t H1 locs ht hvm hw hB hz1 hk1 hS => ?_)
  obtain ⟨q_85, hP1, hD1⟩ := hB
  rw [ht] at hP1
  obtain ⟨hP, hD⟩ := va_join (wr := [(h0, .inr (0, [.ref q_1, .ref q_2, .ref q_3, .ref q_4, .ref q_6, .int 0, .int 0, .int 0])), (q_4, .inl (cA_5, 20, .inr (.inr (.inr (.inr g_82)))))]) (w1 := [(q_83, .inr (5, [.ref q_85, .int 0, .int 0, .int 0]))]) hP hD [2] [0, 1] rfl rfl (by decide) (by decide) hk1 hFc hP1 hD1
  generalize H1 = H at hP hS ⊢
  have hP : va_P (dC, dI) vwCl [(h0, .inr (0, [.ref q_1, .ref q_2, .ref q_3, .ref q_4, .ref q_6, .int 0, .int 0, .int 0])), (q_4, .inl (cA_5, 20, .inr (.inr (.inr (.inr g_82))))), (q_83, .inr (5, [.ref q_85, .int 0, .int 0, .int 0]))] H := hP
  have hD : va_D A [(h0, .inr (0, [.ref q_1, .ref q_2, .ref q_3, .ref q_4, .ref q_6, .int 0, .int 0, .int 0])), (q_4, .inl (cA_5, 20, .inr (.inr (.inr (.inr g_82))))), (q_83, .inr (5, [.ref q_85, .int 0, .int 0, .int 0]))] := hD
  refine W.widen (k := 45) (n := 3432) (Nat.le_of_ble_eq_true rfl) (Nat.le_of_ble_eq_true rfl) ?_
  refine va_astq (r := (RX5, TX5, 4)) hx hb hK_q_4 hP hD hS 1 2 2 5 rfl rfl rfl rfl (vpd (by decide)) dX0_init_68 (fun H locs hP hD hS => ?_)
  obtain ⟨g_86, e_g_86⟩ : ∃ y : Nat → Option Nat, y = va_up g_82 (19 : Int32).toNatClampNeg (some q_83) := ⟨_, rfl⟩
  have hP : va_P (dC, dI) vwCl [(h0, .inr (0, [.ref q_1, .ref q_2, .ref q_3, .ref q_4, .ref q_6, .int 0, .int 0, .int 0])), (q_4, .inl (cA_5, 20, .inr (.inr (.inr (.inr g_86))))), (q_83, .inr (5, [.ref q_85, .int 0, .int 0, .int 0]))] H := by rw [e_g_86]; exact hP
  have hD : va_D A [(h0, .inr (0, [.ref q_1, .ref q_2, .ref q_3, .ref q_4, .ref q_6, .int 0, .int 0, .int 0])), (q_4, .inl (cA_5, 20, .inr (.inr (.inr (.inr g_86)))))] := by rw [e_g_86]; exact hD.sub [0, 1] (by decide) rfl
  have hP := hP.sub (ws' := [(h0, .inr (0, [.ref q_1, .ref q_2, .ref q_3, .ref q_4, .ref q_6, .int 0, .int 0, .int 0])), (q_4, .inl (cA_5, 20, .inr (.inr (.inr (.inr g_86)))))]) [0, 1] rfl
  refine lv_iinc (v := 20) (lv' := [(1, .int 20), (0, .ref h0)]) hx hb dX0_init_69 hl (k := 0) rfl (by decide) (by decide) rfl (fun ls hl => ?_)
  refine lv_goto (tgt := 50) hx hb dX0_init_72 (by decide) ?_
  refine lv_iload_n hx hb dX0_init_50 rfl (lv_at hl 0 rfl) ?_
  refine lv_bipush (v := 20) hx hb dX0_init_51 (by decide) ?_
  refine lv_icmp_ge (tgt := 75) hx hb dX0_init_53 (by decide) (fun _ => ?_) (fun c => absurd (by decide) c)
  have hP9 := hP.sub (ws' := [(h0, .inr (0, [.ref q_1, .ref q_2, .ref q_3, .ref q_4, .ref q_6, .int 0, .int 0, .int 0]))]) [0] rfl
  have hD9 := hD.sub (ws' := [(h0, .inr (0, [.ref q_1, .ref q_2, .ref q_3, .ref q_4, .ref q_6, .int 0, .int 0, .int 0]))]) [0] (by decide) rfl
  exact W.vret hx hb hr (fun t ht hW => ⟨⟨(), rfl, trivial, q_1, q_2, q_3, q_4, q_6, by rw [ht]; exact hP9, hD9⟩, hS.F ht⟩) hS.2.2 dX0_init_75
